set_option maxRecDepth 4000 in
theorem k219x {base : Nat} {X : Nat → Option mC} {G : Nat → Value} (E : EnvOK base X G) {d : Nat} (hd : 2 ≤ d) {M : mH} (H : HI base M) (c : Int) (tk : Int) (tok : Int) (F : Int → Int) (C : Int → Int) (h0 : PC C M) (h1 : ∀ j : Int, 0 ≤ j → F (j + 1) = dl (F j) (C j)) (h2 : gi M 77 36 = tk) (h3 : C tk = 0) (h4 : 0 ≤ tk ∧ tk ≤ 400) (h5 : gi M 77 37 = tok) (h6 : 0 ≤ tok ∧ tok ≤ tk) (h7 : -2147483648 ≤ c ∧ c ≤ 2147483647) (h8 : c ≠ 0) : sOk base X G d T219 [vR 77, vI c] M (pV (fun M' => HI base M' ∧ Fr [(77, 38), (77, 40)] M M' ∧ (tok ≤ gi M' 77 37 ∧ gi M' 77 37 ≤ tk) ∧ (gi M' 77 39 = -1 → gi M 77 39 = -1 ∧ F (gi M' 77 37) = dl (F tok) c))) := by
  have f0 : Fr [(77, 38), (77, 40)] M M := Fr.rf
  refine sOk.of (show sRn base X G d T219 0 [(0, vR 77), (1, vI c)] [] M _ from ?_)
  refine s_blx (lv' := [(0, vR 77), (1, vI c)]) (st' := [vI c, vR 77]) B219_0_2 rfl ?_
  have g1 : gi M 77 36 = tk := h2
  have g2 : gi M 77 37 = tok := h5
  refine r_vI (c := 77) (args := [vI c]) (rest := []) (pc' := 5) D219_2 rfl ck_11_virtual_328 TE218 rfl (Nat.le_of_ble_eq_true rfl) ⟨Nat.le_of_ble_eq_true rfl, Nat.le_of_ble_eq_true rfl⟩ sc_77 ⟨rfl, by decide⟩ H.1 (dp_0 hd rfl) (k218x E (dp_n hd rfl) H c tk tok F C (h0) (h1) (by omega) (by omega) (by omega) (by omega) (by omega) (by omega) (by omega)) ?_
  intro v3 M4 q11
  obtain ⟨H5, f6, q7, q8, q9, q10⟩ := q11
  have f12 := f0.tr (f6.up rfl)
  obtain ⟨t13, ht14⟩ : ∃ q, q = gi M4 77 37 := ⟨_, rfl⟩
  rw [← ht14] at q8
  rw [← ht14] at q9
  rw [← ht14] at q10
  refine r_ifc (tgt := 12) (pc' := 8) D219_5 rfl rfl (by unfold inR; omega) (fun (c15 : v3 ≠ 0) => ?_) (fun (c15 : ¬ (v3 ≠ 0)) => ?_)
  · have g16 : gi M4 77 37 = t13 := ht14.symm
    have g17 : gi M4 77 39 = gi M 77 39 := (f6.g rfl).trans (rfl)
    exact r_retV D219_12 rfl (⟨H5, f12, by rw [g16]; omega, by rw [g16, g17]; omega⟩)
  · refine s_blx (lv' := [(0, vR 77), (1, vI c)]) (st' := [vR 77]) B219_8_9 rfl ?_
    refine r_vV (c := 77) (args := []) (rest := []) (pc' := 12) D219_9 rfl ck_11_virtual_331 TE217 rfl (Nat.le_of_ble_eq_true rfl) ⟨Nat.le_of_ble_eq_true rfl, Nat.le_of_ble_eq_true rfl⟩ sc_77 ⟨rfl, by decide⟩ H5.1 (dp_0 hd rfl) (k217x E (dp_n hd rfl) H5 ) ?_
    intro M19 q23
    obtain ⟨H20, f21, q22⟩ := q23
    have f24 := f12.tr (f21.up rfl)
    obtain ⟨t25, ht26⟩ : ∃ q, q = gi M19 77 39 := ⟨_, rfl⟩
    rw [← ht26] at q22
    have g27 : gi M19 77 37 = t13 := (f21.g rfl).trans (ht14.symm)
    have g28 : gi M19 77 39 = t25 := ht26.symm
    exact r_retV D219_12 rfl (⟨H20, f24, by rw [g27]; omega, by rw [g27, g28]; omega⟩)
