set_option maxRecDepth 4000 in
theorem k224x {base : Nat} {X : Nat → Option mC} {G : Nat → Value} (E : EnvOK base X G) {rr : Nat} (ihr : ∀ {d : Nat} (_ : 30 + 3 * rr ≤ d) {M : mH} (_ : HI base M) (deep : Int) (tk : Int) (tok : Int) (F : Int → Int) (C : Int → Int), (PC C M) → (∀ j : Int, 0 ≤ j → F (j + 1) = dl (F j) (C j)) → (gi M 77 36 = tk) → (C tk = 0) → (0 ≤ tk ∧ tk ≤ 400) → (gi M 77 37 = tok) → (0 ≤ tok ∧ tok ≤ tk) → (gi M 77 39 = -1 → F tok = 10 + deep) → (0 ≤ deep ∧ deep ≤ 8) → 8 - deep < ((rr : Nat) : Int) → sOk base X G d T223 [vR 77, vI deep] M (pV (fun M' => HI base M' ∧ Fr [(77, 38), (77, 39), (77, 40)] M M' ∧ (tok ≤ gi M' 77 37 ∧ gi M' 77 37 ≤ tk) ∧ (gi M' 77 39 = -1 → gi M 77 39 = -1 ∧ (F (gi M' 77 37) = 20 + deep ∨ F (gi M' 77 37) = 2001 + 100 * deep))))) {d : Nat} (hd : 32 + 3 * rr ≤ d) {M : mH} (H : HI base M) (deep : Int) (tk : Int) (tok : Int) (F : Int → Int) (C : Int → Int) (h0 : PC C M) (h1 : ∀ j : Int, 0 ≤ j → F (j + 1) = dl (F j) (C j)) (h2 : gi M 77 36 = tk) (h3 : C tk = 0) (h4 : 0 ≤ tk ∧ tk ≤ 400) (h5 : gi M 77 37 = tok) (h6 : 0 ≤ tok ∧ tok ≤ tk) (h7 : gi M 77 39 = -1 → F tok = 10 + deep) (h8 : 0 ≤ deep ∧ deep ≤ 8) (h9 : 8 - deep < (rr : Int) + 1) : sOk base X G d T224 [vR 77, vI deep] M (pV (fun M' => HI base M' ∧ Fr [(77, 38), (77, 39), (77, 40)] M M' ∧ (tok ≤ gi M' 77 37 ∧ gi M' 77 37 ≤ tk) ∧ (gi M' 77 39 = -1 → gi M 77 39 = -1 ∧ (F (gi M' 77 37) = 20 + deep ∨ F (gi M' 77 37) = 2001 + 100 * deep)))) := by
  have f0 : Fr [(77, 38), (77, 39), (77, 40)] M M := Fr.rf
  refine sOk.of (show sRn base X G d T224 0 [(0, vR 77), (1, vI deep)] [] M _ from ?_)
  refine s_blx (lv' := [(0, vR 77), (1, vI deep)]) (st' := [vI deep, vR 77]) B224_0_2 rfl ?_
  have g1 : gi M 77 36 = tk := h2
  have g2 : gi M 77 37 = tok := h5
  refine r_vV (c := 77) (args := [vI deep]) (rest := []) (pc' := 5) D224_2 rfl ck_11_virtual_343 TE225 rfl (Nat.le_of_ble_eq_true rfl) ⟨Nat.le_of_ble_eq_true rfl, Nat.le_of_ble_eq_true rfl⟩ sc_77 ⟨rfl, by decide⟩ H.1 (by omega) (k225x E ihr (by omega) H deep tk tok F C (h0) (h1) (by omega) (by omega) (by omega) (by omega) (by omega) (by omega) (by omega) (by omega)) ?_
  intro M4 q9
  obtain ⟨H5, f6, q7, q8⟩ := q9
  have f10 := f0.tr (f6.up rfl)
  obtain ⟨t11, ht12⟩ : ∃ q, q = gi M4 77 37 := ⟨_, rfl⟩
  obtain ⟨t13, ht14⟩ : ∃ q, q = gi M4 77 39 := ⟨_, rfl⟩
  rw [← ht12] at q7
  rw [← ht12, ← ht14] at q8
  refine r_loc (lv' := [(0, vR 77), (1, vI deep)]) ⟨rfl, rfl, trivial⟩ rfl rfl ?_
  have g15 : gi M4 77 37 = t11 := ht12.symm
  have g16 : gi M4 77 36 = tk := (f6.g rfl).trans (h2)
  have g17 : gi M4 77 39 = t13 := ht14.symm
  exact (L_k224x E ihr hd H deep tk tok F C h0 h1 h2 h3 h4 h5 h6 h7 h8 h9 (((400 - t11) * 1 + 0 : Int) + 1).toNat) t11 M4 H5 f10 (by omega) (by omega) (by omega) (by omega) (by omega)
