set_option maxRecDepth 4000 in
theorem k238xr {base : Nat} {X : Nat → Option mC} {G : Nat → Value} (E : EnvOK base X G) : ∀ rr : Nat, ∀ {d : Nat} (_ : 31 + 4 * rr ≤ d) {M : mH} (_ : HI base M) (live : Int) (p : Int) (a : Int) (e : Int) (gg : Int) (F : Int → Int) (C : Int → Int), ((live = 0 ∨ live = 1)) → (KC C M) → (∀ j : Int, a ≤ j → j < e → F (j + 1) = dl (F j) (C j) ∧ F (j + 1) ≠ 0) → (F e = 2 ∨ F e = 20 ∨ F e = 2001) → (gi M 77 41 = e) → (0 ≤ a ∧ e ≤ 3200) → (gi M 77 40 = gg) → (a ≤ gg ∧ gg ≤ e) → (F gg = 10 + p) → (0 ≤ p ∧ p ≤ 8) → 8 - p < ((rr : Nat) : Int) → sOk base X G d T238 [vR 77, vI live] M (pI (fun v M' => HI base M' ∧ Fr [(77, 41), (77, 43)] M M' ∧ (v = 0 ∨ v = 1) ∧ (gg < gi M' 77 40 ∧ gi M' 77 40 ≤ e) ∧ (F (gi M' 77 40) = 20 + p ∨ (F (gi M' 77 40) = 2001 + 100 * p ∧ ((gi M' 77 40) < e → C (gi M' 77 40) ≠ 142 ∧ C (gi M' 77 40) ≠ 143 ∧ C (gi M' 77 40) ≠ 145 ∧ C (gi M' 77 40) ≠ 147))) ∧ ((gi M' 77 40) < e → C (gi M' 77 40) ≠ 8 ∧ C (gi M' 77 40) ≠ 9))) := by
  intro rr
  induction rr with
  | zero => intro d hd M H live p a e gg F C h0 h1 h2 h3 h4 h5 h6 h7 h8 h9 hrr; exfalso; omega
  | succ rr ihr =>
  intro d hd M H live p a e gg F C h0 h1 h2 h3 h4 h5 h6 h7 h8 h9 hrr
  have f0 : Fr [(77, 41), (77, 43)] M M := Fr.rf
  refine sOk.of (show sRn base X G d T238 0 [(0, vR 77), (1, vI live)] [] M _ from ?_)
  refine s_blx (lv' := [(0, vR 77), (1, vI live)]) (st' := [vI live, vR 77]) B238_0_2 rfl ?_
  have g1 : gi M 77 41 = e := h4
  have g2 : gi M 77 40 = gg := h6
  refine r_vI (c := 77) (args := [vI live]) (rest := []) (pc' := 5) D238_2 rfl ck_11_virtual_408 TE239 rfl (Nat.le_of_ble_eq_true rfl) ⟨Nat.le_of_ble_eq_true rfl, Nat.le_of_ble_eq_true rfl⟩ sc_77 ⟨rfl, by decide⟩ H.1 (by omega) (k239x E ihr (by omega) H live p a e gg F C (by omega) (h1) (h2) (by omega) (by omega) (by omega) (by omega) (by omega) (by omega) (by omega) (by omega)) ?_
  intro v3 M4 q11
  obtain ⟨H5, f6, q7, q8, q9, q10⟩ := q11
  have f12 := f0.tr (f6.up rfl)
  obtain ⟨t13, ht14⟩ : ∃ q, q = gi M4 77 40 := ⟨_, rfl⟩
  rw [← ht14] at q8
  rw [← ht14] at q9
  rw [← ht14] at q10
  refine s_blx (lv' := [(2, vI v3), (0, vR 77), (1, vI live)]) (st' := []) B238_5_6 rfl ?_
  refine r_loc (lv' := [(0, vR 77), (1, vI live), (2, vI v3)]) ⟨rfl, rfl, rfl, trivial⟩ rfl rfl ?_
  have g15 : gi M4 77 40 = t13 := ht14.symm
  have g16 : gi M4 77 41 = e := (f6.g rfl).trans (h4)
  exact (L_k238x E ihr hd H live p a e gg F C h0 h1 h2 h3 h4 h5 h6 h7 h8 h9 hrr (((3200 - t13) * 1 + 0 : Int) + 1).toNat) v3 t13 M4 H5 f12 (by omega) (by omega) (by omega) (by omega) (by omega) (by omega) (by omega) (by omega)
