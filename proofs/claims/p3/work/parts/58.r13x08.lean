set_option maxRecDepth 4000 in
theorem k235xr {base : Nat} {X : Nat → Option mC} {G : Nat → Value} (E : EnvOK base X G) : ∀ rr : Nat, ∀ {d : Nat} (_ : 4 + 3 * rr ≤ d) {M : mH} (_ : HI base M) (live : Int) (p : Int) (q : Int) (s : Int) (a : Int) (e : Int) (gg : Int) (F : Int → Int) (C : Int → Int), ((live = 0 ∨ live = 1)) → (KC C M) → (∀ j : Int, a ≤ j → j < e → F (j + 1) = dl (F j) (C j) ∧ F (j + 1) ≠ 0) → (F e = 2 ∨ F e = 20 ∨ F e = 2001) → (gi M 77 41 = e) → (0 ≤ a ∧ e ≤ 3200) → (gi M 77 40 = gg) → (a ≤ gg ∧ gg ≤ e) → (F gg = 1000 + 100 * p + 10 * q + s ∨ (F gg = 10 + p ∧ q = 0 ∧ s = 0 ∧ C gg ≠ 10 ∧ C gg ≠ 140 ∧ C gg ≠ 11 ∧ C gg ≠ 12)) → (0 ≤ p ∧ 0 ≤ q ∧ p + q ≤ 8) → (0 ≤ s ∧ s ≤ 1) → 8 - p - q < ((rr : Nat) : Int) → sOk base X G d T235 [vR 77, vI live] M (pL (fun v M' => HI base M' ∧ Fr [(77, 41), (77, 43)] M M' ∧ (gg < gi M' 77 40 ∧ gi M' 77 40 ≤ e) ∧ (F (gi M' 77 40) = 2000 + 100 * p + 10 * q + s) ∧ (gi M' 77 40 < e → C (gi M' 77 40) ≠ 142 ∧ C (gi M' 77 40) ≠ 147) ∧ (gi M' 77 40 < e → C (gi M' 77 40) ≠ 143 ∧ C (gi M' 77 40) ≠ 145))) := by
  intro rr
  induction rr with
  | zero => intro d hd M H live p q s a e gg F C h0 h1 h2 h3 h4 h5 h6 h7 h8 h9 h10 hrr; exfalso; omega
  | succ rr ihr =>
  intro d hd M H live p q s a e gg F C h0 h1 h2 h3 h4 h5 h6 h7 h8 h9 h10 hrr
  have f0 : Fr [(77, 41), (77, 43)] M M := Fr.rf
  refine sOk.of (show sRn base X G d T235 0 [(0, vR 77), (1, vI live)] [] M _ from ?_)
  refine s_blx (lv' := [(0, vR 77), (1, vI live)]) (st' := [vI live, vR 77]) B235_0_2 rfl ?_
  have g1 : gi M 77 41 = e := h4
  have g2 : gi M 77 40 = gg := h6
  refine r_vL (c := 77) (args := [vI live]) (rest := []) (pc' := 5) D235_2 rfl ck_11_virtual_391 TE236 rfl (Nat.le_of_ble_eq_true rfl) ⟨Nat.le_of_ble_eq_true rfl, Nat.le_of_ble_eq_true rfl⟩ sc_77 ⟨rfl, by decide⟩ H.1 (by omega) (k236x E ihr (by omega) H live p q s a e gg F C (by omega) (h1) (h2) (by omega) (by omega) (by omega) (by omega) (by omega) (by omega) (by omega) (by omega) (by omega)) ?_
  intro v3 M4 q10
  obtain ⟨H5, f6, q7, q8, q9⟩ := q10
  have f11 := f0.tr (f6.up rfl)
  obtain ⟨t12, ht13⟩ : ∃ q, q = gi M4 77 40 := ⟨_, rfl⟩
  rw [← ht13] at q7
  rw [← ht13] at q8
  rw [← ht13] at q9
  refine s_blx (lv' := [(2, vL v3), (0, vR 77), (1, vI live)]) (st' := []) B235_5_6 rfl ?_
  refine r_loc (lv' := [(0, vR 77), (1, vI live), (2, vL v3)]) ⟨rfl, rfl, rfl, trivial⟩ rfl rfl ?_
  have g14 : gi M4 77 40 = t12 := ht13.symm
  have g15 : gi M4 77 41 = e := (f6.g rfl).trans (h4)
  exact (L_k235x E ihr hd H live p q s a e gg F C h0 h1 h2 h3 h4 h5 h6 h7 h8 h9 h10 hrr (((3200 - t12) * 1 + 0 : Int) + 1).toNat) v3 t12 M4 H5 f11 (by omega) (by omega) (by omega) (by omega) (by omega) (by omega)
