set_option maxRecDepth 4000 in
theorem k226xr {base : Nat} {X : Nat → Option mC} {G : Nat → Value} (E : EnvOK base X G) : ∀ rr : Nat, ∀ {d : Nat} (_ : 3 + 3 * rr ≤ d) {M : mH} (_ : HI base M) (deep : Int) (p : Int) (q : Int) (s : Int) (tk : Int) (tok : Int) (F : Int → Int) (C : Int → Int), (PC C M) → (∀ j : Int, 0 ≤ j → F (j + 1) = dl (F j) (C j)) → (gi M 77 36 = tk) → (C tk = 0) → (0 ≤ tk ∧ tk ≤ 400) → (gi M 77 37 = tok) → (0 ≤ tok ∧ tok ≤ tk) → (gi M 77 39 = -1 → F tok = 1000 + 100 * p + 10 * q + s ∨ (F tok = 10 + p ∧ q = 0 ∧ s = 0)) → (0 ≤ p ∧ 0 ≤ q ∧ p + q = deep) → (0 ≤ deep ∧ deep ≤ 8) → (0 ≤ s ∧ s ≤ 1) → 8 - deep < ((rr : Nat) : Int) → sOk base X G d T226 [vR 77, vI deep] M (pV (fun M' => HI base M' ∧ Fr [(77, 38), (77, 39), (77, 40)] M M' ∧ (tok ≤ gi M' 77 37 ∧ gi M' 77 37 ≤ tk) ∧ (gi M' 77 39 = -1 → gi M 77 39 = -1 ∧ F (gi M' 77 37) = 2000 + 100 * p + 10 * q + s))) := by
  intro rr
  induction rr with
  | zero => intro d hd M H deep p q s tk tok F C h0 h1 h2 h3 h4 h5 h6 h7 h8 h9 h10 hrr; exfalso; omega
  | succ rr ihr =>
  intro d hd M H deep p q s tk tok F C h0 h1 h2 h3 h4 h5 h6 h7 h8 h9 h10 hrr
  have f0 : Fr [(77, 38), (77, 39), (77, 40)] M M := Fr.rf
  refine sOk.of (show sRn base X G d T226 0 [(0, vR 77), (1, vI deep)] [] M _ from ?_)
  refine s_blx (lv' := [(0, vR 77), (1, vI deep)]) (st' := [vI deep, vR 77]) B226_0_2 rfl ?_
  have g1 : gi M 77 36 = tk := h2
  have g2 : gi M 77 37 = tok := h5
  refine r_vV (c := 77) (args := [vI deep]) (rest := []) (pc' := 5) D226_2 rfl ck_11_virtual_359 TE227 rfl (Nat.le_of_ble_eq_true rfl) ⟨Nat.le_of_ble_eq_true rfl, Nat.le_of_ble_eq_true rfl⟩ sc_77 ⟨rfl, by decide⟩ H.1 (by omega) (k227x E ihr (by omega) H deep p q s tk tok F C (h0) (h1) (by omega) (by omega) (by omega) (by omega) (by omega) (by omega) (by omega) (by omega) (by omega) (by omega)) ?_
  intro M4 q9
  obtain ⟨H5, f6, q7, q8⟩ := q9
  have f10 := f0.tr (f6.up rfl)
  obtain ⟨t11, ht12⟩ : ∃ q, q = gi M4 77 37 := ⟨_, rfl⟩
  obtain ⟨t13, ht14⟩ : ∃ q, q = gi M4 77 39 := ⟨_, rfl⟩
  rw [← ht12] at q7
  rw [← ht12, ← ht14] at q8
  refine r_loc (lv' := [(0, vR 77), (1, vI deep)]) ⟨rfl, rfl, trivial⟩ rfl rfl ?_
  have g15 : gi M4 77 37 = t11 := ht12.symm
  have g16 : gi M4 77 36 = tk := (f6.g rfl).trans (h2)
  have g17 : gi M4 77 39 = t13 := ht14.symm
  exact (L_k226x E ihr hd H deep p q s tk tok F C h0 h1 h2 h3 h4 h5 h6 h7 h8 h9 h10 hrr (((400 - t11) * 1 + 0 : Int) + 1).toNat) t11 M4 H5 f10 (by omega) (by omega) (by omega) (by omega) (by omega)
