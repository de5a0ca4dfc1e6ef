set_option maxRecDepth 4000 in
theorem k150p {base : Nat} {X : Nat → Option mC} {G : Nat → Value} (E : EnvOK base X G) {d : Nat} (hd : 0 ≤ d) {M : mH} (H : HI base M) (h0 : gi M 78 469 = 0) (h1 : gi M 78 471 = 0) (h2 : ∀ j : Int, gi M 78 j = 0) : sRn base X G d T150 903 [(0, vR 77)] [] M (s_Q base (pV (fun M' => HI base M' ∧ Fr [(78, 0), (81, 0), (82, 0)] M M' ∧ (TB M') ∧ (gi M' 78 469 = 0) ∧ (gi M' 78 471 = 0) ∧ (KI M')))) := by
  have f0 : Fr [(78, 0), (81, 0), (82, 0)] M M := Fr.rf
  refine s_blx (lv' := [(1, vI 0), (0, vR 77)]) (st' := []) B150_903_905 rfl ?_
  refine r_loc (lv' := [(0, vR 77), (1, vI 0)]) ⟨rfl, rfl, trivial⟩ rfl rfl ?_
  have g1 : gi M 78 469 = gi M 78 469 := rfl
  have g2 : gi M 78 471 = gi M 78 471 := rfl
  exact (L_k150p E hd H h0 h1 h2 (((30 - 0) * 1 + 5560 : Int) + 1).toNat).1 0 M H f0 (by omega) (by omega) (by omega) ((CK.zero h2)) (by omega) (by omega) (by omega)

