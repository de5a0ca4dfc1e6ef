set_option maxRecDepth 4000 in
theorem k193x {base : Nat} {X : Nat → Option mC} {G : Nat → Value} (E : EnvOK base X G) {d : Nat} (hd : 2 ≤ d) {M : mH} (H : HI base M) (s : Int) (n : Int) (h0 : 0 ≤ s ∧ s ≤ 15) (h1 : 0 ≤ n ∧ n ≤ 8) (h2 : 1 ≤ gi M 78 (135 + 16 * s + 12 + gi M 78 474)) (h3 : n ≤ gi M 78 (135 + 16 * s)) : sOk base X G d T193 [vR 77, vI s, vI n] M (pI (fun v M' => M' = M ∧ (0 ≤ v ∧ v ≤ s))) := by
  refine sOk.of (show sRn base X G d T193 0 [(0, vR 77), (1, vI s), (2, vI n)] [] M _ from ?_)
  refine s_blx (lv' := [(3, vI 0), (0, vR 77), (1, vI s), (2, vI n)]) (st' := []) B193_0_2 rfl ?_
  refine r_loc (lv' := [(0, vR 77), (1, vI s), (2, vI n), (3, vI 0)]) ⟨rfl, rfl, rfl, rfl, trivial⟩ rfl rfl ?_
  exact (L_k193x E hd H s n h0 h1 h2 h3 (((s - 0) * 1 + 0 : Int) + 1).toNat) 0 (by omega) (by omega) (by omega) (by omega)

