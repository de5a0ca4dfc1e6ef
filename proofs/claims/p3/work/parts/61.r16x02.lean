set_option maxRecDepth 4000 in
theorem k185f {base : Nat} {X : Nat → Option mC} {G : Nat → Value} (E : EnvOK base X G) {d : Nat} (hd : 1 ≤ d) {M : mH} (H : HI base M) (slot : Int) (o : Int) (h0 : gi M 78 473 = o) (h1 : 0 ≤ slot ∧ slot ≤ 2) : sOk base X G d T185 [vR 77, vI slot] M (pI (fun v M' => M' = M ∧ (0 ≤ v ∧ v ≤ 2) ∧ sl o v = slot)) := by
  refine sOk.of (show sRn base X G d T185 0 [(0, vR 77), (1, vI slot)] [] M _ from ?_)
  refine s_blx (lv' := [(2, vI 0), (0, vR 77), (1, vI slot)]) (st' := []) B185_0_2 rfl ?_
  refine r_loc (lv' := [(0, vR 77), (1, vI slot), (2, vI 0)]) ⟨rfl, rfl, rfl, trivial⟩ rfl rfl ?_
  exact (L_k185f E hd H slot o h0 h1 (((2 - 0) * 1 + 0 : Int) + 1).toNat) 0 (by omega) (by omega) (by omega) (by omega) (by omega) (by omega)
