set_option maxRecDepth 4000 in
theorem k136n {base : Nat} {X : Nat → Option mC} {G : Nat → Value} (E : EnvOK base X G) {d : Nat} (hd : 0 ≤ d) {M : mH} (H : HI base M) (four : Int) (h0 : -2147483648 ≤ four ∧ four ≤ 2147483647) (h1 : gi M 0 3 ≤ 396) : sOk base X G d T136 [vR 0, vI four] M (pV (fun M' => HI base M' ∧ Fr [(0, 4), (13, 0)] M M' ∧ (gi M' 0 3 = gi M 0 3 + 4) ∧ (∀ i : Int, 0 ≤ i → gi M' 13 i = puN (gi M 13) (gi M 0 3) (gi M 0 3 + 4) four i))) := by
  have f0 : Fr [(0, 4), (13, 0)] M M := Fr.rf
  refine sOk.of (show sRn base X G d T136 0 [(0, vR 0), (1, vI four)] [] M _ from ?_)
  refine s_blx (lv' := [(2, vI 24), (0, vR 0), (1, vI four)]) (st' := []) B136_0_3 rfl ?_
  refine r_loc (lv' := [(0, vR 0), (1, vI four), (2, vI 24)]) ⟨rfl, rfl, rfl, trivial⟩ rfl rfl ?_
  have g1 : gi M 0 3 = gi M 0 3 := rfl
  exact (L_k136n E hd H four h0 h1 (((24 + 8) * 1 + 0 : Int) + 1).toNat) 24 M H f0 (by omega) (by omega) (fun i _ => puN_0.symm) (by omega) (by omega) (by omega)
