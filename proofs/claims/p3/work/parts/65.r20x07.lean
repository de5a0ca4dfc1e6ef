set_option maxRecDepth 4000 in
set_option maxHeartbeats 4000000 in
theorem k247k {base : Nat} {X : Nat → Option mC} {G : Nat → Value} (E : EnvOK base X G) {d : Nat} (hd : 69 ≤ d) {M : mH} (H : HI base M) (text : Int) (s : Int) (K : Int → Int) (h0 : TB M) (h1 : KK K M) (h2 : GK M) (h3 : 0 ≤ text ∧ text < K 471) (h4 : text ≤ 7) (h5 : 0 ≤ s ∧ s ≤ 15) (h6 : s < K 469) (h7 : 1 ≤ K (135 + 16 * s + 12 + K 474)) : sOk base X G d T247 [vR 77, vI text, vI s] M (pL (fun v M' => HI base M' ∧ Fr [(77, 7), (77, 8), (77, 9), (77, 10), (77, 14), (77, 15), (77, 16), (77, 41), (77, 42), (77, 43), (77, 46), (77, 47), (83, 0), (84, 0), (85, 0), (100, 0), (101, 0)] M M')) := by
  have f0 : Fr [(77, 7), (77, 8), (77, 9), (77, 10), (77, 14), (77, 15), (77, 16), (77, 41), (77, 42), (77, 43), (77, 46), (77, 47), (83, 0), (84, 0), (85, 0), (100, 0), (101, 0)] M M := Fr.rf
  refine sOk.of (show sRn base X G d T247 0 [(0, vR 77), (1, vI text), (2, vI s)] [] M _ from ?_)
  have klen := H.2 78 (135 + 16 * s) 0 8 (rk_len (by omega))
  rw [h1 (135 + 16 * s)] at klen
  refine s_blx (lv' := [(6, vL 0), (5, vI (-1)), (4, vI 0), (3, vI 0), (0, vR 77), (1, vI text), (2, vI s)]) (st' := []) B247_0_11 rfl ?_
  refine r_loc (lv' := [(0, vR 77), (1, vI text), (2, vI s), (3, vI 0), (4, vI 0), (5, vI (-1)), (6, vL 0)]) ⟨rfl, rfl, rfl, rfl, rfl, rfl, rfl, trivial⟩ rfl rfl ?_
  exact (L_k247k E hd H text s K h0 h1 h2 h3 h4 h5 h6 h7 (((12 - 0) * 1 + 0 : Int) + 1).toNat) 0 0 (-1) 0 M H f0 (by omega) (by omega) (by omega) (by omega) (by omega) (by omega) (by omega) (by omega) (by omega)
