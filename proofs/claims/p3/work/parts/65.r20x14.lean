set_option maxRecDepth 4000 in
set_option maxHeartbeats 4000000 in
theorem k264k {base : Nat} {X : Nat → Option mC} {G : Nat → Value} (E : EnvOK base X G) {d : Nat} (hd : 70 ≤ d) {M : mH} (H : HI base M) (what : Int) (K : Int → Int) (h0 : TB M) (h1 : KK K M) (h2 : GK M) (h3 : -2147483648 ≤ what ∧ what ≤ 2147483647) : sOk base X G d T264 [vR 77, vI what] M (pI (fun v M' => HI base M' ∧ Fr [(77, 7), (77, 8), (77, 9), (77, 10), (77, 14), (77, 15), (77, 16), (77, 41), (77, 42), (77, 43), (77, 46), (77, 47), (83, 0), (84, 0), (85, 0), (100, 0), (101, 0), (109, 0), (110, 0)] M M' ∧ (-2147483648 ≤ v ∧ v ≤ 2147483647))) := by
  have f0 : Fr [(77, 7), (77, 8), (77, 9), (77, 10), (77, 14), (77, 15), (77, 16), (77, 41), (77, 42), (77, 43), (77, 46), (77, 47), (83, 0), (84, 0), (85, 0), (100, 0), (101, 0), (109, 0), (110, 0)] M M := Fr.rf
  refine sOk.of (show sRn base X G d T264 0 [(0, vR 77), (1, vI what)] [] M _ from ?_)
  refine s_blx (lv' := [(0, vR 77), (1, vI what)]) (st' := [vI 1, vI 0, vI what]) B264_0_3 rfl ?_
  refine r_sIp (args := [vI what, vI 0, vI 1]) (rest := []) (pc' := 6) D264_3 rfl ck_11_static_123 TE147 rfl (Nat.le_of_ble_eq_true rfl) ⟨Nat.le_of_ble_eq_true rfl, Nat.le_of_ble_eq_true rfl⟩ (by decide) (dp_0 hd rfl) (k147 E (dp_n hd rfl) H what 0 1 (by omega) (by omega) (by omega)) ?_
  intro v1 q6
  obtain ⟨q3, q4, q5⟩ := q6
  refine r_ifc (tgt := 11) (pc' := 9) D264_6 rfl rfl (by unfold inR; omega) (fun (c7 : v1 ≠ 0) => ?_) (fun (c7 : ¬ (v1 ≠ 0)) => ?_)
  · refine s_blx (lv' := [(4, vI 0), (3, vI 0), (2, vI (-1)), (0, vR 77), (1, vI what)]) (st' := []) B264_11_18 rfl ?_
    refine r_loc (lv' := [(0, vR 77), (1, vI what), (2, vI (-1)), (3, vI 0), (4, vI 0)]) ⟨rfl, rfl, rfl, rfl, rfl, trivial⟩ rfl rfl ?_
    exact (L_k264k E hd H what K h0 h1 h2 h3 (((16 - 0) * 316 + 315 : Int) + 1).toNat).1 (-1) 0 0 M H f0 (by omega) (by omega) (by omega) (by omega) (by omega) (by omega) (by omega) (by omega)
  · refine s_blx (lv' := [(0, vR 77), (1, vI what)]) (st' := [vI (-1)]) B264_9_10 rfl ?_
    exact r_iretI D264_10 rfl (⟨H, f0, by omega⟩)

