set_option maxRecDepth 4000 in
set_option maxHeartbeats 4000000 in
theorem k155k {base : Nat} {X : Nat → Option mC} {G : Nat → Value} (E : EnvOK base X G) {d : Nat} (hd : 1 ≤ d) {M : mH} (H : HI base M) (t : Int) (K : Int → Int) (h0 : KK K M) (h1 : -2147483648 ≤ t ∧ t ≤ 2147483647) : sOk base X G d T155 [vR 77, vI t] M (pI (fun v M' => M' = M ∧ (v = 0 ∨ v = 1) ∧ (v = 1 → 0 ≤ t ∧ t < K 471 ∧ t ≤ 7))) := by
  refine sOk.of (show sRn base X G d T155 0 [(0, vR 77), (1, vI t)] [] M _ from ?_)
  refine s_blx (lv' := [(0, vR 77), (1, vI t)]) (st' := [vR 77, vI 0, vI t]) B155_0_3 rfl ?_
  refine r_gfix (r := 78) (pc' := 6) D155_3 rfl gf_11_13_77 H.1 ?_
  refine s_blx (lv' := [(0, vR 77), (1, vI t)]) (st' := [vI 471, vR 78, vI 0, vI t]) B155_6_9 rfl ?_
  refine r_iald (pc' := 10) D155_9 rfl sc_78 H.1 (by omega) ?_
  intro w1 e2 r3
  have kk_w1 := (h0) (471)
  have b_w1 := H.2 78 (471) 0 8 (rk_told (by omega))
  rw [← e2] at b_w1; clear r3
  refine s_blx (lv' := [(0, vR 77), (1, vI t)]) (st' := [vI (w1 - 1), vI 0, vI t]) B155_10_12 rfl ?_
  refine r_sIp (args := [vI t, vI 0, vI (w1 - 1)]) (rest := []) (pc' := 15) D155_12 rfl ck_11_static_123 TE147 rfl (Nat.le_of_ble_eq_true rfl) ⟨Nat.le_of_ble_eq_true rfl, Nat.le_of_ble_eq_true rfl⟩ (by decide) (dp_0 hd rfl) (k147 E (dp_n hd rfl) H t 0 (w1 - 1) (by omega) (by omega) (by omega)) ?_
  intro v4 q9
  obtain ⟨q6, q7, q8⟩ := q9
  exact r_zretI D155_15 rfl (by omega) (⟨rfl, by omega, by omega⟩)
