set_option maxRecDepth 4000 in
set_option maxHeartbeats 4000000 in
theorem k154k {base : Nat} {X : Nat → Option mC} {G : Nat → Value} (E : EnvOK base X G) {d : Nat} (hd : 1 ≤ d) {M : mH} (H : HI base M) (s : Int) (K : Int → Int) (h0 : KK K M) (h1 : -2147483648 ≤ s ∧ s ≤ 2147483647) : sOk base X G d T154 [vR 77, vI s] M (pI (fun v M' => M' = M ∧ (v = 0 ∨ v = 1) ∧ (v = 1 → 0 ≤ s ∧ s < K 469 ∧ s ≤ 15))) := by
  refine sOk.of (show sRn base X G d T154 0 [(0, vR 77), (1, vI s)] [] M _ from ?_)
  refine s_blx (lv' := [(0, vR 77), (1, vI s)]) (st' := [vR 77, vI 0, vI s]) B154_0_3 rfl ?_
  refine r_gfix (r := 78) (pc' := 6) D154_3 rfl gf_11_13_77 H.1 ?_
  refine s_blx (lv' := [(0, vR 77), (1, vI s)]) (st' := [vI 469, vR 78, vI 0, vI s]) B154_6_9 rfl ?_
  refine r_iald (pc' := 10) D154_9 rfl sc_78 H.1 (by omega) ?_
  intro w1 e2 r3
  have kk_w1 := (h0) (469)
  have b_w1 := H.2 78 (469) 0 16 (rk_many (by omega))
  rw [← e2] at b_w1; clear r3
  refine s_blx (lv' := [(0, vR 77), (1, vI s)]) (st' := [vI (w1 - 1), vI 0, vI s]) B154_10_12 rfl ?_
  refine r_sIp (args := [vI s, vI 0, vI (w1 - 1)]) (rest := []) (pc' := 15) D154_12 rfl ck_11_static_123 TE147 rfl (Nat.le_of_ble_eq_true rfl) ⟨Nat.le_of_ble_eq_true rfl, Nat.le_of_ble_eq_true rfl⟩ (by decide) (dp_0 hd rfl) (k147 E (dp_n hd rfl) H s 0 (w1 - 1) (by omega) (by omega) (by omega)) ?_
  intro v4 q9
  obtain ⟨q6, q7, q8⟩ := q9
  exact r_zretI D154_15 rfl (by omega) (⟨rfl, by omega, by omega⟩)
