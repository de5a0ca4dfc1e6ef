set_option maxRecDepth 4000 in
theorem k65_1n {base : Nat} {X : Nat → Option mC} {G : Nat → Value} (E : EnvOK base X G) {d : Nat} (hd : 1 ≤ d) {M : mH} (H : HI base M) (sentence : Int) (h0 : -2147483648 ≤ sentence ∧ sentence ≤ 2147483647) : sOk base X G d T65 [vR 1, vI sentence] M (pI (fun v M' => M' = M ∧ (v = 0 ∨ v = 1) ∧ (v = 1 → 0 ≤ sentence ∧ sentence ≤ 15 ∧ sentence < gi M 1 10) ∧ (v = 0 → sentence < 0 ∨ gi M 1 10 ≤ sentence))) := by
  refine sOk.of (show sRn base X G d T65 0 [(0, vR 1), (1, vI sentence)] [] M _ from ?_)
  refine s_blx (lv' := [(0, vR 1), (1, vI sentence)]) (st' := [vR 1, vI 0, vI sentence]) B65_0_3 rfl ?_
  refine r_gint (ki := 10) (pc' := 6) D65_3 rfl gf_8_43_1 rfl H.1 ?_
  intro w1 e2 r3
  have b_w1 := H.2 1 (10) 0 16 rfl
  rw [← e2] at b_w1; clear r3
  refine s_blx (lv' := [(0, vR 1), (1, vI sentence)]) (st' := [vI (w1 - 1), vI 0, vI sentence]) B65_6_8 rfl ?_
  refine r_sIp (args := [vI sentence, vI 0, vI (w1 - 1)]) (rest := []) (pc' := 11) D65_8 rfl ck_8_static_80 TE142 rfl (Nat.le_of_ble_eq_true rfl) ⟨Nat.le_of_ble_eq_true rfl, Nat.le_of_ble_eq_true rfl⟩ (by decide) (dp_0 hd rfl) (k142 E (dp_n hd rfl) H sentence 0 (w1 - 1) (by omega) (by omega) (by omega)) ?_
  intro v4 q9
  obtain ⟨q6, q7, q8⟩ := q9
  exact r_zretI D65_11 rfl (by omega) (⟨rfl, by omega, by omega, by omega⟩)
