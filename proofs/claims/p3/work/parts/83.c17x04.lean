set_option maxRecDepth 4000 in
theorem k45x {base : Nat} {X : Nat → Option mC} {G : Nat → Value} (E : EnvOK base X G) {d : Nat} (hd : 1 ≤ d) {M : mH} (H : HI base M) (said : Int) (done : Int) (at_ : Int) (digit : Int) (h0 : 0 ≤ done ∧ done ≤ 3 ∧ 0 ≤ said ∧ said ≤ 1110) (h1 : (done = 0 ∧ said = 0) ∨ (done = 1 ∧ 1 ≤ said ∧ said ≤ 10) ∨ (done = 2 ∧ 11 ≤ said ∧ said ≤ 110) ∨ (done = 3 ∧ 111 ≤ said ∧ said ≤ 1110)) (h2 : 0 ≤ at_ ∧ at_ < done) (h3 : 0 ≤ digit ∧ digit ≤ 9) : sOk base X G d T45 [vI said, vI done, vI at_, vI digit] M (pI (fun v M' => M' = M ∧ (-1000 ≤ v ∧ v ≤ 3000) ∧ (done = 1 → at_ = 0 → v = 1 + digit) ∧ (done = 2 → at_ = 0 → v = said + 10 * (digit - (said - 11) / 10)) ∧ (done = 2 → at_ = 1 → v = said + (digit - (said - 11) % 10)) ∧ (done = 3 → at_ = 0 → v = said + 100 * (digit - (said - 111) / 100)) ∧ (done = 3 → at_ = 1 → v = said + 10 * (digit - (said - 111) / 10 % 10)) ∧ (done = 3 → at_ = 2 → v = said + (digit - (said - 111) % 10)))) := by
  refine sOk.of (show sRn base X G d T45 0 [(0, vI said), (1, vI done), (2, vI at_), (3, vI digit)] [] M _ from ?_)
  refine s_blx (lv' := [(0, vI said), (1, vI done), (2, vI at_), (3, vI digit)]) (st' := [vI at_, vI done, vI said, vI digit]) B45_0_4 rfl ?_
  refine r_sIp (args := [vI said, vI done, vI at_]) (rest := [vI digit]) (pc' := 7) D45_4 rfl ck_6_static_9 TE44 rfl (Nat.le_of_ble_eq_true rfl) ⟨Nat.le_of_ble_eq_true rfl, Nat.le_of_ble_eq_true rfl⟩ (by decide) (dp_0 hd rfl) (k44x E (dp_n hd rfl) H said done at_ (by omega) (by omega) (by omega)) ?_
  intro v1 q10
  obtain ⟨q3, q4, q5, q6, q7, q8, q9⟩ := q10
  have kd0 := q3
  have kd1 := q4
  have kd2 := q5
  have kd3 := q6
  have kd4 := q7
  have kd5 := q8
  have kd6 := q9
  clear q4 q5 q6 q7 q8 q9
  refine s_blx (lv' := [(5, vI (done - 1)), (4, vI (digit - v1)), (0, vI said), (1, vI done), (2, vI at_), (3, vI digit)]) (st' := []) B45_7_15 rfl ?_
  refine r_loc (lv' := [(0, vI said), (2, vI at_), (4, vI (digit - v1)), (5, vI (done - 1))]) ⟨rfl, rfl, rfl, rfl, trivial⟩ rfl rfl ?_
  exact (L_k45x E hd H said done at_ digit h0 h1 h2 h3 ((((done - 1) + 0) * 1 + 0 : Int) + 1).toNat) (digit - v1) (done - 1) v1 (by omega) (dg_pos h1 h2 kd0 kd1 kd2 kd3 kd4 kd5 kd6) (fun _ => rfl) (fun e => by exfalso; clear h1 kd1 kd2 kd3 kd4 kd5 kd6; omega) (fun e => by exfalso; clear h1 kd1 kd2 kd3 kd4 kd5 kd6; omega) (by have q := dg_pos h1 h2 kd0 kd1 kd2 kd3 kd4 kd5 kd6; clear h1 kd1 kd2 kd3 kd4 kd5 kd6; omega) (kd1) (kd2) (kd3) (kd4) (kd5) (kd6) (by omega) (by omega) (by omega) (by omega) (by omega)

