set_option maxRecDepth 4000 in
theorem k48_55l {base : Nat} {X : Nat → Option mC} {G : Nat → Value} (E : EnvOK base X G) {d : Nat} (hd : 177 ≤ d) {M : mH} (H : HI base M) (place : Int) (said : Int) (n : Int) (h0 : RW base 56 n M) (h1 : TR 40 n M) (h2 : 1 ≤ n ∧ n ≤ 145) (h3 : 1 ≤ place ∧ place < n) (h4 : 0 ≤ said ∧ said ≤ 1110) : sOk base X G d T48 [vR 55, vI place, vI said] M (pI (fun v M' => HI base M' ∧ Fq [(57, 0)] M M' ∧ (0 ≤ v ∧ v ≤ 31) ∧ ((v = 0 ∨ v = 4 ∨ (20 ≤ v ∧ v ≤ 22)) ∨ (said ≤ 110 ∧ 1 ≤ v ∧ v ≤ 17)))) := by
  have f0 : Fq [(57, 0)] M M := Fq.rf
  refine sOk.of (show sRn base X G d T48 0 [(0, vR 55), (1, vI place), (2, vI said)] [] M _ from ?_)
  refine s_blx (lv' := [(0, vR 55), (1, vI place), (2, vI said)]) (st' := [vI said]) B48_0_1 rfl ?_
  refine r_sIp (args := [vI said]) (rest := []) (pc' := 4) D48_1 rfl ck_7_static_50 TE42 rfl (Nat.le_of_ble_eq_true rfl) ⟨Nat.le_of_ble_eq_true rfl, Nat.le_of_ble_eq_true rfl⟩ (by decide) (dp_0 hd rfl) (k42 E (dp_n hd rfl) H said (by omega)) ?_
  intro v1 q8
  obtain ⟨q3, q4, q5, q6, q7⟩ := q8
  have ksd : SDk said v1 := by unfold SDk; omega
  refine s_blx (lv' := [(5, vI 0), (4, vI said), (3, vI v1), (0, vR 55), (1, vI place), (2, vI said)]) (st' := []) B48_4_11 rfl ?_
  refine r_loc (lv' := [(0, vR 55), (1, vI place), (2, vI said), (3, vI v1), (4, vI said), (5, vI 0)]) ⟨rfl, rfl, rfl, rfl, rfl, rfl, trivial⟩ rfl rfl ?_
  exact (L_k48_55l E hd H place said n h0 h1 h2 h3 h4 (((3 - 0) * 1 + 0 : Int) + 1).toNat) v1 said 0 (by omega) (by omega) (ksd) (ksd) (⟨fun _ => rfl, by omega, by omega, by omega⟩) (by omega) (by omega) (by omega) (by omega) (by omega) (by omega) (by omega) (by omega)

