noncomputable def T108 : mT := (10, yX10_table, cX10_table, 4, (some .int))
set_option maxRecDepth 10000 in
theorem TE108 : sy_m[108]? = some T108 := rfl
theorem B108_0_5 : s_dk T108.2.2.1 0 [.iload_n 3, .iconst 0, .sipush 1110] 5 = true := by decide +kernel
theorem D108_5 : decode T108.2.2.1 5 = .ok (.invokestatic 102, 3) := by decide +kernel
theorem D108_8 : decode T108.2.2.1 8 = .ok (.ifCond .eq 19, 3) := by decide +kernel
theorem B108_27_28 : s_dk T108.2.2.1 27 [.iconst (-1)] 28 = true := by decide +kernel
theorem D108_28 : decode T108.2.2.1 28 = .ok (.ireturn, 1) := by decide +kernel
theorem B108_11_14 : s_dk T108.2.2.1 11 [.iload_n 2, .iconst 0, .aload_n 0] 14 = true := by decide +kernel
theorem gf_10_61_0 : s_gf 10 61 0 = some (10, 42) := by decide +kernel
theorem D108_14 : decode T108.2.2.1 14 = .ok (.getfield 61, 3) := by decide +kernel
theorem B108_17_18 : s_dk T108.2.2.1 17 [.iload_n 1] 18 = true := by decide +kernel
theorem D108_18 : decode T108.2.2.1 18 = .ok (.invokevirtual 221, 3) := by decide +kernel
theorem ck_10_virtual_221 : m_call 10 (.invokevirtual 221) = some (0, 83, 1) := by decide +kernel
theorem D108_21 : decode T108.2.2.1 21 = .ok (.invokestatic 102, 3) := by decide +kernel
theorem D108_24 : decode T108.2.2.1 24 = .ok (.ifCond .ne 5, 3) := by decide +kernel
theorem B108_29_30 : s_dk T108.2.2.1 29 [.aload_n 0] 30 = true := by decide +kernel
theorem gf_10_64_0 : s_gf 10 64 0 = some (11, 58) := by decide +kernel
theorem D108_30 : decode T108.2.2.1 30 = .ok (.getfield 64, 3) := by decide +kernel
theorem B108_33_34 : s_dk T108.2.2.1 33 [.aload_n 0] 34 = true := by decide +kernel
theorem D108_34 : decode T108.2.2.1 34 = .ok (.getfield 61, 3) := by decide +kernel
theorem B108_37_39 : s_dk T108.2.2.1 37 [.iload_n 1, .iload_n 2] 39 = true := by decide +kernel
theorem D108_39 : decode T108.2.2.1 39 = .ok (.invokevirtual 224, 3) := by decide +kernel
theorem ck_10_virtual_224 : m_call 10 (.invokevirtual 224) = some (0, 84, 2) := by decide +kernel
theorem B108_42_43 : s_dk T108.2.2.1 42 [.iload_n 3] 43 = true := by decide +kernel
theorem D108_43 : decode T108.2.2.1 43 = .ok (.invokevirtual 227, 3) := by decide +kernel
theorem ck_10_virtual_227 : m_call 10 (.invokevirtual 227) = some (0, 48, 2) := by decide +kernel
theorem D108_46 : decode T108.2.2.1 46 = .ok (.ireturn, 1) := by decide +kernel
set_option maxRecDepth 4000 in
theorem k83_20k {base : Nat} {X : Nat → Option mC} {G : Nat → Value} (E : EnvOK base X G) {d : Nat} (hd : 1 ≤ d) {M : mH} (H : HI base M) (sentence : Int) (h0 : -2147483648 ≤ sentence ∧ sentence ≤ 2147483647) : sOk base X G d T83 [vR 20, vI sentence] M (pI (fun v M' => M' = M ∧ (-1 ≤ v ∧ v ≤ 8) ∧ (0 ≤ v → 0 ≤ sentence ∧ sentence ≤ 15 ∧ v = gi M 33 sentence ∧ 1 ≤ v))) := by
  refine sOk.of (show sRn base X G d T83 0 [(0, vR 20), (1, vI sentence)] [] M _ from ?_)
  refine s_blx (lv' := [(0, vR 20), (1, vI sentence)]) (st' := [vI 15, vI 0, vI sentence]) B83_0_4 rfl ?_
  refine r_sIp (args := [vI sentence, vI 0, vI 15]) (rest := []) (pc' := 7) D83_4 rfl ck_9_static_136 TE142 rfl (Nat.le_of_ble_eq_true rfl) ⟨Nat.le_of_ble_eq_true rfl, Nat.le_of_ble_eq_true rfl⟩ (by decide) (dp_0 hd rfl) (k142 E (dp_n hd rfl) H sentence 0 15 (by omega) (by omega) (by omega)) ?_
  intro v1 q6
  obtain ⟨q3, q4, q5⟩ := q6
  refine r_ifc (tgt := 28) (pc' := 10) D83_7 rfl rfl (by unfold inR; omega) (fun (c7 : v1 = 0) => ?_) (fun (c7 : ¬ (v1 = 0)) => ?_)
  · refine s_blx (lv' := [(0, vR 20), (1, vI sentence)]) (st' := [vI (-1)]) B83_28_29 rfl ?_
    exact r_iretI D83_29 rfl (⟨rfl, by omega, by omega⟩)
  · refine s_blx (lv' := [(0, vR 20), (1, vI sentence)]) (st' := [vR 20]) B83_10_11 rfl ?_
    refine r_gfix (r := 33) (pc' := 14) D83_11 rfl gf_9_49_20 H.1 ?_
    refine s_blx (lv' := [(0, vR 20), (1, vI sentence)]) (st' := [vI sentence, vR 33]) B83_14_15 rfl ?_
    refine r_iald (pc' := 16) D83_15 rfl sc_33 H.1 (by omega) ?_
    intro w8 e9 r10
    have b_w8 := H.2 33 (sentence) 0 8 rfl
    rw [← e9] at b_w8; clear r10
    refine r_ifc (tgt := 28) (pc' := 19) D83_16 rfl rfl (by unfold inR; omega) (fun (c11 : w8 ≤ 0) => ?_) (fun (c11 : ¬ (w8 ≤ 0)) => ?_)
    · refine s_blx (lv' := [(0, vR 20), (1, vI sentence)]) (st' := [vI (-1)]) B83_28_29 rfl ?_
      exact r_iretI D83_29 rfl (⟨rfl, by omega, by omega⟩)
    · refine s_blx (lv' := [(0, vR 20), (1, vI sentence)]) (st' := [vR 20]) B83_19_20 rfl ?_
      refine r_gfix (r := 33) (pc' := 23) D83_20 rfl gf_9_49_20 H.1 ?_
      refine s_blx (lv' := [(0, vR 20), (1, vI sentence)]) (st' := [vI sentence, vR 33]) B83_23_24 rfl ?_
      refine r_iald (pc' := 25) D83_24 rfl sc_33 H.1 (by omega) ?_
      intro w12 e13 r14
      have e15 : w8 = w12 := (e13.trans (e9.symm)).symm
      subst e15
      refine r_goto (tgt := 29) D83_25 rfl ?_
      exact r_iretI D83_29 rfl (⟨rfl, by omega, by omega⟩)
set_option maxRecDepth 4000 in
theorem k84_20k {base : Nat} {X : Nat → Option mC} {G : Nat → Value} (E : EnvOK base X G) {d : Nat} (hd : 0 ≤ d) {M : mH} (H : HI base M) (sentence : Int) (second : Int) (n : Int) (h0 : GT 32 n M) (h1 : 1 ≤ gi M 33 sentence) (h2 : 0 ≤ sentence ∧ sentence ≤ 15) (h3 : 0 ≤ second ∧ second ≤ 2147483647) : sOk base X G d T84 [vR 20, vI sentence, vI second] M (pI (fun v M' => M' = M ∧ (1 ≤ v ∧ v ≤ 144) ∧ v < n)) := by
  refine sOk.of (show sRn base X G d T84 0 [(0, vR 20), (1, vI sentence), (2, vI second)] [] M _ from ?_)
  refine s_blx (lv' := [(0, vR 20), (1, vI sentence), (2, vI second)]) (st' := [vR 20]) B84_0_1 rfl ?_
  refine r_gfix (r := 32) (pc' := 4) D84_1 rfl gf_9_46_20 H.1 ?_
  refine s_blx (lv' := [(0, vR 20), (1, vI sentence), (2, vI second)]) (st' := [vR 20, vI second, vI (sentence * 9), vR 32]) B84_4_10 rfl ?_
  refine r_gfix (r := 33) (pc' := 13) D84_10 rfl gf_9_49_20 H.1 ?_
  refine s_blx (lv' := [(0, vR 20), (1, vI sentence), (2, vI second)]) (st' := [vI sentence, vR 33, vI second, vI (sentence * 9), vR 32]) B84_13_14 rfl ?_
  refine r_iald (pc' := 15) D84_14 rfl sc_33 H.1 (by omega) ?_
  intro w1 e2 r3
  have b_w1 := H.2 33 (sentence) 0 8 rfl
  rw [← e2] at b_w1; clear r3
  refine r_min (pc' := 18) D84_15 rfl mc_9_static_115 sp_9_115 (Nat.le_of_ble_eq_true rfl) (by unfold inR; omega) ?_
  intro z4 r5 r6 r7
  refine s_blx (lv' := [(0, vR 20), (1, vI sentence), (2, vI second)]) (st' := [vI ((sentence * 9) + z4), vR 32]) B84_18_19 rfl ?_
  refine r_iald (pc' := 20) D84_19 rfl sc_32 H.1 (by omega) ?_
  intro w8 e9 r10
  have b_w8 := H.2 32 ((sentence * 9) + z4) 0 144 rfl
  rw [← e9] at b_w8; clear r10
  have kg := (h0) sentence (by omega) (by omega) (show 1 ≤ gi M 33 sentence by omega) (((sentence * 9) + z4) - sentence * 9) (by omega) (show ((sentence * 9) + z4) - sentence * 9 ≤ gi M 33 sentence by omega)
  rw [show sentence * 9 + (((sentence * 9) + z4) - sentence * 9) = ((sentence * 9) + z4) by omega, ← e9] at kg
  exact r_iretI D84_20 rfl (⟨rfl, by omega, by omega⟩)
set_option maxRecDepth 4000 in
theorem k83_39k {base : Nat} {X : Nat → Option mC} {G : Nat → Value} (E : EnvOK base X G) {d : Nat} (hd : 1 ≤ d) {M : mH} (H : HI base M) (sentence : Int) (h0 : -2147483648 ≤ sentence ∧ sentence ≤ 2147483647) : sOk base X G d T83 [vR 39, vI sentence] M (pI (fun v M' => M' = M ∧ (-1 ≤ v ∧ v ≤ 8) ∧ (0 ≤ v → 0 ≤ sentence ∧ sentence ≤ 15 ∧ v = gi M 52 sentence ∧ 1 ≤ v))) := by
  refine sOk.of (show sRn base X G d T83 0 [(0, vR 39), (1, vI sentence)] [] M _ from ?_)
  refine s_blx (lv' := [(0, vR 39), (1, vI sentence)]) (st' := [vI 15, vI 0, vI sentence]) B83_0_4 rfl ?_
  refine r_sIp (args := [vI sentence, vI 0, vI 15]) (rest := []) (pc' := 7) D83_4 rfl ck_9_static_136 TE142 rfl (Nat.le_of_ble_eq_true rfl) ⟨Nat.le_of_ble_eq_true rfl, Nat.le_of_ble_eq_true rfl⟩ (by decide) (dp_0 hd rfl) (k142 E (dp_n hd rfl) H sentence 0 15 (by omega) (by omega) (by omega)) ?_
  intro v1 q6
  obtain ⟨q3, q4, q5⟩ := q6
  refine r_ifc (tgt := 28) (pc' := 10) D83_7 rfl rfl (by unfold inR; omega) (fun (c7 : v1 = 0) => ?_) (fun (c7 : ¬ (v1 = 0)) => ?_)
  · refine s_blx (lv' := [(0, vR 39), (1, vI sentence)]) (st' := [vI (-1)]) B83_28_29 rfl ?_
    exact r_iretI D83_29 rfl (⟨rfl, by omega, by omega⟩)
  · refine s_blx (lv' := [(0, vR 39), (1, vI sentence)]) (st' := [vR 39]) B83_10_11 rfl ?_
    refine r_gfix (r := 52) (pc' := 14) D83_11 rfl gf_9_49_39 H.1 ?_
    refine s_blx (lv' := [(0, vR 39), (1, vI sentence)]) (st' := [vI sentence, vR 52]) B83_14_15 rfl ?_
    refine r_iald (pc' := 16) D83_15 rfl sc_52 H.1 (by omega) ?_
    intro w8 e9 r10
    have b_w8 := H.2 52 (sentence) 0 8 rfl
    rw [← e9] at b_w8; clear r10
    refine r_ifc (tgt := 28) (pc' := 19) D83_16 rfl rfl (by unfold inR; omega) (fun (c11 : w8 ≤ 0) => ?_) (fun (c11 : ¬ (w8 ≤ 0)) => ?_)
    · refine s_blx (lv' := [(0, vR 39), (1, vI sentence)]) (st' := [vI (-1)]) B83_28_29 rfl ?_
      exact r_iretI D83_29 rfl (⟨rfl, by omega, by omega⟩)
    · refine s_blx (lv' := [(0, vR 39), (1, vI sentence)]) (st' := [vR 39]) B83_19_20 rfl ?_
      refine r_gfix (r := 52) (pc' := 23) D83_20 rfl gf_9_49_39 H.1 ?_
      refine s_blx (lv' := [(0, vR 39), (1, vI sentence)]) (st' := [vI sentence, vR 52]) B83_23_24 rfl ?_
      refine r_iald (pc' := 25) D83_24 rfl sc_52 H.1 (by omega) ?_
      intro w12 e13 r14
      have e15 : w8 = w12 := (e13.trans (e9.symm)).symm
      subst e15
      refine r_goto (tgt := 29) D83_25 rfl ?_
      exact r_iretI D83_29 rfl (⟨rfl, by omega, by omega⟩)
set_option maxRecDepth 4000 in
theorem k84_39k {base : Nat} {X : Nat → Option mC} {G : Nat → Value} (E : EnvOK base X G) {d : Nat} (hd : 0 ≤ d) {M : mH} (H : HI base M) (sentence : Int) (second : Int) (n : Int) (h0 : GT 51 n M) (h1 : 1 ≤ gi M 52 sentence) (h2 : 0 ≤ sentence ∧ sentence ≤ 15) (h3 : 0 ≤ second ∧ second ≤ 2147483647) : sOk base X G d T84 [vR 39, vI sentence, vI second] M (pI (fun v M' => M' = M ∧ (1 ≤ v ∧ v ≤ 144) ∧ v < n)) := by
  refine sOk.of (show sRn base X G d T84 0 [(0, vR 39), (1, vI sentence), (2, vI second)] [] M _ from ?_)
  refine s_blx (lv' := [(0, vR 39), (1, vI sentence), (2, vI second)]) (st' := [vR 39]) B84_0_1 rfl ?_
  refine r_gfix (r := 51) (pc' := 4) D84_1 rfl gf_9_46_39 H.1 ?_
  refine s_blx (lv' := [(0, vR 39), (1, vI sentence), (2, vI second)]) (st' := [vR 39, vI second, vI (sentence * 9), vR 51]) B84_4_10 rfl ?_
  refine r_gfix (r := 52) (pc' := 13) D84_10 rfl gf_9_49_39 H.1 ?_
  refine s_blx (lv' := [(0, vR 39), (1, vI sentence), (2, vI second)]) (st' := [vI sentence, vR 52, vI second, vI (sentence * 9), vR 51]) B84_13_14 rfl ?_
  refine r_iald (pc' := 15) D84_14 rfl sc_52 H.1 (by omega) ?_
  intro w1 e2 r3
  have b_w1 := H.2 52 (sentence) 0 8 rfl
  rw [← e2] at b_w1; clear r3
  refine r_min (pc' := 18) D84_15 rfl mc_9_static_115 sp_9_115 (Nat.le_of_ble_eq_true rfl) (by unfold inR; omega) ?_
  intro z4 r5 r6 r7
  refine s_blx (lv' := [(0, vR 39), (1, vI sentence), (2, vI second)]) (st' := [vI ((sentence * 9) + z4), vR 51]) B84_18_19 rfl ?_
  refine r_iald (pc' := 20) D84_19 rfl sc_51 H.1 (by omega) ?_
  intro w8 e9 r10
  have b_w8 := H.2 51 ((sentence * 9) + z4) 0 144 rfl
  rw [← e9] at b_w8; clear r10
  have kg := (h0) sentence (by omega) (by omega) (show 1 ≤ gi M 52 sentence by omega) (((sentence * 9) + z4) - sentence * 9) (by omega) (show ((sentence * 9) + z4) - sentence * 9 ≤ gi M 52 sentence by omega)
  rw [show sentence * 9 + (((sentence * 9) + z4) - sentence * 9) = ((sentence * 9) + z4) by omega, ← e9] at kg
  exact r_iretI D84_20 rfl (⟨rfl, by omega, by omega⟩)
set_option maxRecDepth 4000 in
theorem k108k {base : Nat} {X : Nat → Option mC} {G : Nat → Value} (E : EnvOK base X G) {d : Nat} (hd : 178 ≤ d) {M : mH} (H : HI base M) (sentence : Int) (second : Int) (said : Int) (n : Int) (h0 : RW base 56 n M) (h1 : TR 40 n M) (h2 : GT 51 n M) (h3 : 1 ≤ n ∧ n ≤ 145) (h4 : -2147483648 ≤ sentence ∧ sentence ≤ 2147483647) (h5 : -2147483648 ≤ second ∧ second ≤ 2147483647) (h6 : -2147483648 ≤ said ∧ said ≤ 2147483647) : sOk base X G d T108 [vR 0, vI sentence, vI second, vI said] M (pI (fun v M' => HI base M' ∧ Fq [(57, 0)] M M' ∧ (-2147483648 ≤ v ∧ v ≤ 2147483647))) := by
  have f0 : Fq [(57, 0)] M M := Fq.rf
  refine sOk.of (show sRn base X G d T108 0 [(0, vR 0), (1, vI sentence), (2, vI second), (3, vI said)] [] M _ from ?_)
  refine s_blx (lv' := [(0, vR 0), (1, vI sentence), (2, vI second), (3, vI said)]) (st' := [vI 1110, vI 0, vI said]) B108_0_5 rfl ?_
  refine r_sIp (args := [vI said, vI 0, vI 1110]) (rest := []) (pc' := 8) D108_5 rfl ck_10_static_102 TE142 rfl (Nat.le_of_ble_eq_true rfl) ⟨Nat.le_of_ble_eq_true rfl, Nat.le_of_ble_eq_true rfl⟩ (by decide) (dp_0 hd rfl) (k142 E (dp_n hd rfl) H said 0 1110 (by omega) (by omega) (by omega)) ?_
  intro v1 q6
  obtain ⟨q3, q4, q5⟩ := q6
  refine r_ifc (tgt := 27) (pc' := 11) D108_8 rfl rfl (by unfold inR; omega) (fun (c7 : v1 = 0) => ?_) (fun (c7 : ¬ (v1 = 0)) => ?_)
  · refine s_blx (lv' := [(0, vR 0), (1, vI sentence), (2, vI second), (3, vI said)]) (st' := [vI (-1)]) B108_27_28 rfl ?_
    exact r_iretI D108_28 rfl (⟨H, f0, by omega⟩)
  · refine s_blx (lv' := [(0, vR 0), (1, vI sentence), (2, vI second), (3, vI said)]) (st' := [vR 0, vI 0, vI second]) B108_11_14 rfl ?_
    refine r_gfix (r := 39) (pc' := 17) D108_14 rfl gf_10_61_0 H.1 ?_
    refine s_blx (lv' := [(0, vR 0), (1, vI sentence), (2, vI second), (3, vI said)]) (st' := [vI sentence, vR 39, vI 0, vI second]) B108_17_18 rfl ?_
    refine r_vIp (c := 39) (args := [vI sentence]) (rest := [vI 0, vI second]) (pc' := 21) D108_18 rfl ck_10_virtual_221 TE83 rfl (Nat.le_of_ble_eq_true rfl) ⟨Nat.le_of_ble_eq_true rfl, Nat.le_of_ble_eq_true rfl⟩ sc_39 ⟨rfl, by decide⟩ H.1 (dp_0 hd rfl) (k83_39k E (dp_n hd rfl) H sentence (by omega)) ?_
    intro v8 q12
    obtain ⟨q10, q11⟩ := q12
    refine r_sIp (args := [vI second, vI 0, vI v8]) (rest := []) (pc' := 24) D108_21 rfl ck_10_static_102 TE142 rfl (Nat.le_of_ble_eq_true rfl) ⟨Nat.le_of_ble_eq_true rfl, Nat.le_of_ble_eq_true rfl⟩ (by decide) (dp_0 hd rfl) (k142 E (dp_n hd rfl) H second 0 v8 (by omega) (by omega) (by omega)) ?_
    intro v13 q18
    obtain ⟨q15, q16, q17⟩ := q18
    refine r_ifc (tgt := 29) (pc' := 27) D108_24 rfl rfl (by unfold inR; omega) (fun (c19 : v13 ≠ 0) => ?_) (fun (c19 : ¬ (v13 ≠ 0)) => ?_)
    · refine s_blx (lv' := [(0, vR 0), (1, vI sentence), (2, vI second), (3, vI said)]) (st' := [vR 0]) B108_29_30 rfl ?_
      refine r_gfix (r := 55) (pc' := 33) D108_30 rfl gf_10_64_0 H.1 ?_
      refine s_blx (lv' := [(0, vR 0), (1, vI sentence), (2, vI second), (3, vI said)]) (st' := [vR 0, vR 55]) B108_33_34 rfl ?_
      refine r_gfix (r := 39) (pc' := 37) D108_34 rfl gf_10_61_0 H.1 ?_
      refine s_blx (lv' := [(0, vR 0), (1, vI sentence), (2, vI second), (3, vI said)]) (st' := [vI second, vI sentence, vR 39, vR 55]) B108_37_39 rfl ?_
      refine r_vIp (c := 39) (args := [vI sentence, vI second]) (rest := [vR 55]) (pc' := 42) D108_39 rfl ck_10_virtual_224 TE84 rfl (Nat.le_of_ble_eq_true rfl) ⟨Nat.le_of_ble_eq_true rfl, Nat.le_of_ble_eq_true rfl⟩ sc_39 ⟨rfl, by decide⟩ H.1 (dp_0 hd rfl) (k84_39k E (dp_n hd rfl) H sentence second n (h2) (by omega) (by omega) (by omega)) ?_
      intro v20 q24
      obtain ⟨q22, q23⟩ := q24
      refine s_blx (lv' := [(0, vR 0), (1, vI sentence), (2, vI second), (3, vI said)]) (st' := [vI said, vI v20, vR 55]) B108_42_43 rfl ?_
      refine r_vI (c := 55) (args := [vI v20, vI said]) (rest := []) (pc' := 46) D108_43 rfl ck_10_virtual_227 TE48 rfl (Nat.le_of_ble_eq_true rfl) ⟨Nat.le_of_ble_eq_true rfl, Nat.le_of_ble_eq_true rfl⟩ sc_55 ⟨rfl, by decide⟩ H.1 (dp_0 hd rfl) (k48_55x E (dp_n hd rfl) H v20 said n (h0) (h1) (by omega) (by omega) (by omega)) ?_
      intro v25 M26 q30
      obtain ⟨H27, f28, q29⟩ := q30
      have f31 := f0.tr (f28.up rfl)
      exact r_iretI D108_46 rfl (⟨H27, f31, by omega⟩)
    · refine s_blx (lv' := [(0, vR 0), (1, vI sentence), (2, vI second), (3, vI said)]) (st' := [vI (-1)]) B108_27_28 rfl ?_
      exact r_iretI D108_28 rfl (⟨H, f0, by omega⟩)
