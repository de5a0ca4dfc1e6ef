noncomputable def T28 : mT := (4, yX4_takesComparison, cX4_takesComparison, 4, (some .boolean))
set_option maxRecDepth 10000 in
theorem TE28 : sy_m[28]? = some T28 := rfl
theorem B28_0_2 : s_dk T28.2.2.1 0 [.aload_n 0, .iload_n 1] 2 = true := by decide +kernel
theorem D28_2 : decode T28.2.2.1 2 = .ok (.invokevirtual 138, 3) := by decide +kernel
theorem D28_5 : decode T28.2.2.1 5 = .ok (.ifCond .ne 5, 3) := by decide +kernel
theorem B28_10_11 : s_dk T28.2.2.1 10 [.aload_n 0] 11 = true := by decide +kernel
theorem D28_11 : decode T28.2.2.1 11 = .ok (.getfield 22, 3) := by decide +kernel
theorem B28_14_17 : s_dk T28.2.2.1 14 [.sipush 160] 17 = true := by decide +kernel
theorem D28_17 : decode T28.2.2.1 17 = .ok (.if_icmp .ne 9, 3) := by decide +kernel
theorem B28_26_27 : s_dk T28.2.2.1 26 [.aload_n 0] 27 = true := by decide +kernel
theorem D28_27 : decode T28.2.2.1 27 = .ok (.getfield 22, 3) := by decide +kernel
theorem B28_30_33 : s_dk T28.2.2.1 30 [.sipush 162] 33 = true := by decide +kernel
theorem D28_33 : decode T28.2.2.1 33 = .ok (.if_icmp .ne 9, 3) := by decide +kernel
theorem B28_42_43 : s_dk T28.2.2.1 42 [.aload_n 0] 43 = true := by decide +kernel
theorem D28_43 : decode T28.2.2.1 43 = .ok (.getfield 22, 3) := by decide +kernel
theorem B28_46_49 : s_dk T28.2.2.1 46 [.sipush 161] 49 = true := by decide +kernel
theorem D28_49 : decode T28.2.2.1 49 = .ok (.if_icmp .ne 9, 3) := by decide +kernel
theorem B28_58_59 : s_dk T28.2.2.1 58 [.aload_n 0] 59 = true := by decide +kernel
theorem D28_59 : decode T28.2.2.1 59 = .ok (.invokevirtual 102, 3) := by decide +kernel
theorem D28_62 : decode T28.2.2.1 62 = .ok (.ireturn, 1) := by decide +kernel
theorem B28_52_55 : s_dk T28.2.2.1 52 [.bipush 8, .istore_n 2] 55 = true := by decide +kernel
theorem D28_55 : decode T28.2.2.1 55 = .ok (.goto 8, 3) := by decide +kernel
theorem B28_63_64 : s_dk T28.2.2.1 63 [.aload_n 0] 64 = true := by decide +kernel
theorem D28_64 : decode T28.2.2.1 64 = .ok (.invokevirtual 105, 3) := by decide +kernel
theorem B28_67_69 : s_dk T28.2.2.1 67 [.aload_n 0, .iload_n 1] 69 = true := by decide +kernel
theorem D28_69 : decode T28.2.2.1 69 = .ok (.invokevirtual 138, 3) := by decide +kernel
theorem B28_72_76 : s_dk T28.2.2.1 72 [.istore_n 3, .aload_n 0, .iload_n 2, .iconst 0] 76 = true := by decide +kernel
theorem D28_76 : decode T28.2.2.1 76 = .ok (.invokevirtual 118, 3) := by decide +kernel
theorem B28_79_81 : s_dk T28.2.2.1 79 [.pop, .iload_n 3] 81 = true := by decide +kernel
theorem D28_81 : decode T28.2.2.1 81 = .ok (.ireturn, 1) := by decide +kernel
theorem B28_36_39 : s_dk T28.2.2.1 36 [.bipush 7, .istore_n 2] 39 = true := by decide +kernel
theorem D28_39 : decode T28.2.2.1 39 = .ok (.goto 24, 3) := by decide +kernel
theorem B28_20_23 : s_dk T28.2.2.1 20 [.bipush 6, .istore_n 2] 23 = true := by decide +kernel
theorem D28_23 : decode T28.2.2.1 23 = .ok (.goto 40, 3) := by decide +kernel
theorem B28_8_9 : s_dk T28.2.2.1 8 [.iconst 0] 9 = true := by decide +kernel
theorem D28_9 : decode T28.2.2.1 9 = .ok (.ireturn, 1) := by decide +kernel
noncomputable def T27 : mT := (4, yX4_takesPlain, cX4_takesPlain, 4, (some .boolean))
set_option maxRecDepth 10000 in
theorem TE27 : sy_m[27]? = some T27 := rfl
theorem B27_0_4 : s_dk T27.2.2.1 0 [.iconst 0, .istore_n 2, .iconst 0, .istore_n 3] 4 = true := by decide +kernel
theorem B27_4_8 : s_dk T27.2.2.1 4 [.iload_n 3, .sipush 400] 8 = true := by decide +kernel
theorem D27_8 : decode T27.2.2.1 8 = .ok (.if_icmp .ge 25, 3) := by decide +kernel
theorem B27_11_12 : s_dk T27.2.2.1 11 [.aload_n 0] 12 = true := by decide +kernel
theorem D27_12 : decode T27.2.2.1 12 = .ok (.getfield 22, 3) := by decide +kernel
theorem B27_15_17 : s_dk T27.2.2.1 15 [.bipush 9] 17 = true := by decide +kernel
theorem D27_17 : decode T27.2.2.1 17 = .ok (.if_icmp .ne 16, 3) := by decide +kernel
theorem B27_33_34 : s_dk T27.2.2.1 33 [.aload_n 0] 34 = true := by decide +kernel
theorem D27_34 : decode T27.2.2.1 34 = .ok (.getfield 22, 3) := by decide +kernel
theorem B27_37_40 : s_dk T27.2.2.1 37 [.sipush 140] 40 = true := by decide +kernel
theorem D27_40 : decode T27.2.2.1 40 = .ok (.if_icmp .ne 39, 3) := by decide +kernel
theorem B27_79_80 : s_dk T27.2.2.1 79 [.aload_n 0] 80 = true := by decide +kernel
theorem D27_80 : decode T27.2.2.1 80 = .ok (.getfield 22, 3) := by decide +kernel
theorem B27_83_85 : s_dk T27.2.2.1 83 [.bipush 10] 85 = true := by decide +kernel
theorem D27_85 : decode T27.2.2.1 85 = .ok (.if_icmp .lt 28, 3) := by decide +kernel
theorem B27_113_115 : s_dk T27.2.2.1 113 [.aload_n 0, .iload_n 1] 115 = true := by decide +kernel
theorem D27_115 : decode T27.2.2.1 115 = .ok (.invokevirtual 135, 3) := by decide +kernel
theorem ck_4_virtual_135 : m_call 4 (.invokevirtual 135) = some (0, 28, 1) := by decide +kernel
theorem B27_118_120 : s_dk T27.2.2.1 118 [.istore_n 3, .iload_n 3] 120 = true := by decide +kernel
theorem D27_120 : decode T27.2.2.1 120 = .ok (.ifCond .eq 18, 3) := by decide +kernel
theorem B27_138_139 : s_dk T27.2.2.1 138 [.iload_n 3] 139 = true := by decide +kernel
theorem D27_139 : decode T27.2.2.1 139 = .ok (.ireturn, 1) := by decide +kernel
theorem B27_123_125 : s_dk T27.2.2.1 123 [.iload_n 2, .iconst 2] 125 = true := by decide +kernel
theorem D27_125 : decode T27.2.2.1 125 = .ok (.irem, 1) := by decide +kernel
theorem B27_126_127 : s_dk T27.2.2.1 126 [.iconst 1] 127 = true := by decide +kernel
theorem D27_127 : decode T27.2.2.1 127 = .ok (.if_icmp .ne 11, 3) := by decide +kernel
theorem B27_130_134 : s_dk T27.2.2.1 130 [.aload_n 0, .bipush 9, .iconst 0] 134 = true := by decide +kernel
theorem D27_134 : decode T27.2.2.1 134 = .ok (.invokevirtual 118, 3) := by decide +kernel
theorem B27_137_139 : s_dk T27.2.2.1 137 [.pop, .iload_n 3] 139 = true := by decide +kernel
theorem B27_88_89 : s_dk T27.2.2.1 88 [.aload_n 0] 89 = true := by decide +kernel
theorem D27_89 : decode T27.2.2.1 89 = .ok (.getfield 22, 3) := by decide +kernel
theorem B27_92_94 : s_dk T27.2.2.1 92 [.bipush 12] 94 = true := by decide +kernel
theorem D27_94 : decode T27.2.2.1 94 = .ok (.if_icmp .ge 19, 3) := by decide +kernel
theorem B27_97_100 : s_dk T27.2.2.1 97 [.aload_n 0, .iconst 1, .aload_n 0] 100 = true := by decide +kernel
theorem D27_100 : decode T27.2.2.1 100 = .ok (.getfield 22, 3) := by decide +kernel
theorem B27_103_106 : s_dk T27.2.2.1 103 [.bipush 10, .isub] 106 = true := by decide +kernel
theorem D27_106 : decode T27.2.2.1 106 = .ok (.invokevirtual 131, 3) := by decide +kernel
theorem B27_109_110 : s_dk T27.2.2.1 109 [.istore_n 3] 110 = true := by decide +kernel
theorem D27_110 : decode T27.2.2.1 110 = .ok (.goto 9, 3) := by decide +kernel
theorem B27_119_120 : s_dk T27.2.2.1 119 [.iload_n 3] 120 = true := by decide +kernel
theorem B27_43_45 : s_dk T27.2.2.1 43 [.aload_n 0, .iload_n 1] 45 = true := by decide +kernel
theorem D27_45 : decode T27.2.2.1 45 = .ok (.invokevirtual 128, 3) := by decide +kernel
theorem D27_48 : decode T27.2.2.1 48 = .ok (.ifCond .eq 26, 3) := by decide +kernel
theorem B27_74_76 : s_dk T27.2.2.1 74 [.iconst 0, .istore_n 3] 76 = true := by decide +kernel
theorem D27_76 : decode T27.2.2.1 76 = .ok (.goto 43, 3) := by decide +kernel
theorem B27_51_55 : s_dk T27.2.2.1 51 [.aload_n 0, .iload_n 1, .iconst 1, .iadd] 55 = true := by decide +kernel
theorem D27_55 : decode T27.2.2.1 55 = .ok (.invokevirtual 108, 3) := by decide +kernel
theorem ck_4_virtual_108 : m_call 4 (.invokevirtual 108) = some (0, 25, 1) := by decide +kernel
noncomputable def T25 : mT := (4, yX4_takesTest, cX4_takesTest, 5, (some .boolean))
set_option maxRecDepth 10000 in
theorem TE25 : sy_m[25]? = some T25 := rfl
theorem D27_58 : decode T27.2.2.1 58 = .ok (.ifCond .eq 16, 3) := by decide +kernel
theorem B27_61_64 : s_dk T27.2.2.1 61 [.aload_n 0, .bipush 41] 64 = true := by decide +kernel
theorem D27_64 : decode T27.2.2.1 64 = .ok (.invokevirtual 111, 3) := by decide +kernel
theorem D27_67 : decode T27.2.2.1 67 = .ok (.ifCond .eq 7, 3) := by decide +kernel
theorem B27_70_71 : s_dk T27.2.2.1 70 [.iconst 1] 71 = true := by decide +kernel
theorem D27_71 : decode T27.2.2.1 71 = .ok (.goto 4, 3) := by decide +kernel
theorem B27_75_76 : s_dk T27.2.2.1 75 [.istore_n 3] 76 = true := by decide +kernel
theorem B27_20_24 : s_dk T27.2.2.1 20 [.iinc 2 1, .aload_n 0] 24 = true := by decide +kernel
theorem D27_24 : decode T27.2.2.1 24 = .ok (.invokevirtual 105, 3) := by decide +kernel
theorem B27_27_30 : s_dk T27.2.2.1 27 [.iinc 3 1] 30 = true := by decide +kernel
theorem D27_30 : decode T27.2.2.1 30 = .ok (.goto (-26), 3) := by decide +kernel
noncomputable def T26 : mT := (4, yX4_takesBoth, cX4_takesBoth, 5, (some .boolean))
set_option maxRecDepth 10000 in
theorem TE26 : sy_m[26]? = some T26 := rfl
theorem B26_0_2 : s_dk T26.2.2.1 0 [.aload_n 0, .iload_n 1] 2 = true := by decide +kernel
theorem D26_2 : decode T26.2.2.1 2 = .ok (.invokevirtual 125, 3) := by decide +kernel
theorem ck_4_virtual_125 : m_call 4 (.invokevirtual 125) = some (0, 27, 1) := by decide +kernel
theorem B26_5_8 : s_dk T26.2.2.1 5 [.istore_n 2, .iconst 0, .istore_n 3] 8 = true := by decide +kernel
theorem B26_8_12 : s_dk T26.2.2.1 8 [.iload_n 3, .sipush 400] 12 = true := by decide +kernel
theorem D26_12 : decode T26.2.2.1 12 = .ok (.if_icmp .ge 47, 3) := by decide +kernel
theorem B26_15_16 : s_dk T26.2.2.1 15 [.iload_n 2] 16 = true := by decide +kernel
theorem D26_16 : decode T26.2.2.1 16 = .ok (.ifCond .eq 43, 3) := by decide +kernel
theorem B26_59_60 : s_dk T26.2.2.1 59 [.iload_n 2] 60 = true := by decide +kernel
theorem D26_60 : decode T26.2.2.1 60 = .ok (.ireturn, 1) := by decide +kernel
theorem B26_19_20 : s_dk T26.2.2.1 19 [.aload_n 0] 20 = true := by decide +kernel
theorem D26_20 : decode T26.2.2.1 20 = .ok (.getfield 22, 3) := by decide +kernel
theorem B26_23_25 : s_dk T26.2.2.1 23 [.bipush 8] 25 = true := by decide +kernel
theorem D26_25 : decode T26.2.2.1 25 = .ok (.if_icmp .ne 34, 3) := by decide +kernel
theorem B26_28_32 : s_dk T26.2.2.1 28 [.aload_n 0, .bipush 10, .iconst 0] 32 = true := by decide +kernel
theorem D26_32 : decode T26.2.2.1 32 = .ok (.invokevirtual 118, 3) := by decide +kernel
theorem B26_35_38 : s_dk T26.2.2.1 35 [.istore 4, .aload_n 0] 38 = true := by decide +kernel
theorem D26_38 : decode T26.2.2.1 38 = .ok (.invokevirtual 105, 3) := by decide +kernel
theorem B26_41_43 : s_dk T26.2.2.1 41 [.aload_n 0, .iload_n 1] 43 = true := by decide +kernel
theorem D26_43 : decode T26.2.2.1 43 = .ok (.invokevirtual 125, 3) := by decide +kernel
theorem B26_46_50 : s_dk T26.2.2.1 46 [.istore_n 2, .aload_n 0, .iload 4] 50 = true := by decide +kernel
theorem D26_50 : decode T26.2.2.1 50 = .ok (.invokevirtual 121, 3) := by decide +kernel
theorem ck_4_virtual_121 : m_call 4 (.invokevirtual 121) = some (0, 38, 1) := by decide +kernel
theorem B26_53_56 : s_dk T26.2.2.1 53 [.iinc 3 1] 56 = true := by decide +kernel
theorem D26_56 : decode T26.2.2.1 56 = .ok (.goto (-48), 3) := by decide +kernel
theorem B25_0_2 : s_dk T25.2.2.1 0 [.aload_n 0, .iload_n 1] 2 = true := by decide +kernel
theorem D25_2 : decode T25.2.2.1 2 = .ok (.invokevirtual 115, 3) := by decide +kernel
theorem ck_4_virtual_115 : m_call 4 (.invokevirtual 115) = some (0, 26, 1) := by decide +kernel
theorem B25_5_8 : s_dk T25.2.2.1 5 [.istore_n 2, .iconst 0, .istore_n 3] 8 = true := by decide +kernel
theorem B25_8_12 : s_dk T25.2.2.1 8 [.iload_n 3, .sipush 400] 12 = true := by decide +kernel
theorem D25_12 : decode T25.2.2.1 12 = .ok (.if_icmp .ge 47, 3) := by decide +kernel
theorem B25_15_16 : s_dk T25.2.2.1 15 [.iload_n 2] 16 = true := by decide +kernel
theorem D25_16 : decode T25.2.2.1 16 = .ok (.ifCond .eq 43, 3) := by decide +kernel
theorem B25_59_60 : s_dk T25.2.2.1 59 [.iload_n 2] 60 = true := by decide +kernel
theorem D25_60 : decode T25.2.2.1 60 = .ok (.ireturn, 1) := by decide +kernel
theorem B25_19_20 : s_dk T25.2.2.1 19 [.aload_n 0] 20 = true := by decide +kernel
theorem D25_20 : decode T25.2.2.1 20 = .ok (.getfield 22, 3) := by decide +kernel
theorem B25_23_25 : s_dk T25.2.2.1 23 [.bipush 7] 25 = true := by decide +kernel
theorem D25_25 : decode T25.2.2.1 25 = .ok (.if_icmp .ne 34, 3) := by decide +kernel
theorem B25_28_32 : s_dk T25.2.2.1 28 [.aload_n 0, .bipush 11, .iconst 0] 32 = true := by decide +kernel
theorem D25_32 : decode T25.2.2.1 32 = .ok (.invokevirtual 118, 3) := by decide +kernel
theorem B25_35_38 : s_dk T25.2.2.1 35 [.istore 4, .aload_n 0] 38 = true := by decide +kernel
theorem D25_38 : decode T25.2.2.1 38 = .ok (.invokevirtual 105, 3) := by decide +kernel
theorem B25_41_43 : s_dk T25.2.2.1 41 [.aload_n 0, .iload_n 1] 43 = true := by decide +kernel
theorem D25_43 : decode T25.2.2.1 43 = .ok (.invokevirtual 115, 3) := by decide +kernel
theorem B25_46_50 : s_dk T25.2.2.1 46 [.istore_n 2, .aload_n 0, .iload 4] 50 = true := by decide +kernel
theorem D25_50 : decode T25.2.2.1 50 = .ok (.invokevirtual 121, 3) := by decide +kernel
theorem B25_53_56 : s_dk T25.2.2.1 53 [.iinc 3 1] 56 = true := by decide +kernel
theorem D25_56 : decode T25.2.2.1 56 = .ok (.goto (-48), 3) := by decide +kernel
set_option maxRecDepth 4000 in
theorem k28_14x {base : Nat} {X : Nat → Option mC} {G : Nat → Value} (E : EnvOK base X G) {d : Nat} (hd : 30 ≤ d) {M : mH} (H : HI base M) (depth : Int) (ct : Int) (at_ : Int) (kd : Int) (us : Int) (h0 : gi M 15 ct = 22) (h1 : 0 ≤ ct ∧ ct ≤ 400) (h2 : gi M 14 2 = at_) (h3 : gi M 14 3 = kd) (h4 : 0 ≤ at_ ∧ at_ ≤ ct) (h5 : at_ = ct → kd = 22) (h6 : 0 ≤ kd ∧ kd ≤ 511) (h7 : gi M 14 9 = us) (h8 : 0 ≤ us ∧ us ≤ at_) (h9 : 0 ≤ depth ∧ depth ≤ 8) (h10 : CD us M) : sOk base X G d T28 [vR 14, vI depth] M (pI (fun v M' => HI base M' ∧ Fr [(14, 3), (14, 4), (14, 5), (14, 10), (14, 11), (19, 0)] M M' ∧ (v = 0 ∨ v = 1) ∧ (at_ ≤ gi M' 14 2 ∧ gi M' 14 2 ≤ ct) ∧ (gi M' 14 2 = ct → gi M' 14 3 = 22) ∧ (0 ≤ gi M' 14 3 ∧ gi M' 14 3 ≤ 511) ∧ (us ≤ gi M' 14 9 ∧ gi M' 14 9 - us ≤ gi M' 14 2 - at_) ∧ (CD (gi M' 14 9) M') ∧ (∀ j : Int, 0 ≤ j → j < us → gi M' 19 j = gi M 19 j))) := by
  have f0 : Fr [(14, 3), (14, 4), (14, 5), (14, 10), (14, 11), (19, 0)] M M := Fr.rf
  refine sOk.of (show sRn base X G d T28 0 [(0, vR 14), (1, vI depth)] [] M _ from ?_)
  refine s_blx (lv' := [(0, vR 14), (1, vI depth)]) (st' := [vI depth, vR 14]) B28_0_2 rfl ?_
  have g1 : gi M 14 2 = at_ := h2
  have g2 : gi M 14 3 = kd := h3
  have g3 : gi M 14 9 = us := h7
  refine r_vI (c := 14) (args := [vI depth]) (rest := []) (pc' := 5) D28_2 rfl ck_4_virtual_138 TE29 rfl (Nat.le_of_ble_eq_true rfl) ⟨Nat.le_of_ble_eq_true rfl, Nat.le_of_ble_eq_true rfl⟩ sc_14 ⟨rfl, by decide⟩ H.1 (dp_0 hd rfl) (k29_14x E (dp_n hd rfl) H depth ct at_ kd us (by omega) (by omega) (by omega) (by omega) (by omega) (by omega) (by omega) (by omega) (by omega) (by omega) (h10)) ?_
  intro v4 M5 q15
  obtain ⟨H6, f7, q8, q9, q10, q11, q12, q13, q14⟩ := q15
  have f16 := f0.tr (f7.up rfl)
  have hp17 := (CZ.refl (n := us) (M := M)).sm q14 (by omega)
  obtain ⟨t18, ht19⟩ : ∃ q, q = gi M5 14 2 := ⟨_, rfl⟩
  have b_t18 := H6.2 14 2 0 400 rfl
  rw [← ht19] at b_t18
  obtain ⟨t20, ht21⟩ : ∃ q, q = gi M5 14 3 := ⟨_, rfl⟩
  have b_t20 := H6.2 14 3 0 511 rfl
  rw [← ht21] at b_t20
  obtain ⟨t22, ht23⟩ : ∃ q, q = gi M5 14 9 := ⟨_, rfl⟩
  have b_t22 := H6.2 14 9 0 400 rfl
  rw [← ht23] at b_t22
  rw [← ht19] at q9
  rw [← ht19, ← ht21] at q10
  rw [← ht21] at q11
  rw [← ht19, ← ht23] at q12
  rw [← ht23] at q13
  refine r_ifc (tgt := 10) (pc' := 8) D28_5 rfl rfl (by unfold inR; omega) (fun (c24 : v4 ≠ 0) => ?_) (fun (c24 : ¬ (v4 ≠ 0)) => ?_)
  · refine s_blx (lv' := [(0, vR 14), (1, vI depth)]) (st' := [vR 14]) B28_10_11 rfl ?_
    refine r_gint (ki := 3) (pc' := 14) D28_11 rfl gf_4_22_14 rfl H6.1 ?_
    intro w25 e26 r27
    have e28 : t20 = w25 := (e26.trans (ht21.symm)).symm
    subst e28
    refine s_blx (lv' := [(0, vR 14), (1, vI depth)]) (st' := [vI 160, vI t20]) B28_14_17 rfl ?_
    refine r_icmp (tgt := 26) (pc' := 20) D28_17 rfl rfl (by unfold inR; omega) (fun (c29 : t20 ≠ 160) => ?_) (fun (c29 : ¬ (t20 ≠ 160)) => ?_)
    · refine s_blx (lv' := [(0, vR 14), (1, vI depth)]) (st' := [vR 14]) B28_26_27 rfl ?_
      refine r_gint (ki := 3) (pc' := 30) D28_27 rfl gf_4_22_14 rfl H6.1 ?_
      intro w30 e31 r32
      have e33 : t20 = w30 := (e31.trans (ht21.symm)).symm
      subst e33
      refine s_blx (lv' := [(0, vR 14), (1, vI depth)]) (st' := [vI 162, vI t20]) B28_30_33 rfl ?_
      refine r_icmp (tgt := 42) (pc' := 36) D28_33 rfl rfl (by unfold inR; omega) (fun (c34 : t20 ≠ 162) => ?_) (fun (c34 : ¬ (t20 ≠ 162)) => ?_)
      · refine s_blx (lv' := [(0, vR 14), (1, vI depth)]) (st' := [vR 14]) B28_42_43 rfl ?_
        refine r_gint (ki := 3) (pc' := 46) D28_43 rfl gf_4_22_14 rfl H6.1 ?_
        intro w35 e36 r37
        have e38 : t20 = w35 := (e36.trans (ht21.symm)).symm
        subst e38
        refine s_blx (lv' := [(0, vR 14), (1, vI depth)]) (st' := [vI 161, vI t20]) B28_46_49 rfl ?_
        refine r_icmp (tgt := 58) (pc' := 52) D28_49 rfl rfl (by unfold inR; omega) (fun (c39 : t20 ≠ 161) => ?_) (fun (c39 : ¬ (t20 ≠ 161)) => ?_)
        · refine s_blx (lv' := [(0, vR 14), (1, vI depth)]) (st' := [vR 14]) B28_58_59 rfl ?_
          refine r_vI (c := 14) (args := []) (rest := []) (pc' := 62) D28_59 rfl ck_4_virtual_102 TE36 rfl (Nat.le_of_ble_eq_true rfl) ⟨Nat.le_of_ble_eq_true rfl, Nat.le_of_ble_eq_true rfl⟩ sc_14 ⟨rfl, by decide⟩ H6.1 (dp_0 hd rfl) (k36_14x E (dp_n hd rfl) H6 ) ?_
          intro v40 M41 q46
          obtain ⟨H42, f43, q44, q45⟩ := q46
          have f47 := f16.tr (f43.up rfl)
          have hp48 := hp17.fr f43 (by decide)
          have hp49 := q13.fr f43 (by decide)
          have g50 : gi M41 14 2 = t18 := (f43.g rfl).trans (ht19.symm)
          have g51 : gi M41 14 3 = t20 := (f43.g rfl).trans (ht21.symm)
          have g52 : gi M41 14 9 = t22 := (f43.g rfl).trans (ht23.symm)
          exact r_zretI D28_62 rfl (by omega) (⟨H42, f47, by omega, by rw [g50]; omega, by rw [g50, g51]; omega, by rw [g51]; omega, by rw [g50, g52]; omega, by rw [((f43.g rfl).trans (ht23.symm))]; exact hp49, hp48⟩)
        · refine s_blx (lv' := [(2, vI 8), (0, vR 14), (1, vI depth)]) (st' := []) B28_52_55 rfl ?_
          refine r_goto (tgt := 63) D28_55 rfl ?_
          refine s_blx (lv' := [(2, vI 8), (0, vR 14), (1, vI depth)]) (st' := [vR 14]) B28_63_64 rfl ?_
          have g53 : gi M5 15 ct = gi M 15 ct := (f7.g rfl).trans (rfl)
          have g54 : gi M5 14 2 = t18 := ht19.symm
          have g55 : gi M5 14 3 = t20 := ht21.symm
          refine r_vV (c := 14) (args := []) (rest := []) (pc' := 67) D28_64 rfl ck_4_virtual_105 TE35 rfl (Nat.le_of_ble_eq_true rfl) ⟨Nat.le_of_ble_eq_true rfl, Nat.le_of_ble_eq_true rfl⟩ sc_14 ⟨rfl, by decide⟩ H6.1 (dp_0 hd rfl) (k35_14x E (dp_n hd rfl) H6 ct t18 t20 (by omega) (by omega) (by omega) (by omega) (by omega) (by omega) (by omega) (by omega)) ?_
          intro M57 q64
          obtain ⟨H58, f59, q60, q61, q62, q63⟩ := q64
          have f65 := f16.tr (f59.up rfl)
          have hp66 := hp17.fr f59 (by decide)
          have hp67 := q13.fr f59 (by decide)
          obtain ⟨t68, ht69⟩ : ∃ q, q = gi M57 14 2 := ⟨_, rfl⟩
          have b_t68 := H58.2 14 2 0 400 rfl
          rw [← ht69] at b_t68
          obtain ⟨t70, ht71⟩ : ∃ q, q = gi M57 14 3 := ⟨_, rfl⟩
          have b_t70 := H58.2 14 3 0 511 rfl
          rw [← ht71] at b_t70
          rw [← ht69] at q60
          rw [← ht71] at q62
          rw [← ht71] at q63
          refine s_blx (lv' := [(2, vI 8), (0, vR 14), (1, vI depth)]) (st' := [vI depth, vR 14]) B28_67_69 rfl ?_
          have g72 : gi M57 15 ct = gi M 15 ct := (f59.g rfl).trans ((f7.g rfl).trans (rfl))
          have g73 : gi M57 14 2 = t68 := ht69.symm
          have g74 : gi M57 14 3 = t70 := ht71.symm
          have g75 : gi M57 14 9 = t22 := (f59.g rfl).trans (ht23.symm)
          refine r_vI (c := 14) (args := [vI depth]) (rest := []) (pc' := 72) D28_69 rfl ck_4_virtual_138 TE29 rfl (Nat.le_of_ble_eq_true rfl) ⟨Nat.le_of_ble_eq_true rfl, Nat.le_of_ble_eq_true rfl⟩ sc_14 ⟨rfl, by decide⟩ H58.1 (dp_0 hd rfl) (k29_14x E (dp_n hd rfl) H58 depth ct t68 t70 t22 (by omega) (by omega) (by omega) (by omega) (by omega) (by omega) (by omega) (by omega) (by omega) (by omega) (hp67)) ?_
          intro v76 M77 q87
          obtain ⟨H78, f79, q80, q81, q82, q83, q84, q85, q86⟩ := q87
          have f88 := f65.tr (f79.up rfl)
          have hp89 := hp66.sm q86 (by omega)
          obtain ⟨t90, ht91⟩ : ∃ q, q = gi M77 14 2 := ⟨_, rfl⟩
          have b_t90 := H78.2 14 2 0 400 rfl
          rw [← ht91] at b_t90
          obtain ⟨t92, ht93⟩ : ∃ q, q = gi M77 14 3 := ⟨_, rfl⟩
          have b_t92 := H78.2 14 3 0 511 rfl
          rw [← ht93] at b_t92
          obtain ⟨t94, ht95⟩ : ∃ q, q = gi M77 14 9 := ⟨_, rfl⟩
          have b_t94 := H78.2 14 9 0 400 rfl
          rw [← ht95] at b_t94
          rw [← ht91] at q81
          rw [← ht91, ← ht93] at q82
          rw [← ht93] at q83
          rw [← ht91, ← ht95] at q84
          rw [← ht95] at q85
          refine s_blx (lv' := [(3, vI v76), (2, vI 8), (0, vR 14), (1, vI depth)]) (st' := [vI 0, vI 8, vR 14]) B28_72_76 rfl ?_
          have g96 : gi M77 14 9 = t94 := ht95.symm
          refine r_vI (c := 14) (args := [vI 8, vI 0]) (rest := []) (pc' := 79) D28_76 rfl ck_4_virtual_118 TE37 rfl (Nat.le_of_ble_eq_true rfl) ⟨Nat.le_of_ble_eq_true rfl, Nat.le_of_ble_eq_true rfl⟩ sc_14 ⟨rfl, by decide⟩ H78.1 (dp_0 hd rfl) (k37_14x E (dp_n hd rfl) H78 8 0 t94 (by omega) (by omega) (by omega) (by omega) (by omega) (q85)) ?_
          intro v97 M98 q106
          obtain ⟨H99, f100, q101, q102, q103, q104, q105⟩ := q106
          have f107 := f88.tr (f100.up rfl)
          have hp108 := hp89.sm q105 (by omega)
          obtain ⟨t109, ht110⟩ : ∃ q, q = gi M98 14 9 := ⟨_, rfl⟩
          have b_t109 := H99.2 14 9 0 400 rfl
          rw [← ht110] at b_t109
          rw [← ht110] at q102
          rw [← ht110] at q104
          refine s_blx (lv' := [(3, vI v76), (2, vI 8), (0, vR 14), (1, vI depth)]) (st' := [vI v76]) B28_79_81 rfl ?_
          have g111 : gi M98 14 2 = t90 := (f100.g rfl).trans (ht91.symm)
          have g112 : gi M98 14 3 = t92 := (f100.g rfl).trans (ht93.symm)
          have g113 : gi M98 14 9 = t109 := ht110.symm
          exact r_zretI D28_81 rfl (by omega) (⟨H99, f107, by omega, by rw [g111]; omega, by rw [g111, g112]; omega, by rw [g112]; omega, by rw [g111, g113]; omega, by rw [(ht110.symm)]; exact q104, hp108⟩)
      · refine s_blx (lv' := [(2, vI 7), (0, vR 14), (1, vI depth)]) (st' := []) B28_36_39 rfl ?_
        refine r_goto (tgt := 63) D28_39 rfl ?_
        refine s_blx (lv' := [(2, vI 7), (0, vR 14), (1, vI depth)]) (st' := [vR 14]) B28_63_64 rfl ?_
        have g114 : gi M5 15 ct = gi M 15 ct := (f7.g rfl).trans (rfl)
        have g115 : gi M5 14 2 = t18 := ht19.symm
        have g116 : gi M5 14 3 = t20 := ht21.symm
        refine r_vV (c := 14) (args := []) (rest := []) (pc' := 67) D28_64 rfl ck_4_virtual_105 TE35 rfl (Nat.le_of_ble_eq_true rfl) ⟨Nat.le_of_ble_eq_true rfl, Nat.le_of_ble_eq_true rfl⟩ sc_14 ⟨rfl, by decide⟩ H6.1 (dp_0 hd rfl) (k35_14x E (dp_n hd rfl) H6 ct t18 t20 (by omega) (by omega) (by omega) (by omega) (by omega) (by omega) (by omega) (by omega)) ?_
        intro M118 q125
        obtain ⟨H119, f120, q121, q122, q123, q124⟩ := q125
        have f126 := f16.tr (f120.up rfl)
        have hp127 := hp17.fr f120 (by decide)
        have hp128 := q13.fr f120 (by decide)
        obtain ⟨t129, ht130⟩ : ∃ q, q = gi M118 14 2 := ⟨_, rfl⟩
        have b_t129 := H119.2 14 2 0 400 rfl
        rw [← ht130] at b_t129
        obtain ⟨t131, ht132⟩ : ∃ q, q = gi M118 14 3 := ⟨_, rfl⟩
        have b_t131 := H119.2 14 3 0 511 rfl
        rw [← ht132] at b_t131
        rw [← ht130] at q121
        rw [← ht132] at q123
        rw [← ht132] at q124
        refine s_blx (lv' := [(2, vI 7), (0, vR 14), (1, vI depth)]) (st' := [vI depth, vR 14]) B28_67_69 rfl ?_
        have g133 : gi M118 15 ct = gi M 15 ct := (f120.g rfl).trans ((f7.g rfl).trans (rfl))
        have g134 : gi M118 14 2 = t129 := ht130.symm
        have g135 : gi M118 14 3 = t131 := ht132.symm
        have g136 : gi M118 14 9 = t22 := (f120.g rfl).trans (ht23.symm)
        refine r_vI (c := 14) (args := [vI depth]) (rest := []) (pc' := 72) D28_69 rfl ck_4_virtual_138 TE29 rfl (Nat.le_of_ble_eq_true rfl) ⟨Nat.le_of_ble_eq_true rfl, Nat.le_of_ble_eq_true rfl⟩ sc_14 ⟨rfl, by decide⟩ H119.1 (dp_0 hd rfl) (k29_14x E (dp_n hd rfl) H119 depth ct t129 t131 t22 (by omega) (by omega) (by omega) (by omega) (by omega) (by omega) (by omega) (by omega) (by omega) (by omega) (hp128)) ?_
        intro v137 M138 q148
        obtain ⟨H139, f140, q141, q142, q143, q144, q145, q146, q147⟩ := q148
        have f149 := f126.tr (f140.up rfl)
        have hp150 := hp127.sm q147 (by omega)
        obtain ⟨t151, ht152⟩ : ∃ q, q = gi M138 14 2 := ⟨_, rfl⟩
        have b_t151 := H139.2 14 2 0 400 rfl
        rw [← ht152] at b_t151
        obtain ⟨t153, ht154⟩ : ∃ q, q = gi M138 14 3 := ⟨_, rfl⟩
        have b_t153 := H139.2 14 3 0 511 rfl
        rw [← ht154] at b_t153
        obtain ⟨t155, ht156⟩ : ∃ q, q = gi M138 14 9 := ⟨_, rfl⟩
        have b_t155 := H139.2 14 9 0 400 rfl
        rw [← ht156] at b_t155
        rw [← ht152] at q142
        rw [← ht152, ← ht154] at q143
        rw [← ht154] at q144
        rw [← ht152, ← ht156] at q145
        rw [← ht156] at q146
        refine s_blx (lv' := [(3, vI v137), (2, vI 7), (0, vR 14), (1, vI depth)]) (st' := [vI 0, vI 7, vR 14]) B28_72_76 rfl ?_
        have g157 : gi M138 14 9 = t155 := ht156.symm
        refine r_vI (c := 14) (args := [vI 7, vI 0]) (rest := []) (pc' := 79) D28_76 rfl ck_4_virtual_118 TE37 rfl (Nat.le_of_ble_eq_true rfl) ⟨Nat.le_of_ble_eq_true rfl, Nat.le_of_ble_eq_true rfl⟩ sc_14 ⟨rfl, by decide⟩ H139.1 (dp_0 hd rfl) (k37_14x E (dp_n hd rfl) H139 7 0 t155 (by omega) (by omega) (by omega) (by omega) (by omega) (q146)) ?_
        intro v158 M159 q167
        obtain ⟨H160, f161, q162, q163, q164, q165, q166⟩ := q167
        have f168 := f149.tr (f161.up rfl)
        have hp169 := hp150.sm q166 (by omega)
        obtain ⟨t170, ht171⟩ : ∃ q, q = gi M159 14 9 := ⟨_, rfl⟩
        have b_t170 := H160.2 14 9 0 400 rfl
        rw [← ht171] at b_t170
        rw [← ht171] at q163
        rw [← ht171] at q165
        refine s_blx (lv' := [(3, vI v137), (2, vI 7), (0, vR 14), (1, vI depth)]) (st' := [vI v137]) B28_79_81 rfl ?_
        have g172 : gi M159 14 2 = t151 := (f161.g rfl).trans (ht152.symm)
        have g173 : gi M159 14 3 = t153 := (f161.g rfl).trans (ht154.symm)
        have g174 : gi M159 14 9 = t170 := ht171.symm
        exact r_zretI D28_81 rfl (by omega) (⟨H160, f168, by omega, by rw [g172]; omega, by rw [g172, g173]; omega, by rw [g173]; omega, by rw [g172, g174]; omega, by rw [(ht171.symm)]; exact q165, hp169⟩)
    · refine s_blx (lv' := [(2, vI 6), (0, vR 14), (1, vI depth)]) (st' := []) B28_20_23 rfl ?_
      refine r_goto (tgt := 63) D28_23 rfl ?_
      refine s_blx (lv' := [(2, vI 6), (0, vR 14), (1, vI depth)]) (st' := [vR 14]) B28_63_64 rfl ?_
      have g175 : gi M5 15 ct = gi M 15 ct := (f7.g rfl).trans (rfl)
      have g176 : gi M5 14 2 = t18 := ht19.symm
      have g177 : gi M5 14 3 = t20 := ht21.symm
      refine r_vV (c := 14) (args := []) (rest := []) (pc' := 67) D28_64 rfl ck_4_virtual_105 TE35 rfl (Nat.le_of_ble_eq_true rfl) ⟨Nat.le_of_ble_eq_true rfl, Nat.le_of_ble_eq_true rfl⟩ sc_14 ⟨rfl, by decide⟩ H6.1 (dp_0 hd rfl) (k35_14x E (dp_n hd rfl) H6 ct t18 t20 (by omega) (by omega) (by omega) (by omega) (by omega) (by omega) (by omega) (by omega)) ?_
      intro M179 q186
      obtain ⟨H180, f181, q182, q183, q184, q185⟩ := q186
      have f187 := f16.tr (f181.up rfl)
      have hp188 := hp17.fr f181 (by decide)
      have hp189 := q13.fr f181 (by decide)
      obtain ⟨t190, ht191⟩ : ∃ q, q = gi M179 14 2 := ⟨_, rfl⟩
      have b_t190 := H180.2 14 2 0 400 rfl
      rw [← ht191] at b_t190
      obtain ⟨t192, ht193⟩ : ∃ q, q = gi M179 14 3 := ⟨_, rfl⟩
      have b_t192 := H180.2 14 3 0 511 rfl
      rw [← ht193] at b_t192
      rw [← ht191] at q182
      rw [← ht193] at q184
      rw [← ht193] at q185
      refine s_blx (lv' := [(2, vI 6), (0, vR 14), (1, vI depth)]) (st' := [vI depth, vR 14]) B28_67_69 rfl ?_
      have g194 : gi M179 15 ct = gi M 15 ct := (f181.g rfl).trans ((f7.g rfl).trans (rfl))
      have g195 : gi M179 14 2 = t190 := ht191.symm
      have g196 : gi M179 14 3 = t192 := ht193.symm
      have g197 : gi M179 14 9 = t22 := (f181.g rfl).trans (ht23.symm)
      refine r_vI (c := 14) (args := [vI depth]) (rest := []) (pc' := 72) D28_69 rfl ck_4_virtual_138 TE29 rfl (Nat.le_of_ble_eq_true rfl) ⟨Nat.le_of_ble_eq_true rfl, Nat.le_of_ble_eq_true rfl⟩ sc_14 ⟨rfl, by decide⟩ H180.1 (dp_0 hd rfl) (k29_14x E (dp_n hd rfl) H180 depth ct t190 t192 t22 (by omega) (by omega) (by omega) (by omega) (by omega) (by omega) (by omega) (by omega) (by omega) (by omega) (hp189)) ?_
      intro v198 M199 q209
      obtain ⟨H200, f201, q202, q203, q204, q205, q206, q207, q208⟩ := q209
      have f210 := f187.tr (f201.up rfl)
      have hp211 := hp188.sm q208 (by omega)
      obtain ⟨t212, ht213⟩ : ∃ q, q = gi M199 14 2 := ⟨_, rfl⟩
      have b_t212 := H200.2 14 2 0 400 rfl
      rw [← ht213] at b_t212
      obtain ⟨t214, ht215⟩ : ∃ q, q = gi M199 14 3 := ⟨_, rfl⟩
      have b_t214 := H200.2 14 3 0 511 rfl
      rw [← ht215] at b_t214
      obtain ⟨t216, ht217⟩ : ∃ q, q = gi M199 14 9 := ⟨_, rfl⟩
      have b_t216 := H200.2 14 9 0 400 rfl
      rw [← ht217] at b_t216
      rw [← ht213] at q203
      rw [← ht213, ← ht215] at q204
      rw [← ht215] at q205
      rw [← ht213, ← ht217] at q206
      rw [← ht217] at q207
      refine s_blx (lv' := [(3, vI v198), (2, vI 6), (0, vR 14), (1, vI depth)]) (st' := [vI 0, vI 6, vR 14]) B28_72_76 rfl ?_
      have g218 : gi M199 14 9 = t216 := ht217.symm
      refine r_vI (c := 14) (args := [vI 6, vI 0]) (rest := []) (pc' := 79) D28_76 rfl ck_4_virtual_118 TE37 rfl (Nat.le_of_ble_eq_true rfl) ⟨Nat.le_of_ble_eq_true rfl, Nat.le_of_ble_eq_true rfl⟩ sc_14 ⟨rfl, by decide⟩ H200.1 (dp_0 hd rfl) (k37_14x E (dp_n hd rfl) H200 6 0 t216 (by omega) (by omega) (by omega) (by omega) (by omega) (q207)) ?_
      intro v219 M220 q228
      obtain ⟨H221, f222, q223, q224, q225, q226, q227⟩ := q228
      have f229 := f210.tr (f222.up rfl)
      have hp230 := hp211.sm q227 (by omega)
      obtain ⟨t231, ht232⟩ : ∃ q, q = gi M220 14 9 := ⟨_, rfl⟩
      have b_t231 := H221.2 14 9 0 400 rfl
      rw [← ht232] at b_t231
      rw [← ht232] at q224
      rw [← ht232] at q226
      refine s_blx (lv' := [(3, vI v198), (2, vI 6), (0, vR 14), (1, vI depth)]) (st' := [vI v198]) B28_79_81 rfl ?_
      have g233 : gi M220 14 2 = t212 := (f222.g rfl).trans (ht213.symm)
      have g234 : gi M220 14 3 = t214 := (f222.g rfl).trans (ht215.symm)
      have g235 : gi M220 14 9 = t231 := ht232.symm
      exact r_zretI D28_81 rfl (by omega) (⟨H221, f229, by omega, by rw [g233]; omega, by rw [g233, g234]; omega, by rw [g234]; omega, by rw [g233, g235]; omega, by rw [(ht232.symm)]; exact q226, hp230⟩)
  · refine s_blx (lv' := [(0, vR 14), (1, vI depth)]) (st' := [vI 0]) B28_8_9 rfl ?_
    have g236 : gi M5 14 2 = t18 := ht19.symm
    have g237 : gi M5 14 3 = t20 := ht21.symm
    have g238 : gi M5 14 9 = t22 := ht23.symm
    exact r_zretI D28_9 rfl (by omega) (⟨H6, f16, by omega, by rw [g236]; omega, by rw [g236, g237]; omega, by rw [g237]; omega, by rw [g236, g238]; omega, by rw [(ht23.symm)]; exact q13, hp17⟩)
set_option maxRecDepth 4000 in
theorem L_k27_14x {base : Nat} {X : Nat → Option mC} {G : Nat → Value} (E : EnvOK base X G) {rr : Nat} (ihr : ∀ {d : Nat} (_ : 30 + 3 * rr ≤ d) {M : mH} (_ : HI base M) (depth : Int) (ct : Int) (at_ : Int) (kd : Int) (us : Int), (gi M 15 ct = 22) → (0 ≤ ct ∧ ct ≤ 400) → (gi M 14 2 = at_) → (gi M 14 3 = kd) → (0 ≤ at_ ∧ at_ ≤ ct) → (at_ = ct → kd = 22) → (0 ≤ kd ∧ kd ≤ 511) → (gi M 14 9 = us) → (0 ≤ us ∧ us ≤ at_) → (0 ≤ depth ∧ depth ≤ 8) → (CD us M) → 8 - depth < ((rr : Nat) : Int) → sOk base X G d T25 [vR 14, vI depth] M (pI (fun v M' => HI base M' ∧ Fr [(14, 3), (14, 4), (14, 5), (14, 10), (14, 11), (19, 0)] M M' ∧ (v = 0 ∨ v = 1) ∧ (at_ ≤ gi M' 14 2 ∧ gi M' 14 2 ≤ ct) ∧ (gi M' 14 2 = ct → gi M' 14 3 = 22) ∧ (0 ≤ gi M' 14 3 ∧ gi M' 14 3 ≤ 511) ∧ (us ≤ gi M' 14 9 ∧ gi M' 14 9 - us ≤ gi M' 14 2 - at_) ∧ (CD (gi M' 14 9) M') ∧ (∀ j : Int, 0 ≤ j → j < us → gi M' 19 j = gi M 19 j)))) {d : Nat} (hd : 31 + 3 * rr ≤ d) {M : mH} (H : HI base M) (depth : Int) (ct : Int) (at_ : Int) (kd : Int) (us : Int) (h0 : gi M 15 ct = 22) (h1 : 0 ≤ ct ∧ ct ≤ 400) (h2 : gi M 14 2 = at_) (h3 : gi M 14 3 = kd) (h4 : 0 ≤ at_ ∧ at_ ≤ ct) (h5 : at_ = ct → kd = 22) (h6 : 0 ≤ kd ∧ kd ≤ 511) (h7 : gi M 14 9 = us) (h8 : 0 ≤ us ∧ us ≤ at_) (h9 : 0 ≤ depth ∧ depth ≤ 8) (h10 : CD us M) (h11 : 8 - depth < (rr : Int) + 1) : ∀ mz : Nat, (∀ (x2 x3 a0 k0 : Int) (N : mH), HI base N → Fr [(14, 3), (14, 4), (14, 5), (14, 10), (14, 11), (19, 0)] M N → (gi N 14 2 = a0) → (gi N 14 3 = k0) → (gi N 14 9 = us) → (at_ ≤ a0 ∧ a0 ≤ ct) → (a0 = ct → k0 = 22) → (0 ≤ k0 ∧ k0 ≤ 511) → (gi N 15 ct = 22) → (CD us N) → (CZ us (gi M 19) N) → (0 ≤ x2 ∧ x2 ≤ 400) → (x2 = x3) → (x2 ≤ a0 - at_) → (0 ≤ x2) → (x2 ≤ 401) → (0 ≤ x3) → (x3 ≤ 400) → (400 - x3) * 1 + 0 < (mz : Int) → sRn base X G d T27 4 [(0, vR 14), (1, vI depth), (2, vI x2), (3, vI x3)] [] N (s_Q base (pI (fun v M' => HI base M' ∧ Fr [(14, 3), (14, 4), (14, 5), (14, 10), (14, 11), (19, 0)] M M' ∧ (v = 0 ∨ v = 1) ∧ (at_ ≤ gi M' 14 2 ∧ gi M' 14 2 ≤ ct) ∧ (gi M' 14 2 = ct → gi M' 14 3 = 22) ∧ (0 ≤ gi M' 14 3 ∧ gi M' 14 3 ≤ 511) ∧ (us ≤ gi M' 14 9 ∧ gi M' 14 9 - us ≤ gi M' 14 2 - at_) ∧ (CD (gi M' 14 9) M') ∧ (∀ j : Int, 0 ≤ j → j < us → gi M' 19 j = gi M 19 j))))) := by
  have f0 : Fr [(14, 3), (14, 4), (14, 5), (14, 10), (14, 11), (19, 0)] M M := Fr.rf
  intro mz
  induction mz with
  | zero => exact fun x2 x3 a0 k0 N _ _ z0 z1 z2 z3 z4 z5 z6 z7 z8 z9 z10 z11 z12 z13 z14 z15 z16 => by omega
  | succ mz ih =>
    intro x2 x3 a0 k0 N HN fN i0 i1 i2 i3 i4 i5 i6 i7 i8 i9 i10 i11 i12 i13 i14 i15 hmu
    refine s_blx (lv' := [(0, vR 14), (1, vI depth), (2, vI x2), (3, vI x3)]) (st' := [vI 400, vI x3]) B27_4_8 rfl ?_
    refine r_icmp (tgt := 33) (pc' := 11) D27_8 rfl rfl (by unfold inR; omega) (fun (c5 : 400 ≤ x3) => ?_) (fun (c5 : ¬ (400 ≤ x3)) => ?_)
    · refine s_blx (lv' := [(0, vR 14), (1, vI depth), (2, vI x2), (3, vI x3)]) (st' := [vR 14]) B27_33_34 rfl ?_
      refine r_gint (ki := 3) (pc' := 37) D27_34 rfl gf_4_22_14 rfl HN.1 ?_
      intro w6 e7 r8
      have e9 : k0 = w6 := (e7.trans (i1)).symm
      subst e9
      refine s_blx (lv' := [(0, vR 14), (1, vI depth), (2, vI x2), (3, vI x3)]) (st' := [vI 140, vI k0]) B27_37_40 rfl ?_
      refine r_icmp (tgt := 79) (pc' := 43) D27_40 rfl rfl (by unfold inR; omega) (fun (c10 : k0 ≠ 140) => ?_) (fun (c10 : ¬ (k0 ≠ 140)) => ?_)
      · refine s_blx (lv' := [(0, vR 14), (1, vI depth), (2, vI x2), (3, vI x3)]) (st' := [vR 14]) B27_79_80 rfl ?_
        refine r_gint (ki := 3) (pc' := 83) D27_80 rfl gf_4_22_14 rfl HN.1 ?_
        intro w11 e12 r13
        have e14 : k0 = w11 := (e12.trans (i1)).symm
        subst e14
        refine s_blx (lv' := [(0, vR 14), (1, vI depth), (2, vI x2), (3, vI x3)]) (st' := [vI 10, vI k0]) B27_83_85 rfl ?_
        refine r_icmp (tgt := 113) (pc' := 88) D27_85 rfl rfl (by unfold inR; omega) (fun (c15 : k0 < 10) => ?_) (fun (c15 : ¬ (k0 < 10)) => ?_)
        · refine s_blx (lv' := [(0, vR 14), (1, vI depth), (2, vI x2), (3, vI x3)]) (st' := [vI depth, vR 14]) B27_113_115 rfl ?_
          have g16 : gi N 14 2 = a0 := i0
          have g17 : gi N 14 3 = k0 := i1
          have g18 : gi N 14 9 = us := i2
          refine r_vI (c := 14) (args := [vI depth]) (rest := []) (pc' := 118) D27_115 rfl ck_4_virtual_135 TE28 rfl (Nat.le_of_ble_eq_true rfl) ⟨Nat.le_of_ble_eq_true rfl, Nat.le_of_ble_eq_true rfl⟩ sc_14 ⟨rfl, by decide⟩ HN.1 (by omega) (k28_14x E (by omega) HN depth ct a0 k0 us (by omega) (by omega) (by omega) (by omega) (by omega) (by omega) (by omega) (by omega) (by omega) (by omega) (i7)) ?_
          intro v19 M20 q30
          obtain ⟨H21, f22, q23, q24, q25, q26, q27, q28, q29⟩ := q30
          have f31 := fN.tr (f22.up rfl)
          have hp32 := i8.sm q29 (by omega)
          obtain ⟨t33, ht34⟩ : ∃ q, q = gi M20 14 2 := ⟨_, rfl⟩
          have b_t33 := H21.2 14 2 0 400 rfl
          rw [← ht34] at b_t33
          obtain ⟨t35, ht36⟩ : ∃ q, q = gi M20 14 3 := ⟨_, rfl⟩
          have b_t35 := H21.2 14 3 0 511 rfl
          rw [← ht36] at b_t35
          obtain ⟨t37, ht38⟩ : ∃ q, q = gi M20 14 9 := ⟨_, rfl⟩
          have b_t37 := H21.2 14 9 0 400 rfl
          rw [← ht38] at b_t37
          rw [← ht34] at q24
          rw [← ht34, ← ht36] at q25
          rw [← ht36] at q26
          rw [← ht34, ← ht38] at q27
          rw [← ht38] at q28
          refine s_blx (lv' := [(3, vI v19), (0, vR 14), (1, vI depth), (2, vI x2)]) (st' := [vI v19]) B27_118_120 rfl ?_
          refine r_ifc (tgt := 138) (pc' := 123) D27_120 rfl rfl (by unfold inR; omega) (fun (c39 : v19 = 0) => ?_) (fun (c39 : ¬ (v19 = 0)) => ?_)
          · refine s_blx (lv' := [(3, vI v19), (0, vR 14), (1, vI depth), (2, vI x2)]) (st' := [vI v19]) B27_138_139 rfl ?_
            have g40 : gi M20 14 2 = t33 := ht34.symm
            have g41 : gi M20 14 3 = t35 := ht36.symm
            have g42 : gi M20 14 9 = t37 := ht38.symm
            exact r_zretI D27_139 rfl (by omega) (⟨H21, f31, by omega, by rw [g40]; omega, by rw [g40, g41]; omega, by rw [g41]; omega, by rw [g40, g42]; omega, by rw [(ht38.symm)]; exact q28, hp32⟩)
          · refine s_blx (lv' := [(3, vI v19), (0, vR 14), (1, vI depth), (2, vI x2)]) (st' := [vI 2, vI x2]) B27_123_125 rfl ?_
            refine r_irem (pc' := 126) D27_125 rfl (by omega) ?_
            refine s_blx (lv' := [(3, vI v19), (0, vR 14), (1, vI depth), (2, vI x2)]) (st' := [vI 1, vI (x2 % 2)]) B27_126_127 rfl ?_
            refine r_icmp (tgt := 138) (pc' := 130) D27_127 rfl rfl (by unfold inR; omega) (fun (c43 : (x2 % 2) ≠ 1) => ?_) (fun (c43 : ¬ ((x2 % 2) ≠ 1)) => ?_)
            · refine s_blx (lv' := [(3, vI v19), (0, vR 14), (1, vI depth), (2, vI x2)]) (st' := [vI v19]) B27_138_139 rfl ?_
              have g44 : gi M20 14 2 = t33 := ht34.symm
              have g45 : gi M20 14 3 = t35 := ht36.symm
              have g46 : gi M20 14 9 = t37 := ht38.symm
              exact r_zretI D27_139 rfl (by omega) (⟨H21, f31, by omega, by rw [g44]; omega, by rw [g44, g45]; omega, by rw [g45]; omega, by rw [g44, g46]; omega, by rw [(ht38.symm)]; exact q28, hp32⟩)
            · refine s_blx (lv' := [(3, vI v19), (0, vR 14), (1, vI depth), (2, vI x2)]) (st' := [vI 0, vI 9, vR 14]) B27_130_134 rfl ?_
              have g47 : gi M20 14 9 = t37 := ht38.symm
              refine r_vI (c := 14) (args := [vI 9, vI 0]) (rest := []) (pc' := 137) D27_134 rfl ck_4_virtual_118 TE37 rfl (Nat.le_of_ble_eq_true rfl) ⟨Nat.le_of_ble_eq_true rfl, Nat.le_of_ble_eq_true rfl⟩ sc_14 ⟨rfl, by decide⟩ H21.1 (by omega) (k37_14x E (by omega) H21 9 0 t37 (by omega) (by omega) (by omega) (by omega) (by omega) (q28)) ?_
              intro v48 M49 q57
              obtain ⟨H50, f51, q52, q53, q54, q55, q56⟩ := q57
              have f58 := f31.tr (f51.up rfl)
              have hp59 := hp32.sm q56 (by omega)
              obtain ⟨t60, ht61⟩ : ∃ q, q = gi M49 14 9 := ⟨_, rfl⟩
              have b_t60 := H50.2 14 9 0 400 rfl
              rw [← ht61] at b_t60
              rw [← ht61] at q53
              rw [← ht61] at q55
              refine s_blx (lv' := [(3, vI v19), (0, vR 14), (1, vI depth), (2, vI x2)]) (st' := [vI v19]) B27_137_139 rfl ?_
              have g62 : gi M49 14 2 = t33 := (f51.g rfl).trans (ht34.symm)
              have g63 : gi M49 14 3 = t35 := (f51.g rfl).trans (ht36.symm)
              have g64 : gi M49 14 9 = t60 := ht61.symm
              exact r_zretI D27_139 rfl (by omega) (⟨H50, f58, by omega, by rw [g62]; omega, by rw [g62, g63]; omega, by rw [g63]; omega, by rw [g62, g64]; omega, by rw [(ht61.symm)]; exact q55, hp59⟩)
        · refine s_blx (lv' := [(0, vR 14), (1, vI depth), (2, vI x2), (3, vI x3)]) (st' := [vR 14]) B27_88_89 rfl ?_
          refine r_gint (ki := 3) (pc' := 92) D27_89 rfl gf_4_22_14 rfl HN.1 ?_
          intro w65 e66 r67
          have e68 : k0 = w65 := (e66.trans (i1)).symm
          subst e68
          refine s_blx (lv' := [(0, vR 14), (1, vI depth), (2, vI x2), (3, vI x3)]) (st' := [vI 12, vI k0]) B27_92_94 rfl ?_
          refine r_icmp (tgt := 113) (pc' := 97) D27_94 rfl rfl (by unfold inR; omega) (fun (c69 : 12 ≤ k0) => ?_) (fun (c69 : ¬ (12 ≤ k0)) => ?_)
          · refine s_blx (lv' := [(0, vR 14), (1, vI depth), (2, vI x2), (3, vI x3)]) (st' := [vI depth, vR 14]) B27_113_115 rfl ?_
            have g70 : gi N 14 2 = a0 := i0
            have g71 : gi N 14 3 = k0 := i1
            have g72 : gi N 14 9 = us := i2
            refine r_vI (c := 14) (args := [vI depth]) (rest := []) (pc' := 118) D27_115 rfl ck_4_virtual_135 TE28 rfl (Nat.le_of_ble_eq_true rfl) ⟨Nat.le_of_ble_eq_true rfl, Nat.le_of_ble_eq_true rfl⟩ sc_14 ⟨rfl, by decide⟩ HN.1 (by omega) (k28_14x E (by omega) HN depth ct a0 k0 us (by omega) (by omega) (by omega) (by omega) (by omega) (by omega) (by omega) (by omega) (by omega) (by omega) (i7)) ?_
            intro v73 M74 q84
            obtain ⟨H75, f76, q77, q78, q79, q80, q81, q82, q83⟩ := q84
            have f85 := fN.tr (f76.up rfl)
            have hp86 := i8.sm q83 (by omega)
            obtain ⟨t87, ht88⟩ : ∃ q, q = gi M74 14 2 := ⟨_, rfl⟩
            have b_t87 := H75.2 14 2 0 400 rfl
            rw [← ht88] at b_t87
            obtain ⟨t89, ht90⟩ : ∃ q, q = gi M74 14 3 := ⟨_, rfl⟩
            have b_t89 := H75.2 14 3 0 511 rfl
            rw [← ht90] at b_t89
            obtain ⟨t91, ht92⟩ : ∃ q, q = gi M74 14 9 := ⟨_, rfl⟩
            have b_t91 := H75.2 14 9 0 400 rfl
            rw [← ht92] at b_t91
            rw [← ht88] at q78
            rw [← ht88, ← ht90] at q79
            rw [← ht90] at q80
            rw [← ht88, ← ht92] at q81
            rw [← ht92] at q82
            refine s_blx (lv' := [(3, vI v73), (0, vR 14), (1, vI depth), (2, vI x2)]) (st' := [vI v73]) B27_118_120 rfl ?_
            refine r_ifc (tgt := 138) (pc' := 123) D27_120 rfl rfl (by unfold inR; omega) (fun (c93 : v73 = 0) => ?_) (fun (c93 : ¬ (v73 = 0)) => ?_)
            · refine s_blx (lv' := [(3, vI v73), (0, vR 14), (1, vI depth), (2, vI x2)]) (st' := [vI v73]) B27_138_139 rfl ?_
              have g94 : gi M74 14 2 = t87 := ht88.symm
              have g95 : gi M74 14 3 = t89 := ht90.symm
              have g96 : gi M74 14 9 = t91 := ht92.symm
              exact r_zretI D27_139 rfl (by omega) (⟨H75, f85, by omega, by rw [g94]; omega, by rw [g94, g95]; omega, by rw [g95]; omega, by rw [g94, g96]; omega, by rw [(ht92.symm)]; exact q82, hp86⟩)
            · refine s_blx (lv' := [(3, vI v73), (0, vR 14), (1, vI depth), (2, vI x2)]) (st' := [vI 2, vI x2]) B27_123_125 rfl ?_
              refine r_irem (pc' := 126) D27_125 rfl (by omega) ?_
              refine s_blx (lv' := [(3, vI v73), (0, vR 14), (1, vI depth), (2, vI x2)]) (st' := [vI 1, vI (x2 % 2)]) B27_126_127 rfl ?_
              refine r_icmp (tgt := 138) (pc' := 130) D27_127 rfl rfl (by unfold inR; omega) (fun (c97 : (x2 % 2) ≠ 1) => ?_) (fun (c97 : ¬ ((x2 % 2) ≠ 1)) => ?_)
              · refine s_blx (lv' := [(3, vI v73), (0, vR 14), (1, vI depth), (2, vI x2)]) (st' := [vI v73]) B27_138_139 rfl ?_
                have g98 : gi M74 14 2 = t87 := ht88.symm
                have g99 : gi M74 14 3 = t89 := ht90.symm
                have g100 : gi M74 14 9 = t91 := ht92.symm
                exact r_zretI D27_139 rfl (by omega) (⟨H75, f85, by omega, by rw [g98]; omega, by rw [g98, g99]; omega, by rw [g99]; omega, by rw [g98, g100]; omega, by rw [(ht92.symm)]; exact q82, hp86⟩)
              · refine s_blx (lv' := [(3, vI v73), (0, vR 14), (1, vI depth), (2, vI x2)]) (st' := [vI 0, vI 9, vR 14]) B27_130_134 rfl ?_
                have g101 : gi M74 14 9 = t91 := ht92.symm
                refine r_vI (c := 14) (args := [vI 9, vI 0]) (rest := []) (pc' := 137) D27_134 rfl ck_4_virtual_118 TE37 rfl (Nat.le_of_ble_eq_true rfl) ⟨Nat.le_of_ble_eq_true rfl, Nat.le_of_ble_eq_true rfl⟩ sc_14 ⟨rfl, by decide⟩ H75.1 (by omega) (k37_14x E (by omega) H75 9 0 t91 (by omega) (by omega) (by omega) (by omega) (by omega) (q82)) ?_
                intro v102 M103 q111
                obtain ⟨H104, f105, q106, q107, q108, q109, q110⟩ := q111
                have f112 := f85.tr (f105.up rfl)
                have hp113 := hp86.sm q110 (by omega)
                obtain ⟨t114, ht115⟩ : ∃ q, q = gi M103 14 9 := ⟨_, rfl⟩
                have b_t114 := H104.2 14 9 0 400 rfl
                rw [← ht115] at b_t114
                rw [← ht115] at q107
                rw [← ht115] at q109
                refine s_blx (lv' := [(3, vI v73), (0, vR 14), (1, vI depth), (2, vI x2)]) (st' := [vI v73]) B27_137_139 rfl ?_
                have g116 : gi M103 14 2 = t87 := (f105.g rfl).trans (ht88.symm)
                have g117 : gi M103 14 3 = t89 := (f105.g rfl).trans (ht90.symm)
                have g118 : gi M103 14 9 = t114 := ht115.symm
                exact r_zretI D27_139 rfl (by omega) (⟨H104, f112, by omega, by rw [g116]; omega, by rw [g116, g117]; omega, by rw [g117]; omega, by rw [g116, g118]; omega, by rw [(ht115.symm)]; exact q109, hp113⟩)
          · refine s_blx (lv' := [(0, vR 14), (1, vI depth), (2, vI x2), (3, vI x3)]) (st' := [vR 14, vI 1, vR 14]) B27_97_100 rfl ?_
            refine r_gint (ki := 3) (pc' := 103) D27_100 rfl gf_4_22_14 rfl HN.1 ?_
            intro w119 e120 r121
            have e122 : k0 = w119 := (e120.trans (i1)).symm
            subst e122
            refine s_blx (lv' := [(0, vR 14), (1, vI depth), (2, vI x2), (3, vI x3)]) (st' := [vI (k0 - 10), vI 1, vR 14]) B27_103_106 rfl ?_
            have g123 : gi N 14 2 = a0 := i0
            have g124 : gi N 14 3 = k0 := i1
            have g125 : gi N 14 9 = us := i2
            refine r_vI (c := 14) (args := [vI 1, vI (k0 - 10)]) (rest := []) (pc' := 109) D27_106 rfl ck_4_virtual_131 TE33 rfl (Nat.le_of_ble_eq_true rfl) ⟨Nat.le_of_ble_eq_true rfl, Nat.le_of_ble_eq_true rfl⟩ sc_14 ⟨rfl, by decide⟩ HN.1 (by omega) (k33_14x E (by omega) HN 1 (k0 - 10) ct a0 k0 us (by omega) (by omega) (by omega) (by omega) (by omega) (by omega) (by omega) (by omega) (by omega) (by omega) (by omega) (by omega) (by omega) (i7)) ?_
            intro v126 M127 q137
            obtain ⟨H128, f129, q130, q131, q132, q133, q134, q135, q136⟩ := q137
            have f138 := fN.tr (f129.up rfl)
            have hp139 := i8.sm q136 (by omega)
            obtain ⟨t140, ht141⟩ : ∃ q, q = gi M127 14 2 := ⟨_, rfl⟩
            have b_t140 := H128.2 14 2 0 400 rfl
            rw [← ht141] at b_t140
            obtain ⟨t142, ht143⟩ : ∃ q, q = gi M127 14 3 := ⟨_, rfl⟩
            have b_t142 := H128.2 14 3 0 511 rfl
            rw [← ht143] at b_t142
            obtain ⟨t144, ht145⟩ : ∃ q, q = gi M127 14 9 := ⟨_, rfl⟩
            have b_t144 := H128.2 14 9 0 400 rfl
            rw [← ht145] at b_t144
            rw [← ht141] at q131
            rw [← ht141, ← ht143] at q132
            rw [← ht143] at q133
            rw [← ht141, ← ht145] at q134
            rw [← ht145] at q135
            refine s_blx (lv' := [(3, vI v126), (0, vR 14), (1, vI depth), (2, vI x2)]) (st' := []) B27_109_110 rfl ?_
            refine r_goto (tgt := 119) D27_110 rfl ?_
            refine s_blx (lv' := [(3, vI v126), (0, vR 14), (1, vI depth), (2, vI x2)]) (st' := [vI v126]) B27_119_120 rfl ?_
            refine r_ifc (tgt := 138) (pc' := 123) D27_120 rfl rfl (by unfold inR; omega) (fun (c146 : v126 = 0) => ?_) (fun (c146 : ¬ (v126 = 0)) => ?_)
            · refine s_blx (lv' := [(3, vI v126), (0, vR 14), (1, vI depth), (2, vI x2)]) (st' := [vI v126]) B27_138_139 rfl ?_
              have g147 : gi M127 14 2 = t140 := ht141.symm
              have g148 : gi M127 14 3 = t142 := ht143.symm
              have g149 : gi M127 14 9 = t144 := ht145.symm
              exact r_zretI D27_139 rfl (by omega) (⟨H128, f138, by omega, by rw [g147]; omega, by rw [g147, g148]; omega, by rw [g148]; omega, by rw [g147, g149]; omega, by rw [(ht145.symm)]; exact q135, hp139⟩)
            · refine s_blx (lv' := [(3, vI v126), (0, vR 14), (1, vI depth), (2, vI x2)]) (st' := [vI 2, vI x2]) B27_123_125 rfl ?_
              refine r_irem (pc' := 126) D27_125 rfl (by omega) ?_
              refine s_blx (lv' := [(3, vI v126), (0, vR 14), (1, vI depth), (2, vI x2)]) (st' := [vI 1, vI (x2 % 2)]) B27_126_127 rfl ?_
              refine r_icmp (tgt := 138) (pc' := 130) D27_127 rfl rfl (by unfold inR; omega) (fun (c150 : (x2 % 2) ≠ 1) => ?_) (fun (c150 : ¬ ((x2 % 2) ≠ 1)) => ?_)
              · refine s_blx (lv' := [(3, vI v126), (0, vR 14), (1, vI depth), (2, vI x2)]) (st' := [vI v126]) B27_138_139 rfl ?_
                have g151 : gi M127 14 2 = t140 := ht141.symm
                have g152 : gi M127 14 3 = t142 := ht143.symm
                have g153 : gi M127 14 9 = t144 := ht145.symm
                exact r_zretI D27_139 rfl (by omega) (⟨H128, f138, by omega, by rw [g151]; omega, by rw [g151, g152]; omega, by rw [g152]; omega, by rw [g151, g153]; omega, by rw [(ht145.symm)]; exact q135, hp139⟩)
              · refine s_blx (lv' := [(3, vI v126), (0, vR 14), (1, vI depth), (2, vI x2)]) (st' := [vI 0, vI 9, vR 14]) B27_130_134 rfl ?_
                have g154 : gi M127 14 9 = t144 := ht145.symm
                refine r_vI (c := 14) (args := [vI 9, vI 0]) (rest := []) (pc' := 137) D27_134 rfl ck_4_virtual_118 TE37 rfl (Nat.le_of_ble_eq_true rfl) ⟨Nat.le_of_ble_eq_true rfl, Nat.le_of_ble_eq_true rfl⟩ sc_14 ⟨rfl, by decide⟩ H128.1 (by omega) (k37_14x E (by omega) H128 9 0 t144 (by omega) (by omega) (by omega) (by omega) (by omega) (q135)) ?_
                intro v155 M156 q164
                obtain ⟨H157, f158, q159, q160, q161, q162, q163⟩ := q164
                have f165 := f138.tr (f158.up rfl)
                have hp166 := hp139.sm q163 (by omega)
                obtain ⟨t167, ht168⟩ : ∃ q, q = gi M156 14 9 := ⟨_, rfl⟩
                have b_t167 := H157.2 14 9 0 400 rfl
                rw [← ht168] at b_t167
                rw [← ht168] at q160
                rw [← ht168] at q162
                refine s_blx (lv' := [(3, vI v126), (0, vR 14), (1, vI depth), (2, vI x2)]) (st' := [vI v126]) B27_137_139 rfl ?_
                have g169 : gi M156 14 2 = t140 := (f158.g rfl).trans (ht141.symm)
                have g170 : gi M156 14 3 = t142 := (f158.g rfl).trans (ht143.symm)
                have g171 : gi M156 14 9 = t167 := ht168.symm
                exact r_zretI D27_139 rfl (by omega) (⟨H157, f165, by omega, by rw [g169]; omega, by rw [g169, g170]; omega, by rw [g170]; omega, by rw [g169, g171]; omega, by rw [(ht168.symm)]; exact q162, hp166⟩)
      · refine s_blx (lv' := [(0, vR 14), (1, vI depth), (2, vI x2), (3, vI x3)]) (st' := [vI depth, vR 14]) B27_43_45 rfl ?_
        have g172 : gi N 14 2 = a0 := i0
        have g173 : gi N 14 3 = k0 := i1
        refine r_vI (c := 14) (args := [vI depth]) (rest := []) (pc' := 48) D27_45 rfl ck_4_virtual_128 TE32 rfl (Nat.le_of_ble_eq_true rfl) ⟨Nat.le_of_ble_eq_true rfl, Nat.le_of_ble_eq_true rfl⟩ sc_14 ⟨rfl, by decide⟩ HN.1 (by omega) (k32_14x E (by omega) HN depth ct a0 k0 (by omega) (by omega) (by omega) (by omega) (by omega) (by omega) (by omega) (by omega) (by omega)) ?_
        intro v174 M175 q183
        obtain ⟨H176, f177, q178, q179, q180, q181, q182⟩ := q183
        have f184 := fN.tr (f177.up rfl)
        have hp185 := i7.fr f177 (by decide)
        have hp186 := i8.fr f177 (by decide)
        obtain ⟨t187, ht188⟩ : ∃ q, q = gi M175 14 2 := ⟨_, rfl⟩
        have b_t187 := H176.2 14 2 0 400 rfl
        rw [← ht188] at b_t187
        obtain ⟨t189, ht190⟩ : ∃ q, q = gi M175 14 3 := ⟨_, rfl⟩
        have b_t189 := H176.2 14 3 0 511 rfl
        rw [← ht190] at b_t189
        rw [← ht188] at q179
        rw [← ht188, ← ht190] at q180
        rw [← ht190] at q181
        refine r_ifc (tgt := 74) (pc' := 51) D27_48 rfl rfl (by unfold inR; omega) (fun (c191 : v174 = 0) => ?_) (fun (c191 : ¬ (v174 = 0)) => ?_)
        · refine s_blx (lv' := [(3, vI 0), (0, vR 14), (1, vI depth), (2, vI x2)]) (st' := []) B27_74_76 rfl ?_
          refine r_goto (tgt := 119) D27_76 rfl ?_
          refine s_blx (lv' := [(3, vI 0), (0, vR 14), (1, vI depth), (2, vI x2)]) (st' := [vI 0]) B27_119_120 rfl ?_
          refine r_ifc (tgt := 138) (pc' := 123) D27_120 rfl rfl (by unfold inR; omega) (fun (c192 : 0 = 0) => ?_) (fun (c192 : ¬ (0 = 0)) => ?_)
          · refine s_blx (lv' := [(3, vI 0), (0, vR 14), (1, vI depth), (2, vI x2)]) (st' := [vI 0]) B27_138_139 rfl ?_
            have g193 : gi M175 14 2 = t187 := ht188.symm
            have g194 : gi M175 14 3 = t189 := ht190.symm
            have g195 : gi M175 14 9 = us := (f177.g rfl).trans (i2)
            exact r_zretI D27_139 rfl (by omega) (⟨H176, f184, by omega, by rw [g193]; omega, by rw [g193, g194]; omega, by rw [g194]; omega, by rw [g193, g195]; omega, by rw [((f177.g rfl).trans (i2))]; exact hp185, hp186⟩)
          · exfalso; omega
        · refine s_blx (lv' := [(0, vR 14), (1, vI depth), (2, vI x2), (3, vI x3)]) (st' := [vI (depth + 1), vR 14]) B27_51_55 rfl ?_
          have g196 : gi M175 15 ct = gi N 15 ct := (f177.g rfl).trans (rfl)
          have g197 : gi M175 14 2 = t187 := ht188.symm
          have g198 : gi M175 14 3 = t189 := ht190.symm
          have g199 : gi M175 14 9 = us := (f177.g rfl).trans (i2)
          refine r_vI (c := 14) (args := [vI (depth + 1)]) (rest := []) (pc' := 58) D27_55 rfl ck_4_virtual_108 TE25 rfl (Nat.le_of_ble_eq_true rfl) ⟨Nat.le_of_ble_eq_true rfl, Nat.le_of_ble_eq_true rfl⟩ sc_14 ⟨rfl, by decide⟩ H176.1 (by omega) (ihr (by omega) H176 (depth + 1) ct t187 t189 us (by omega) (by omega) (by omega) (by omega) (by omega) (by omega) (by omega) (by omega) (by omega) (by omega) (hp185) (by omega)) ?_
          intro v200 M201 q211
          obtain ⟨H202, f203, q204, q205, q206, q207, q208, q209, q210⟩ := q211
          have f212 := f184.tr (f203.up rfl)
          have hp213 := hp186.sm q210 (by omega)
          obtain ⟨t214, ht215⟩ : ∃ q, q = gi M201 14 2 := ⟨_, rfl⟩
          have b_t214 := H202.2 14 2 0 400 rfl
          rw [← ht215] at b_t214
          obtain ⟨t216, ht217⟩ : ∃ q, q = gi M201 14 3 := ⟨_, rfl⟩
          have b_t216 := H202.2 14 3 0 511 rfl
          rw [← ht217] at b_t216
          obtain ⟨t218, ht219⟩ : ∃ q, q = gi M201 14 9 := ⟨_, rfl⟩
          have b_t218 := H202.2 14 9 0 400 rfl
          rw [← ht219] at b_t218
          rw [← ht215] at q205
          rw [← ht215, ← ht217] at q206
          rw [← ht217] at q207
          rw [← ht215, ← ht219] at q208
          rw [← ht219] at q209
          refine r_ifc (tgt := 74) (pc' := 61) D27_58 rfl rfl (by unfold inR; omega) (fun (c220 : v200 = 0) => ?_) (fun (c220 : ¬ (v200 = 0)) => ?_)
          · refine s_blx (lv' := [(3, vI 0), (0, vR 14), (1, vI depth), (2, vI x2)]) (st' := []) B27_74_76 rfl ?_
            refine r_goto (tgt := 119) D27_76 rfl ?_
            refine s_blx (lv' := [(3, vI 0), (0, vR 14), (1, vI depth), (2, vI x2)]) (st' := [vI 0]) B27_119_120 rfl ?_
            refine r_ifc (tgt := 138) (pc' := 123) D27_120 rfl rfl (by unfold inR; omega) (fun (c221 : 0 = 0) => ?_) (fun (c221 : ¬ (0 = 0)) => ?_)
            · refine s_blx (lv' := [(3, vI 0), (0, vR 14), (1, vI depth), (2, vI x2)]) (st' := [vI 0]) B27_138_139 rfl ?_
              have g222 : gi M201 14 2 = t214 := ht215.symm
              have g223 : gi M201 14 3 = t216 := ht217.symm
              have g224 : gi M201 14 9 = t218 := ht219.symm
              exact r_zretI D27_139 rfl (by omega) (⟨H202, f212, by omega, by rw [g222]; omega, by rw [g222, g223]; omega, by rw [g223]; omega, by rw [g222, g224]; omega, by rw [(ht219.symm)]; exact q209, hp213⟩)
            · exfalso; omega
          · refine s_blx (lv' := [(0, vR 14), (1, vI depth), (2, vI x2), (3, vI x3)]) (st' := [vI 41, vR 14]) B27_61_64 rfl ?_
            have g225 : gi M201 15 ct = gi N 15 ct := (f203.g rfl).trans ((f177.g rfl).trans (rfl))
            have g226 : gi M201 14 2 = t214 := ht215.symm
            have g227 : gi M201 14 3 = t216 := ht217.symm
            refine r_vI (c := 14) (args := [vI 41]) (rest := []) (pc' := 67) D27_64 rfl ck_4_virtual_111 TE34 rfl (Nat.le_of_ble_eq_true rfl) ⟨Nat.le_of_ble_eq_true rfl, Nat.le_of_ble_eq_true rfl⟩ sc_14 ⟨rfl, by decide⟩ H202.1 (by omega) (k34_14x E (by omega) H202 41 ct t214 t216 (by omega) (by omega) (by omega) (by omega) (by omega) (by omega) (by omega) (by omega)) ?_
            intro v228 M229 q236
            obtain ⟨H230, f231, q232, q233, q234, q235⟩ := q236
            have f237 := f212.tr (f231.up rfl)
            have hp238 := hp213.fr f231 (by decide)
            have hp239 := q209.fr f231 (by decide)
            obtain ⟨t240, ht241⟩ : ∃ q, q = gi M229 14 2 := ⟨_, rfl⟩
            have b_t240 := H230.2 14 2 0 400 rfl
            rw [← ht241] at b_t240
            obtain ⟨t242, ht243⟩ : ∃ q, q = gi M229 14 3 := ⟨_, rfl⟩
            have b_t242 := H230.2 14 3 0 511 rfl
            rw [← ht243] at b_t242
            rw [← ht241] at q233
            rw [← ht241, ← ht243] at q234
            rw [← ht243] at q235
            refine r_ifc (tgt := 74) (pc' := 70) D27_67 rfl rfl (by unfold inR; omega) (fun (c244 : v228 = 0) => ?_) (fun (c244 : ¬ (v228 = 0)) => ?_)
            · refine s_blx (lv' := [(3, vI 0), (0, vR 14), (1, vI depth), (2, vI x2)]) (st' := []) B27_74_76 rfl ?_
              refine r_goto (tgt := 119) D27_76 rfl ?_
              refine s_blx (lv' := [(3, vI 0), (0, vR 14), (1, vI depth), (2, vI x2)]) (st' := [vI 0]) B27_119_120 rfl ?_
              refine r_ifc (tgt := 138) (pc' := 123) D27_120 rfl rfl (by unfold inR; omega) (fun (c245 : 0 = 0) => ?_) (fun (c245 : ¬ (0 = 0)) => ?_)
              · refine s_blx (lv' := [(3, vI 0), (0, vR 14), (1, vI depth), (2, vI x2)]) (st' := [vI 0]) B27_138_139 rfl ?_
                have g246 : gi M229 14 2 = t240 := ht241.symm
                have g247 : gi M229 14 3 = t242 := ht243.symm
                have g248 : gi M229 14 9 = t218 := (f231.g rfl).trans (ht219.symm)
                exact r_zretI D27_139 rfl (by omega) (⟨H230, f237, by omega, by rw [g246]; omega, by rw [g246, g247]; omega, by rw [g247]; omega, by rw [g246, g248]; omega, by rw [((f231.g rfl).trans (ht219.symm))]; exact hp239, hp238⟩)
              · exfalso; omega
            · refine s_blx (lv' := [(0, vR 14), (1, vI depth), (2, vI x2), (3, vI x3)]) (st' := [vI 1]) B27_70_71 rfl ?_
              refine r_goto (tgt := 75) D27_71 rfl ?_
              refine s_blx (lv' := [(3, vI 1), (0, vR 14), (1, vI depth), (2, vI x2)]) (st' := []) B27_75_76 rfl ?_
              refine r_goto (tgt := 119) D27_76 rfl ?_
              refine s_blx (lv' := [(3, vI 1), (0, vR 14), (1, vI depth), (2, vI x2)]) (st' := [vI 1]) B27_119_120 rfl ?_
              refine r_ifc (tgt := 138) (pc' := 123) D27_120 rfl rfl (by unfold inR; omega) (fun (c249 : 1 = 0) => ?_) (fun (c249 : ¬ (1 = 0)) => ?_)
              · exfalso; omega
              · refine s_blx (lv' := [(3, vI 1), (0, vR 14), (1, vI depth), (2, vI x2)]) (st' := [vI 2, vI x2]) B27_123_125 rfl ?_
                refine r_irem (pc' := 126) D27_125 rfl (by omega) ?_
                refine s_blx (lv' := [(3, vI 1), (0, vR 14), (1, vI depth), (2, vI x2)]) (st' := [vI 1, vI (x2 % 2)]) B27_126_127 rfl ?_
                refine r_icmp (tgt := 138) (pc' := 130) D27_127 rfl rfl (by unfold inR; omega) (fun (c250 : (x2 % 2) ≠ 1) => ?_) (fun (c250 : ¬ ((x2 % 2) ≠ 1)) => ?_)
                · refine s_blx (lv' := [(3, vI 1), (0, vR 14), (1, vI depth), (2, vI x2)]) (st' := [vI 1]) B27_138_139 rfl ?_
                  have g251 : gi M229 14 2 = t240 := ht241.symm
                  have g252 : gi M229 14 3 = t242 := ht243.symm
                  have g253 : gi M229 14 9 = t218 := (f231.g rfl).trans (ht219.symm)
                  exact r_zretI D27_139 rfl (by omega) (⟨H230, f237, by omega, by rw [g251]; omega, by rw [g251, g252]; omega, by rw [g252]; omega, by rw [g251, g253]; omega, by rw [((f231.g rfl).trans (ht219.symm))]; exact hp239, hp238⟩)
                · refine s_blx (lv' := [(3, vI 1), (0, vR 14), (1, vI depth), (2, vI x2)]) (st' := [vI 0, vI 9, vR 14]) B27_130_134 rfl ?_
                  have g254 : gi M229 14 9 = t218 := (f231.g rfl).trans (ht219.symm)
                  refine r_vI (c := 14) (args := [vI 9, vI 0]) (rest := []) (pc' := 137) D27_134 rfl ck_4_virtual_118 TE37 rfl (Nat.le_of_ble_eq_true rfl) ⟨Nat.le_of_ble_eq_true rfl, Nat.le_of_ble_eq_true rfl⟩ sc_14 ⟨rfl, by decide⟩ H230.1 (by omega) (k37_14x E (by omega) H230 9 0 t218 (by omega) (by omega) (by omega) (by omega) (by omega) (hp239)) ?_
                  intro v255 M256 q264
                  obtain ⟨H257, f258, q259, q260, q261, q262, q263⟩ := q264
                  have f265 := f237.tr (f258.up rfl)
                  have hp266 := hp238.sm q263 (by omega)
                  obtain ⟨t267, ht268⟩ : ∃ q, q = gi M256 14 9 := ⟨_, rfl⟩
                  have b_t267 := H257.2 14 9 0 400 rfl
                  rw [← ht268] at b_t267
                  rw [← ht268] at q260
                  rw [← ht268] at q262
                  refine s_blx (lv' := [(3, vI 1), (0, vR 14), (1, vI depth), (2, vI x2)]) (st' := [vI 1]) B27_137_139 rfl ?_
                  have g269 : gi M256 14 2 = t240 := (f258.g rfl).trans (ht241.symm)
                  have g270 : gi M256 14 3 = t242 := (f258.g rfl).trans (ht243.symm)
                  have g271 : gi M256 14 9 = t267 := ht268.symm
                  exact r_zretI D27_139 rfl (by omega) (⟨H257, f265, by omega, by rw [g269]; omega, by rw [g269, g270]; omega, by rw [g270]; omega, by rw [g269, g271]; omega, by rw [(ht268.symm)]; exact q262, hp266⟩)
    · refine s_blx (lv' := [(0, vR 14), (1, vI depth), (2, vI x2), (3, vI x3)]) (st' := [vR 14]) B27_11_12 rfl ?_
      refine r_gint (ki := 3) (pc' := 15) D27_12 rfl gf_4_22_14 rfl HN.1 ?_
      intro w272 e273 r274
      have e275 : k0 = w272 := (e273.trans (i1)).symm
      subst e275
      refine s_blx (lv' := [(0, vR 14), (1, vI depth), (2, vI x2), (3, vI x3)]) (st' := [vI 9, vI k0]) B27_15_17 rfl ?_
      refine r_icmp (tgt := 33) (pc' := 20) D27_17 rfl rfl (by unfold inR; omega) (fun (c276 : k0 ≠ 9) => ?_) (fun (c276 : ¬ (k0 ≠ 9)) => ?_)
      · refine s_blx (lv' := [(0, vR 14), (1, vI depth), (2, vI x2), (3, vI x3)]) (st' := [vR 14]) B27_33_34 rfl ?_
        refine r_gint (ki := 3) (pc' := 37) D27_34 rfl gf_4_22_14 rfl HN.1 ?_
        intro w277 e278 r279
        have e280 : k0 = w277 := (e278.trans (i1)).symm
        subst e280
        refine s_blx (lv' := [(0, vR 14), (1, vI depth), (2, vI x2), (3, vI x3)]) (st' := [vI 140, vI k0]) B27_37_40 rfl ?_
        refine r_icmp (tgt := 79) (pc' := 43) D27_40 rfl rfl (by unfold inR; omega) (fun (c281 : k0 ≠ 140) => ?_) (fun (c281 : ¬ (k0 ≠ 140)) => ?_)
        · refine s_blx (lv' := [(0, vR 14), (1, vI depth), (2, vI x2), (3, vI x3)]) (st' := [vR 14]) B27_79_80 rfl ?_
          refine r_gint (ki := 3) (pc' := 83) D27_80 rfl gf_4_22_14 rfl HN.1 ?_
          intro w282 e283 r284
          have e285 : k0 = w282 := (e283.trans (i1)).symm
          subst e285
          refine s_blx (lv' := [(0, vR 14), (1, vI depth), (2, vI x2), (3, vI x3)]) (st' := [vI 10, vI k0]) B27_83_85 rfl ?_
          refine r_icmp (tgt := 113) (pc' := 88) D27_85 rfl rfl (by unfold inR; omega) (fun (c286 : k0 < 10) => ?_) (fun (c286 : ¬ (k0 < 10)) => ?_)
          · refine s_blx (lv' := [(0, vR 14), (1, vI depth), (2, vI x2), (3, vI x3)]) (st' := [vI depth, vR 14]) B27_113_115 rfl ?_
            have g287 : gi N 14 2 = a0 := i0
            have g288 : gi N 14 3 = k0 := i1
            have g289 : gi N 14 9 = us := i2
            refine r_vI (c := 14) (args := [vI depth]) (rest := []) (pc' := 118) D27_115 rfl ck_4_virtual_135 TE28 rfl (Nat.le_of_ble_eq_true rfl) ⟨Nat.le_of_ble_eq_true rfl, Nat.le_of_ble_eq_true rfl⟩ sc_14 ⟨rfl, by decide⟩ HN.1 (by omega) (k28_14x E (by omega) HN depth ct a0 k0 us (by omega) (by omega) (by omega) (by omega) (by omega) (by omega) (by omega) (by omega) (by omega) (by omega) (i7)) ?_
            intro v290 M291 q301
            obtain ⟨H292, f293, q294, q295, q296, q297, q298, q299, q300⟩ := q301
            have f302 := fN.tr (f293.up rfl)
            have hp303 := i8.sm q300 (by omega)
            obtain ⟨t304, ht305⟩ : ∃ q, q = gi M291 14 2 := ⟨_, rfl⟩
            have b_t304 := H292.2 14 2 0 400 rfl
            rw [← ht305] at b_t304
            obtain ⟨t306, ht307⟩ : ∃ q, q = gi M291 14 3 := ⟨_, rfl⟩
            have b_t306 := H292.2 14 3 0 511 rfl
            rw [← ht307] at b_t306
            obtain ⟨t308, ht309⟩ : ∃ q, q = gi M291 14 9 := ⟨_, rfl⟩
            have b_t308 := H292.2 14 9 0 400 rfl
            rw [← ht309] at b_t308
            rw [← ht305] at q295
            rw [← ht305, ← ht307] at q296
            rw [← ht307] at q297
            rw [← ht305, ← ht309] at q298
            rw [← ht309] at q299
            refine s_blx (lv' := [(3, vI v290), (0, vR 14), (1, vI depth), (2, vI x2)]) (st' := [vI v290]) B27_118_120 rfl ?_
            refine r_ifc (tgt := 138) (pc' := 123) D27_120 rfl rfl (by unfold inR; omega) (fun (c310 : v290 = 0) => ?_) (fun (c310 : ¬ (v290 = 0)) => ?_)
            · refine s_blx (lv' := [(3, vI v290), (0, vR 14), (1, vI depth), (2, vI x2)]) (st' := [vI v290]) B27_138_139 rfl ?_
              have g311 : gi M291 14 2 = t304 := ht305.symm
              have g312 : gi M291 14 3 = t306 := ht307.symm
              have g313 : gi M291 14 9 = t308 := ht309.symm
              exact r_zretI D27_139 rfl (by omega) (⟨H292, f302, by omega, by rw [g311]; omega, by rw [g311, g312]; omega, by rw [g312]; omega, by rw [g311, g313]; omega, by rw [(ht309.symm)]; exact q299, hp303⟩)
            · refine s_blx (lv' := [(3, vI v290), (0, vR 14), (1, vI depth), (2, vI x2)]) (st' := [vI 2, vI x2]) B27_123_125 rfl ?_
              refine r_irem (pc' := 126) D27_125 rfl (by omega) ?_
              refine s_blx (lv' := [(3, vI v290), (0, vR 14), (1, vI depth), (2, vI x2)]) (st' := [vI 1, vI (x2 % 2)]) B27_126_127 rfl ?_
              refine r_icmp (tgt := 138) (pc' := 130) D27_127 rfl rfl (by unfold inR; omega) (fun (c314 : (x2 % 2) ≠ 1) => ?_) (fun (c314 : ¬ ((x2 % 2) ≠ 1)) => ?_)
              · refine s_blx (lv' := [(3, vI v290), (0, vR 14), (1, vI depth), (2, vI x2)]) (st' := [vI v290]) B27_138_139 rfl ?_
                have g315 : gi M291 14 2 = t304 := ht305.symm
                have g316 : gi M291 14 3 = t306 := ht307.symm
                have g317 : gi M291 14 9 = t308 := ht309.symm
                exact r_zretI D27_139 rfl (by omega) (⟨H292, f302, by omega, by rw [g315]; omega, by rw [g315, g316]; omega, by rw [g316]; omega, by rw [g315, g317]; omega, by rw [(ht309.symm)]; exact q299, hp303⟩)
              · refine s_blx (lv' := [(3, vI v290), (0, vR 14), (1, vI depth), (2, vI x2)]) (st' := [vI 0, vI 9, vR 14]) B27_130_134 rfl ?_
                have g318 : gi M291 14 9 = t308 := ht309.symm
                refine r_vI (c := 14) (args := [vI 9, vI 0]) (rest := []) (pc' := 137) D27_134 rfl ck_4_virtual_118 TE37 rfl (Nat.le_of_ble_eq_true rfl) ⟨Nat.le_of_ble_eq_true rfl, Nat.le_of_ble_eq_true rfl⟩ sc_14 ⟨rfl, by decide⟩ H292.1 (by omega) (k37_14x E (by omega) H292 9 0 t308 (by omega) (by omega) (by omega) (by omega) (by omega) (q299)) ?_
                intro v319 M320 q328
                obtain ⟨H321, f322, q323, q324, q325, q326, q327⟩ := q328
                have f329 := f302.tr (f322.up rfl)
                have hp330 := hp303.sm q327 (by omega)
                obtain ⟨t331, ht332⟩ : ∃ q, q = gi M320 14 9 := ⟨_, rfl⟩
                have b_t331 := H321.2 14 9 0 400 rfl
                rw [← ht332] at b_t331
                rw [← ht332] at q324
                rw [← ht332] at q326
                refine s_blx (lv' := [(3, vI v290), (0, vR 14), (1, vI depth), (2, vI x2)]) (st' := [vI v290]) B27_137_139 rfl ?_
                have g333 : gi M320 14 2 = t304 := (f322.g rfl).trans (ht305.symm)
                have g334 : gi M320 14 3 = t306 := (f322.g rfl).trans (ht307.symm)
                have g335 : gi M320 14 9 = t331 := ht332.symm
                exact r_zretI D27_139 rfl (by omega) (⟨H321, f329, by omega, by rw [g333]; omega, by rw [g333, g334]; omega, by rw [g334]; omega, by rw [g333, g335]; omega, by rw [(ht332.symm)]; exact q326, hp330⟩)
          · refine s_blx (lv' := [(0, vR 14), (1, vI depth), (2, vI x2), (3, vI x3)]) (st' := [vR 14]) B27_88_89 rfl ?_
            refine r_gint (ki := 3) (pc' := 92) D27_89 rfl gf_4_22_14 rfl HN.1 ?_
            intro w336 e337 r338
            have e339 : k0 = w336 := (e337.trans (i1)).symm
            subst e339
            refine s_blx (lv' := [(0, vR 14), (1, vI depth), (2, vI x2), (3, vI x3)]) (st' := [vI 12, vI k0]) B27_92_94 rfl ?_
            refine r_icmp (tgt := 113) (pc' := 97) D27_94 rfl rfl (by unfold inR; omega) (fun (c340 : 12 ≤ k0) => ?_) (fun (c340 : ¬ (12 ≤ k0)) => ?_)
            · refine s_blx (lv' := [(0, vR 14), (1, vI depth), (2, vI x2), (3, vI x3)]) (st' := [vI depth, vR 14]) B27_113_115 rfl ?_
              have g341 : gi N 14 2 = a0 := i0
              have g342 : gi N 14 3 = k0 := i1
              have g343 : gi N 14 9 = us := i2
              refine r_vI (c := 14) (args := [vI depth]) (rest := []) (pc' := 118) D27_115 rfl ck_4_virtual_135 TE28 rfl (Nat.le_of_ble_eq_true rfl) ⟨Nat.le_of_ble_eq_true rfl, Nat.le_of_ble_eq_true rfl⟩ sc_14 ⟨rfl, by decide⟩ HN.1 (by omega) (k28_14x E (by omega) HN depth ct a0 k0 us (by omega) (by omega) (by omega) (by omega) (by omega) (by omega) (by omega) (by omega) (by omega) (by omega) (i7)) ?_
              intro v344 M345 q355
              obtain ⟨H346, f347, q348, q349, q350, q351, q352, q353, q354⟩ := q355
              have f356 := fN.tr (f347.up rfl)
              have hp357 := i8.sm q354 (by omega)
              obtain ⟨t358, ht359⟩ : ∃ q, q = gi M345 14 2 := ⟨_, rfl⟩
              have b_t358 := H346.2 14 2 0 400 rfl
              rw [← ht359] at b_t358
              obtain ⟨t360, ht361⟩ : ∃ q, q = gi M345 14 3 := ⟨_, rfl⟩
              have b_t360 := H346.2 14 3 0 511 rfl
              rw [← ht361] at b_t360
              obtain ⟨t362, ht363⟩ : ∃ q, q = gi M345 14 9 := ⟨_, rfl⟩
              have b_t362 := H346.2 14 9 0 400 rfl
              rw [← ht363] at b_t362
              rw [← ht359] at q349
              rw [← ht359, ← ht361] at q350
              rw [← ht361] at q351
              rw [← ht359, ← ht363] at q352
              rw [← ht363] at q353
              refine s_blx (lv' := [(3, vI v344), (0, vR 14), (1, vI depth), (2, vI x2)]) (st' := [vI v344]) B27_118_120 rfl ?_
              refine r_ifc (tgt := 138) (pc' := 123) D27_120 rfl rfl (by unfold inR; omega) (fun (c364 : v344 = 0) => ?_) (fun (c364 : ¬ (v344 = 0)) => ?_)
              · refine s_blx (lv' := [(3, vI v344), (0, vR 14), (1, vI depth), (2, vI x2)]) (st' := [vI v344]) B27_138_139 rfl ?_
                have g365 : gi M345 14 2 = t358 := ht359.symm
                have g366 : gi M345 14 3 = t360 := ht361.symm
                have g367 : gi M345 14 9 = t362 := ht363.symm
                exact r_zretI D27_139 rfl (by omega) (⟨H346, f356, by omega, by rw [g365]; omega, by rw [g365, g366]; omega, by rw [g366]; omega, by rw [g365, g367]; omega, by rw [(ht363.symm)]; exact q353, hp357⟩)
              · refine s_blx (lv' := [(3, vI v344), (0, vR 14), (1, vI depth), (2, vI x2)]) (st' := [vI 2, vI x2]) B27_123_125 rfl ?_
                refine r_irem (pc' := 126) D27_125 rfl (by omega) ?_
                refine s_blx (lv' := [(3, vI v344), (0, vR 14), (1, vI depth), (2, vI x2)]) (st' := [vI 1, vI (x2 % 2)]) B27_126_127 rfl ?_
                refine r_icmp (tgt := 138) (pc' := 130) D27_127 rfl rfl (by unfold inR; omega) (fun (c368 : (x2 % 2) ≠ 1) => ?_) (fun (c368 : ¬ ((x2 % 2) ≠ 1)) => ?_)
                · refine s_blx (lv' := [(3, vI v344), (0, vR 14), (1, vI depth), (2, vI x2)]) (st' := [vI v344]) B27_138_139 rfl ?_
                  have g369 : gi M345 14 2 = t358 := ht359.symm
                  have g370 : gi M345 14 3 = t360 := ht361.symm
                  have g371 : gi M345 14 9 = t362 := ht363.symm
                  exact r_zretI D27_139 rfl (by omega) (⟨H346, f356, by omega, by rw [g369]; omega, by rw [g369, g370]; omega, by rw [g370]; omega, by rw [g369, g371]; omega, by rw [(ht363.symm)]; exact q353, hp357⟩)
                · refine s_blx (lv' := [(3, vI v344), (0, vR 14), (1, vI depth), (2, vI x2)]) (st' := [vI 0, vI 9, vR 14]) B27_130_134 rfl ?_
                  have g372 : gi M345 14 9 = t362 := ht363.symm
                  refine r_vI (c := 14) (args := [vI 9, vI 0]) (rest := []) (pc' := 137) D27_134 rfl ck_4_virtual_118 TE37 rfl (Nat.le_of_ble_eq_true rfl) ⟨Nat.le_of_ble_eq_true rfl, Nat.le_of_ble_eq_true rfl⟩ sc_14 ⟨rfl, by decide⟩ H346.1 (by omega) (k37_14x E (by omega) H346 9 0 t362 (by omega) (by omega) (by omega) (by omega) (by omega) (q353)) ?_
                  intro v373 M374 q382
                  obtain ⟨H375, f376, q377, q378, q379, q380, q381⟩ := q382
                  have f383 := f356.tr (f376.up rfl)
                  have hp384 := hp357.sm q381 (by omega)
                  obtain ⟨t385, ht386⟩ : ∃ q, q = gi M374 14 9 := ⟨_, rfl⟩
                  have b_t385 := H375.2 14 9 0 400 rfl
                  rw [← ht386] at b_t385
                  rw [← ht386] at q378
                  rw [← ht386] at q380
                  refine s_blx (lv' := [(3, vI v344), (0, vR 14), (1, vI depth), (2, vI x2)]) (st' := [vI v344]) B27_137_139 rfl ?_
                  have g387 : gi M374 14 2 = t358 := (f376.g rfl).trans (ht359.symm)
                  have g388 : gi M374 14 3 = t360 := (f376.g rfl).trans (ht361.symm)
                  have g389 : gi M374 14 9 = t385 := ht386.symm
                  exact r_zretI D27_139 rfl (by omega) (⟨H375, f383, by omega, by rw [g387]; omega, by rw [g387, g388]; omega, by rw [g388]; omega, by rw [g387, g389]; omega, by rw [(ht386.symm)]; exact q380, hp384⟩)
            · refine s_blx (lv' := [(0, vR 14), (1, vI depth), (2, vI x2), (3, vI x3)]) (st' := [vR 14, vI 1, vR 14]) B27_97_100 rfl ?_
              refine r_gint (ki := 3) (pc' := 103) D27_100 rfl gf_4_22_14 rfl HN.1 ?_
              intro w390 e391 r392
              have e393 : k0 = w390 := (e391.trans (i1)).symm
              subst e393
              refine s_blx (lv' := [(0, vR 14), (1, vI depth), (2, vI x2), (3, vI x3)]) (st' := [vI (k0 - 10), vI 1, vR 14]) B27_103_106 rfl ?_
              have g394 : gi N 14 2 = a0 := i0
              have g395 : gi N 14 3 = k0 := i1
              have g396 : gi N 14 9 = us := i2
              refine r_vI (c := 14) (args := [vI 1, vI (k0 - 10)]) (rest := []) (pc' := 109) D27_106 rfl ck_4_virtual_131 TE33 rfl (Nat.le_of_ble_eq_true rfl) ⟨Nat.le_of_ble_eq_true rfl, Nat.le_of_ble_eq_true rfl⟩ sc_14 ⟨rfl, by decide⟩ HN.1 (by omega) (k33_14x E (by omega) HN 1 (k0 - 10) ct a0 k0 us (by omega) (by omega) (by omega) (by omega) (by omega) (by omega) (by omega) (by omega) (by omega) (by omega) (by omega) (by omega) (by omega) (i7)) ?_
              intro v397 M398 q408
              obtain ⟨H399, f400, q401, q402, q403, q404, q405, q406, q407⟩ := q408
              have f409 := fN.tr (f400.up rfl)
              have hp410 := i8.sm q407 (by omega)
              obtain ⟨t411, ht412⟩ : ∃ q, q = gi M398 14 2 := ⟨_, rfl⟩
              have b_t411 := H399.2 14 2 0 400 rfl
              rw [← ht412] at b_t411
              obtain ⟨t413, ht414⟩ : ∃ q, q = gi M398 14 3 := ⟨_, rfl⟩
              have b_t413 := H399.2 14 3 0 511 rfl
              rw [← ht414] at b_t413
              obtain ⟨t415, ht416⟩ : ∃ q, q = gi M398 14 9 := ⟨_, rfl⟩
              have b_t415 := H399.2 14 9 0 400 rfl
              rw [← ht416] at b_t415
              rw [← ht412] at q402
              rw [← ht412, ← ht414] at q403
              rw [← ht414] at q404
              rw [← ht412, ← ht416] at q405
              rw [← ht416] at q406
              refine s_blx (lv' := [(3, vI v397), (0, vR 14), (1, vI depth), (2, vI x2)]) (st' := []) B27_109_110 rfl ?_
              refine r_goto (tgt := 119) D27_110 rfl ?_
              refine s_blx (lv' := [(3, vI v397), (0, vR 14), (1, vI depth), (2, vI x2)]) (st' := [vI v397]) B27_119_120 rfl ?_
              refine r_ifc (tgt := 138) (pc' := 123) D27_120 rfl rfl (by unfold inR; omega) (fun (c417 : v397 = 0) => ?_) (fun (c417 : ¬ (v397 = 0)) => ?_)
              · refine s_blx (lv' := [(3, vI v397), (0, vR 14), (1, vI depth), (2, vI x2)]) (st' := [vI v397]) B27_138_139 rfl ?_
                have g418 : gi M398 14 2 = t411 := ht412.symm
                have g419 : gi M398 14 3 = t413 := ht414.symm
                have g420 : gi M398 14 9 = t415 := ht416.symm
                exact r_zretI D27_139 rfl (by omega) (⟨H399, f409, by omega, by rw [g418]; omega, by rw [g418, g419]; omega, by rw [g419]; omega, by rw [g418, g420]; omega, by rw [(ht416.symm)]; exact q406, hp410⟩)
              · refine s_blx (lv' := [(3, vI v397), (0, vR 14), (1, vI depth), (2, vI x2)]) (st' := [vI 2, vI x2]) B27_123_125 rfl ?_
                refine r_irem (pc' := 126) D27_125 rfl (by omega) ?_
                refine s_blx (lv' := [(3, vI v397), (0, vR 14), (1, vI depth), (2, vI x2)]) (st' := [vI 1, vI (x2 % 2)]) B27_126_127 rfl ?_
                refine r_icmp (tgt := 138) (pc' := 130) D27_127 rfl rfl (by unfold inR; omega) (fun (c421 : (x2 % 2) ≠ 1) => ?_) (fun (c421 : ¬ ((x2 % 2) ≠ 1)) => ?_)
                · refine s_blx (lv' := [(3, vI v397), (0, vR 14), (1, vI depth), (2, vI x2)]) (st' := [vI v397]) B27_138_139 rfl ?_
                  have g422 : gi M398 14 2 = t411 := ht412.symm
                  have g423 : gi M398 14 3 = t413 := ht414.symm
                  have g424 : gi M398 14 9 = t415 := ht416.symm
                  exact r_zretI D27_139 rfl (by omega) (⟨H399, f409, by omega, by rw [g422]; omega, by rw [g422, g423]; omega, by rw [g423]; omega, by rw [g422, g424]; omega, by rw [(ht416.symm)]; exact q406, hp410⟩)
                · refine s_blx (lv' := [(3, vI v397), (0, vR 14), (1, vI depth), (2, vI x2)]) (st' := [vI 0, vI 9, vR 14]) B27_130_134 rfl ?_
                  have g425 : gi M398 14 9 = t415 := ht416.symm
                  refine r_vI (c := 14) (args := [vI 9, vI 0]) (rest := []) (pc' := 137) D27_134 rfl ck_4_virtual_118 TE37 rfl (Nat.le_of_ble_eq_true rfl) ⟨Nat.le_of_ble_eq_true rfl, Nat.le_of_ble_eq_true rfl⟩ sc_14 ⟨rfl, by decide⟩ H399.1 (by omega) (k37_14x E (by omega) H399 9 0 t415 (by omega) (by omega) (by omega) (by omega) (by omega) (q406)) ?_
                  intro v426 M427 q435
                  obtain ⟨H428, f429, q430, q431, q432, q433, q434⟩ := q435
                  have f436 := f409.tr (f429.up rfl)
                  have hp437 := hp410.sm q434 (by omega)
                  obtain ⟨t438, ht439⟩ : ∃ q, q = gi M427 14 9 := ⟨_, rfl⟩
                  have b_t438 := H428.2 14 9 0 400 rfl
                  rw [← ht439] at b_t438
                  rw [← ht439] at q431
                  rw [← ht439] at q433
                  refine s_blx (lv' := [(3, vI v397), (0, vR 14), (1, vI depth), (2, vI x2)]) (st' := [vI v397]) B27_137_139 rfl ?_
                  have g440 : gi M427 14 2 = t411 := (f429.g rfl).trans (ht412.symm)
                  have g441 : gi M427 14 3 = t413 := (f429.g rfl).trans (ht414.symm)
                  have g442 : gi M427 14 9 = t438 := ht439.symm
                  exact r_zretI D27_139 rfl (by omega) (⟨H428, f436, by omega, by rw [g440]; omega, by rw [g440, g441]; omega, by rw [g441]; omega, by rw [g440, g442]; omega, by rw [(ht439.symm)]; exact q433, hp437⟩)
        · refine s_blx (lv' := [(0, vR 14), (1, vI depth), (2, vI x2), (3, vI x3)]) (st' := [vI depth, vR 14]) B27_43_45 rfl ?_
          have g443 : gi N 14 2 = a0 := i0
          have g444 : gi N 14 3 = k0 := i1
          refine r_vI (c := 14) (args := [vI depth]) (rest := []) (pc' := 48) D27_45 rfl ck_4_virtual_128 TE32 rfl (Nat.le_of_ble_eq_true rfl) ⟨Nat.le_of_ble_eq_true rfl, Nat.le_of_ble_eq_true rfl⟩ sc_14 ⟨rfl, by decide⟩ HN.1 (by omega) (k32_14x E (by omega) HN depth ct a0 k0 (by omega) (by omega) (by omega) (by omega) (by omega) (by omega) (by omega) (by omega) (by omega)) ?_
          intro v445 M446 q454
          obtain ⟨H447, f448, q449, q450, q451, q452, q453⟩ := q454
          have f455 := fN.tr (f448.up rfl)
          have hp456 := i7.fr f448 (by decide)
          have hp457 := i8.fr f448 (by decide)
          obtain ⟨t458, ht459⟩ : ∃ q, q = gi M446 14 2 := ⟨_, rfl⟩
          have b_t458 := H447.2 14 2 0 400 rfl
          rw [← ht459] at b_t458
          obtain ⟨t460, ht461⟩ : ∃ q, q = gi M446 14 3 := ⟨_, rfl⟩
          have b_t460 := H447.2 14 3 0 511 rfl
          rw [← ht461] at b_t460
          rw [← ht459] at q450
          rw [← ht459, ← ht461] at q451
          rw [← ht461] at q452
          refine r_ifc (tgt := 74) (pc' := 51) D27_48 rfl rfl (by unfold inR; omega) (fun (c462 : v445 = 0) => ?_) (fun (c462 : ¬ (v445 = 0)) => ?_)
          · refine s_blx (lv' := [(3, vI 0), (0, vR 14), (1, vI depth), (2, vI x2)]) (st' := []) B27_74_76 rfl ?_
            refine r_goto (tgt := 119) D27_76 rfl ?_
            refine s_blx (lv' := [(3, vI 0), (0, vR 14), (1, vI depth), (2, vI x2)]) (st' := [vI 0]) B27_119_120 rfl ?_
            refine r_ifc (tgt := 138) (pc' := 123) D27_120 rfl rfl (by unfold inR; omega) (fun (c463 : 0 = 0) => ?_) (fun (c463 : ¬ (0 = 0)) => ?_)
            · refine s_blx (lv' := [(3, vI 0), (0, vR 14), (1, vI depth), (2, vI x2)]) (st' := [vI 0]) B27_138_139 rfl ?_
              have g464 : gi M446 14 2 = t458 := ht459.symm
              have g465 : gi M446 14 3 = t460 := ht461.symm
              have g466 : gi M446 14 9 = us := (f448.g rfl).trans (i2)
              exact r_zretI D27_139 rfl (by omega) (⟨H447, f455, by omega, by rw [g464]; omega, by rw [g464, g465]; omega, by rw [g465]; omega, by rw [g464, g466]; omega, by rw [((f448.g rfl).trans (i2))]; exact hp456, hp457⟩)
            · exfalso; omega
          · refine s_blx (lv' := [(0, vR 14), (1, vI depth), (2, vI x2), (3, vI x3)]) (st' := [vI (depth + 1), vR 14]) B27_51_55 rfl ?_
            have g467 : gi M446 15 ct = gi N 15 ct := (f448.g rfl).trans (rfl)
            have g468 : gi M446 14 2 = t458 := ht459.symm
            have g469 : gi M446 14 3 = t460 := ht461.symm
            have g470 : gi M446 14 9 = us := (f448.g rfl).trans (i2)
            refine r_vI (c := 14) (args := [vI (depth + 1)]) (rest := []) (pc' := 58) D27_55 rfl ck_4_virtual_108 TE25 rfl (Nat.le_of_ble_eq_true rfl) ⟨Nat.le_of_ble_eq_true rfl, Nat.le_of_ble_eq_true rfl⟩ sc_14 ⟨rfl, by decide⟩ H447.1 (by omega) (ihr (by omega) H447 (depth + 1) ct t458 t460 us (by omega) (by omega) (by omega) (by omega) (by omega) (by omega) (by omega) (by omega) (by omega) (by omega) (hp456) (by omega)) ?_
            intro v471 M472 q482
            obtain ⟨H473, f474, q475, q476, q477, q478, q479, q480, q481⟩ := q482
            have f483 := f455.tr (f474.up rfl)
            have hp484 := hp457.sm q481 (by omega)
            obtain ⟨t485, ht486⟩ : ∃ q, q = gi M472 14 2 := ⟨_, rfl⟩
            have b_t485 := H473.2 14 2 0 400 rfl
            rw [← ht486] at b_t485
            obtain ⟨t487, ht488⟩ : ∃ q, q = gi M472 14 3 := ⟨_, rfl⟩
            have b_t487 := H473.2 14 3 0 511 rfl
            rw [← ht488] at b_t487
            obtain ⟨t489, ht490⟩ : ∃ q, q = gi M472 14 9 := ⟨_, rfl⟩
            have b_t489 := H473.2 14 9 0 400 rfl
            rw [← ht490] at b_t489
            rw [← ht486] at q476
            rw [← ht486, ← ht488] at q477
            rw [← ht488] at q478
            rw [← ht486, ← ht490] at q479
            rw [← ht490] at q480
            refine r_ifc (tgt := 74) (pc' := 61) D27_58 rfl rfl (by unfold inR; omega) (fun (c491 : v471 = 0) => ?_) (fun (c491 : ¬ (v471 = 0)) => ?_)
            · refine s_blx (lv' := [(3, vI 0), (0, vR 14), (1, vI depth), (2, vI x2)]) (st' := []) B27_74_76 rfl ?_
              refine r_goto (tgt := 119) D27_76 rfl ?_
              refine s_blx (lv' := [(3, vI 0), (0, vR 14), (1, vI depth), (2, vI x2)]) (st' := [vI 0]) B27_119_120 rfl ?_
              refine r_ifc (tgt := 138) (pc' := 123) D27_120 rfl rfl (by unfold inR; omega) (fun (c492 : 0 = 0) => ?_) (fun (c492 : ¬ (0 = 0)) => ?_)
              · refine s_blx (lv' := [(3, vI 0), (0, vR 14), (1, vI depth), (2, vI x2)]) (st' := [vI 0]) B27_138_139 rfl ?_
                have g493 : gi M472 14 2 = t485 := ht486.symm
                have g494 : gi M472 14 3 = t487 := ht488.symm
                have g495 : gi M472 14 9 = t489 := ht490.symm
                exact r_zretI D27_139 rfl (by omega) (⟨H473, f483, by omega, by rw [g493]; omega, by rw [g493, g494]; omega, by rw [g494]; omega, by rw [g493, g495]; omega, by rw [(ht490.symm)]; exact q480, hp484⟩)
              · exfalso; omega
            · refine s_blx (lv' := [(0, vR 14), (1, vI depth), (2, vI x2), (3, vI x3)]) (st' := [vI 41, vR 14]) B27_61_64 rfl ?_
              have g496 : gi M472 15 ct = gi N 15 ct := (f474.g rfl).trans ((f448.g rfl).trans (rfl))
              have g497 : gi M472 14 2 = t485 := ht486.symm
              have g498 : gi M472 14 3 = t487 := ht488.symm
              refine r_vI (c := 14) (args := [vI 41]) (rest := []) (pc' := 67) D27_64 rfl ck_4_virtual_111 TE34 rfl (Nat.le_of_ble_eq_true rfl) ⟨Nat.le_of_ble_eq_true rfl, Nat.le_of_ble_eq_true rfl⟩ sc_14 ⟨rfl, by decide⟩ H473.1 (by omega) (k34_14x E (by omega) H473 41 ct t485 t487 (by omega) (by omega) (by omega) (by omega) (by omega) (by omega) (by omega) (by omega)) ?_
              intro v499 M500 q507
              obtain ⟨H501, f502, q503, q504, q505, q506⟩ := q507
              have f508 := f483.tr (f502.up rfl)
              have hp509 := hp484.fr f502 (by decide)
              have hp510 := q480.fr f502 (by decide)
              obtain ⟨t511, ht512⟩ : ∃ q, q = gi M500 14 2 := ⟨_, rfl⟩
              have b_t511 := H501.2 14 2 0 400 rfl
              rw [← ht512] at b_t511
              obtain ⟨t513, ht514⟩ : ∃ q, q = gi M500 14 3 := ⟨_, rfl⟩
              have b_t513 := H501.2 14 3 0 511 rfl
              rw [← ht514] at b_t513
              rw [← ht512] at q504
              rw [← ht512, ← ht514] at q505
              rw [← ht514] at q506
              refine r_ifc (tgt := 74) (pc' := 70) D27_67 rfl rfl (by unfold inR; omega) (fun (c515 : v499 = 0) => ?_) (fun (c515 : ¬ (v499 = 0)) => ?_)
              · refine s_blx (lv' := [(3, vI 0), (0, vR 14), (1, vI depth), (2, vI x2)]) (st' := []) B27_74_76 rfl ?_
                refine r_goto (tgt := 119) D27_76 rfl ?_
                refine s_blx (lv' := [(3, vI 0), (0, vR 14), (1, vI depth), (2, vI x2)]) (st' := [vI 0]) B27_119_120 rfl ?_
                refine r_ifc (tgt := 138) (pc' := 123) D27_120 rfl rfl (by unfold inR; omega) (fun (c516 : 0 = 0) => ?_) (fun (c516 : ¬ (0 = 0)) => ?_)
                · refine s_blx (lv' := [(3, vI 0), (0, vR 14), (1, vI depth), (2, vI x2)]) (st' := [vI 0]) B27_138_139 rfl ?_
                  have g517 : gi M500 14 2 = t511 := ht512.symm
                  have g518 : gi M500 14 3 = t513 := ht514.symm
                  have g519 : gi M500 14 9 = t489 := (f502.g rfl).trans (ht490.symm)
                  exact r_zretI D27_139 rfl (by omega) (⟨H501, f508, by omega, by rw [g517]; omega, by rw [g517, g518]; omega, by rw [g518]; omega, by rw [g517, g519]; omega, by rw [((f502.g rfl).trans (ht490.symm))]; exact hp510, hp509⟩)
                · exfalso; omega
              · refine s_blx (lv' := [(0, vR 14), (1, vI depth), (2, vI x2), (3, vI x3)]) (st' := [vI 1]) B27_70_71 rfl ?_
                refine r_goto (tgt := 75) D27_71 rfl ?_
                refine s_blx (lv' := [(3, vI 1), (0, vR 14), (1, vI depth), (2, vI x2)]) (st' := []) B27_75_76 rfl ?_
                refine r_goto (tgt := 119) D27_76 rfl ?_
                refine s_blx (lv' := [(3, vI 1), (0, vR 14), (1, vI depth), (2, vI x2)]) (st' := [vI 1]) B27_119_120 rfl ?_
                refine r_ifc (tgt := 138) (pc' := 123) D27_120 rfl rfl (by unfold inR; omega) (fun (c520 : 1 = 0) => ?_) (fun (c520 : ¬ (1 = 0)) => ?_)
                · exfalso; omega
                · refine s_blx (lv' := [(3, vI 1), (0, vR 14), (1, vI depth), (2, vI x2)]) (st' := [vI 2, vI x2]) B27_123_125 rfl ?_
                  refine r_irem (pc' := 126) D27_125 rfl (by omega) ?_
                  refine s_blx (lv' := [(3, vI 1), (0, vR 14), (1, vI depth), (2, vI x2)]) (st' := [vI 1, vI (x2 % 2)]) B27_126_127 rfl ?_
                  refine r_icmp (tgt := 138) (pc' := 130) D27_127 rfl rfl (by unfold inR; omega) (fun (c521 : (x2 % 2) ≠ 1) => ?_) (fun (c521 : ¬ ((x2 % 2) ≠ 1)) => ?_)
                  · refine s_blx (lv' := [(3, vI 1), (0, vR 14), (1, vI depth), (2, vI x2)]) (st' := [vI 1]) B27_138_139 rfl ?_
                    have g522 : gi M500 14 2 = t511 := ht512.symm
                    have g523 : gi M500 14 3 = t513 := ht514.symm
                    have g524 : gi M500 14 9 = t489 := (f502.g rfl).trans (ht490.symm)
                    exact r_zretI D27_139 rfl (by omega) (⟨H501, f508, by omega, by rw [g522]; omega, by rw [g522, g523]; omega, by rw [g523]; omega, by rw [g522, g524]; omega, by rw [((f502.g rfl).trans (ht490.symm))]; exact hp510, hp509⟩)
                  · refine s_blx (lv' := [(3, vI 1), (0, vR 14), (1, vI depth), (2, vI x2)]) (st' := [vI 0, vI 9, vR 14]) B27_130_134 rfl ?_
                    have g525 : gi M500 14 9 = t489 := (f502.g rfl).trans (ht490.symm)
                    refine r_vI (c := 14) (args := [vI 9, vI 0]) (rest := []) (pc' := 137) D27_134 rfl ck_4_virtual_118 TE37 rfl (Nat.le_of_ble_eq_true rfl) ⟨Nat.le_of_ble_eq_true rfl, Nat.le_of_ble_eq_true rfl⟩ sc_14 ⟨rfl, by decide⟩ H501.1 (by omega) (k37_14x E (by omega) H501 9 0 t489 (by omega) (by omega) (by omega) (by omega) (by omega) (hp510)) ?_
                    intro v526 M527 q535
                    obtain ⟨H528, f529, q530, q531, q532, q533, q534⟩ := q535
                    have f536 := f508.tr (f529.up rfl)
                    have hp537 := hp509.sm q534 (by omega)
                    obtain ⟨t538, ht539⟩ : ∃ q, q = gi M527 14 9 := ⟨_, rfl⟩
                    have b_t538 := H528.2 14 9 0 400 rfl
                    rw [← ht539] at b_t538
                    rw [← ht539] at q531
                    rw [← ht539] at q533
                    refine s_blx (lv' := [(3, vI 1), (0, vR 14), (1, vI depth), (2, vI x2)]) (st' := [vI 1]) B27_137_139 rfl ?_
                    have g540 : gi M527 14 2 = t511 := (f529.g rfl).trans (ht512.symm)
                    have g541 : gi M527 14 3 = t513 := (f529.g rfl).trans (ht514.symm)
                    have g542 : gi M527 14 9 = t538 := ht539.symm
                    exact r_zretI D27_139 rfl (by omega) (⟨H528, f536, by omega, by rw [g540]; omega, by rw [g540, g541]; omega, by rw [g541]; omega, by rw [g540, g542]; omega, by rw [(ht539.symm)]; exact q533, hp537⟩)
      · refine s_blx (lv' := [(2, vI (x2 + 1)), (0, vR 14), (1, vI depth), (3, vI x3)]) (st' := [vR 14]) B27_20_24 rfl ?_
        have g543 : gi N 14 2 = a0 := i0
        have g544 : gi N 14 3 = k0 := i1
        refine r_vV (c := 14) (args := []) (rest := []) (pc' := 27) D27_24 rfl ck_4_virtual_105 TE35 rfl (Nat.le_of_ble_eq_true rfl) ⟨Nat.le_of_ble_eq_true rfl, Nat.le_of_ble_eq_true rfl⟩ sc_14 ⟨rfl, by decide⟩ HN.1 (by omega) (k35_14x E (by omega) HN ct a0 k0 (by omega) (by omega) (by omega) (by omega) (by omega) (by omega) (by omega) (by omega)) ?_
        intro M546 q553
        obtain ⟨H547, f548, q549, q550, q551, q552⟩ := q553
        have f554 := fN.tr (f548.up rfl)
        have hp555 := i7.fr f548 (by decide)
        have hp556 := i8.fr f548 (by decide)
        obtain ⟨t557, ht558⟩ : ∃ q, q = gi M546 14 2 := ⟨_, rfl⟩
        have b_t557 := H547.2 14 2 0 400 rfl
        rw [← ht558] at b_t557
        obtain ⟨t559, ht560⟩ : ∃ q, q = gi M546 14 3 := ⟨_, rfl⟩
        have b_t559 := H547.2 14 3 0 511 rfl
        rw [← ht560] at b_t559
        rw [← ht558] at q549
        rw [← ht560] at q551
        rw [← ht560] at q552
        refine s_blx (lv' := [(3, vI (x3 + 1)), (2, vI (x2 + 1)), (0, vR 14), (1, vI depth)]) (st' := []) B27_27_30 rfl ?_
        refine r_goto (tgt := 4) D27_30 rfl ?_
        refine r_loc (lv' := [(0, vR 14), (1, vI depth), (2, vI (x2 + 1)), (3, vI (x3 + 1))]) ⟨rfl, rfl, rfl, rfl, trivial⟩ rfl rfl ?_
        have g561 : gi M546 14 2 = t557 := ht558.symm
        have g562 : gi M546 14 3 = t559 := ht560.symm
        have g563 : gi M546 14 9 = us := (f548.g rfl).trans (i2)
        have g564 : gi M546 15 ct = gi N 15 ct := (f548.g rfl).trans (rfl)
        exact ih (x2 + 1) (x3 + 1) t557 t559 M546 H547 f554 (by omega) (by omega) (by omega) (by omega) (by omega) (by omega) (by omega) (hp555) (hp556) (by omega) (by omega) (by omega) (by omega) (by omega) (by omega) (by omega) (by omega)
set_option maxRecDepth 4000 in
theorem k27_14x {base : Nat} {X : Nat → Option mC} {G : Nat → Value} (E : EnvOK base X G) {rr : Nat} (ihr : ∀ {d : Nat} (_ : 30 + 3 * rr ≤ d) {M : mH} (_ : HI base M) (depth : Int) (ct : Int) (at_ : Int) (kd : Int) (us : Int), (gi M 15 ct = 22) → (0 ≤ ct ∧ ct ≤ 400) → (gi M 14 2 = at_) → (gi M 14 3 = kd) → (0 ≤ at_ ∧ at_ ≤ ct) → (at_ = ct → kd = 22) → (0 ≤ kd ∧ kd ≤ 511) → (gi M 14 9 = us) → (0 ≤ us ∧ us ≤ at_) → (0 ≤ depth ∧ depth ≤ 8) → (CD us M) → 8 - depth < ((rr : Nat) : Int) → sOk base X G d T25 [vR 14, vI depth] M (pI (fun v M' => HI base M' ∧ Fr [(14, 3), (14, 4), (14, 5), (14, 10), (14, 11), (19, 0)] M M' ∧ (v = 0 ∨ v = 1) ∧ (at_ ≤ gi M' 14 2 ∧ gi M' 14 2 ≤ ct) ∧ (gi M' 14 2 = ct → gi M' 14 3 = 22) ∧ (0 ≤ gi M' 14 3 ∧ gi M' 14 3 ≤ 511) ∧ (us ≤ gi M' 14 9 ∧ gi M' 14 9 - us ≤ gi M' 14 2 - at_) ∧ (CD (gi M' 14 9) M') ∧ (∀ j : Int, 0 ≤ j → j < us → gi M' 19 j = gi M 19 j)))) {d : Nat} (hd : 31 + 3 * rr ≤ d) {M : mH} (H : HI base M) (depth : Int) (ct : Int) (at_ : Int) (kd : Int) (us : Int) (h0 : gi M 15 ct = 22) (h1 : 0 ≤ ct ∧ ct ≤ 400) (h2 : gi M 14 2 = at_) (h3 : gi M 14 3 = kd) (h4 : 0 ≤ at_ ∧ at_ ≤ ct) (h5 : at_ = ct → kd = 22) (h6 : 0 ≤ kd ∧ kd ≤ 511) (h7 : gi M 14 9 = us) (h8 : 0 ≤ us ∧ us ≤ at_) (h9 : 0 ≤ depth ∧ depth ≤ 8) (h10 : CD us M) (h11 : 8 - depth < (rr : Int) + 1) : sOk base X G d T27 [vR 14, vI depth] M (pI (fun v M' => HI base M' ∧ Fr [(14, 3), (14, 4), (14, 5), (14, 10), (14, 11), (19, 0)] M M' ∧ (v = 0 ∨ v = 1) ∧ (at_ ≤ gi M' 14 2 ∧ gi M' 14 2 ≤ ct) ∧ (gi M' 14 2 = ct → gi M' 14 3 = 22) ∧ (0 ≤ gi M' 14 3 ∧ gi M' 14 3 ≤ 511) ∧ (us ≤ gi M' 14 9 ∧ gi M' 14 9 - us ≤ gi M' 14 2 - at_) ∧ (CD (gi M' 14 9) M') ∧ (∀ j : Int, 0 ≤ j → j < us → gi M' 19 j = gi M 19 j))) := by
  have f0 : Fr [(14, 3), (14, 4), (14, 5), (14, 10), (14, 11), (19, 0)] M M := Fr.rf
  refine sOk.of (show sRn base X G d T27 0 [(0, vR 14), (1, vI depth)] [] M _ from ?_)
  refine s_blx (lv' := [(3, vI 0), (2, vI 0), (0, vR 14), (1, vI depth)]) (st' := []) B27_0_4 rfl ?_
  refine r_loc (lv' := [(0, vR 14), (1, vI depth), (2, vI 0), (3, vI 0)]) ⟨rfl, rfl, rfl, rfl, trivial⟩ rfl rfl ?_
  have g1 : gi M 14 2 = at_ := h2
  have g2 : gi M 14 3 = kd := h3
  have g3 : gi M 14 9 = us := h7
  have g4 : gi M 15 ct = gi M 15 ct := rfl
  exact (L_k27_14x E ihr hd H depth ct at_ kd us h0 h1 h2 h3 h4 h5 h6 h7 h8 h9 h10 h11 (((400 - 0) * 1 + 0 : Int) + 1).toNat) 0 0 at_ kd M H f0 (by omega) (by omega) (by omega) (by omega) (by omega) (by omega) (by omega) (h10) ((CZ.refl (n := us) (M := M))) (by omega) (by omega) (by omega) (by omega) (by omega) (by omega) (by omega) (by omega)
set_option maxRecDepth 4000 in
theorem L_k26_14x {base : Nat} {X : Nat → Option mC} {G : Nat → Value} (E : EnvOK base X G) {rr : Nat} (ihr : ∀ {d : Nat} (_ : 30 + 3 * rr ≤ d) {M : mH} (_ : HI base M) (depth : Int) (ct : Int) (at_ : Int) (kd : Int) (us : Int), (gi M 15 ct = 22) → (0 ≤ ct ∧ ct ≤ 400) → (gi M 14 2 = at_) → (gi M 14 3 = kd) → (0 ≤ at_ ∧ at_ ≤ ct) → (at_ = ct → kd = 22) → (0 ≤ kd ∧ kd ≤ 511) → (gi M 14 9 = us) → (0 ≤ us ∧ us ≤ at_) → (0 ≤ depth ∧ depth ≤ 8) → (CD us M) → 8 - depth < ((rr : Nat) : Int) → sOk base X G d T25 [vR 14, vI depth] M (pI (fun v M' => HI base M' ∧ Fr [(14, 3), (14, 4), (14, 5), (14, 10), (14, 11), (19, 0)] M M' ∧ (v = 0 ∨ v = 1) ∧ (at_ ≤ gi M' 14 2 ∧ gi M' 14 2 ≤ ct) ∧ (gi M' 14 2 = ct → gi M' 14 3 = 22) ∧ (0 ≤ gi M' 14 3 ∧ gi M' 14 3 ≤ 511) ∧ (us ≤ gi M' 14 9 ∧ gi M' 14 9 - us ≤ gi M' 14 2 - at_) ∧ (CD (gi M' 14 9) M') ∧ (∀ j : Int, 0 ≤ j → j < us → gi M' 19 j = gi M 19 j)))) {d : Nat} (hd : 32 + 3 * rr ≤ d) {M : mH} (H : HI base M) (depth : Int) (ct : Int) (at_ : Int) (kd : Int) (us : Int) (h0 : gi M 15 ct = 22) (h1 : 0 ≤ ct ∧ ct ≤ 400) (h2 : gi M 14 2 = at_) (h3 : gi M 14 3 = kd) (h4 : 0 ≤ at_ ∧ at_ ≤ ct) (h5 : at_ = ct → kd = 22) (h6 : 0 ≤ kd ∧ kd ≤ 511) (h7 : gi M 14 9 = us) (h8 : 0 ≤ us ∧ us ≤ at_) (h9 : 0 ≤ depth ∧ depth ≤ 8) (h10 : CD us M) (h11 : 8 - depth < (rr : Int) + 1) : ∀ mz : Nat, (∀ (x2 x3 a0 k0 u0 : Int) (N : mH), HI base N → Fr [(14, 3), (14, 4), (14, 5), (14, 10), (14, 11), (19, 0)] M N → (gi N 14 2 = a0) → (gi N 14 3 = k0) → (gi N 14 9 = u0) → (at_ ≤ a0 ∧ a0 ≤ ct) → (a0 = ct → k0 = 22) → (0 ≤ k0 ∧ k0 ≤ 511) → (us ≤ u0 ∧ u0 - us ≤ a0 - at_) → (gi N 15 ct = 22) → (CD u0 N) → (CZ us (gi M 19) N) → (0 ≤ x2 ∧ x2 ≤ 1) → (0 ≤ x2) → (x2 ≤ 1) → (0 ≤ x3) → (x3 ≤ 400) → (400 - x3) * 1 + 0 < (mz : Int) → sRn base X G d T26 8 [(0, vR 14), (1, vI depth), (2, vI x2), (3, vI x3)] [] N (s_Q base (pI (fun v M' => HI base M' ∧ Fr [(14, 3), (14, 4), (14, 5), (14, 10), (14, 11), (19, 0)] M M' ∧ (v = 0 ∨ v = 1) ∧ (at_ ≤ gi M' 14 2 ∧ gi M' 14 2 ≤ ct) ∧ (gi M' 14 2 = ct → gi M' 14 3 = 22) ∧ (0 ≤ gi M' 14 3 ∧ gi M' 14 3 ≤ 511) ∧ (us ≤ gi M' 14 9 ∧ gi M' 14 9 - us ≤ gi M' 14 2 - at_) ∧ (CD (gi M' 14 9) M') ∧ (∀ j : Int, 0 ≤ j → j < us → gi M' 19 j = gi M 19 j))))) := by
  have f0 : Fr [(14, 3), (14, 4), (14, 5), (14, 10), (14, 11), (19, 0)] M M := Fr.rf
  intro mz
  induction mz with
  | zero => exact fun x2 x3 a0 k0 u0 N _ _ z0 z1 z2 z3 z4 z5 z6 z7 z8 z9 z10 z11 z12 z13 z14 z15 => by omega
  | succ mz ih =>
    intro x2 x3 a0 k0 u0 N HN fN i0 i1 i2 i3 i4 i5 i6 i7 i8 i9 i10 i11 i12 i13 i14 hmu
    refine s_blx (lv' := [(0, vR 14), (1, vI depth), (2, vI x2), (3, vI x3)]) (st' := [vI 400, vI x3]) B26_8_12 rfl ?_
    refine r_icmp (tgt := 59) (pc' := 15) D26_12 rfl rfl (by unfold inR; omega) (fun (c28 : 400 ≤ x3) => ?_) (fun (c28 : ¬ (400 ≤ x3)) => ?_)
    · refine s_blx (lv' := [(0, vR 14), (1, vI depth), (2, vI x2), (3, vI x3)]) (st' := [vI x2]) B26_59_60 rfl ?_
      have g29 : gi N 14 2 = a0 := i0
      have g30 : gi N 14 3 = k0 := i1
      have g31 : gi N 14 9 = u0 := i2
      exact r_zretI D26_60 rfl (by omega) (⟨HN, fN, by omega, by rw [g29]; omega, by rw [g29, g30]; omega, by rw [g30]; omega, by rw [g29, g31]; omega, by rw [(i2)]; exact i8, i9⟩)
    · refine s_blx (lv' := [(0, vR 14), (1, vI depth), (2, vI x2), (3, vI x3)]) (st' := [vI x2]) B26_15_16 rfl ?_
      refine r_ifc (tgt := 59) (pc' := 19) D26_16 rfl rfl (by unfold inR; omega) (fun (c32 : x2 = 0) => ?_) (fun (c32 : ¬ (x2 = 0)) => ?_)
      · refine s_blx (lv' := [(0, vR 14), (1, vI depth), (2, vI x2), (3, vI x3)]) (st' := [vI x2]) B26_59_60 rfl ?_
        have g33 : gi N 14 2 = a0 := i0
        have g34 : gi N 14 3 = k0 := i1
        have g35 : gi N 14 9 = u0 := i2
        exact r_zretI D26_60 rfl (by omega) (⟨HN, fN, by omega, by rw [g33]; omega, by rw [g33, g34]; omega, by rw [g34]; omega, by rw [g33, g35]; omega, by rw [(i2)]; exact i8, i9⟩)
      · refine s_blx (lv' := [(0, vR 14), (1, vI depth), (2, vI x2), (3, vI x3)]) (st' := [vR 14]) B26_19_20 rfl ?_
        refine r_gint (ki := 3) (pc' := 23) D26_20 rfl gf_4_22_14 rfl HN.1 ?_
        intro w36 e37 r38
        have e39 : k0 = w36 := (e37.trans (i1)).symm
        subst e39
        refine s_blx (lv' := [(0, vR 14), (1, vI depth), (2, vI x2), (3, vI x3)]) (st' := [vI 8, vI k0]) B26_23_25 rfl ?_
        refine r_icmp (tgt := 59) (pc' := 28) D26_25 rfl rfl (by unfold inR; omega) (fun (c40 : k0 ≠ 8) => ?_) (fun (c40 : ¬ (k0 ≠ 8)) => ?_)
        · refine s_blx (lv' := [(0, vR 14), (1, vI depth), (2, vI x2), (3, vI x3)]) (st' := [vI x2]) B26_59_60 rfl ?_
          have g41 : gi N 14 2 = a0 := i0
          have g42 : gi N 14 3 = k0 := i1
          have g43 : gi N 14 9 = u0 := i2
          exact r_zretI D26_60 rfl (by omega) (⟨HN, fN, by omega, by rw [g41]; omega, by rw [g41, g42]; omega, by rw [g42]; omega, by rw [g41, g43]; omega, by rw [(i2)]; exact i8, i9⟩)
        · refine s_blx (lv' := [(0, vR 14), (1, vI depth), (2, vI x2), (3, vI x3)]) (st' := [vI 0, vI 10, vR 14]) B26_28_32 rfl ?_
          have g44 : gi N 14 9 = u0 := i2
          refine r_vI (c := 14) (args := [vI 10, vI 0]) (rest := []) (pc' := 35) D26_32 rfl ck_4_virtual_118 TE37 rfl (Nat.le_of_ble_eq_true rfl) ⟨Nat.le_of_ble_eq_true rfl, Nat.le_of_ble_eq_true rfl⟩ sc_14 ⟨rfl, by decide⟩ HN.1 (by omega) (k37_14x E (by omega) HN 10 0 u0 (by omega) (by omega) (by omega) (by omega) (by omega) (i8)) ?_
          intro v45 M46 q54
          obtain ⟨H47, f48, q49, q50, q51, q52, q53⟩ := q54
          have f55 := fN.tr (f48.up rfl)
          have hp56 := i9.sm q53 (by omega)
          obtain ⟨t57, ht58⟩ : ∃ q, q = gi M46 14 9 := ⟨_, rfl⟩
          have b_t57 := H47.2 14 9 0 400 rfl
          rw [← ht58] at b_t57
          rw [← ht58] at q50
          rw [← ht58] at q52
          have kj := q51; clear q51
          refine s_blx (lv' := [(4, vI v45), (0, vR 14), (1, vI depth), (2, vI x2), (3, vI x3)]) (st' := [vR 14]) B26_35_38 rfl ?_
          have g59 : gi M46 15 ct = gi N 15 ct := (f48.g rfl).trans (rfl)
          have g60 : gi M46 14 2 = a0 := (f48.g rfl).trans (i0)
          have g61 : gi M46 14 3 = k0 := (f48.g rfl).trans (i1)
          refine r_vV (c := 14) (args := []) (rest := []) (pc' := 41) D26_38 rfl ck_4_virtual_105 TE35 rfl (Nat.le_of_ble_eq_true rfl) ⟨Nat.le_of_ble_eq_true rfl, Nat.le_of_ble_eq_true rfl⟩ sc_14 ⟨rfl, by decide⟩ H47.1 (by omega) (k35_14x E (by omega) H47 ct a0 k0 (by omega) (by omega) (by omega) (by omega) (by omega) (by omega) (by omega) (by omega)) ?_
          intro M63 q70
          obtain ⟨H64, f65, q66, q67, q68, q69⟩ := q70
          have f71 := f55.tr (f65.up rfl)
          have hp72 := hp56.fr f65 (by decide)
          have hp73 := q52.fr f65 (by decide)
          obtain ⟨t74, ht75⟩ : ∃ q, q = gi M63 14 2 := ⟨_, rfl⟩
          have b_t74 := H64.2 14 2 0 400 rfl
          rw [← ht75] at b_t74
          obtain ⟨t76, ht77⟩ : ∃ q, q = gi M63 14 3 := ⟨_, rfl⟩
          have b_t76 := H64.2 14 3 0 511 rfl
          rw [← ht77] at b_t76
          rw [← ht75] at q66
          rw [← ht77] at q68
          rw [← ht77] at q69
          refine s_blx (lv' := [(4, vI v45), (0, vR 14), (1, vI depth), (2, vI x2), (3, vI x3)]) (st' := [vI depth, vR 14]) B26_41_43 rfl ?_
          have kj1 : gi M63 19 v45 = 10 ∨ gi M63 19 v45 = 11 := by rw [show v45 = u0 by omega]; first | (left; rw [f65.g rfl]; omega) | (right; rw [f65.g rfl]; omega)
          have g78 : gi M63 15 ct = gi N 15 ct := (f65.g rfl).trans ((f48.g rfl).trans (rfl))
          have g79 : gi M63 14 2 = t74 := ht75.symm
          have g80 : gi M63 14 3 = t76 := ht77.symm
          have g81 : gi M63 14 9 = t57 := (f65.g rfl).trans (ht58.symm)
          refine r_vI (c := 14) (args := [vI depth]) (rest := []) (pc' := 46) D26_43 rfl ck_4_virtual_125 TE27 rfl (Nat.le_of_ble_eq_true rfl) ⟨Nat.le_of_ble_eq_true rfl, Nat.le_of_ble_eq_true rfl⟩ sc_14 ⟨rfl, by decide⟩ H64.1 (by omega) (k27_14x E ihr (by omega) H64 depth ct t74 t76 t57 (by omega) (by omega) (by omega) (by omega) (by omega) (by omega) (by omega) (by omega) (by omega) (by omega) (hp73) (by omega)) ?_
          intro v82 M83 q93
          obtain ⟨H84, f85, q86, q87, q88, q89, q90, q91, q92⟩ := q93
          have f94 := f71.tr (f85.up rfl)
          have hp95 := hp72.sm q92 (by omega)
          obtain ⟨t96, ht97⟩ : ∃ q, q = gi M83 14 2 := ⟨_, rfl⟩
          have b_t96 := H84.2 14 2 0 400 rfl
          rw [← ht97] at b_t96
          obtain ⟨t98, ht99⟩ : ∃ q, q = gi M83 14 3 := ⟨_, rfl⟩
          have b_t98 := H84.2 14 3 0 511 rfl
          rw [← ht99] at b_t98
          obtain ⟨t100, ht101⟩ : ∃ q, q = gi M83 14 9 := ⟨_, rfl⟩
          have b_t100 := H84.2 14 9 0 400 rfl
          rw [← ht101] at b_t100
          rw [← ht97] at q87
          rw [← ht97, ← ht99] at q88
          rw [← ht99] at q89
          rw [← ht97, ← ht101] at q90
          rw [← ht101] at q91
          have kj2 : gi M83 19 v45 = 10 ∨ gi M83 19 v45 = 11 := by rw [q92 v45 (by omega) (by omega)]; exact kj1
          refine s_blx (lv' := [(2, vI v82), (4, vI v45), (0, vR 14), (1, vI depth), (3, vI x3)]) (st' := [vI v45, vR 14]) B26_46_50 rfl ?_
          have g102 : gi M83 14 9 = t100 := ht101.symm
          refine r_vV (c := 14) (args := [vI v45]) (rest := []) (pc' := 53) D26_50 rfl ck_4_virtual_121 TE38 rfl (Nat.le_of_ble_eq_true rfl) ⟨Nat.le_of_ble_eq_true rfl, Nat.le_of_ble_eq_true rfl⟩ sc_14 ⟨rfl, by decide⟩ H84.1 (by omega) (k38_14x E (by omega) H84 v45 t100 (by omega) (by omega) (by omega) (kj2) (q91)) ?_
          intro M104 q109
          obtain ⟨H105, f106, q107, q108⟩ := q109
          have f110 := f94.tr (f106.up rfl)
          have hp111 := hp95.sj q108 (by omega)
          refine s_blx (lv' := [(3, vI (x3 + 1)), (2, vI v82), (4, vI v45), (0, vR 14), (1, vI depth)]) (st' := []) B26_53_56 rfl ?_
          refine r_goto (tgt := 8) D26_56 rfl ?_
          refine r_loc (lv' := [(0, vR 14), (1, vI depth), (2, vI v82), (3, vI (x3 + 1))]) ⟨rfl, rfl, rfl, rfl, trivial⟩ rfl rfl ?_
          have g112 : gi M104 14 2 = t96 := (f106.g rfl).trans (ht97.symm)
          have g113 : gi M104 14 3 = t98 := (f106.g rfl).trans (ht99.symm)
          have g114 : gi M104 14 9 = t100 := (f106.g rfl).trans (ht101.symm)
          have g115 : gi M104 15 ct = gi N 15 ct := (f106.g rfl).trans ((f85.g rfl).trans ((f65.g rfl).trans ((f48.g rfl).trans (rfl))))
          exact ih v82 (x3 + 1) t96 t98 t100 M104 H105 f110 (by omega) (by omega) (by omega) (by omega) (by omega) (by omega) (by omega) (by omega) (q107) (hp111) (by omega) (by omega) (by omega) (by omega) (by omega) (by omega)
set_option maxRecDepth 4000 in
theorem k26_14x {base : Nat} {X : Nat → Option mC} {G : Nat → Value} (E : EnvOK base X G) {rr : Nat} (ihr : ∀ {d : Nat} (_ : 30 + 3 * rr ≤ d) {M : mH} (_ : HI base M) (depth : Int) (ct : Int) (at_ : Int) (kd : Int) (us : Int), (gi M 15 ct = 22) → (0 ≤ ct ∧ ct ≤ 400) → (gi M 14 2 = at_) → (gi M 14 3 = kd) → (0 ≤ at_ ∧ at_ ≤ ct) → (at_ = ct → kd = 22) → (0 ≤ kd ∧ kd ≤ 511) → (gi M 14 9 = us) → (0 ≤ us ∧ us ≤ at_) → (0 ≤ depth ∧ depth ≤ 8) → (CD us M) → 8 - depth < ((rr : Nat) : Int) → sOk base X G d T25 [vR 14, vI depth] M (pI (fun v M' => HI base M' ∧ Fr [(14, 3), (14, 4), (14, 5), (14, 10), (14, 11), (19, 0)] M M' ∧ (v = 0 ∨ v = 1) ∧ (at_ ≤ gi M' 14 2 ∧ gi M' 14 2 ≤ ct) ∧ (gi M' 14 2 = ct → gi M' 14 3 = 22) ∧ (0 ≤ gi M' 14 3 ∧ gi M' 14 3 ≤ 511) ∧ (us ≤ gi M' 14 9 ∧ gi M' 14 9 - us ≤ gi M' 14 2 - at_) ∧ (CD (gi M' 14 9) M') ∧ (∀ j : Int, 0 ≤ j → j < us → gi M' 19 j = gi M 19 j)))) {d : Nat} (hd : 32 + 3 * rr ≤ d) {M : mH} (H : HI base M) (depth : Int) (ct : Int) (at_ : Int) (kd : Int) (us : Int) (h0 : gi M 15 ct = 22) (h1 : 0 ≤ ct ∧ ct ≤ 400) (h2 : gi M 14 2 = at_) (h3 : gi M 14 3 = kd) (h4 : 0 ≤ at_ ∧ at_ ≤ ct) (h5 : at_ = ct → kd = 22) (h6 : 0 ≤ kd ∧ kd ≤ 511) (h7 : gi M 14 9 = us) (h8 : 0 ≤ us ∧ us ≤ at_) (h9 : 0 ≤ depth ∧ depth ≤ 8) (h10 : CD us M) (h11 : 8 - depth < (rr : Int) + 1) : sOk base X G d T26 [vR 14, vI depth] M (pI (fun v M' => HI base M' ∧ Fr [(14, 3), (14, 4), (14, 5), (14, 10), (14, 11), (19, 0)] M M' ∧ (v = 0 ∨ v = 1) ∧ (at_ ≤ gi M' 14 2 ∧ gi M' 14 2 ≤ ct) ∧ (gi M' 14 2 = ct → gi M' 14 3 = 22) ∧ (0 ≤ gi M' 14 3 ∧ gi M' 14 3 ≤ 511) ∧ (us ≤ gi M' 14 9 ∧ gi M' 14 9 - us ≤ gi M' 14 2 - at_) ∧ (CD (gi M' 14 9) M') ∧ (∀ j : Int, 0 ≤ j → j < us → gi M' 19 j = gi M 19 j))) := by
  have f0 : Fr [(14, 3), (14, 4), (14, 5), (14, 10), (14, 11), (19, 0)] M M := Fr.rf
  refine sOk.of (show sRn base X G d T26 0 [(0, vR 14), (1, vI depth)] [] M _ from ?_)
  refine s_blx (lv' := [(0, vR 14), (1, vI depth)]) (st' := [vI depth, vR 14]) B26_0_2 rfl ?_
  have g1 : gi M 14 2 = at_ := h2
  have g2 : gi M 14 3 = kd := h3
  have g3 : gi M 14 9 = us := h7
  refine r_vI (c := 14) (args := [vI depth]) (rest := []) (pc' := 5) D26_2 rfl ck_4_virtual_125 TE27 rfl (Nat.le_of_ble_eq_true rfl) ⟨Nat.le_of_ble_eq_true rfl, Nat.le_of_ble_eq_true rfl⟩ sc_14 ⟨rfl, by decide⟩ H.1 (by omega) (k27_14x E ihr (by omega) H depth ct at_ kd us (by omega) (by omega) (by omega) (by omega) (by omega) (by omega) (by omega) (by omega) (by omega) (by omega) (h10) (by omega)) ?_
  intro v4 M5 q15
  obtain ⟨H6, f7, q8, q9, q10, q11, q12, q13, q14⟩ := q15
  have f16 := f0.tr (f7.up rfl)
  have hp17 := (CZ.refl (n := us) (M := M)).sm q14 (by omega)
  obtain ⟨t18, ht19⟩ : ∃ q, q = gi M5 14 2 := ⟨_, rfl⟩
  have b_t18 := H6.2 14 2 0 400 rfl
  rw [← ht19] at b_t18
  obtain ⟨t20, ht21⟩ : ∃ q, q = gi M5 14 3 := ⟨_, rfl⟩
  have b_t20 := H6.2 14 3 0 511 rfl
  rw [← ht21] at b_t20
  obtain ⟨t22, ht23⟩ : ∃ q, q = gi M5 14 9 := ⟨_, rfl⟩
  have b_t22 := H6.2 14 9 0 400 rfl
  rw [← ht23] at b_t22
  rw [← ht19] at q9
  rw [← ht19, ← ht21] at q10
  rw [← ht21] at q11
  rw [← ht19, ← ht23] at q12
  rw [← ht23] at q13
  refine s_blx (lv' := [(3, vI 0), (2, vI v4), (0, vR 14), (1, vI depth)]) (st' := []) B26_5_8 rfl ?_
  refine r_loc (lv' := [(0, vR 14), (1, vI depth), (2, vI v4), (3, vI 0)]) ⟨rfl, rfl, rfl, rfl, trivial⟩ rfl rfl ?_
  have g24 : gi M5 14 2 = t18 := ht19.symm
  have g25 : gi M5 14 3 = t20 := ht21.symm
  have g26 : gi M5 14 9 = t22 := ht23.symm
  have g27 : gi M5 15 ct = gi M 15 ct := (f7.g rfl).trans (rfl)
  exact (L_k26_14x E ihr hd H depth ct at_ kd us h0 h1 h2 h3 h4 h5 h6 h7 h8 h9 h10 h11 (((400 - 0) * 1 + 0 : Int) + 1).toNat) v4 0 t18 t20 t22 M5 H6 f16 (by omega) (by omega) (by omega) (by omega) (by omega) (by omega) (by omega) (by omega) (q13) (hp17) (by omega) (by omega) (by omega) (by omega) (by omega) (by omega)
set_option maxRecDepth 4000 in
theorem L_k25_14x {base : Nat} {X : Nat → Option mC} {G : Nat → Value} (E : EnvOK base X G) {rr : Nat} (ihr : ∀ {d : Nat} (_ : 30 + 3 * rr ≤ d) {M : mH} (_ : HI base M) (depth : Int) (ct : Int) (at_ : Int) (kd : Int) (us : Int), (gi M 15 ct = 22) → (0 ≤ ct ∧ ct ≤ 400) → (gi M 14 2 = at_) → (gi M 14 3 = kd) → (0 ≤ at_ ∧ at_ ≤ ct) → (at_ = ct → kd = 22) → (0 ≤ kd ∧ kd ≤ 511) → (gi M 14 9 = us) → (0 ≤ us ∧ us ≤ at_) → (0 ≤ depth ∧ depth ≤ 8) → (CD us M) → 8 - depth < ((rr : Nat) : Int) → sOk base X G d T25 [vR 14, vI depth] M (pI (fun v M' => HI base M' ∧ Fr [(14, 3), (14, 4), (14, 5), (14, 10), (14, 11), (19, 0)] M M' ∧ (v = 0 ∨ v = 1) ∧ (at_ ≤ gi M' 14 2 ∧ gi M' 14 2 ≤ ct) ∧ (gi M' 14 2 = ct → gi M' 14 3 = 22) ∧ (0 ≤ gi M' 14 3 ∧ gi M' 14 3 ≤ 511) ∧ (us ≤ gi M' 14 9 ∧ gi M' 14 9 - us ≤ gi M' 14 2 - at_) ∧ (CD (gi M' 14 9) M') ∧ (∀ j : Int, 0 ≤ j → j < us → gi M' 19 j = gi M 19 j)))) {d : Nat} (hd : 30 + 3 * (rr + 1) ≤ d) {M : mH} (H : HI base M) (depth : Int) (ct : Int) (at_ : Int) (kd : Int) (us : Int) (h0 : gi M 15 ct = 22) (h1 : 0 ≤ ct ∧ ct ≤ 400) (h2 : gi M 14 2 = at_) (h3 : gi M 14 3 = kd) (h4 : 0 ≤ at_ ∧ at_ ≤ ct) (h5 : at_ = ct → kd = 22) (h6 : 0 ≤ kd ∧ kd ≤ 511) (h7 : gi M 14 9 = us) (h8 : 0 ≤ us ∧ us ≤ at_) (h9 : 0 ≤ depth ∧ depth ≤ 8) (h10 : CD us M) (hrr : 8 - depth < ((rr + 1 : Nat) : Int)) : ∀ mz : Nat, (∀ (x2 x3 a0 k0 u0 : Int) (N : mH), HI base N → Fr [(14, 3), (14, 4), (14, 5), (14, 10), (14, 11), (19, 0)] M N → (gi N 14 2 = a0) → (gi N 14 3 = k0) → (gi N 14 9 = u0) → (at_ ≤ a0 ∧ a0 ≤ ct) → (a0 = ct → k0 = 22) → (0 ≤ k0 ∧ k0 ≤ 511) → (us ≤ u0 ∧ u0 - us ≤ a0 - at_) → (gi N 15 ct = 22) → (CD u0 N) → (CZ us (gi M 19) N) → (0 ≤ x2 ∧ x2 ≤ 1) → (0 ≤ x2) → (x2 ≤ 1) → (0 ≤ x3) → (x3 ≤ 400) → (400 - x3) * 1 + 0 < (mz : Int) → sRn base X G d T25 8 [(0, vR 14), (1, vI depth), (2, vI x2), (3, vI x3)] [] N (s_Q base (pI (fun v M' => HI base M' ∧ Fr [(14, 3), (14, 4), (14, 5), (14, 10), (14, 11), (19, 0)] M M' ∧ (v = 0 ∨ v = 1) ∧ (at_ ≤ gi M' 14 2 ∧ gi M' 14 2 ≤ ct) ∧ (gi M' 14 2 = ct → gi M' 14 3 = 22) ∧ (0 ≤ gi M' 14 3 ∧ gi M' 14 3 ≤ 511) ∧ (us ≤ gi M' 14 9 ∧ gi M' 14 9 - us ≤ gi M' 14 2 - at_) ∧ (CD (gi M' 14 9) M') ∧ (∀ j : Int, 0 ≤ j → j < us → gi M' 19 j = gi M 19 j))))) := by
  have f0 : Fr [(14, 3), (14, 4), (14, 5), (14, 10), (14, 11), (19, 0)] M M := Fr.rf
  intro mz
  induction mz with
  | zero => exact fun x2 x3 a0 k0 u0 N _ _ z0 z1 z2 z3 z4 z5 z6 z7 z8 z9 z10 z11 z12 z13 z14 z15 => by omega
  | succ mz ih =>
    intro x2 x3 a0 k0 u0 N HN fN i0 i1 i2 i3 i4 i5 i6 i7 i8 i9 i10 i11 i12 i13 i14 hmu
    refine s_blx (lv' := [(0, vR 14), (1, vI depth), (2, vI x2), (3, vI x3)]) (st' := [vI 400, vI x3]) B25_8_12 rfl ?_
    refine r_icmp (tgt := 59) (pc' := 15) D25_12 rfl rfl (by unfold inR; omega) (fun (c28 : 400 ≤ x3) => ?_) (fun (c28 : ¬ (400 ≤ x3)) => ?_)
    · refine s_blx (lv' := [(0, vR 14), (1, vI depth), (2, vI x2), (3, vI x3)]) (st' := [vI x2]) B25_59_60 rfl ?_
      have g29 : gi N 14 2 = a0 := i0
      have g30 : gi N 14 3 = k0 := i1
      have g31 : gi N 14 9 = u0 := i2
      exact r_zretI D25_60 rfl (by omega) (⟨HN, fN, by omega, by rw [g29]; omega, by rw [g29, g30]; omega, by rw [g30]; omega, by rw [g29, g31]; omega, by rw [(i2)]; exact i8, i9⟩)
    · refine s_blx (lv' := [(0, vR 14), (1, vI depth), (2, vI x2), (3, vI x3)]) (st' := [vI x2]) B25_15_16 rfl ?_
      refine r_ifc (tgt := 59) (pc' := 19) D25_16 rfl rfl (by unfold inR; omega) (fun (c32 : x2 = 0) => ?_) (fun (c32 : ¬ (x2 = 0)) => ?_)
      · refine s_blx (lv' := [(0, vR 14), (1, vI depth), (2, vI x2), (3, vI x3)]) (st' := [vI x2]) B25_59_60 rfl ?_
        have g33 : gi N 14 2 = a0 := i0
        have g34 : gi N 14 3 = k0 := i1
        have g35 : gi N 14 9 = u0 := i2
        exact r_zretI D25_60 rfl (by omega) (⟨HN, fN, by omega, by rw [g33]; omega, by rw [g33, g34]; omega, by rw [g34]; omega, by rw [g33, g35]; omega, by rw [(i2)]; exact i8, i9⟩)
      · refine s_blx (lv' := [(0, vR 14), (1, vI depth), (2, vI x2), (3, vI x3)]) (st' := [vR 14]) B25_19_20 rfl ?_
        refine r_gint (ki := 3) (pc' := 23) D25_20 rfl gf_4_22_14 rfl HN.1 ?_
        intro w36 e37 r38
        have e39 : k0 = w36 := (e37.trans (i1)).symm
        subst e39
        refine s_blx (lv' := [(0, vR 14), (1, vI depth), (2, vI x2), (3, vI x3)]) (st' := [vI 7, vI k0]) B25_23_25 rfl ?_
        refine r_icmp (tgt := 59) (pc' := 28) D25_25 rfl rfl (by unfold inR; omega) (fun (c40 : k0 ≠ 7) => ?_) (fun (c40 : ¬ (k0 ≠ 7)) => ?_)
        · refine s_blx (lv' := [(0, vR 14), (1, vI depth), (2, vI x2), (3, vI x3)]) (st' := [vI x2]) B25_59_60 rfl ?_
          have g41 : gi N 14 2 = a0 := i0
          have g42 : gi N 14 3 = k0 := i1
          have g43 : gi N 14 9 = u0 := i2
          exact r_zretI D25_60 rfl (by omega) (⟨HN, fN, by omega, by rw [g41]; omega, by rw [g41, g42]; omega, by rw [g42]; omega, by rw [g41, g43]; omega, by rw [(i2)]; exact i8, i9⟩)
        · refine s_blx (lv' := [(0, vR 14), (1, vI depth), (2, vI x2), (3, vI x3)]) (st' := [vI 0, vI 11, vR 14]) B25_28_32 rfl ?_
          have g44 : gi N 14 9 = u0 := i2
          refine r_vI (c := 14) (args := [vI 11, vI 0]) (rest := []) (pc' := 35) D25_32 rfl ck_4_virtual_118 TE37 rfl (Nat.le_of_ble_eq_true rfl) ⟨Nat.le_of_ble_eq_true rfl, Nat.le_of_ble_eq_true rfl⟩ sc_14 ⟨rfl, by decide⟩ HN.1 (by omega) (k37_14x E (by omega) HN 11 0 u0 (by omega) (by omega) (by omega) (by omega) (by omega) (i8)) ?_
          intro v45 M46 q54
          obtain ⟨H47, f48, q49, q50, q51, q52, q53⟩ := q54
          have f55 := fN.tr (f48.up rfl)
          have hp56 := i9.sm q53 (by omega)
          obtain ⟨t57, ht58⟩ : ∃ q, q = gi M46 14 9 := ⟨_, rfl⟩
          have b_t57 := H47.2 14 9 0 400 rfl
          rw [← ht58] at b_t57
          rw [← ht58] at q50
          rw [← ht58] at q52
          have kj := q51; clear q51
          refine s_blx (lv' := [(4, vI v45), (0, vR 14), (1, vI depth), (2, vI x2), (3, vI x3)]) (st' := [vR 14]) B25_35_38 rfl ?_
          have g59 : gi M46 15 ct = gi N 15 ct := (f48.g rfl).trans (rfl)
          have g60 : gi M46 14 2 = a0 := (f48.g rfl).trans (i0)
          have g61 : gi M46 14 3 = k0 := (f48.g rfl).trans (i1)
          refine r_vV (c := 14) (args := []) (rest := []) (pc' := 41) D25_38 rfl ck_4_virtual_105 TE35 rfl (Nat.le_of_ble_eq_true rfl) ⟨Nat.le_of_ble_eq_true rfl, Nat.le_of_ble_eq_true rfl⟩ sc_14 ⟨rfl, by decide⟩ H47.1 (by omega) (k35_14x E (by omega) H47 ct a0 k0 (by omega) (by omega) (by omega) (by omega) (by omega) (by omega) (by omega) (by omega)) ?_
          intro M63 q70
          obtain ⟨H64, f65, q66, q67, q68, q69⟩ := q70
          have f71 := f55.tr (f65.up rfl)
          have hp72 := hp56.fr f65 (by decide)
          have hp73 := q52.fr f65 (by decide)
          obtain ⟨t74, ht75⟩ : ∃ q, q = gi M63 14 2 := ⟨_, rfl⟩
          have b_t74 := H64.2 14 2 0 400 rfl
          rw [← ht75] at b_t74
          obtain ⟨t76, ht77⟩ : ∃ q, q = gi M63 14 3 := ⟨_, rfl⟩
          have b_t76 := H64.2 14 3 0 511 rfl
          rw [← ht77] at b_t76
          rw [← ht75] at q66
          rw [← ht77] at q68
          rw [← ht77] at q69
          refine s_blx (lv' := [(4, vI v45), (0, vR 14), (1, vI depth), (2, vI x2), (3, vI x3)]) (st' := [vI depth, vR 14]) B25_41_43 rfl ?_
          have kj1 : gi M63 19 v45 = 10 ∨ gi M63 19 v45 = 11 := by rw [show v45 = u0 by omega]; first | (left; rw [f65.g rfl]; omega) | (right; rw [f65.g rfl]; omega)
          have g78 : gi M63 15 ct = gi N 15 ct := (f65.g rfl).trans ((f48.g rfl).trans (rfl))
          have g79 : gi M63 14 2 = t74 := ht75.symm
          have g80 : gi M63 14 3 = t76 := ht77.symm
          have g81 : gi M63 14 9 = t57 := (f65.g rfl).trans (ht58.symm)
          refine r_vI (c := 14) (args := [vI depth]) (rest := []) (pc' := 46) D25_43 rfl ck_4_virtual_115 TE26 rfl (Nat.le_of_ble_eq_true rfl) ⟨Nat.le_of_ble_eq_true rfl, Nat.le_of_ble_eq_true rfl⟩ sc_14 ⟨rfl, by decide⟩ H64.1 (by omega) (k26_14x E ihr (by omega) H64 depth ct t74 t76 t57 (by omega) (by omega) (by omega) (by omega) (by omega) (by omega) (by omega) (by omega) (by omega) (by omega) (hp73) (by omega)) ?_
          intro v82 M83 q93
          obtain ⟨H84, f85, q86, q87, q88, q89, q90, q91, q92⟩ := q93
          have f94 := f71.tr (f85.up rfl)
          have hp95 := hp72.sm q92 (by omega)
          obtain ⟨t96, ht97⟩ : ∃ q, q = gi M83 14 2 := ⟨_, rfl⟩
          have b_t96 := H84.2 14 2 0 400 rfl
          rw [← ht97] at b_t96
          obtain ⟨t98, ht99⟩ : ∃ q, q = gi M83 14 3 := ⟨_, rfl⟩
          have b_t98 := H84.2 14 3 0 511 rfl
          rw [← ht99] at b_t98
          obtain ⟨t100, ht101⟩ : ∃ q, q = gi M83 14 9 := ⟨_, rfl⟩
          have b_t100 := H84.2 14 9 0 400 rfl
          rw [← ht101] at b_t100
          rw [← ht97] at q87
          rw [← ht97, ← ht99] at q88
          rw [← ht99] at q89
          rw [← ht97, ← ht101] at q90
          rw [← ht101] at q91
          have kj2 : gi M83 19 v45 = 10 ∨ gi M83 19 v45 = 11 := by rw [q92 v45 (by omega) (by omega)]; exact kj1
          refine s_blx (lv' := [(2, vI v82), (4, vI v45), (0, vR 14), (1, vI depth), (3, vI x3)]) (st' := [vI v45, vR 14]) B25_46_50 rfl ?_
          have g102 : gi M83 14 9 = t100 := ht101.symm
          refine r_vV (c := 14) (args := [vI v45]) (rest := []) (pc' := 53) D25_50 rfl ck_4_virtual_121 TE38 rfl (Nat.le_of_ble_eq_true rfl) ⟨Nat.le_of_ble_eq_true rfl, Nat.le_of_ble_eq_true rfl⟩ sc_14 ⟨rfl, by decide⟩ H84.1 (by omega) (k38_14x E (by omega) H84 v45 t100 (by omega) (by omega) (by omega) (kj2) (q91)) ?_
          intro M104 q109
          obtain ⟨H105, f106, q107, q108⟩ := q109
          have f110 := f94.tr (f106.up rfl)
          have hp111 := hp95.sj q108 (by omega)
          refine s_blx (lv' := [(3, vI (x3 + 1)), (2, vI v82), (4, vI v45), (0, vR 14), (1, vI depth)]) (st' := []) B25_53_56 rfl ?_
          refine r_goto (tgt := 8) D25_56 rfl ?_
          refine r_loc (lv' := [(0, vR 14), (1, vI depth), (2, vI v82), (3, vI (x3 + 1))]) ⟨rfl, rfl, rfl, rfl, trivial⟩ rfl rfl ?_
          have g112 : gi M104 14 2 = t96 := (f106.g rfl).trans (ht97.symm)
          have g113 : gi M104 14 3 = t98 := (f106.g rfl).trans (ht99.symm)
          have g114 : gi M104 14 9 = t100 := (f106.g rfl).trans (ht101.symm)
          have g115 : gi M104 15 ct = gi N 15 ct := (f106.g rfl).trans ((f85.g rfl).trans ((f65.g rfl).trans ((f48.g rfl).trans (rfl))))
          exact ih v82 (x3 + 1) t96 t98 t100 M104 H105 f110 (by omega) (by omega) (by omega) (by omega) (by omega) (by omega) (by omega) (by omega) (q107) (hp111) (by omega) (by omega) (by omega) (by omega) (by omega) (by omega)
set_option maxRecDepth 4000 in
theorem k25_14xr {base : Nat} {X : Nat → Option mC} {G : Nat → Value} (E : EnvOK base X G) : ∀ rr : Nat, ∀ {d : Nat} (_ : 30 + 3 * rr ≤ d) {M : mH} (_ : HI base M) (depth : Int) (ct : Int) (at_ : Int) (kd : Int) (us : Int), (gi M 15 ct = 22) → (0 ≤ ct ∧ ct ≤ 400) → (gi M 14 2 = at_) → (gi M 14 3 = kd) → (0 ≤ at_ ∧ at_ ≤ ct) → (at_ = ct → kd = 22) → (0 ≤ kd ∧ kd ≤ 511) → (gi M 14 9 = us) → (0 ≤ us ∧ us ≤ at_) → (0 ≤ depth ∧ depth ≤ 8) → (CD us M) → 8 - depth < ((rr : Nat) : Int) → sOk base X G d T25 [vR 14, vI depth] M (pI (fun v M' => HI base M' ∧ Fr [(14, 3), (14, 4), (14, 5), (14, 10), (14, 11), (19, 0)] M M' ∧ (v = 0 ∨ v = 1) ∧ (at_ ≤ gi M' 14 2 ∧ gi M' 14 2 ≤ ct) ∧ (gi M' 14 2 = ct → gi M' 14 3 = 22) ∧ (0 ≤ gi M' 14 3 ∧ gi M' 14 3 ≤ 511) ∧ (us ≤ gi M' 14 9 ∧ gi M' 14 9 - us ≤ gi M' 14 2 - at_) ∧ (CD (gi M' 14 9) M') ∧ (∀ j : Int, 0 ≤ j → j < us → gi M' 19 j = gi M 19 j))) := by
  intro rr
  induction rr with
  | zero => intro d hd M H depth ct at_ kd us h0 h1 h2 h3 h4 h5 h6 h7 h8 h9 h10 hrr; exfalso; omega
  | succ rr ihr =>
  intro d hd M H depth ct at_ kd us h0 h1 h2 h3 h4 h5 h6 h7 h8 h9 h10 hrr
  have f0 : Fr [(14, 3), (14, 4), (14, 5), (14, 10), (14, 11), (19, 0)] M M := Fr.rf
  refine sOk.of (show sRn base X G d T25 0 [(0, vR 14), (1, vI depth)] [] M _ from ?_)
  refine s_blx (lv' := [(0, vR 14), (1, vI depth)]) (st' := [vI depth, vR 14]) B25_0_2 rfl ?_
  have g1 : gi M 14 2 = at_ := h2
  have g2 : gi M 14 3 = kd := h3
  have g3 : gi M 14 9 = us := h7
  refine r_vI (c := 14) (args := [vI depth]) (rest := []) (pc' := 5) D25_2 rfl ck_4_virtual_115 TE26 rfl (Nat.le_of_ble_eq_true rfl) ⟨Nat.le_of_ble_eq_true rfl, Nat.le_of_ble_eq_true rfl⟩ sc_14 ⟨rfl, by decide⟩ H.1 (by omega) (k26_14x E ihr (by omega) H depth ct at_ kd us (by omega) (by omega) (by omega) (by omega) (by omega) (by omega) (by omega) (by omega) (by omega) (by omega) (h10) (by omega)) ?_
  intro v4 M5 q15
  obtain ⟨H6, f7, q8, q9, q10, q11, q12, q13, q14⟩ := q15
  have f16 := f0.tr (f7.up rfl)
  have hp17 := (CZ.refl (n := us) (M := M)).sm q14 (by omega)
  obtain ⟨t18, ht19⟩ : ∃ q, q = gi M5 14 2 := ⟨_, rfl⟩
  have b_t18 := H6.2 14 2 0 400 rfl
  rw [← ht19] at b_t18
  obtain ⟨t20, ht21⟩ : ∃ q, q = gi M5 14 3 := ⟨_, rfl⟩
  have b_t20 := H6.2 14 3 0 511 rfl
  rw [← ht21] at b_t20
  obtain ⟨t22, ht23⟩ : ∃ q, q = gi M5 14 9 := ⟨_, rfl⟩
  have b_t22 := H6.2 14 9 0 400 rfl
  rw [← ht23] at b_t22
  rw [← ht19] at q9
  rw [← ht19, ← ht21] at q10
  rw [← ht21] at q11
  rw [← ht19, ← ht23] at q12
  rw [← ht23] at q13
  refine s_blx (lv' := [(3, vI 0), (2, vI v4), (0, vR 14), (1, vI depth)]) (st' := []) B25_5_8 rfl ?_
  refine r_loc (lv' := [(0, vR 14), (1, vI depth), (2, vI v4), (3, vI 0)]) ⟨rfl, rfl, rfl, rfl, trivial⟩ rfl rfl ?_
  have g24 : gi M5 14 2 = t18 := ht19.symm
  have g25 : gi M5 14 3 = t20 := ht21.symm
  have g26 : gi M5 14 9 = t22 := ht23.symm
  have g27 : gi M5 15 ct = gi M 15 ct := (f7.g rfl).trans (rfl)
  exact (L_k25_14x E ihr hd H depth ct at_ kd us h0 h1 h2 h3 h4 h5 h6 h7 h8 h9 h10 hrr (((400 - 0) * 1 + 0 : Int) + 1).toNat) v4 0 t18 t20 t22 M5 H6 f16 (by omega) (by omega) (by omega) (by omega) (by omega) (by omega) (by omega) (by omega) (q13) (hp17) (by omega) (by omega) (by omega) (by omega) (by omega) (by omega)
theorem k25_14x {base : Nat} {X : Nat → Option mC} {G : Nat → Value} (E : EnvOK base X G) {d : Nat} (hd : 57 ≤ d) {M : mH} (H : HI base M) (depth : Int) (ct : Int) (at_ : Int) (kd : Int) (us : Int) (h0 : gi M 15 ct = 22) (h1 : 0 ≤ ct ∧ ct ≤ 400) (h2 : gi M 14 2 = at_) (h3 : gi M 14 3 = kd) (h4 : 0 ≤ at_ ∧ at_ ≤ ct) (h5 : at_ = ct → kd = 22) (h6 : 0 ≤ kd ∧ kd ≤ 511) (h7 : gi M 14 9 = us) (h8 : 0 ≤ us ∧ us ≤ at_) (h9 : 0 ≤ depth ∧ depth ≤ 8) (h10 : CD us M) : sOk base X G d T25 [vR 14, vI depth] M (pI (fun v M' => HI base M' ∧ Fr [(14, 3), (14, 4), (14, 5), (14, 10), (14, 11), (19, 0)] M M' ∧ (v = 0 ∨ v = 1) ∧ (at_ ≤ gi M' 14 2 ∧ gi M' 14 2 ≤ ct) ∧ (gi M' 14 2 = ct → gi M' 14 3 = 22) ∧ (0 ≤ gi M' 14 3 ∧ gi M' 14 3 ≤ 511) ∧ (us ≤ gi M' 14 9 ∧ gi M' 14 9 - us ≤ gi M' 14 2 - at_) ∧ (CD (gi M' 14 9) M') ∧ (∀ j : Int, 0 ≤ j → j < us → gi M' 19 j = gi M 19 j))) := k25_14xr E 9 (by omega) H depth ct at_ kd us h0 h1 h2 h3 h4 h5 h6 h7 h8 h9 h10 (by omega)
