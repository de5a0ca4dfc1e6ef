noncomputable def T44 : mT := (6, yX6_digitAt, cX6_digitAt, 5, (some .int))
set_option maxRecDepth 10000 in
theorem TE44 : sy_m[44]? = some T44 := rfl
theorem B44_0_2 : s_dk T44.2.2.1 0 [.iload_n 2, .iload_n 1] 2 = true := by decide +kernel
theorem D44_2 : decode T44.2.2.1 2 = .ok (.if_icmp .lt 5, 3) := by decide +kernel
theorem B44_7_14 : s_dk T44.2.2.1 7 [.iload_n 0, .istore_n 3, .iload_n 1, .iconst 1, .isub, .istore 4] 14 = true := by decide +kernel
theorem B44_5_6 : s_dk T44.2.2.1 5 [.iconst (-1)] 6 = true := by decide +kernel
theorem D44_6 : decode T44.2.2.1 6 = .ok (.ireturn, 1) := by decide +kernel
theorem B44_14_17 : s_dk T44.2.2.1 14 [.iload 4, .iload_n 2] 17 = true := by decide +kernel
theorem D44_17 : decode T44.2.2.1 17 = .ok (.if_icmp .le 16, 3) := by decide +kernel
theorem B44_33_38 : s_dk T44.2.2.1 33 [.iload_n 3, .iconst 1, .isub, .bipush 10] 38 = true := by decide +kernel
theorem D44_38 : decode T44.2.2.1 38 = .ok (.irem, 1) := by decide +kernel
theorem D44_39 : decode T44.2.2.1 39 = .ok (.ireturn, 1) := by decide +kernel
theorem B44_20_25 : s_dk T44.2.2.1 20 [.iload_n 3, .iconst 1, .isub, .bipush 10] 25 = true := by decide +kernel
theorem D44_25 : decode T44.2.2.1 25 = .ok (.idiv, 1) := by decide +kernel
theorem B44_26_30 : s_dk T44.2.2.1 26 [.istore_n 3, .iinc 4 (-1)] 30 = true := by decide +kernel
theorem D44_30 : decode T44.2.2.1 30 = .ok (.goto (-16), 3) := by decide +kernel
noncomputable def T45 : mT := (6, yX6_changedAt, cX6_changedAt, 6, (some .int))
set_option maxRecDepth 10000 in
theorem TE45 : sy_m[45]? = some T45 := rfl
theorem B45_0_4 : s_dk T45.2.2.1 0 [.iload_n 3, .iload_n 0, .iload_n 1, .iload_n 2] 4 = true := by decide +kernel
theorem D45_4 : decode T45.2.2.1 4 = .ok (.invokestatic 9, 3) := by decide +kernel
theorem ck_6_static_9 : m_call 6 (.invokestatic 9) = some (1, 44, 3) := by decide +kernel
theorem B45_7_15 : s_dk T45.2.2.1 7 [.isub, .istore 4, .iload_n 1, .iconst 1, .isub, .istore 5] 15 = true := by decide +kernel
theorem B45_15_18 : s_dk T45.2.2.1 15 [.iload 5, .iload_n 2] 18 = true := by decide +kernel
theorem D45_18 : decode T45.2.2.1 18 = .ok (.if_icmp .le 16, 3) := by decide +kernel
theorem B45_34_38 : s_dk T45.2.2.1 34 [.iload_n 0, .iload 4, .iadd] 38 = true := by decide +kernel
theorem D45_38 : decode T45.2.2.1 38 = .ok (.ireturn, 1) := by decide +kernel
theorem B45_21_31 : s_dk T45.2.2.1 21 [.iload 4, .bipush 10, .imul, .istore 4, .iinc 5 (-1)] 31 = true := by decide +kernel
theorem D45_31 : decode T45.2.2.1 31 = .ok (.goto (-16), 3) := by decide +kernel
noncomputable def T86 : mT := (9, yX9_digitOf, cX9_digitOf, 3, (some .int))
set_option maxRecDepth 10000 in
theorem TE86 : sy_m[86]? = some T86 := rfl
theorem B86_0_2 : s_dk T86.2.2.1 0 [.iload_n 1, .iload_n 1] 2 = true := by decide +kernel
theorem D86_2 : decode T86.2.2.1 2 = .ok (.invokestatic 143, 3) := by decide +kernel
theorem ck_9_static_143 : m_call 9 (.invokestatic 143) = some (1, 42, 1) := by decide +kernel
theorem st_9_148 : m_st 9 148 = some 6 := by decide +kernel
theorem D86_5 : decode T86.2.2.1 5 = .ok (.getstatic 148, 3) := by decide +kernel
theorem B86_8_9 : s_dk T86.2.2.1 8 [.aload_n 0] 9 = true := by decide +kernel
theorem D86_9 : decode T86.2.2.1 9 = .ok (.getfield 62, 3) := by decide +kernel
theorem B86_12_16 : s_dk T86.2.2.1 12 [.iconst 3, .imul, .iload_n 2, .iadd] 16 = true := by decide +kernel
theorem D86_16 : decode T86.2.2.1 16 = .ok (.iaload, 1) := by decide +kernel
theorem D86_17 : decode T86.2.2.1 17 = .ok (.invokestatic 151, 3) := by decide +kernel
theorem ck_9_static_151 : m_call 9 (.invokestatic 151) = some (1, 44, 3) := by decide +kernel
theorem D86_20 : decode T86.2.2.1 20 = .ok (.ireturn, 1) := by decide +kernel
noncomputable def T87 : mT := (9, yX9_canMend, cX9_canMend, 6, (some .boolean))
set_option maxRecDepth 10000 in
theorem TE87 : sy_m[87]? = some T87 := rfl
theorem B87_0_1 : s_dk T87.2.2.1 0 [.aload_n 0] 1 = true := by decide +kernel
theorem D87_1 : decode T87.2.2.1 1 = .ok (.getfield 34, 3) := by decide +kernel
theorem B87_4_9 : s_dk T87.2.2.1 4 [.iload_n 1, .iconst 3, .imul, .iload_n 3, .iadd] 9 = true := by decide +kernel
theorem D87_9 : decode T87.2.2.1 9 = .ok (.iaload, 1) := by decide +kernel
theorem B87_10_15 : s_dk T87.2.2.1 10 [.istore 4, .aload_n 0, .iload_n 2, .iload_n 3] 15 = true := by decide +kernel
theorem D87_15 : decode T87.2.2.1 15 = .ok (.invokevirtual 155, 3) := by decide +kernel
theorem ck_9_virtual_155 : m_call 9 (.invokevirtual 155) = some (0, 86, 2) := by decide +kernel
theorem B87_18_23 : s_dk T87.2.2.1 18 [.istore 5, .iload 4, .iconst (-1)] 23 = true := by decide +kernel
theorem D87_23 : decode T87.2.2.1 23 = .ok (.if_icmp .eq 22, 3) := by decide +kernel
theorem B87_45_46 : s_dk T87.2.2.1 45 [.iconst 0] 46 = true := by decide +kernel
theorem D87_46 : decode T87.2.2.1 46 = .ok (.ireturn, 1) := by decide +kernel
theorem B87_26_30 : s_dk T87.2.2.1 26 [.iload 5, .iload 4] 30 = true := by decide +kernel
theorem D87_30 : decode T87.2.2.1 30 = .ok (.if_icmp .eq 15, 3) := by decide +kernel
theorem B87_33_35 : s_dk T87.2.2.1 33 [.iload 5] 35 = true := by decide +kernel
theorem D87_35 : decode T87.2.2.1 35 = .ok (.invokestatic 158, 3) := by decide +kernel
theorem ck_9_static_158 : m_call 9 (.invokestatic 158) = some (4, 144, 1) := by decide +kernel
theorem D87_38 : decode T87.2.2.1 38 = .ok (.ifCond .eq 7, 3) := by decide +kernel
theorem B87_41_42 : s_dk T87.2.2.1 41 [.iconst 1] 42 = true := by decide +kernel
theorem D87_42 : decode T87.2.2.1 42 = .ok (.goto 4, 3) := by decide +kernel
noncomputable def T88 : mT := (9, yX9_mended, cX9_mended, 4, (some .int))
set_option maxRecDepth 10000 in
theorem TE88 : sy_m[88]? = some T88 := rfl
theorem B88_0_2 : s_dk T88.2.2.1 0 [.iload_n 2, .iload_n 2] 2 = true := by decide +kernel
theorem D88_2 : decode T88.2.2.1 2 = .ok (.invokestatic 143, 3) := by decide +kernel
theorem D88_5 : decode T88.2.2.1 5 = .ok (.getstatic 148, 3) := by decide +kernel
theorem B88_8_9 : s_dk T88.2.2.1 8 [.aload_n 0] 9 = true := by decide +kernel
theorem D88_9 : decode T88.2.2.1 9 = .ok (.getfield 62, 3) := by decide +kernel
theorem B88_12_16 : s_dk T88.2.2.1 12 [.iconst 3, .imul, .iload_n 3, .iadd] 16 = true := by decide +kernel
theorem D88_16 : decode T88.2.2.1 16 = .ok (.iaload, 1) := by decide +kernel
theorem B88_17_18 : s_dk T88.2.2.1 17 [.aload_n 0] 18 = true := by decide +kernel
theorem D88_18 : decode T88.2.2.1 18 = .ok (.getfield 34, 3) := by decide +kernel
theorem B88_21_26 : s_dk T88.2.2.1 21 [.iload_n 1, .iconst 3, .imul, .iload_n 3, .iadd] 26 = true := by decide +kernel
theorem D88_26 : decode T88.2.2.1 26 = .ok (.iaload, 1) := by decide +kernel
theorem D88_27 : decode T88.2.2.1 27 = .ok (.invokestatic 161, 3) := by decide +kernel
theorem ck_9_static_161 : m_call 9 (.invokestatic 161) = some (1, 45, 4) := by decide +kernel
theorem D88_30 : decode T88.2.2.1 30 = .ok (.ireturn, 1) := by decide +kernel
noncomputable def T89 : mT := (9, yX9_saidBehind, cX9_saidBehind, 4, (some .int))
set_option maxRecDepth 10000 in
theorem TE89 : sy_m[89]? = some T89 := rfl
theorem B89_0_3 : s_dk T89.2.2.1 0 [.iload_n 3, .bipush 20] 3 = true := by decide +kernel
theorem D89_3 : decode T89.2.2.1 3 = .ok (.if_icmp .lt 14, 3) := by decide +kernel
theorem B89_17_20 : s_dk T89.2.2.1 17 [.iload_n 3, .bipush 10] 20 = true := by decide +kernel
theorem D89_20 : decode T89.2.2.1 20 = .ok (.if_icmp .lt 12, 3) := by decide +kernel
theorem B89_32_33 : s_dk T89.2.2.1 32 [.iload_n 3] 33 = true := by decide +kernel
theorem D89_33 : decode T89.2.2.1 33 = .ok (.tableswitch 60 1 3 #[27, 46, 53], 27) := by decide +kernel
theorem B89_60_62 : s_dk T89.2.2.1 60 [.iload_n 2, .aload_n 0] 62 = true := by decide +kernel
theorem D89_62 : decode T89.2.2.1 62 = .ok (.getfield 34, 3) := by decide +kernel
theorem B89_65_68 : s_dk T89.2.2.1 65 [.aload_n 0, .iload_n 1, .iload_n 2] 68 = true := by decide +kernel
theorem D89_68 : decode T89.2.2.1 68 = .ok (.invokestatic 143, 3) := by decide +kernel
theorem D89_71 : decode T89.2.2.1 71 = .ok (.invokevirtual 171, 3) := by decide +kernel
theorem ck_9_virtual_171 : m_call 9 (.invokevirtual 171) = some (0, 85, 2) := by decide +kernel
theorem D89_74 : decode T89.2.2.1 74 = .ok (.iaload, 1) := by decide +kernel
theorem D89_75 : decode T89.2.2.1 75 = .ok (.invokestatic 168, 3) := by decide +kernel
theorem ck_9_static_168 : m_call 9 (.invokestatic 168) = some (1, 43, 2) := by decide +kernel
theorem D89_78 : decode T89.2.2.1 78 = .ok (.ireturn, 1) := by decide +kernel
theorem B89_79_82 : s_dk T89.2.2.1 79 [.iload_n 2, .bipush 8] 82 = true := by decide +kernel
theorem D89_82 : decode T89.2.2.1 82 = .ok (.invokestatic 168, 3) := by decide +kernel
theorem D89_85 : decode T89.2.2.1 85 = .ok (.ireturn, 1) := by decide +kernel
theorem B89_86_89 : s_dk T89.2.2.1 86 [.iload_n 2, .bipush 9] 89 = true := by decide +kernel
theorem D89_89 : decode T89.2.2.1 89 = .ok (.invokestatic 168, 3) := by decide +kernel
theorem D89_92 : decode T89.2.2.1 92 = .ok (.ireturn, 1) := by decide +kernel
theorem B89_93_94 : s_dk T89.2.2.1 93 [.iload_n 2] 94 = true := by decide +kernel
theorem D89_94 : decode T89.2.2.1 94 = .ok (.ireturn, 1) := by decide +kernel
theorem B89_23_28 : s_dk T89.2.2.1 23 [.iload_n 2, .iload_n 3, .bipush 10, .isub] 28 = true := by decide +kernel
theorem D89_28 : decode T89.2.2.1 28 = .ok (.invokestatic 168, 3) := by decide +kernel
theorem D89_31 : decode T89.2.2.1 31 = .ok (.ireturn, 1) := by decide +kernel
theorem B89_6_13 : s_dk T89.2.2.1 6 [.aload_n 0, .iload_n 1, .iload_n 2, .iload_n 3, .bipush 20, .isub] 13 = true := by decide +kernel
theorem D89_13 : decode T89.2.2.1 13 = .ok (.invokevirtual 165, 3) := by decide +kernel
theorem ck_9_virtual_165 : m_call 9 (.invokevirtual 165) = some (0, 88, 3) := by decide +kernel
theorem D89_16 : decode T89.2.2.1 16 = .ok (.ireturn, 1) := by decide +kernel
noncomputable def T93 : mT := (9, yX9_moveLoss, cX9_moveLoss, 4, (some .int))
set_option maxRecDepth 10000 in
theorem TE93 : sy_m[93]? = some T93 := rfl
theorem B93_0_2 : s_dk T93.2.2.1 0 [.iload_n 3, .iconst 2] 2 = true := by decide +kernel
theorem D93_2 : decode T93.2.2.1 2 = .ok (.if_icmp .ne 26, 3) := by decide +kernel
theorem B93_28_31 : s_dk T93.2.2.1 28 [.iload_n 3, .bipush 20] 31 = true := by decide +kernel
theorem D93_31 : decode T93.2.2.1 31 = .ok (.if_icmp .lt 13, 3) := by decide +kernel
theorem B93_44_45 : s_dk T93.2.2.1 44 [.iconst 0] 45 = true := by decide +kernel
theorem D93_45 : decode T93.2.2.1 45 = .ok (.ireturn, 1) := by decide +kernel
theorem B93_34_35 : s_dk T93.2.2.1 34 [.aload_n 0] 35 = true := by decide +kernel
theorem D93_35 : decode T93.2.2.1 35 = .ok (.getfield 52, 3) := by decide +kernel
theorem B93_38_40 : s_dk T93.2.2.1 38 [.bipush 6] 40 = true := by decide +kernel
theorem D93_40 : decode T93.2.2.1 40 = .ok (.iaload, 1) := by decide +kernel
theorem D93_41 : decode T93.2.2.1 41 = .ok (.goto 4, 3) := by decide +kernel
theorem B93_5_6 : s_dk T93.2.2.1 5 [.aload_n 0] 6 = true := by decide +kernel
theorem D93_6 : decode T93.2.2.1 6 = .ok (.getfield 52, 3) := by decide +kernel
theorem B93_9_11 : s_dk T93.2.2.1 9 [.bipush 7] 11 = true := by decide +kernel
theorem D93_11 : decode T93.2.2.1 11 = .ok (.iaload, 1) := by decide +kernel
theorem B93_12_13 : s_dk T93.2.2.1 12 [.aload_n 0] 13 = true := by decide +kernel
theorem D93_13 : decode T93.2.2.1 13 = .ok (.getfield 43, 3) := by decide +kernel
theorem B93_16_19 : s_dk T93.2.2.1 16 [.aload_n 0, .iload_n 1, .iload_n 2] 19 = true := by decide +kernel
theorem D93_19 : decode T93.2.2.1 19 = .ok (.invokestatic 143, 3) := by decide +kernel
theorem D93_22 : decode T93.2.2.1 22 = .ok (.invokevirtual 171, 3) := by decide +kernel
theorem D93_25 : decode T93.2.2.1 25 = .ok (.iaload, 1) := by decide +kernel
theorem B93_26_27 : s_dk T93.2.2.1 26 [.imul] 27 = true := by decide +kernel
theorem D93_27 : decode T93.2.2.1 27 = .ok (.ireturn, 1) := by decide +kernel
noncomputable def T94 : mT := (9, yX9_endLoss, cX9_endLoss, 6, (some .int))
set_option maxRecDepth 10000 in
theorem TE94 : sy_m[94]? = some T94 := rfl
theorem B94_0_5 : s_dk T94.2.2.1 0 [.iconst 0, .istore_n 3, .iconst 0, .istore 4] 5 = true := by decide +kernel
theorem B94_5_8 : s_dk T94.2.2.1 5 [.iload 4, .iconst 3] 8 = true := by decide +kernel
theorem D94_8 : decode T94.2.2.1 8 = .ok (.if_icmp .ge 70, 3) := by decide +kernel
theorem B94_11_15 : s_dk T94.2.2.1 11 [.aload_n 0, .iload_n 2, .iload 4] 15 = true := by decide +kernel
theorem D94_15 : decode T94.2.2.1 15 = .ok (.invokevirtual 155, 3) := by decide +kernel
theorem B94_18_24 : s_dk T94.2.2.1 18 [.istore 5, .iload 5, .bipush 9] 24 = true := by decide +kernel
theorem D94_24 : decode T94.2.2.1 24 = .ok (.if_icmp .ne 15, 3) := by decide +kernel
theorem B94_39_41 : s_dk T94.2.2.1 39 [.iload 5] 41 = true := by decide +kernel
theorem D94_41 : decode T94.2.2.1 41 = .ok (.invokestatic 158, 3) := by decide +kernel
theorem D94_44 : decode T94.2.2.1 44 = .ok (.ifCond .eq 28, 3) := by decide +kernel
theorem B94_72_75 : s_dk T94.2.2.1 72 [.iinc 4 1] 75 = true := by decide +kernel
theorem D94_75 : decode T94.2.2.1 75 = .ok (.goto (-70), 3) := by decide +kernel
theorem B94_47_50 : s_dk T94.2.2.1 47 [.iload 5, .aload_n 0] 50 = true := by decide +kernel
theorem D94_50 : decode T94.2.2.1 50 = .ok (.getfield 34, 3) := by decide +kernel
theorem B94_53_59 : s_dk T94.2.2.1 53 [.iload_n 1, .iconst 3, .imul, .iload 4, .iadd] 59 = true := by decide +kernel
theorem D94_59 : decode T94.2.2.1 59 = .ok (.iaload, 1) := by decide +kernel
theorem D94_60 : decode T94.2.2.1 60 = .ok (.if_icmp .eq 12, 3) := by decide +kernel
theorem B94_63_65 : s_dk T94.2.2.1 63 [.iload_n 3, .aload_n 0] 65 = true := by decide +kernel
theorem D94_65 : decode T94.2.2.1 65 = .ok (.getfield 52, 3) := by decide +kernel
theorem B94_68_69 : s_dk T94.2.2.1 68 [.iconst 4] 69 = true := by decide +kernel
theorem D94_69 : decode T94.2.2.1 69 = .ok (.iaload, 1) := by decide +kernel
theorem B94_70_75 : s_dk T94.2.2.1 70 [.iadd, .istore_n 3, .iinc 4 1] 75 = true := by decide +kernel
theorem B94_27_29 : s_dk T94.2.2.1 27 [.iload_n 3, .aload_n 0] 29 = true := by decide +kernel
theorem D94_29 : decode T94.2.2.1 29 = .ok (.getfield 52, 3) := by decide +kernel
theorem B94_32_33 : s_dk T94.2.2.1 32 [.iconst 5] 33 = true := by decide +kernel
theorem D94_33 : decode T94.2.2.1 33 = .ok (.iaload, 1) := by decide +kernel
theorem B94_34_36 : s_dk T94.2.2.1 34 [.iadd, .istore_n 3] 36 = true := by decide +kernel
theorem D94_36 : decode T94.2.2.1 36 = .ok (.goto 36, 3) := by decide +kernel
theorem B94_78_79 : s_dk T94.2.2.1 78 [.iload_n 3] 79 = true := by decide +kernel
theorem D94_79 : decode T94.2.2.1 79 = .ok (.ireturn, 1) := by decide +kernel
noncomputable def T96 : mT := (10, yX10_word, cX10_word, 4, (some .int))
set_option maxRecDepth 10000 in
theorem TE96 : sy_m[96]? = some T96 := rfl
theorem B96_0_4 : s_dk T96.2.2.1 0 [.iload_n 1, .iconst 0, .bipush 29] 4 = true := by decide +kernel
theorem D96_4 : decode T96.2.2.1 4 = .ok (.invokestatic 102, 3) := by decide +kernel
theorem D96_7 : decode T96.2.2.1 7 = .ok (.ifCond .eq 12, 3) := by decide +kernel
theorem B96_19_21 : s_dk T96.2.2.1 19 [.aload_n 0, .iconst (-1)] 21 = true := by decide +kernel
theorem D96_21 : decode T96.2.2.1 21 = .ok (.invokevirtual 106, 3) := by decide +kernel
theorem ck_10_virtual_106 : m_call 10 (.invokevirtual 106) = some (0, 133, 1) := by decide +kernel
theorem D96_24 : decode T96.2.2.1 24 = .ok (.ireturn, 1) := by decide +kernel
theorem B96_10_13 : s_dk T96.2.2.1 10 [.iload_n 2, .iconst 0, .iconst 2] 13 = true := by decide +kernel
theorem D96_13 : decode T96.2.2.1 13 = .ok (.invokestatic 102, 3) := by decide +kernel
theorem D96_16 : decode T96.2.2.1 16 = .ok (.ifCond .ne 9, 3) := by decide +kernel
theorem B96_25_26 : s_dk T96.2.2.1 25 [.iload_n 3] 26 = true := by decide +kernel
theorem st_10_110 : m_st 10 110 = some 0 := by decide +kernel
theorem D96_26 : decode T96.2.2.1 26 = .ok (.getstatic 110, 3) := by decide +kernel
theorem B96_29_30 : s_dk T96.2.2.1 29 [.iload_n 2] 30 = true := by decide +kernel
theorem D96_30 : decode T96.2.2.1 30 = .ok (.iaload, 1) := by decide +kernel
theorem st_10_113 : m_st 10 113 = some 1 := by decide +kernel
theorem D96_31 : decode T96.2.2.1 31 = .ok (.getstatic 113, 3) := by decide +kernel
theorem B96_34_35 : s_dk T96.2.2.1 34 [.iload_n 2] 35 = true := by decide +kernel
theorem D96_35 : decode T96.2.2.1 35 = .ok (.iaload, 1) := by decide +kernel
theorem D96_36 : decode T96.2.2.1 36 = .ok (.invokestatic 102, 3) := by decide +kernel
theorem D96_39 : decode T96.2.2.1 39 = .ok (.ifCond .ne 9, 3) := by decide +kernel
theorem B96_48_50 : s_dk T96.2.2.1 48 [.aload_n 0, .aload_n 0] 50 = true := by decide +kernel
theorem gf_10_10_0 : s_gf 10 10 0 = some (0, 4) := by decide +kernel
theorem D96_50 : decode T96.2.2.1 50 = .ok (.getfield 10, 3) := by decide +kernel
theorem gf_10_116_1 : s_gf 10 116 1 = some (0, 5) := by decide +kernel
theorem D96_53 : decode T96.2.2.1 53 = .ok (.getfield 116, 3) := by decide +kernel
theorem B96_56_63 : s_dk T96.2.2.1 56 [.iload_n 2, .bipush 30, .imul, .iload_n 1, .iadd, .iload_n 3] 63 = true := by decide +kernel
theorem D96_63 : decode T96.2.2.1 63 = .ok (.invokestatic 119, 3) := by decide +kernel
theorem ck_10_static_119 : m_call 10 (.invokestatic 119) = some (1, 145, 3) := by decide +kernel
theorem D96_66 : decode T96.2.2.1 66 = .ok (.invokevirtual 123, 3) := by decide +kernel
theorem ck_10_virtual_123 : m_call 10 (.invokevirtual 123) = some (0, 134, 1) := by decide +kernel
theorem D96_69 : decode T96.2.2.1 69 = .ok (.ireturn, 1) := by decide +kernel
theorem B96_42_44 : s_dk T96.2.2.1 42 [.aload_n 0, .iconst (-1)] 44 = true := by decide +kernel
theorem D96_44 : decode T96.2.2.1 44 = .ok (.invokevirtual 106, 3) := by decide +kernel
theorem D96_47 : decode T96.2.2.1 47 = .ok (.ireturn, 1) := by decide +kernel
noncomputable def T97 : mT := (10, yX10_terms, cX10_terms, 3, (some .int))
set_option maxRecDepth 10000 in
theorem TE97 : sy_m[97]? = some T97 := rfl
theorem B97_0_4 : s_dk T97.2.2.1 0 [.iload_n 1, .iconst 0, .bipush 8] 4 = true := by decide +kernel
theorem D97_4 : decode T97.2.2.1 4 = .ok (.invokestatic 102, 3) := by decide +kernel
theorem D97_7 : decode T97.2.2.1 7 = .ok (.ifCond .eq 16, 3) := by decide +kernel
theorem B97_23_25 : s_dk T97.2.2.1 23 [.aload_n 0, .iconst (-1)] 25 = true := by decide +kernel
theorem D97_25 : decode T97.2.2.1 25 = .ok (.invokevirtual 106, 3) := by decide +kernel
theorem D97_28 : decode T97.2.2.1 28 = .ok (.ireturn, 1) := by decide +kernel
theorem B97_10_12 : s_dk T97.2.2.1 10 [.iload_n 2, .iconst 0] 12 = true := by decide +kernel
theorem st_10_126 : m_st 10 126 = some 2 := by decide +kernel
theorem D97_12 : decode T97.2.2.1 12 = .ok (.getstatic 126, 3) := by decide +kernel
theorem B97_15_16 : s_dk T97.2.2.1 15 [.iload_n 1] 16 = true := by decide +kernel
theorem D97_16 : decode T97.2.2.1 16 = .ok (.iaload, 1) := by decide +kernel
theorem D97_17 : decode T97.2.2.1 17 = .ok (.invokestatic 102, 3) := by decide +kernel
theorem D97_20 : decode T97.2.2.1 20 = .ok (.ifCond .ne 9, 3) := by decide +kernel
theorem B97_29_31 : s_dk T97.2.2.1 29 [.aload_n 0, .aload_n 0] 31 = true := by decide +kernel
theorem D97_31 : decode T97.2.2.1 31 = .ok (.getfield 10, 3) := by decide +kernel
theorem gf_10_129_1 : s_gf 10 129 1 = some (1, 6) := by decide +kernel
theorem D97_34 : decode T97.2.2.1 34 = .ok (.getfield 129, 3) := by decide +kernel
theorem B97_37_39 : s_dk T97.2.2.1 37 [.iload_n 1, .iload_n 2] 39 = true := by decide +kernel
theorem D97_39 : decode T97.2.2.1 39 = .ok (.invokestatic 119, 3) := by decide +kernel
theorem D97_42 : decode T97.2.2.1 42 = .ok (.invokevirtual 123, 3) := by decide +kernel
theorem D97_45 : decode T97.2.2.1 45 = .ok (.ireturn, 1) := by decide +kernel
noncomputable def T98 : mT := (10, yX10_order, cX10_order, 3, (some .int))
set_option maxRecDepth 10000 in
theorem TE98 : sy_m[98]? = some T98 := rfl
theorem B98_0_3 : s_dk T98.2.2.1 0 [.iload_n 1, .iconst 0, .iconst 5] 3 = true := by decide +kernel
theorem D98_3 : decode T98.2.2.1 3 = .ok (.invokestatic 102, 3) := by decide +kernel
theorem D98_6 : decode T98.2.2.1 6 = .ok (.ifCond .ne 9, 3) := by decide +kernel
theorem B98_15_16 : s_dk T98.2.2.1 15 [.aload_n 0] 16 = true := by decide +kernel
theorem D98_16 : decode T98.2.2.1 16 = .ok (.getfield 10, 3) := by decide +kernel
theorem gf_10_132_1 : s_gf 10 132 1 = some (2, 1) := by decide +kernel
theorem D98_19 : decode T98.2.2.1 19 = .ok (.getfield 132, 3) := by decide +kernel
theorem B98_22_24 : s_dk T98.2.2.1 22 [.istore_n 2, .aload_n 0] 24 = true := by decide +kernel
theorem D98_24 : decode T98.2.2.1 24 = .ok (.getfield 10, 3) := by decide +kernel
theorem B98_27_28 : s_dk T98.2.2.1 27 [.iload_n 1] 28 = true := by decide +kernel
theorem pf_10_132_1 : s_pf 10 132 1 = some (2, 1) := by decide +kernel
theorem D98_28 : decode T98.2.2.1 28 = .ok (.putfield 132, 3) := by decide +kernel
theorem B98_31_33 : s_dk T98.2.2.1 31 [.aload_n 0, .iload_n 2] 33 = true := by decide +kernel
theorem D98_33 : decode T98.2.2.1 33 = .ok (.invokevirtual 123, 3) := by decide +kernel
theorem D98_36 : decode T98.2.2.1 36 = .ok (.ireturn, 1) := by decide +kernel
theorem B98_9_11 : s_dk T98.2.2.1 9 [.aload_n 0, .iconst (-1)] 11 = true := by decide +kernel
theorem D98_11 : decode T98.2.2.1 11 = .ok (.invokevirtual 106, 3) := by decide +kernel
theorem D98_14 : decode T98.2.2.1 14 = .ok (.ireturn, 1) := by decide +kernel
noncomputable def T99 : mT := (10, yX10_opening, cX10_opening, 4, (some .int))
set_option maxRecDepth 10000 in
theorem TE99 : sy_m[99]? = some T99 := rfl
theorem B99_0_1 : s_dk T99.2.2.1 0 [.iload_n 1] 1 = true := by decide +kernel
theorem D99_1 : decode T99.2.2.1 1 = .ok (.invokestatic 135, 3) := by decide +kernel
theorem ck_10_static_135 : m_call 10 (.invokestatic 135) = some (1, 143, 1) := by decide +kernel
theorem D99_4 : decode T99.2.2.1 4 = .ok (.ifCond .eq 24, 3) := by decide +kernel
theorem B99_28_30 : s_dk T99.2.2.1 28 [.aload_n 0, .iconst (-1)] 30 = true := by decide +kernel
theorem D99_30 : decode T99.2.2.1 30 = .ok (.invokevirtual 106, 3) := by decide +kernel
theorem D99_33 : decode T99.2.2.1 33 = .ok (.ireturn, 1) := by decide +kernel
theorem B99_7_12 : s_dk T99.2.2.1 7 [.iload_n 2, .iconst 1, .sipush 255] 12 = true := by decide +kernel
theorem D99_12 : decode T99.2.2.1 12 = .ok (.invokestatic 102, 3) := by decide +kernel
theorem D99_15 : decode T99.2.2.1 15 = .ok (.ifCond .eq 13, 3) := by decide +kernel
theorem B99_18_22 : s_dk T99.2.2.1 18 [.iload_n 3, .iconst 1, .bipush 9] 22 = true := by decide +kernel
theorem D99_22 : decode T99.2.2.1 22 = .ok (.invokestatic 102, 3) := by decide +kernel
theorem D99_25 : decode T99.2.2.1 25 = .ok (.ifCond .ne 9, 3) := by decide +kernel
theorem B99_34_35 : s_dk T99.2.2.1 34 [.aload_n 0] 35 = true := by decide +kernel
theorem D99_35 : decode T99.2.2.1 35 = .ok (.getfield 10, 3) := by decide +kernel
theorem gf_10_139_1 : s_gf 10 139 1 = some (4, 1) := by decide +kernel
theorem D99_38 : decode T99.2.2.1 38 = .ok (.getfield 139, 3) := by decide +kernel
theorem B99_41_43 : s_dk T99.2.2.1 41 [.bipush 12] 43 = true := by decide +kernel
theorem D99_43 : decode T99.2.2.1 43 = .ok (.if_icmp .lt 10, 3) := by decide +kernel
theorem B99_53_55 : s_dk T99.2.2.1 53 [.aload_n 0, .aload_n 0] 55 = true := by decide +kernel
theorem D99_55 : decode T99.2.2.1 55 = .ok (.getfield 10, 3) := by decide +kernel
theorem B99_58_61 : s_dk T99.2.2.1 58 [.iload_n 1, .iload_n 2, .iload_n 3] 61 = true := by decide +kernel
theorem D99_61 : decode T99.2.2.1 61 = .ok (.invokevirtual 142, 3) := by decide +kernel
theorem ck_10_virtual_142 : m_call 10 (.invokevirtual 142) = some (0, 59, 3) := by decide +kernel
theorem D99_64 : decode T99.2.2.1 64 = .ok (.invokevirtual 123, 3) := by decide +kernel
theorem D99_67 : decode T99.2.2.1 67 = .ok (.ireturn, 1) := by decide +kernel
theorem B99_46_49 : s_dk T99.2.2.1 46 [.aload_n 0, .bipush (-5)] 49 = true := by decide +kernel
theorem D99_49 : decode T99.2.2.1 49 = .ok (.invokevirtual 106, 3) := by decide +kernel
theorem D99_52 : decode T99.2.2.1 52 = .ok (.ireturn, 1) := by decide +kernel
noncomputable def T100 : mT := (10, yX10_who, cX10_who, 3, (some .int))
set_option maxRecDepth 10000 in
theorem TE100 : sy_m[100]? = some T100 := rfl
theorem B100_0_3 : s_dk T100.2.2.1 0 [.iload_n 1, .iconst 0, .iconst 3] 3 = true := by decide +kernel
theorem D100_3 : decode T100.2.2.1 3 = .ok (.invokestatic 102, 3) := by decide +kernel
theorem D100_6 : decode T100.2.2.1 6 = .ok (.ifCond .ne 9, 3) := by decide +kernel
theorem B100_15_16 : s_dk T100.2.2.1 15 [.aload_n 0] 16 = true := by decide +kernel
theorem D100_16 : decode T100.2.2.1 16 = .ok (.getfield 10, 3) := by decide +kernel
theorem gf_10_146_1 : s_gf 10 146 1 = some (5, 1) := by decide +kernel
theorem D100_19 : decode T100.2.2.1 19 = .ok (.getfield 146, 3) := by decide +kernel
theorem B100_22_24 : s_dk T100.2.2.1 22 [.istore_n 2, .aload_n 0] 24 = true := by decide +kernel
theorem D100_24 : decode T100.2.2.1 24 = .ok (.getfield 10, 3) := by decide +kernel
theorem B100_27_28 : s_dk T100.2.2.1 27 [.iload_n 1] 28 = true := by decide +kernel
theorem pf_10_146_1 : s_pf 10 146 1 = some (5, 1) := by decide +kernel
theorem D100_28 : decode T100.2.2.1 28 = .ok (.putfield 146, 3) := by decide +kernel
theorem B100_31_33 : s_dk T100.2.2.1 31 [.aload_n 0, .iload_n 2] 33 = true := by decide +kernel
theorem D100_33 : decode T100.2.2.1 33 = .ok (.invokevirtual 123, 3) := by decide +kernel
theorem D100_36 : decode T100.2.2.1 36 = .ok (.ireturn, 1) := by decide +kernel
theorem B100_9_11 : s_dk T100.2.2.1 9 [.aload_n 0, .iconst (-1)] 11 = true := by decide +kernel
theorem D100_11 : decode T100.2.2.1 11 = .ok (.invokevirtual 106, 3) := by decide +kernel
theorem D100_14 : decode T100.2.2.1 14 = .ok (.ireturn, 1) := by decide +kernel
noncomputable def T102 : mT := (10, yX10_weigh, cX10_weigh, 4, (some .int))
set_option maxRecDepth 10000 in
theorem TE102 : sy_m[102]? = some T102 := rfl
theorem B102_0_4 : s_dk T102.2.2.1 0 [.iload_n 1, .iconst 0, .bipush 15] 4 = true := by decide +kernel
theorem D102_4 : decode T102.2.2.1 4 = .ok (.invokestatic 102, 3) := by decide +kernel
theorem D102_7 : decode T102.2.2.1 7 = .ok (.ifCond .eq 22, 3) := by decide +kernel
theorem B102_29_31 : s_dk T102.2.2.1 29 [.aload_n 0, .iconst (-1)] 31 = true := by decide +kernel
theorem D102_31 : decode T102.2.2.1 31 = .ok (.invokevirtual 106, 3) := by decide +kernel
theorem D102_34 : decode T102.2.2.1 34 = .ok (.ireturn, 1) := by decide +kernel
theorem B102_10_13 : s_dk T102.2.2.1 10 [.iload_n 2, .iconst 0, .iconst 3] 13 = true := by decide +kernel
theorem D102_13 : decode T102.2.2.1 13 = .ok (.invokestatic 102, 3) := by decide +kernel
theorem D102_16 : decode T102.2.2.1 16 = .ok (.ifCond .eq 13, 3) := by decide +kernel
theorem B102_19_23 : s_dk T102.2.2.1 19 [.iload_n 3, .iconst 0, .bipush 100] 23 = true := by decide +kernel
theorem D102_23 : decode T102.2.2.1 23 = .ok (.invokestatic 102, 3) := by decide +kernel
theorem D102_26 : decode T102.2.2.1 26 = .ok (.ifCond .ne 9, 3) := by decide +kernel
theorem B102_35_36 : s_dk T102.2.2.1 35 [.aload_n 0] 36 = true := by decide +kernel
theorem D102_36 : decode T102.2.2.1 36 = .ok (.getfield 10, 3) := by decide +kernel
theorem B102_39_40 : s_dk T102.2.2.1 39 [.iload_n 1] 40 = true := by decide +kernel
theorem D102_40 : decode T102.2.2.1 40 = .ok (.invokevirtual 174, 3) := by decide +kernel
theorem ck_10_virtual_174 : m_call 10 (.invokevirtual 174) = some (0, 65, 1) := by decide +kernel
theorem D102_43 : decode T102.2.2.1 43 = .ok (.ifCond .ne 10, 3) := by decide +kernel
theorem B102_53_55 : s_dk T102.2.2.1 53 [.aload_n 0, .aload_n 0] 55 = true := by decide +kernel
theorem D102_55 : decode T102.2.2.1 55 = .ok (.getfield 10, 3) := by decide +kernel
theorem gf_10_177_1 : s_gf 10 177 1 = some (9, 11) := by decide +kernel
theorem D102_58 : decode T102.2.2.1 58 = .ok (.getfield 177, 3) := by decide +kernel
theorem B102_61_67 : s_dk T102.2.2.1 61 [.iload_n 1, .iconst 4, .imul, .iload_n 2, .iadd, .iload_n 3] 67 = true := by decide +kernel
theorem D102_67 : decode T102.2.2.1 67 = .ok (.invokestatic 119, 3) := by decide +kernel
theorem D102_70 : decode T102.2.2.1 70 = .ok (.invokevirtual 123, 3) := by decide +kernel
theorem D102_73 : decode T102.2.2.1 73 = .ok (.ireturn, 1) := by decide +kernel
theorem B102_46_49 : s_dk T102.2.2.1 46 [.aload_n 0, .bipush (-2)] 49 = true := by decide +kernel
theorem D102_49 : decode T102.2.2.1 49 = .ok (.invokevirtual 106, 3) := by decide +kernel
theorem D102_52 : decode T102.2.2.1 52 = .ok (.ireturn, 1) := by decide +kernel
noncomputable def T103 : mT := (10, yX10_row, cX10_row, 4, (some .int))
set_option maxRecDepth 10000 in
theorem TE103 : sy_m[103]? = some T103 := rfl
theorem B103_0_1 : s_dk T103.2.2.1 0 [.aload_n 0] 1 = true := by decide +kernel
theorem D103_1 : decode T103.2.2.1 1 = .ok (.getfield 10, 3) := by decide +kernel
theorem B103_4_5 : s_dk T103.2.2.1 4 [.iload_n 1] 5 = true := by decide +kernel
theorem D103_5 : decode T103.2.2.1 5 = .ok (.invokevirtual 174, 3) := by decide +kernel
theorem D103_8 : decode T103.2.2.1 8 = .ok (.ifCond .ne 5, 3) := by decide +kernel
theorem B103_13_14 : s_dk T103.2.2.1 13 [.aload_n 0] 14 = true := by decide +kernel
theorem D103_14 : decode T103.2.2.1 14 = .ok (.getfield 10, 3) := by decide +kernel
theorem gf_10_180_1 : s_gf 10 180 1 = some (7, 9) := by decide +kernel
theorem D103_17 : decode T103.2.2.1 17 = .ok (.getfield 180, 3) := by decide +kernel
theorem B103_20_21 : s_dk T103.2.2.1 20 [.iload_n 1] 21 = true := by decide +kernel
theorem D103_21 : decode T103.2.2.1 21 = .ok (.iaload, 1) := by decide +kernel
theorem B103_22_25 : s_dk T103.2.2.1 22 [.istore_n 3, .iload_n 2, .iconst (-1)] 25 = true := by decide +kernel
theorem D103_25 : decode T103.2.2.1 25 = .ok (.if_icmp .ne 5, 3) := by decide +kernel
theorem B103_30_35 : s_dk T103.2.2.1 30 [.iload_n 2, .iconst 0, .iload_n 3, .iconst 1, .isub] 35 = true := by decide +kernel
theorem D103_35 : decode T103.2.2.1 35 = .ok (.invokestatic 102, 3) := by decide +kernel
theorem D103_38 : decode T103.2.2.1 38 = .ok (.ifCond .eq 20, 3) := by decide +kernel
theorem B103_58_59 : s_dk T103.2.2.1 58 [.iconst (-1)] 59 = true := by decide +kernel
theorem D103_59 : decode T103.2.2.1 59 = .ok (.ireturn, 1) := by decide +kernel
theorem B103_41_42 : s_dk T103.2.2.1 41 [.aload_n 0] 42 = true := by decide +kernel
theorem D103_42 : decode T103.2.2.1 42 = .ok (.getfield 10, 3) := by decide +kernel
theorem gf_10_183_1 : s_gf 10 183 1 = some (6, 8) := by decide +kernel
theorem D103_45 : decode T103.2.2.1 45 = .ok (.getfield 183, 3) := by decide +kernel
theorem B103_48_54 : s_dk T103.2.2.1 48 [.iload_n 1, .bipush 8, .imul, .iload_n 2, .iadd] 54 = true := by decide +kernel
theorem D103_54 : decode T103.2.2.1 54 = .ok (.iaload, 1) := by decide +kernel
theorem D103_55 : decode T103.2.2.1 55 = .ok (.goto 4, 3) := by decide +kernel
theorem B103_28_29 : s_dk T103.2.2.1 28 [.iload_n 3] 29 = true := by decide +kernel
theorem D103_29 : decode T103.2.2.1 29 = .ok (.ireturn, 1) := by decide +kernel
theorem B103_11_12 : s_dk T103.2.2.1 11 [.iconst (-1)] 12 = true := by decide +kernel
theorem D103_12 : decode T103.2.2.1 12 = .ok (.ireturn, 1) := by decide +kernel
noncomputable def T104 : mT := (10, yX10_fixed, cX10_fixed, 6, (some .int))
set_option maxRecDepth 10000 in
theorem TE104 : sy_m[104]? = some T104 := rfl
theorem B104_0_1 : s_dk T104.2.2.1 0 [.iload_n 2] 1 = true := by decide +kernel
theorem D104_1 : decode T104.2.2.1 1 = .ok (.invokestatic 135, 3) := by decide +kernel
theorem D104_4 : decode T104.2.2.1 4 = .ok (.ifCond .eq 14, 3) := by decide +kernel
theorem B104_18_19 : s_dk T104.2.2.1 18 [.iconst (-1)] 19 = true := by decide +kernel
theorem D104_19 : decode T104.2.2.1 19 = .ok (.ireturn, 1) := by decide +kernel
theorem B104_7_8 : s_dk T104.2.2.1 7 [.aload_n 0] 8 = true := by decide +kernel
theorem D104_8 : decode T104.2.2.1 8 = .ok (.getfield 10, 3) := by decide +kernel
theorem B104_11_12 : s_dk T104.2.2.1 11 [.iload_n 1] 12 = true := by decide +kernel
theorem D104_12 : decode T104.2.2.1 12 = .ok (.invokevirtual 186, 3) := by decide +kernel
theorem ck_10_virtual_186 : m_call 10 (.invokevirtual 186) = some (0, 67, 1) := by decide +kernel
theorem D104_15 : decode T104.2.2.1 15 = .ok (.ifCond .ne 5, 3) := by decide +kernel
theorem B104_20_21 : s_dk T104.2.2.1 20 [.aload_n 0] 21 = true := by decide +kernel
theorem D104_21 : decode T104.2.2.1 21 = .ok (.getfield 10, 3) := by decide +kernel
theorem D104_24 : decode T104.2.2.1 24 = .ok (.getfield 180, 3) := by decide +kernel
theorem B104_27_28 : s_dk T104.2.2.1 27 [.iload_n 1] 28 = true := by decide +kernel
theorem D104_28 : decode T104.2.2.1 28 = .ok (.iaload, 1) := by decide +kernel
theorem B104_29_33 : s_dk T104.2.2.1 29 [.istore_n 3, .iconst 0, .istore 4] 33 = true := by decide +kernel
theorem B104_33_36 : s_dk T104.2.2.1 33 [.iload 4, .iload_n 3] 36 = true := by decide +kernel
theorem D104_36 : decode T104.2.2.1 36 = .ok (.if_icmp .ge 43, 3) := by decide +kernel
theorem B104_79_80 : s_dk T104.2.2.1 79 [.iload_n 3] 80 = true := by decide +kernel
theorem D104_80 : decode T104.2.2.1 80 = .ok (.ireturn, 1) := by decide +kernel
theorem B104_39_40 : s_dk T104.2.2.1 39 [.aload_n 0] 40 = true := by decide +kernel
theorem D104_40 : decode T104.2.2.1 40 = .ok (.getfield 10, 3) := by decide +kernel
theorem B104_43_48 : s_dk T104.2.2.1 43 [.iload_n 1, .iload 4, .iconst 1, .iadd] 48 = true := by decide +kernel
theorem D104_48 : decode T104.2.2.1 48 = .ok (.invokevirtual 189, 3) := by decide +kernel
theorem ck_10_virtual_189 : m_call 10 (.invokevirtual 189) = some (0, 70, 2) := by decide +kernel
theorem B104_51_54 : s_dk T104.2.2.1 51 [.istore 5, .aload_n 0] 54 = true := by decide +kernel
theorem D104_54 : decode T104.2.2.1 54 = .ok (.getfield 10, 3) := by decide +kernel
theorem B104_57_60 : s_dk T104.2.2.1 57 [.iload 5, .iload_n 2] 60 = true := by decide +kernel
theorem D104_60 : decode T104.2.2.1 60 = .ok (.invokevirtual 193, 3) := by decide +kernel
theorem ck_10_virtual_193 : m_call 10 (.invokevirtual 193) = some (0, 73, 2) := by decide +kernel
theorem D104_63 : decode T104.2.2.1 63 = .ok (.invokestatic 196, 3) := by decide +kernel
theorem ck_10_static_196 : m_call 10 (.invokestatic 196) = some (1, 267, 1) := by decide +kernel
theorem B104_66_67 : s_dk T104.2.2.1 66 [.iconst 1] 67 = true := by decide +kernel
theorem D104_67 : decode T104.2.2.1 67 = .ok (.if_icmp .ne 6, 3) := by decide +kernel
theorem B104_73_76 : s_dk T104.2.2.1 73 [.iinc 4 1] 76 = true := by decide +kernel
theorem D104_76 : decode T104.2.2.1 76 = .ok (.goto (-43), 3) := by decide +kernel
theorem B104_70_72 : s_dk T104.2.2.1 70 [.iload 4] 72 = true := by decide +kernel
theorem D104_72 : decode T104.2.2.1 72 = .ok (.ireturn, 1) := by decide +kernel
noncomputable def T105 : mT := (10, yX10_odds, cX10_odds, 10, (some .int))
set_option maxRecDepth 10000 in
theorem TE105 : sy_m[105]? = some T105 := rfl
theorem B105_0_1 : s_dk T105.2.2.1 0 [.aload_n 0] 1 = true := by decide +kernel
theorem D105_1 : decode T105.2.2.1 1 = .ok (.getfield 10, 3) := by decide +kernel
theorem B105_4_5 : s_dk T105.2.2.1 4 [.iload_n 1] 5 = true := by decide +kernel
theorem D105_5 : decode T105.2.2.1 5 = .ok (.invokevirtual 174, 3) := by decide +kernel
theorem D105_8 : decode T105.2.2.1 8 = .ok (.ifCond .eq 28, 3) := by decide +kernel
theorem B105_36_37 : s_dk T105.2.2.1 36 [.iconst (-1)] 37 = true := by decide +kernel
theorem D105_37 : decode T105.2.2.1 37 = .ok (.ireturn, 1) := by decide +kernel
theorem B105_11_12 : s_dk T105.2.2.1 11 [.iload_n 3] 12 = true := by decide +kernel
theorem D105_12 : decode T105.2.2.1 12 = .ok (.invokestatic 135, 3) := by decide +kernel
theorem D105_15 : decode T105.2.2.1 15 = .ok (.ifCond .eq 21, 3) := by decide +kernel
theorem B105_18_20 : s_dk T105.2.2.1 18 [.iload 4] 20 = true := by decide +kernel
theorem D105_20 : decode T105.2.2.1 20 = .ok (.invokestatic 153, 3) := by decide +kernel
theorem ck_10_static_153 : m_call 10 (.invokestatic 153) = some (1, 144, 1) := by decide +kernel
theorem D105_23 : decode T105.2.2.1 23 = .ok (.ifCond .eq 13, 3) := by decide +kernel
theorem B105_26_30 : s_dk T105.2.2.1 26 [.iload 5, .iconst 0, .iconst 1] 30 = true := by decide +kernel
theorem D105_30 : decode T105.2.2.1 30 = .ok (.invokestatic 102, 3) := by decide +kernel
theorem D105_33 : decode T105.2.2.1 33 = .ok (.ifCond .ne 5, 3) := by decide +kernel
theorem B105_38_41 : s_dk T105.2.2.1 38 [.iload_n 2, .iconst 0, .aload_n 0] 41 = true := by decide +kernel
theorem D105_41 : decode T105.2.2.1 41 = .ok (.getfield 10, 3) := by decide +kernel
theorem D105_44 : decode T105.2.2.1 44 = .ok (.getfield 180, 3) := by decide +kernel
theorem B105_47_48 : s_dk T105.2.2.1 47 [.iload_n 1] 48 = true := by decide +kernel
theorem D105_48 : decode T105.2.2.1 48 = .ok (.iaload, 1) := by decide +kernel
theorem D105_49 : decode T105.2.2.1 49 = .ok (.invokestatic 102, 3) := by decide +kernel
theorem D105_52 : decode T105.2.2.1 52 = .ok (.ifCond .ne 5, 3) := by decide +kernel
theorem B105_57_58 : s_dk T105.2.2.1 57 [.aload_n 0] 58 = true := by decide +kernel
theorem D105_58 : decode T105.2.2.1 58 = .ok (.getfield 10, 3) := by decide +kernel
theorem B105_61_63 : s_dk T105.2.2.1 61 [.iload_n 1, .iload_n 2] 63 = true := by decide +kernel
theorem D105_63 : decode T105.2.2.1 63 = .ok (.invokevirtual 189, 3) := by decide +kernel
theorem B105_66_69 : s_dk T105.2.2.1 66 [.istore 6, .aload_n 0] 69 = true := by decide +kernel
theorem D105_69 : decode T105.2.2.1 69 = .ok (.getfield 10, 3) := by decide +kernel
theorem B105_72_74 : s_dk T105.2.2.1 72 [.iload 6] 74 = true := by decide +kernel
theorem D105_74 : decode T105.2.2.1 74 = .ok (.invokevirtual 201, 3) := by decide +kernel
theorem ck_10_virtual_201 : m_call 10 (.invokevirtual 201) = some (0, 76, 1) := by decide +kernel
theorem B105_77_81 : s_dk T105.2.2.1 77 [.istore 7, .iload 7] 81 = true := by decide +kernel
theorem D105_81 : decode T105.2.2.1 81 = .ok (.ifCond .gt 5, 3) := by decide +kernel
theorem B105_86_87 : s_dk T105.2.2.1 86 [.aload_n 0] 87 = true := by decide +kernel
theorem D105_87 : decode T105.2.2.1 87 = .ok (.getfield 10, 3) := by decide +kernel
theorem B105_90_93 : s_dk T105.2.2.1 90 [.iload 6, .aload_n 0] 93 = true := by decide +kernel
theorem D105_93 : decode T105.2.2.1 93 = .ok (.getfield 10, 3) := by decide +kernel
theorem B105_96_99 : s_dk T105.2.2.1 96 [.iload_n 3, .iload 4] 99 = true := by decide +kernel
theorem D105_99 : decode T105.2.2.1 99 = .ok (.invokevirtual 204, 3) := by decide +kernel
theorem ck_10_virtual_204 : m_call 10 (.invokevirtual 204) = some (0, 74, 2) := by decide +kernel
theorem D105_102 : decode T105.2.2.1 102 = .ok (.iand, 1) := by decide +kernel
theorem D105_103 : decode T105.2.2.1 103 = .ok (.invokevirtual 201, 3) := by decide +kernel
theorem B105_106_112 : s_dk T105.2.2.1 106 [.istore 8, .iload 7, .iload 8] 112 = true := by decide +kernel
theorem D105_112 : decode T105.2.2.1 112 = .ok (.invokestatic 207, 3) := by decide +kernel
theorem ck_10_static_207 : m_call 10 (.invokestatic 207) = some (1, 146, 2) := by decide +kernel
theorem B105_115_119 : s_dk T105.2.2.1 115 [.istore 9, .iload 5] 119 = true := by decide +kernel
theorem D105_119 : decode T105.2.2.1 119 = .ok (.ifCond .ne 8, 3) := by decide +kernel
theorem B105_127_131 : s_dk T105.2.2.1 127 [.iload 7, .iload 9] 131 = true := by decide +kernel
theorem D105_131 : decode T105.2.2.1 131 = .ok (.idiv, 1) := by decide +kernel
theorem D105_132 : decode T105.2.2.1 132 = .ok (.ireturn, 1) := by decide +kernel
theorem B105_122_124 : s_dk T105.2.2.1 122 [.iload 8] 124 = true := by decide +kernel
theorem D105_124 : decode T105.2.2.1 124 = .ok (.goto 5, 3) := by decide +kernel
theorem B105_129_131 : s_dk T105.2.2.1 129 [.iload 9] 131 = true := by decide +kernel
theorem B105_84_85 : s_dk T105.2.2.1 84 [.iconst (-1)] 85 = true := by decide +kernel
theorem D105_85 : decode T105.2.2.1 85 = .ok (.ireturn, 1) := by decide +kernel
theorem B105_55_56 : s_dk T105.2.2.1 55 [.iconst (-1)] 56 = true := by decide +kernel
theorem D105_56 : decode T105.2.2.1 56 = .ok (.ireturn, 1) := by decide +kernel
noncomputable def T106 : mT := (10, yX10_fits, cX10_fits, 4, (some .int))
set_option maxRecDepth 10000 in
theorem TE106 : sy_m[106]? = some T106 := rfl
theorem B106_0_1 : s_dk T106.2.2.1 0 [.aload_n 0] 1 = true := by decide +kernel
theorem D106_1 : decode T106.2.2.1 1 = .ok (.getfield 10, 3) := by decide +kernel
theorem B106_4_5 : s_dk T106.2.2.1 4 [.iload_n 1] 5 = true := by decide +kernel
theorem D106_5 : decode T106.2.2.1 5 = .ok (.invokevirtual 174, 3) := by decide +kernel
theorem D106_8 : decode T106.2.2.1 8 = .ok (.ifCond .eq 27, 3) := by decide +kernel
theorem B106_35_36 : s_dk T106.2.2.1 35 [.iconst (-1)] 36 = true := by decide +kernel
theorem D106_36 : decode T106.2.2.1 36 = .ok (.ireturn, 1) := by decide +kernel
theorem B106_11_12 : s_dk T106.2.2.1 11 [.iload_n 3] 12 = true := by decide +kernel
theorem D106_12 : decode T106.2.2.1 12 = .ok (.invokestatic 135, 3) := by decide +kernel
theorem D106_15 : decode T106.2.2.1 15 = .ok (.ifCond .eq 20, 3) := by decide +kernel
theorem B106_18_21 : s_dk T106.2.2.1 18 [.iload_n 2, .iconst 1, .aload_n 0] 21 = true := by decide +kernel
theorem D106_21 : decode T106.2.2.1 21 = .ok (.getfield 10, 3) := by decide +kernel
theorem D106_24 : decode T106.2.2.1 24 = .ok (.getfield 180, 3) := by decide +kernel
theorem B106_27_28 : s_dk T106.2.2.1 27 [.iload_n 1] 28 = true := by decide +kernel
theorem D106_28 : decode T106.2.2.1 28 = .ok (.iaload, 1) := by decide +kernel
theorem D106_29 : decode T106.2.2.1 29 = .ok (.invokestatic 102, 3) := by decide +kernel
theorem D106_32 : decode T106.2.2.1 32 = .ok (.ifCond .ne 5, 3) := by decide +kernel
theorem B106_37_38 : s_dk T106.2.2.1 37 [.aload_n 0] 38 = true := by decide +kernel
theorem D106_38 : decode T106.2.2.1 38 = .ok (.getfield 10, 3) := by decide +kernel
theorem B106_41_43 : s_dk T106.2.2.1 41 [.iload_n 3, .aload_n 0] 43 = true := by decide +kernel
theorem D106_43 : decode T106.2.2.1 43 = .ok (.getfield 10, 3) := by decide +kernel
theorem B106_46_47 : s_dk T106.2.2.1 46 [.aload_n 0] 47 = true := by decide +kernel
theorem D106_47 : decode T106.2.2.1 47 = .ok (.getfield 10, 3) := by decide +kernel
theorem B106_50_52 : s_dk T106.2.2.1 50 [.iload_n 1, .iload_n 2] 52 = true := by decide +kernel
theorem D106_52 : decode T106.2.2.1 52 = .ok (.invokevirtual 189, 3) := by decide +kernel
theorem B106_55_56 : s_dk T106.2.2.1 55 [.iload_n 3] 56 = true := by decide +kernel
theorem D106_56 : decode T106.2.2.1 56 = .ok (.invokevirtual 193, 3) := by decide +kernel
theorem D106_59 : decode T106.2.2.1 59 = .ok (.invokevirtual 210, 3) := by decide +kernel
theorem ck_10_virtual_210 : m_call 10 (.invokevirtual 210) = some (0, 77, 2) := by decide +kernel
theorem D106_62 : decode T106.2.2.1 62 = .ok (.ireturn, 1) := by decide +kernel
noncomputable def T110 : mT := (10, yX10_feed, cX10_feed, 6, (some .int))
set_option maxRecDepth 10000 in
theorem TE110 : sy_m[110]? = some T110 := rfl
theorem B110_0_1 : s_dk T110.2.2.1 0 [.aload_n 0] 1 = true := by decide +kernel
theorem D110_1 : decode T110.2.2.1 1 = .ok (.getfield 24, 3) := by decide +kernel
theorem B110_4_10 : s_dk T110.2.2.1 4 [.bipush 20, .iadd, .sipush 400] 10 = true := by decide +kernel
theorem D110_10 : decode T110.2.2.1 10 = .ok (.if_icmp .le 5, 3) := by decide +kernel
theorem B110_15_17 : s_dk T110.2.2.1 15 [.aload_n 0, .iload_n 1] 17 = true := by decide +kernel
theorem D110_17 : decode T110.2.2.1 17 = .ok (.invokevirtual 233, 3) := by decide +kernel
theorem ck_10_virtual_233 : m_call 10 (.invokevirtual 233) = some (0, 136, 1) := by decide +kernel
theorem B110_20_22 : s_dk T110.2.2.1 20 [.aload_n 0, .iload_n 2] 22 = true := by decide +kernel
theorem D110_22 : decode T110.2.2.1 22 = .ok (.invokevirtual 233, 3) := by decide +kernel
theorem B110_25_27 : s_dk T110.2.2.1 25 [.aload_n 0, .iload_n 3] 27 = true := by decide +kernel
theorem D110_27 : decode T110.2.2.1 27 = .ok (.invokevirtual 233, 3) := by decide +kernel
theorem B110_30_33 : s_dk T110.2.2.1 30 [.aload_n 0, .iload 4] 33 = true := by decide +kernel
theorem D110_33 : decode T110.2.2.1 33 = .ok (.invokevirtual 233, 3) := by decide +kernel
theorem B110_36_39 : s_dk T110.2.2.1 36 [.aload_n 0, .iload 5] 39 = true := by decide +kernel
theorem D110_39 : decode T110.2.2.1 39 = .ok (.invokevirtual 233, 3) := by decide +kernel
theorem B110_42_43 : s_dk T110.2.2.1 42 [.aload_n 0] 43 = true := by decide +kernel
theorem D110_43 : decode T110.2.2.1 43 = .ok (.getfield 24, 3) := by decide +kernel
theorem D110_46 : decode T110.2.2.1 46 = .ok (.ireturn, 1) := by decide +kernel
theorem B110_13_14 : s_dk T110.2.2.1 13 [.iconst (-1)] 14 = true := by decide +kernel
theorem D110_14 : decode T110.2.2.1 14 = .ok (.ireturn, 1) := by decide +kernel
noncomputable def T111 : mT := (10, yX10_end, cX10_end, 2, (some .int))
set_option maxRecDepth 10000 in
theorem TE111 : sy_m[111]? = some T111 := rfl
theorem B111_0_3 : s_dk T111.2.2.1 0 [.iload_n 1, .iconst 0, .aload_n 0] 3 = true := by decide +kernel
theorem D111_3 : decode T111.2.2.1 3 = .ok (.getfield 24, 3) := by decide +kernel
theorem D111_6 : decode T111.2.2.1 6 = .ok (.invokestatic 102, 3) := by decide +kernel
theorem D111_9 : decode T111.2.2.1 9 = .ok (.ifCond .ne 5, 3) := by decide +kernel
theorem B111_14_16 : s_dk T111.2.2.1 14 [.aload_n 0, .iload_n 1] 16 = true := by decide +kernel
theorem D111_16 : decode T111.2.2.1 16 = .ok (.putfield 24, 3) := by decide +kernel
theorem B111_19_20 : s_dk T111.2.2.1 19 [.iload_n 1] 20 = true := by decide +kernel
theorem D111_20 : decode T111.2.2.1 20 = .ok (.ireturn, 1) := by decide +kernel
theorem B111_12_13 : s_dk T111.2.2.1 12 [.iconst (-1)] 13 = true := by decide +kernel
theorem D111_13 : decode T111.2.2.1 13 = .ok (.ireturn, 1) := by decide +kernel
noncomputable def T113 : mT := (10, yX10_fault, cX10_fault, 1, (some .int))
set_option maxRecDepth 10000 in
theorem TE113 : sy_m[113]? = some T113 := rfl
theorem B113_0_1 : s_dk T113.2.2.1 0 [.aload_n 0] 1 = true := by decide +kernel
theorem gf_10_28_0 : s_gf 10 28 0 = some (4, 1) := by decide +kernel
theorem D113_1 : decode T113.2.2.1 1 = .ok (.getfield 28, 3) := by decide +kernel
theorem D113_4 : decode T113.2.2.1 4 = .ok (.ireturn, 1) := by decide +kernel
noncomputable def T132 : mT := (10, yX10_status, cX10_status, 1, (some .int))
set_option maxRecDepth 10000 in
theorem TE132 : sy_m[132]? = some T132 := rfl
theorem B132_0_1 : s_dk T132.2.2.1 0 [.aload_n 0] 1 = true := by decide +kernel
theorem gf_10_31_0 : s_gf 10 31 0 = some (5, 1) := by decide +kernel
theorem D132_1 : decode T132.2.2.1 1 = .ok (.getfield 31, 3) := by decide +kernel
theorem D132_4 : decode T132.2.2.1 4 = .ok (.ireturn, 1) := by decide +kernel
noncomputable def T131 : mT := (10, yX10_count, cX10_count, 2, (some .int))
set_option maxRecDepth 10000 in
theorem TE131 : sy_m[131]? = some T131 := rfl
theorem B131_0_1 : s_dk T131.2.2.1 0 [.iload_n 1] 1 = true := by decide +kernel
theorem D131_1 : decode T131.2.2.1 1 = .ok (.tableswitch 72 0 4 #[35, 43, 51, 59, 67], 35) := by decide +kernel
theorem B131_36_37 : s_dk T131.2.2.1 36 [.aload_n 0] 37 = true := by decide +kernel
theorem D131_37 : decode T131.2.2.1 37 = .ok (.getfield 10, 3) := by decide +kernel
theorem gf_10_163_1 : s_gf 10 163 1 = some (10, 1) := by decide +kernel
theorem D131_40 : decode T131.2.2.1 40 = .ok (.getfield 163, 3) := by decide +kernel
theorem D131_43 : decode T131.2.2.1 43 = .ok (.ireturn, 1) := by decide +kernel
theorem B131_44_45 : s_dk T131.2.2.1 44 [.aload_n 0] 45 = true := by decide +kernel
theorem D131_45 : decode T131.2.2.1 45 = .ok (.getfield 10, 3) := by decide +kernel
theorem D131_48 : decode T131.2.2.1 48 = .ok (.getfield 139, 3) := by decide +kernel
theorem D131_51 : decode T131.2.2.1 51 = .ok (.ireturn, 1) := by decide +kernel
theorem B131_52_53 : s_dk T131.2.2.1 52 [.aload_n 0] 53 = true := by decide +kernel
theorem D131_53 : decode T131.2.2.1 53 = .ok (.getfield 10, 3) := by decide +kernel
theorem gf_10_237_1 : s_gf 10 237 1 = some (12, 1) := by decide +kernel
theorem D131_56 : decode T131.2.2.1 56 = .ok (.getfield 237, 3) := by decide +kernel
theorem D131_59 : decode T131.2.2.1 59 = .ok (.ireturn, 1) := by decide +kernel
theorem B131_60_61 : s_dk T131.2.2.1 60 [.aload_n 0] 61 = true := by decide +kernel
theorem D131_61 : decode T131.2.2.1 61 = .ok (.getfield 10, 3) := by decide +kernel
theorem gf_10_279_1 : s_gf 10 279 1 = some (14, 1) := by decide +kernel
theorem D131_64 : decode T131.2.2.1 64 = .ok (.getfield 279, 3) := by decide +kernel
theorem D131_67 : decode T131.2.2.1 67 = .ok (.ireturn, 1) := by decide +kernel
theorem B131_68_69 : s_dk T131.2.2.1 68 [.aload_n 0] 69 = true := by decide +kernel
theorem D131_69 : decode T131.2.2.1 69 = .ok (.getfield 24, 3) := by decide +kernel
theorem D131_72 : decode T131.2.2.1 72 = .ok (.ireturn, 1) := by decide +kernel
theorem B131_73_74 : s_dk T131.2.2.1 73 [.iconst (-1)] 74 = true := by decide +kernel
theorem D131_74 : decode T131.2.2.1 74 = .ok (.ireturn, 1) := by decide +kernel
noncomputable def T115 : mT := (10, yX10_move, cX10_move, 2, (some .int))
set_option maxRecDepth 10000 in
theorem TE115 : sy_m[115]? = some T115 := rfl
theorem B115_0_3 : s_dk T115.2.2.1 0 [.iload_n 1, .iconst 0, .aload_n 0] 3 = true := by decide +kernel
theorem gf_10_74_0 : s_gf 10 74 0 = some (13, 65) := by decide +kernel
theorem D115_3 : decode T115.2.2.1 3 = .ok (.getfield 74, 3) := by decide +kernel
theorem gf_10_263_62 : s_gf 10 263 62 = some (1, 1) := by decide +kernel
theorem D115_6 : decode T115.2.2.1 6 = .ok (.getfield 263, 3) := by decide +kernel
theorem B115_9_11 : s_dk T115.2.2.1 9 [.iconst 1, .isub] 11 = true := by decide +kernel
theorem D115_11 : decode T115.2.2.1 11 = .ok (.invokestatic 102, 3) := by decide +kernel
theorem D115_14 : decode T115.2.2.1 14 = .ok (.ifCond .eq 15, 3) := by decide +kernel
theorem B115_29_30 : s_dk T115.2.2.1 29 [.iconst (-1)] 30 = true := by decide +kernel
theorem D115_30 : decode T115.2.2.1 30 = .ok (.ireturn, 1) := by decide +kernel
theorem B115_17_18 : s_dk T115.2.2.1 17 [.aload_n 0] 18 = true := by decide +kernel
theorem D115_18 : decode T115.2.2.1 18 = .ok (.getfield 74, 3) := by decide +kernel
theorem gf_10_266_62 : s_gf 10 266 62 = some (0, 66) := by decide +kernel
theorem D115_21 : decode T115.2.2.1 21 = .ok (.getfield 266, 3) := by decide +kernel
theorem B115_24_25 : s_dk T115.2.2.1 24 [.iload_n 1] 25 = true := by decide +kernel
theorem D115_25 : decode T115.2.2.1 25 = .ok (.iaload, 1) := by decide +kernel
theorem D115_26 : decode T115.2.2.1 26 = .ok (.goto 4, 3) := by decide +kernel
noncomputable def T119 : mT := (10, yX10_box, cX10_box, 4, (some .int))
set_option maxRecDepth 10000 in
theorem TE119 : sy_m[119]? = some T119 := rfl
theorem B119_0_4 : s_dk T119.2.2.1 0 [.iload_n 1, .iconst 0, .bipush 60] 4 = true := by decide +kernel
theorem D119_4 : decode T119.2.2.1 4 = .ok (.invokestatic 102, 3) := by decide +kernel
theorem D119_7 : decode T119.2.2.1 7 = .ok (.ifCond .eq 24, 3) := by decide +kernel
theorem B119_31_33 : s_dk T119.2.2.1 31 [.aload_n 0, .iconst (-1)] 33 = true := by decide +kernel
theorem D119_33 : decode T119.2.2.1 33 = .ok (.invokevirtual 106, 3) := by decide +kernel
theorem D119_36 : decode T119.2.2.1 36 = .ok (.ireturn, 1) := by decide +kernel
theorem B119_10_14 : s_dk T119.2.2.1 10 [.iload_n 2, .iconst 0, .bipush 100] 14 = true := by decide +kernel
theorem D119_14 : decode T119.2.2.1 14 = .ok (.invokestatic 102, 3) := by decide +kernel
theorem D119_17 : decode T119.2.2.1 17 = .ok (.ifCond .eq 14, 3) := by decide +kernel
theorem B119_20_25 : s_dk T119.2.2.1 20 [.iload_n 3, .iconst 0, .sipush 300] 25 = true := by decide +kernel
theorem D119_25 : decode T119.2.2.1 25 = .ok (.invokestatic 102, 3) := by decide +kernel
theorem D119_28 : decode T119.2.2.1 28 = .ok (.ifCond .ne 9, 3) := by decide +kernel
theorem B119_37_38 : s_dk T119.2.2.1 37 [.aload_n 0] 38 = true := by decide +kernel
theorem D119_38 : decode T119.2.2.1 38 = .ok (.getfield 10, 3) := by decide +kernel
theorem D119_41 : decode T119.2.2.1 41 = .ok (.getfield 279, 3) := by decide +kernel
theorem B119_44_46 : s_dk T119.2.2.1 44 [.bipush 6] 46 = true := by decide +kernel
theorem D119_46 : decode T119.2.2.1 46 = .ok (.if_icmp .lt 10, 3) := by decide +kernel
theorem B119_56_58 : s_dk T119.2.2.1 56 [.aload_n 0, .aload_n 0] 58 = true := by decide +kernel
theorem D119_58 : decode T119.2.2.1 58 = .ok (.getfield 10, 3) := by decide +kernel
theorem B119_61_64 : s_dk T119.2.2.1 61 [.iload_n 1, .iload_n 2, .iload_n 3] 64 = true := by decide +kernel
theorem D119_64 : decode T119.2.2.1 64 = .ok (.invokevirtual 282, 3) := by decide +kernel
theorem ck_10_virtual_282 : m_call 10 (.invokevirtual 282) = some (0, 63, 3) := by decide +kernel
theorem D119_67 : decode T119.2.2.1 67 = .ok (.invokevirtual 123, 3) := by decide +kernel
theorem D119_70 : decode T119.2.2.1 70 = .ok (.ireturn, 1) := by decide +kernel
theorem B119_49_52 : s_dk T119.2.2.1 49 [.aload_n 0, .bipush (-5)] 52 = true := by decide +kernel
theorem D119_52 : decode T119.2.2.1 52 = .ok (.invokevirtual 106, 3) := by decide +kernel
theorem D119_55 : decode T119.2.2.1 55 = .ok (.ireturn, 1) := by decide +kernel
noncomputable def T120 : mT := (10, yX10_chain, cX10_chain, 1, (some .int))
set_option maxRecDepth 10000 in
theorem TE120 : sy_m[120]? = some T120 := rfl
theorem B120_0_1 : s_dk T120.2.2.1 0 [.aload_n 0] 1 = true := by decide +kernel
theorem D120_1 : decode T120.2.2.1 1 = .ok (.getfield 10, 3) := by decide +kernel
theorem D120_4 : decode T120.2.2.1 4 = .ok (.getfield 279, 3) := by decide +kernel
theorem B120_7_8 : s_dk T120.2.2.1 7 [.iconst 1] 8 = true := by decide +kernel
theorem D120_8 : decode T120.2.2.1 8 = .ok (.if_icmp .ge 7, 3) := by decide +kernel
theorem B120_15_16 : s_dk T120.2.2.1 15 [.aload_n 0] 16 = true := by decide +kernel
theorem gf_10_80_0 : s_gf 10 80 0 = some (14, 69) := by decide +kernel
theorem D120_16 : decode T120.2.2.1 16 = .ok (.getfield 80, 3) := by decide +kernel
theorem B120_19_20 : s_dk T120.2.2.1 19 [.aload_n 0] 20 = true := by decide +kernel
theorem D120_20 : decode T120.2.2.1 20 = .ok (.getfield 10, 3) := by decide +kernel
theorem gf_10_285_1 : s_gf 10 285 1 = some (13, 13) := by decide +kernel
theorem D120_23 : decode T120.2.2.1 23 = .ok (.getfield 285, 3) := by decide +kernel
theorem B120_26_27 : s_dk T120.2.2.1 26 [.aload_n 0] 27 = true := by decide +kernel
theorem D120_27 : decode T120.2.2.1 27 = .ok (.getfield 10, 3) := by decide +kernel
theorem D120_30 : decode T120.2.2.1 30 = .ok (.getfield 279, 3) := by decide +kernel
theorem D120_33 : decode T120.2.2.1 33 = .ok (.invokevirtual 288, 3) := by decide +kernel
theorem ck_10_virtual_288 : m_call 10 (.invokevirtual 288) = some (0, 10, 2) := by decide +kernel
theorem D120_36 : decode T120.2.2.1 36 = .ok (.ireturn, 1) := by decide +kernel
theorem B120_11_12 : s_dk T120.2.2.1 11 [.iconst (-1)] 12 = true := by decide +kernel
theorem D120_12 : decode T120.2.2.1 12 = .ok (.goto 24, 3) := by decide +kernel
noncomputable def T121 : mT := (10, yX10_link, cX10_link, 2, (some .int))
set_option maxRecDepth 10000 in
theorem TE121 : sy_m[121]? = some T121 := rfl
theorem B121_0_3 : s_dk T121.2.2.1 0 [.iload_n 1, .iconst 0, .aload_n 0] 3 = true := by decide +kernel
theorem D121_3 : decode T121.2.2.1 3 = .ok (.getfield 80, 3) := by decide +kernel
theorem gf_10_291_66 : s_gf 10 291 66 = some (1, 1) := by decide +kernel
theorem D121_6 : decode T121.2.2.1 6 = .ok (.getfield 291, 3) := by decide +kernel
theorem B121_9_11 : s_dk T121.2.2.1 9 [.iconst 1, .isub] 11 = true := by decide +kernel
theorem D121_11 : decode T121.2.2.1 11 = .ok (.invokestatic 102, 3) := by decide +kernel
theorem D121_14 : decode T121.2.2.1 14 = .ok (.ifCond .eq 15, 3) := by decide +kernel
theorem B121_29_30 : s_dk T121.2.2.1 29 [.iconst (-1)] 30 = true := by decide +kernel
theorem D121_30 : decode T121.2.2.1 30 = .ok (.ireturn, 1) := by decide +kernel
theorem B121_17_18 : s_dk T121.2.2.1 17 [.aload_n 0] 18 = true := by decide +kernel
theorem D121_18 : decode T121.2.2.1 18 = .ok (.getfield 80, 3) := by decide +kernel
theorem gf_10_294_66 : s_gf 10 294 66 = some (0, 70) := by decide +kernel
theorem D121_21 : decode T121.2.2.1 21 = .ok (.getfield 294, 3) := by decide +kernel
theorem B121_24_25 : s_dk T121.2.2.1 24 [.iload_n 1] 25 = true := by decide +kernel
theorem D121_25 : decode T121.2.2.1 25 = .ok (.iaload, 1) := by decide +kernel
theorem D121_26 : decode T121.2.2.1 26 = .ok (.goto 4, 3) := by decide +kernel
noncomputable def T122 : mT := (10, yX10_tired, cX10_tired, 3, (some .int))
set_option maxRecDepth 10000 in
theorem TE122 : sy_m[122]? = some T122 := rfl
theorem B122_0_4 : s_dk T122.2.2.1 0 [.iload_n 1, .iconst 0, .bipush 59] 4 = true := by decide +kernel
theorem D122_4 : decode T122.2.2.1 4 = .ok (.invokestatic 102, 3) := by decide +kernel
theorem D122_7 : decode T122.2.2.1 7 = .ok (.ifCond .eq 14, 3) := by decide +kernel
theorem B122_21_23 : s_dk T122.2.2.1 21 [.aload_n 0, .iconst (-1)] 23 = true := by decide +kernel
theorem D122_23 : decode T122.2.2.1 23 = .ok (.invokevirtual 106, 3) := by decide +kernel
theorem D122_26 : decode T122.2.2.1 26 = .ok (.ireturn, 1) := by decide +kernel
theorem B122_10_15 : s_dk T122.2.2.1 10 [.iload_n 2, .iconst 0, .sipush 1000] 15 = true := by decide +kernel
theorem D122_15 : decode T122.2.2.1 15 = .ok (.invokestatic 102, 3) := by decide +kernel
theorem D122_18 : decode T122.2.2.1 18 = .ok (.ifCond .ne 9, 3) := by decide +kernel
theorem B122_27_29 : s_dk T122.2.2.1 27 [.aload_n 0, .aload_n 0] 29 = true := by decide +kernel
theorem D122_29 : decode T122.2.2.1 29 = .ok (.getfield 10, 3) := by decide +kernel
theorem gf_10_297_1 : s_gf 10 297 1 = some (15, 14) := by decide +kernel
theorem D122_32 : decode T122.2.2.1 32 = .ok (.getfield 297, 3) := by decide +kernel
theorem B122_35_37 : s_dk T122.2.2.1 35 [.iload_n 1, .iload_n 2] 37 = true := by decide +kernel
theorem D122_37 : decode T122.2.2.1 37 = .ok (.invokestatic 119, 3) := by decide +kernel
theorem D122_40 : decode T122.2.2.1 40 = .ok (.invokevirtual 123, 3) := by decide +kernel
theorem D122_43 : decode T122.2.2.1 43 = .ok (.ireturn, 1) := by decide +kernel
noncomputable def T123 : mT := (10, yX10_relieve, cX10_relieve, 2, (some .int))
set_option maxRecDepth 10000 in
theorem TE123 : sy_m[123]? = some T123 := rfl
theorem B123_0_4 : s_dk T123.2.2.1 0 [.iload_n 1, .iconst 1, .bipush 120] 4 = true := by decide +kernel
theorem D123_4 : decode T123.2.2.1 4 = .ok (.invokestatic 102, 3) := by decide +kernel
theorem D123_7 : decode T123.2.2.1 7 = .ok (.ifCond .eq 31, 3) := by decide +kernel
theorem B123_38_39 : s_dk T123.2.2.1 38 [.iconst (-1)] 39 = true := by decide +kernel
theorem D123_39 : decode T123.2.2.1 39 = .ok (.ireturn, 1) := by decide +kernel
theorem B123_10_11 : s_dk T123.2.2.1 10 [.aload_n 0] 11 = true := by decide +kernel
theorem gf_10_87_0 : s_gf 10 87 0 = some (15, 72) := by decide +kernel
theorem D123_11 : decode T123.2.2.1 11 = .ok (.getfield 87, 3) := by decide +kernel
theorem B123_14_15 : s_dk T123.2.2.1 14 [.aload_n 0] 15 = true := by decide +kernel
theorem D123_15 : decode T123.2.2.1 15 = .ok (.getfield 10, 3) := by decide +kernel
theorem D123_18 : decode T123.2.2.1 18 = .ok (.getfield 297, 3) := by decide +kernel
theorem B123_21_22 : s_dk T123.2.2.1 21 [.aload_n 0] 22 = true := by decide +kernel
theorem D123_22 : decode T123.2.2.1 22 = .ok (.getfield 10, 3) := by decide +kernel
theorem D123_25 : decode T123.2.2.1 25 = .ok (.getfield 129, 3) := by decide +kernel
theorem B123_28_30 : s_dk T123.2.2.1 28 [.bipush 8] 30 = true := by decide +kernel
theorem D123_30 : decode T123.2.2.1 30 = .ok (.iaload, 1) := by decide +kernel
theorem B123_31_32 : s_dk T123.2.2.1 31 [.iload_n 1] 32 = true := by decide +kernel
theorem D123_32 : decode T123.2.2.1 32 = .ok (.invokevirtual 300, 3) := by decide +kernel
theorem ck_10_virtual_300 : m_call 10 (.invokevirtual 300) = some (0, 40, 3) := by decide +kernel
theorem D123_35 : decode T123.2.2.1 35 = .ok (.goto 4, 3) := by decide +kernel
noncomputable def T124 : mT := (10, yX10_change, cX10_change, 2, (some .int))
set_option maxRecDepth 10000 in
theorem TE124 : sy_m[124]? = some T124 := rfl
theorem B124_0_2 : s_dk T124.2.2.1 0 [.iload_n 1, .iconst (-1)] 2 = true := by decide +kernel
theorem D124_2 : decode T124.2.2.1 2 = .ok (.if_icmp .ne 11, 3) := by decide +kernel
theorem B124_13_16 : s_dk T124.2.2.1 13 [.iload_n 1, .iconst 0, .aload_n 0] 16 = true := by decide +kernel
theorem D124_16 : decode T124.2.2.1 16 = .ok (.getfield 87, 3) := by decide +kernel
theorem gf_10_302_69 : s_gf 10 302 69 = some (1, 1) := by decide +kernel
theorem D124_19 : decode T124.2.2.1 19 = .ok (.getfield 302, 3) := by decide +kernel
theorem B124_22_24 : s_dk T124.2.2.1 22 [.iconst 1, .isub] 24 = true := by decide +kernel
theorem D124_24 : decode T124.2.2.1 24 = .ok (.invokestatic 102, 3) := by decide +kernel
theorem D124_27 : decode T124.2.2.1 27 = .ok (.ifCond .eq 15, 3) := by decide +kernel
theorem B124_42_43 : s_dk T124.2.2.1 42 [.iconst (-1)] 43 = true := by decide +kernel
theorem D124_43 : decode T124.2.2.1 43 = .ok (.ireturn, 1) := by decide +kernel
theorem B124_30_31 : s_dk T124.2.2.1 30 [.aload_n 0] 31 = true := by decide +kernel
theorem D124_31 : decode T124.2.2.1 31 = .ok (.getfield 87, 3) := by decide +kernel
theorem gf_10_305_69 : s_gf 10 305 69 = some (0, 73) := by decide +kernel
theorem D124_34 : decode T124.2.2.1 34 = .ok (.getfield 305, 3) := by decide +kernel
theorem B124_37_38 : s_dk T124.2.2.1 37 [.iload_n 1] 38 = true := by decide +kernel
theorem D124_38 : decode T124.2.2.1 38 = .ok (.iaload, 1) := by decide +kernel
theorem D124_39 : decode T124.2.2.1 39 = .ok (.goto 4, 3) := by decide +kernel
theorem B124_5_6 : s_dk T124.2.2.1 5 [.aload_n 0] 6 = true := by decide +kernel
theorem D124_6 : decode T124.2.2.1 6 = .ok (.getfield 87, 3) := by decide +kernel
theorem D124_9 : decode T124.2.2.1 9 = .ok (.getfield 302, 3) := by decide +kernel
theorem D124_12 : decode T124.2.2.1 12 = .ok (.ireturn, 1) := by decide +kernel
noncomputable def T125 : mT := (10, yX10_glossary, cX10_glossary, 3, (some .int))
set_option maxRecDepth 10000 in
theorem TE125 : sy_m[125]? = some T125 := rfl
theorem B125_0_5 : s_dk T125.2.2.1 0 [.iload_n 1, .iconst 0, .sipush 240] 5 = true := by decide +kernel
theorem D125_5 : decode T125.2.2.1 5 = .ok (.invokestatic 102, 3) := by decide +kernel
theorem D125_8 : decode T125.2.2.1 8 = .ok (.ifCond .eq 12, 3) := by decide +kernel
theorem B125_20_21 : s_dk T125.2.2.1 20 [.iconst (-1)] 21 = true := by decide +kernel
theorem D125_21 : decode T125.2.2.1 21 = .ok (.ireturn, 1) := by decide +kernel
theorem B125_11_14 : s_dk T125.2.2.1 11 [.iload_n 2, .iconst 0, .iconst 1] 14 = true := by decide +kernel
theorem D125_14 : decode T125.2.2.1 14 = .ok (.invokestatic 102, 3) := by decide +kernel
theorem D125_17 : decode T125.2.2.1 17 = .ok (.ifCond .ne 5, 3) := by decide +kernel
theorem B125_22_23 : s_dk T125.2.2.1 22 [.aload_n 0] 23 = true := by decide +kernel
theorem gf_10_94_0 : s_gf 10 94 0 = some (16, 76) := by decide +kernel
theorem D125_23 : decode T125.2.2.1 23 = .ok (.getfield 94, 3) := by decide +kernel
theorem B125_26_27 : s_dk T125.2.2.1 26 [.aload_n 0] 27 = true := by decide +kernel
theorem D125_27 : decode T125.2.2.1 27 = .ok (.getfield 10, 3) := by decide +kernel
theorem B125_30_31 : s_dk T125.2.2.1 30 [.iload_n 1] 31 = true := by decide +kernel
theorem D125_31 : decode T125.2.2.1 31 = .ok (.invokevirtual 308, 3) := by decide +kernel
theorem ck_10_virtual_308 : m_call 10 (.invokevirtual 308) = some (0, 13, 2) := by decide +kernel
theorem B125_34_35 : s_dk T125.2.2.1 34 [.iload_n 2] 35 = true := by decide +kernel
theorem D125_35 : decode T125.2.2.1 35 = .ok (.ifCond .ne 15, 3) := by decide +kernel
theorem B125_50_51 : s_dk T125.2.2.1 50 [.aload_n 0] 51 = true := by decide +kernel
theorem D125_51 : decode T125.2.2.1 51 = .ok (.getfield 94, 3) := by decide +kernel
theorem gf_10_313_73 : s_gf 10 313 73 = some (1, 78) := by decide +kernel
theorem D125_54 : decode T125.2.2.1 54 = .ok (.getfield 313, 3) := by decide +kernel
theorem B125_57_58 : s_dk T125.2.2.1 57 [.iload_n 1] 58 = true := by decide +kernel
theorem D125_58 : decode T125.2.2.1 58 = .ok (.iaload, 1) := by decide +kernel
theorem D125_59 : decode T125.2.2.1 59 = .ok (.ireturn, 1) := by decide +kernel
theorem B125_38_39 : s_dk T125.2.2.1 38 [.aload_n 0] 39 = true := by decide +kernel
theorem D125_39 : decode T125.2.2.1 39 = .ok (.getfield 94, 3) := by decide +kernel
theorem gf_10_310_73 : s_gf 10 310 73 = some (0, 77) := by decide +kernel
theorem D125_42 : decode T125.2.2.1 42 = .ok (.getfield 310, 3) := by decide +kernel
theorem B125_45_46 : s_dk T125.2.2.1 45 [.iload_n 1] 46 = true := by decide +kernel
theorem D125_46 : decode T125.2.2.1 46 = .ok (.iaload, 1) := by decide +kernel
theorem D125_47 : decode T125.2.2.1 47 = .ok (.goto 12, 3) := by decide +kernel
noncomputable def T138 : mT := (10, yX10_freshenTree, cX10_freshenTree, 1, none)
set_option maxRecDepth 10000 in
theorem TE138 : sy_m[138]? = some T138 := rfl
theorem B138_0_1 : s_dk T138.2.2.1 0 [.aload_n 0] 1 = true := by decide +kernel
theorem gf_10_57_0 : s_gf 10 57 0 = some (9, 1) := by decide +kernel
theorem D138_1 : decode T138.2.2.1 1 = .ok (.getfield 57, 3) := by decide +kernel
theorem D138_4 : decode T138.2.2.1 4 = .ok (.ifCond .eq 20, 3) := by decide +kernel
theorem D138_24 : decode T138.2.2.1 24 = .ok (.return_, 1) := by decide +kernel
theorem B138_7_8 : s_dk T138.2.2.1 7 [.aload_n 0] 8 = true := by decide +kernel
theorem gf_10_44_0 : s_gf 10 44 0 = some (7, 23) := by decide +kernel
theorem D138_8 : decode T138.2.2.1 8 = .ok (.getfield 44, 3) := by decide +kernel
theorem B138_11_12 : s_dk T138.2.2.1 11 [.aload_n 0] 12 = true := by decide +kernel
theorem D138_12 : decode T138.2.2.1 12 = .ok (.getfield 10, 3) := by decide +kernel
theorem B138_15_16 : s_dk T138.2.2.1 15 [.iconst (-1)] 16 = true := by decide +kernel
theorem D138_16 : decode T138.2.2.1 16 = .ok (.invokevirtual 213, 3) := by decide +kernel
theorem ck_10_virtual_213 : m_call 10 (.invokevirtual 213) = some (0, 79, 2) := by decide +kernel
theorem B138_19_21 : s_dk T138.2.2.1 19 [.aload_n 0, .iconst 0] 21 = true := by decide +kernel
theorem D138_21 : decode T138.2.2.1 21 = .ok (.putfield 57, 3) := by decide +kernel
noncomputable def T140 : mT := (10, yX10_soundsLike, cX10_soundsLike, 3, (some .boolean))
set_option maxRecDepth 10000 in
theorem TE140 : sy_m[140]? = some T140 := rfl
theorem B140_0_2 : s_dk T140.2.2.1 0 [.iload_n 1, .aload_n 0] 2 = true := by decide +kernel
theorem gf_10_70_0 : s_gf 10 70 0 = some (12, 61) := by decide +kernel
theorem D140_2 : decode T140.2.2.1 2 = .ok (.getfield 70, 3) := by decide +kernel
theorem gf_10_263_58 : s_gf 10 263 58 = some (1, 1) := by decide +kernel
theorem D140_5 : decode T140.2.2.1 5 = .ok (.getfield 263, 3) := by decide +kernel
theorem D140_8 : decode T140.2.2.1 8 = .ok (.if_icmp .eq 5, 3) := by decide +kernel
theorem B140_13_15 : s_dk T140.2.2.1 13 [.iconst 0, .istore_n 2] 15 = true := by decide +kernel
theorem B140_11_12 : s_dk T140.2.2.1 11 [.iconst 0] 12 = true := by decide +kernel
theorem D140_12 : decode T140.2.2.1 12 = .ok (.ireturn, 1) := by decide +kernel
theorem B140_15_17 : s_dk T140.2.2.1 15 [.iload_n 2, .iload_n 1] 17 = true := by decide +kernel
theorem D140_17 : decode T140.2.2.1 17 = .ok (.if_icmp .ge 41, 3) := by decide +kernel
theorem B140_58_59 : s_dk T140.2.2.1 58 [.iconst 1] 59 = true := by decide +kernel
theorem D140_59 : decode T140.2.2.1 59 = .ok (.ireturn, 1) := by decide +kernel
theorem B140_20_21 : s_dk T140.2.2.1 20 [.aload_n 0] 21 = true := by decide +kernel
theorem D140_21 : decode T140.2.2.1 21 = .ok (.getfield 20, 3) := by decide +kernel
theorem B140_24_25 : s_dk T140.2.2.1 24 [.iload_n 2] 25 = true := by decide +kernel
theorem D140_25 : decode T140.2.2.1 25 = .ok (.iaload, 1) := by decide +kernel
theorem B140_26_29 : s_dk T140.2.2.1 26 [.sipush 255] 29 = true := by decide +kernel
theorem D140_29 : decode T140.2.2.1 29 = .ok (.if_icmp .eq 23, 3) := by decide +kernel
theorem B140_52_55 : s_dk T140.2.2.1 52 [.iinc 2 1] 55 = true := by decide +kernel
theorem D140_55 : decode T140.2.2.1 55 = .ok (.goto (-40), 3) := by decide +kernel
theorem B140_32_33 : s_dk T140.2.2.1 32 [.aload_n 0] 33 = true := by decide +kernel
theorem D140_33 : decode T140.2.2.1 33 = .ok (.getfield 20, 3) := by decide +kernel
theorem B140_36_37 : s_dk T140.2.2.1 36 [.iload_n 2] 37 = true := by decide +kernel
theorem D140_37 : decode T140.2.2.1 37 = .ok (.iaload, 1) := by decide +kernel
theorem B140_38_39 : s_dk T140.2.2.1 38 [.aload_n 0] 39 = true := by decide +kernel
theorem D140_39 : decode T140.2.2.1 39 = .ok (.getfield 70, 3) := by decide +kernel
theorem gf_10_266_58 : s_gf 10 266 58 = some (0, 62) := by decide +kernel
theorem D140_42 : decode T140.2.2.1 42 = .ok (.getfield 266, 3) := by decide +kernel
theorem B140_45_46 : s_dk T140.2.2.1 45 [.iload_n 2] 46 = true := by decide +kernel
theorem D140_46 : decode T140.2.2.1 46 = .ok (.iaload, 1) := by decide +kernel
theorem D140_47 : decode T140.2.2.1 47 = .ok (.if_icmp .eq 5, 3) := by decide +kernel
theorem B140_50_51 : s_dk T140.2.2.1 50 [.iconst 0] 51 = true := by decide +kernel
theorem D140_51 : decode T140.2.2.1 51 = .ok (.ireturn, 1) := by decide +kernel
set_option maxRecDepth 4000 in
theorem L_k44 {base : Nat} {X : Nat → Option mC} {G : Nat → Value} (E : EnvOK base X G) {d : Nat} (hd : 0 ≤ d) {M : mH} (H : HI base M) (said : Int) (done : Int) (at_ : Int) (h0 : -2147483648 ≤ said ∧ said ≤ 2147483647) (h1 : 0 ≤ done ∧ done ≤ 3) (h2 : 0 ≤ at_ ∧ at_ ≤ 2) : ∀ mz : Nat, (∀ (x3 x4 : Int), ((-2147483648) ≤ x3) → (x3 ≤ 2147483647) → (0 ≤ x4) → (x4 ≤ 2) → (1 ≤ done) → (done ≤ 3) → (x4 - 0) * 1 + 0 < (mz : Int) → sRn base X G d T44 14 [(2, vI at_), (3, vI x3), (4, vI x4)] [] M (s_Q base (pI (fun v M' => M' = M ∧ (-2147483648 ≤ v ∧ v ≤ 2147483647))))) := by
  intro mz
  induction mz with
  | zero => exact fun x3 x4 z0 z1 z2 z3 z4 z5 z6 => by omega
  | succ mz ih =>
    intro x3 x4 i0 i1 i2 i3 i4 i5 hmu
    refine s_blx (lv' := [(2, vI at_), (3, vI x3), (4, vI x4)]) (st' := [vI at_, vI x4]) B44_14_17 rfl ?_
    refine r_icmp (tgt := 33) (pc' := 20) D44_17 rfl rfl (by unfold inR; omega) (fun (c2 : x4 ≤ at_) => ?_) (fun (c2 : ¬ (x4 ≤ at_)) => ?_)
    · refine s_blx (lv' := [(2, vI at_), (3, vI x3), (4, vI x4)]) (st' := [vI 10, vI (x3 - 1)]) B44_33_38 rfl ?_
      refine r_iremX (pc' := 39) D44_38 rfl (by unfold inR; omega) ?_
      intro z3 r4; unfold inR at r4
      exact r_iretI D44_39 rfl (⟨rfl, by omega⟩)
    · refine s_blx (lv' := [(2, vI at_), (3, vI x3), (4, vI x4)]) (st' := [vI 10, vI (x3 - 1)]) B44_20_25 rfl ?_
      refine r_idivX (pc' := 26) D44_25 rfl (by unfold inR; omega) ?_
      intro z5 r6; unfold inR at r6
      refine s_blx (lv' := [(4, vI (x4 + (-1))), (3, vI z5), (2, vI at_)]) (st' := []) B44_26_30 rfl ?_
      refine r_goto (tgt := 14) D44_30 rfl ?_
      refine r_loc (lv' := [(2, vI at_), (3, vI z5), (4, vI (x4 + (-1)))]) ⟨rfl, rfl, rfl, trivial⟩ rfl rfl ?_
      exact ih z5 (x4 + (-1)) (by omega) (by omega) (by omega) (by omega) (by omega) (by omega) (by omega)
set_option maxRecDepth 4000 in
theorem k44 {base : Nat} {X : Nat → Option mC} {G : Nat → Value} (E : EnvOK base X G) {d : Nat} (hd : 0 ≤ d) {M : mH} (H : HI base M) (said : Int) (done : Int) (at_ : Int) (h0 : -2147483648 ≤ said ∧ said ≤ 2147483647) (h1 : 0 ≤ done ∧ done ≤ 3) (h2 : 0 ≤ at_ ∧ at_ ≤ 2) : sOk base X G d T44 [vI said, vI done, vI at_] M (pI (fun v M' => M' = M ∧ (-2147483648 ≤ v ∧ v ≤ 2147483647))) := by
  refine sOk.of (show sRn base X G d T44 0 [(0, vI said), (1, vI done), (2, vI at_)] [] M _ from ?_)
  refine s_blx (lv' := [(0, vI said), (1, vI done), (2, vI at_)]) (st' := [vI done, vI at_]) B44_0_2 rfl ?_
  refine r_icmp (tgt := 7) (pc' := 5) D44_2 rfl rfl (by unfold inR; omega) (fun (c1 : at_ < done) => ?_) (fun (c1 : ¬ (at_ < done)) => ?_)
  · refine s_blx (lv' := [(4, vI (done - 1)), (3, vI said), (0, vI said), (1, vI done), (2, vI at_)]) (st' := []) B44_7_14 rfl ?_
    refine r_loc (lv' := [(2, vI at_), (3, vI said), (4, vI (done - 1))]) ⟨rfl, rfl, rfl, trivial⟩ rfl rfl ?_
    exact (L_k44 E hd H said done at_ h0 h1 h2 ((((done - 1) - 0) * 1 + 0 : Int) + 1).toNat) said (done - 1) (by omega) (by omega) (by omega) (by omega) (by omega) (by omega) (by omega)
  · refine s_blx (lv' := [(0, vI said), (1, vI done), (2, vI at_)]) (st' := [vI (-1)]) B44_5_6 rfl ?_
    exact r_iretI D44_6 rfl (⟨rfl, by omega⟩)
set_option maxRecDepth 4000 in
theorem L_k45 {base : Nat} {X : Nat → Option mC} {G : Nat → Value} (E : EnvOK base X G) {d : Nat} (hd : 1 ≤ d) {M : mH} (H : HI base M) (said : Int) (done : Int) (at_ : Int) (digit : Int) (h0 : -2147483648 ≤ said ∧ said ≤ 2147483647) (h1 : 0 ≤ done ∧ done ≤ 3) (h2 : 0 ≤ at_ ∧ at_ ≤ 2) (h3 : -2147483648 ≤ digit ∧ digit ≤ 2147483647) : ∀ mz : Nat, (∀ (x4 x5 : Int), ((-1) ≤ x5) → (x5 ≤ 2) → (x5 + 1) * 1 + 0 < (mz : Int) → sRn base X G d T45 15 [(0, vI said), (2, vI at_), (4, vI x4), (5, vI x5)] [] M (s_Q base (pI (fun v M' => M' = M ∧ (-2147483648 ≤ v ∧ v ≤ 2147483647))))) := by
  intro mz
  induction mz with
  | zero => exact fun x4 x5 z0 z1 z2 => by omega
  | succ mz ih =>
    intro x4 x5 i0 i1 hmu
    refine s_blx (lv' := [(0, vI said), (2, vI at_), (4, vI x4), (5, vI x5)]) (st' := [vI at_, vI x5]) B45_15_18 rfl ?_
    refine r_icmp (tgt := 34) (pc' := 21) D45_18 rfl rfl (by unfold inR; omega) (fun (c5 : x5 ≤ at_) => ?_) (fun (c5 : ¬ (x5 ≤ at_)) => ?_)
    · refine s_blx (lv' := [(0, vI said), (2, vI at_), (4, vI x4), (5, vI x5)]) (st' := [vI (said + x4)]) B45_34_38 rfl ?_
      refine r_norm ?_
      intro z6 r7 _; unfold inR at r7
      exact r_iretI D45_38 rfl (⟨rfl, by omega⟩)
    · refine s_blx (lv' := [(5, vI (x5 + (-1))), (4, vI (x4 * 10)), (0, vI said), (2, vI at_)]) (st' := []) B45_21_31 rfl ?_
      refine r_goto (tgt := 15) D45_31 rfl ?_
      refine r_loc (lv' := [(0, vI said), (2, vI at_), (4, vI (x4 * 10)), (5, vI (x5 + (-1)))]) ⟨rfl, rfl, rfl, rfl, trivial⟩ rfl rfl ?_
      exact ih (x4 * 10) (x5 + (-1)) (by omega) (by omega) (by omega)
set_option maxRecDepth 4000 in
theorem k45 {base : Nat} {X : Nat → Option mC} {G : Nat → Value} (E : EnvOK base X G) {d : Nat} (hd : 1 ≤ d) {M : mH} (H : HI base M) (said : Int) (done : Int) (at_ : Int) (digit : Int) (h0 : -2147483648 ≤ said ∧ said ≤ 2147483647) (h1 : 0 ≤ done ∧ done ≤ 3) (h2 : 0 ≤ at_ ∧ at_ ≤ 2) (h3 : -2147483648 ≤ digit ∧ digit ≤ 2147483647) : sOk base X G d T45 [vI said, vI done, vI at_, vI digit] M (pI (fun v M' => M' = M ∧ (-2147483648 ≤ v ∧ v ≤ 2147483647))) := by
  refine sOk.of (show sRn base X G d T45 0 [(0, vI said), (1, vI done), (2, vI at_), (3, vI digit)] [] M _ from ?_)
  refine s_blx (lv' := [(0, vI said), (1, vI done), (2, vI at_), (3, vI digit)]) (st' := [vI at_, vI done, vI said, vI digit]) B45_0_4 rfl ?_
  refine r_sIp (args := [vI said, vI done, vI at_]) (rest := [vI digit]) (pc' := 7) D45_4 rfl ck_6_static_9 TE44 rfl (Nat.le_of_ble_eq_true rfl) ⟨Nat.le_of_ble_eq_true rfl, Nat.le_of_ble_eq_true rfl⟩ (by decide) (dp_0 hd rfl) (k44 E (dp_n hd rfl) H said done at_ (by omega) (by omega) (by omega)) ?_
  intro v1 q4
  have q3 := q4; clear q4
  refine s_blx (lv' := [(5, vI (done - 1)), (4, vI (digit - v1)), (0, vI said), (1, vI done), (2, vI at_), (3, vI digit)]) (st' := []) B45_7_15 rfl ?_
  refine r_loc (lv' := [(0, vI said), (2, vI at_), (4, vI (digit - v1)), (5, vI (done - 1))]) ⟨rfl, rfl, rfl, rfl, trivial⟩ rfl rfl ?_
  exact (L_k45 E hd H said done at_ digit h0 h1 h2 h3 ((((done - 1) + 1) * 1 + 0 : Int) + 1).toNat) (digit - v1) (done - 1) (by omega) (by omega) (by omega)
set_option maxRecDepth 4000 in
theorem k86_20 {base : Nat} {X : Nat → Option mC} {G : Nat → Value} (E : EnvOK base X G) {d : Nat} (hd : 1 ≤ d) {M : mH} (H : HI base M) (said : Int) (slot : Int) (h0 : -2147483648 ≤ said ∧ said ≤ 2147483647) (h1 : 0 ≤ slot ∧ slot ≤ 2) : sOk base X G d T86 [vR 20, vI said, vI slot] M (pI (fun v M' => M' = M ∧ (-2147483648 ≤ v ∧ v ≤ 2147483647))) := by
  refine sOk.of (show sRn base X G d T86 0 [(0, vR 20), (1, vI said), (2, vI slot)] [] M _ from ?_)
  refine s_blx (lv' := [(0, vR 20), (1, vI said), (2, vI slot)]) (st' := [vI said, vI said]) B86_0_2 rfl ?_
  refine r_sIp (args := [vI said]) (rest := [vI said]) (pc' := 5) D86_2 rfl ck_9_static_143 TE42 rfl (Nat.le_of_ble_eq_true rfl) ⟨Nat.le_of_ble_eq_true rfl, Nat.le_of_ble_eq_true rfl⟩ (by decide) (dp_0 hd rfl) (k42 E (dp_n hd rfl) H said (by omega)) ?_
  intro v1 q8
  obtain ⟨q3, q4, q5, q6, q7⟩ := q8
  obtain ⟨u9, f10, g11, g12, h13, k14⟩ := E.1 6 _ rfl
  refine r_gst (pc' := 8) D86_5 rfl st_9_148 g11 ?_
  refine s_blx (lv' := [(0, vR 20), (1, vI said), (2, vI slot)]) (st' := [vR 20, vA u9, vI v1, vI said]) B86_8_9 rfl ?_
  refine r_gint (ki := 16) (pc' := 12) D86_9 rfl gf_9_62_20 rfl H.1 ?_
  intro w15 e16 r17
  have b_w15 := H.2 20 (16) 0 5 rfl
  rw [← e16] at b_w15; clear r17
  refine s_blx (lv' := [(0, vR 20), (1, vI said), (2, vI slot)]) (st' := [vI ((w15 * 3) + slot), vA u9, vI v1, vI said]) B86_12_16 rfl ?_
  refine r_ialdT (pc' := 17) D86_16 rfl h13 g12 k14 (by first | omega | (show _ ∧ _ ∧ _; simp only [List.length]; omega)) ?_
  intro w18 e19 r20
  have b_w18 := tb_6 ((w15 * 3) + slot).toNat (by omega)
  rw [← e19] at b_w18; clear r20
  refine r_sIp (args := [vI said, vI v1, vI w18]) (rest := []) (pc' := 20) D86_17 rfl ck_9_static_151 TE44 rfl (Nat.le_of_ble_eq_true rfl) ⟨Nat.le_of_ble_eq_true rfl, Nat.le_of_ble_eq_true rfl⟩ (by decide) (dp_0 hd rfl) (k44 E (dp_n hd rfl) H said v1 w18 (by omega) (by omega) (by omega)) ?_
  intro v21 q24
  have q23 := q24; clear q24
  exact r_iretI D86_20 rfl (⟨rfl, by omega⟩)
set_option maxRecDepth 4000 in
theorem k87_20 {base : Nat} {X : Nat → Option mC} {G : Nat → Value} (E : EnvOK base X G) {d : Nat} (hd : 2 ≤ d) {M : mH} (H : HI base M) (place : Int) (said : Int) (slot : Int) (h0 : 0 ≤ place ∧ place ≤ 144) (h1 : -2147483648 ≤ said ∧ said ≤ 2147483647) (h2 : 0 ≤ slot ∧ slot ≤ 2) : sOk base X G d T87 [vR 20, vI place, vI said, vI slot] M (pI (fun v M' => M' = M ∧ (v = 0 ∨ v = 1))) := by
  refine sOk.of (show sRn base X G d T87 0 [(0, vR 20), (1, vI place), (2, vI said), (3, vI slot)] [] M _ from ?_)
  refine s_blx (lv' := [(0, vR 20), (1, vI place), (2, vI said), (3, vI slot)]) (st' := [vR 20]) B87_0_1 rfl ?_
  refine r_gfix (r := 28) (pc' := 4) D87_1 rfl gf_9_34_20 H.1 ?_
  refine s_blx (lv' := [(0, vR 20), (1, vI place), (2, vI said), (3, vI slot)]) (st' := [vI ((place * 3) + slot), vR 28]) B87_4_9 rfl ?_
  refine r_iald (pc' := 10) D87_9 rfl sc_28 H.1 (by omega) ?_
  intro w1 e2 r3
  have b_w1 := H.2 28 ((place * 3) + slot) (-1) 7 rfl
  rw [← e2] at b_w1; clear r3
  refine s_blx (lv' := [(4, vI w1), (0, vR 20), (1, vI place), (2, vI said), (3, vI slot)]) (st' := [vI slot, vI said, vR 20]) B87_10_15 rfl ?_
  refine r_vIp (c := 20) (args := [vI said, vI slot]) (rest := []) (pc' := 18) D87_15 rfl ck_9_virtual_155 TE86 rfl (Nat.le_of_ble_eq_true rfl) ⟨Nat.le_of_ble_eq_true rfl, Nat.le_of_ble_eq_true rfl⟩ sc_20 ⟨rfl, by decide⟩ H.1 (dp_0 hd rfl) (k86_20 E (dp_n hd rfl) H said slot (by omega) (by omega)) ?_
  intro v4 q7
  have q6 := q7; clear q7
  refine s_blx (lv' := [(5, vI v4), (4, vI w1), (0, vR 20), (1, vI place), (2, vI said), (3, vI slot)]) (st' := [vI (-1), vI w1]) B87_18_23 rfl ?_
  refine r_icmp (tgt := 45) (pc' := 26) D87_23 rfl rfl (by unfold inR; omega) (fun (c8 : w1 = (-1)) => ?_) (fun (c8 : ¬ (w1 = (-1))) => ?_)
  · refine s_blx (lv' := [(5, vI v4), (4, vI w1), (0, vR 20), (1, vI place), (2, vI said), (3, vI slot)]) (st' := [vI 0]) B87_45_46 rfl ?_
    exact r_zretI D87_46 rfl (by omega) (⟨rfl, by omega⟩)
  · refine s_blx (lv' := [(5, vI v4), (4, vI w1), (0, vR 20), (1, vI place), (2, vI said), (3, vI slot)]) (st' := [vI w1, vI v4]) B87_26_30 rfl ?_
    refine r_icmp (tgt := 45) (pc' := 33) D87_30 rfl rfl (by unfold inR; omega) (fun (c9 : v4 = w1) => ?_) (fun (c9 : ¬ (v4 = w1)) => ?_)
    · refine s_blx (lv' := [(5, vI v4), (4, vI w1), (0, vR 20), (1, vI place), (2, vI said), (3, vI slot)]) (st' := [vI 0]) B87_45_46 rfl ?_
      exact r_zretI D87_46 rfl (by omega) (⟨rfl, by omega⟩)
    · refine s_blx (lv' := [(5, vI v4), (4, vI w1), (0, vR 20), (1, vI place), (2, vI said), (3, vI slot)]) (st' := [vI v4]) B87_33_35 rfl ?_
      refine r_sIp (args := [vI v4]) (rest := []) (pc' := 38) D87_35 rfl ck_9_static_158 TE144 rfl (Nat.le_of_ble_eq_true rfl) ⟨Nat.le_of_ble_eq_true rfl, Nat.le_of_ble_eq_true rfl⟩ (by decide) (dp_0 hd rfl) (k144 E (dp_n hd rfl) H v4 (by omega)) ?_
      intro v10 q14
      obtain ⟨q12, q13⟩ := q14
      refine r_ifc (tgt := 45) (pc' := 41) D87_38 rfl rfl (by unfold inR; omega) (fun (c15 : v10 = 0) => ?_) (fun (c15 : ¬ (v10 = 0)) => ?_)
      · refine s_blx (lv' := [(5, vI v4), (4, vI w1), (0, vR 20), (1, vI place), (2, vI said), (3, vI slot)]) (st' := [vI 0]) B87_45_46 rfl ?_
        exact r_zretI D87_46 rfl (by omega) (⟨rfl, by omega⟩)
      · refine s_blx (lv' := [(5, vI v4), (4, vI w1), (0, vR 20), (1, vI place), (2, vI said), (3, vI slot)]) (st' := [vI 1]) B87_41_42 rfl ?_
        refine r_goto (tgt := 46) D87_42 rfl ?_
        exact r_zretI D87_46 rfl (by omega) (⟨rfl, by omega⟩)
set_option maxRecDepth 4000 in
theorem k88_20 {base : Nat} {X : Nat → Option mC} {G : Nat → Value} (E : EnvOK base X G) {d : Nat} (hd : 2 ≤ d) {M : mH} (H : HI base M) (place : Int) (said : Int) (slot : Int) (h0 : 0 ≤ place ∧ place ≤ 144) (h1 : -2147483648 ≤ said ∧ said ≤ 2147483647) (h2 : 0 ≤ slot ∧ slot ≤ 2) : sOk base X G d T88 [vR 20, vI place, vI said, vI slot] M (pI (fun v M' => M' = M ∧ (-2147483648 ≤ v ∧ v ≤ 2147483647))) := by
  refine sOk.of (show sRn base X G d T88 0 [(0, vR 20), (1, vI place), (2, vI said), (3, vI slot)] [] M _ from ?_)
  refine s_blx (lv' := [(0, vR 20), (1, vI place), (2, vI said), (3, vI slot)]) (st' := [vI said, vI said]) B88_0_2 rfl ?_
  refine r_sIp (args := [vI said]) (rest := [vI said]) (pc' := 5) D88_2 rfl ck_9_static_143 TE42 rfl (Nat.le_of_ble_eq_true rfl) ⟨Nat.le_of_ble_eq_true rfl, Nat.le_of_ble_eq_true rfl⟩ (by decide) (dp_0 hd rfl) (k42 E (dp_n hd rfl) H said (by omega)) ?_
  intro v1 q8
  obtain ⟨q3, q4, q5, q6, q7⟩ := q8
  obtain ⟨u9, f10, g11, g12, h13, k14⟩ := E.1 6 _ rfl
  refine r_gst (pc' := 8) D88_5 rfl st_9_148 g11 ?_
  refine s_blx (lv' := [(0, vR 20), (1, vI place), (2, vI said), (3, vI slot)]) (st' := [vR 20, vA u9, vI v1, vI said]) B88_8_9 rfl ?_
  refine r_gint (ki := 16) (pc' := 12) D88_9 rfl gf_9_62_20 rfl H.1 ?_
  intro w15 e16 r17
  have b_w15 := H.2 20 (16) 0 5 rfl
  rw [← e16] at b_w15; clear r17
  refine s_blx (lv' := [(0, vR 20), (1, vI place), (2, vI said), (3, vI slot)]) (st' := [vI ((w15 * 3) + slot), vA u9, vI v1, vI said]) B88_12_16 rfl ?_
  refine r_ialdT (pc' := 17) D88_16 rfl h13 g12 k14 (by first | omega | (show _ ∧ _ ∧ _; simp only [List.length]; omega)) ?_
  intro w18 e19 r20
  have b_w18 := tb_6 ((w15 * 3) + slot).toNat (by omega)
  rw [← e19] at b_w18; clear r20
  refine s_blx (lv' := [(0, vR 20), (1, vI place), (2, vI said), (3, vI slot)]) (st' := [vR 20, vI w18, vI v1, vI said]) B88_17_18 rfl ?_
  refine r_gfix (r := 28) (pc' := 21) D88_18 rfl gf_9_34_20 H.1 ?_
  refine s_blx (lv' := [(0, vR 20), (1, vI place), (2, vI said), (3, vI slot)]) (st' := [vI ((place * 3) + slot), vR 28, vI w18, vI v1, vI said]) B88_21_26 rfl ?_
  refine r_iald (pc' := 27) D88_26 rfl sc_28 H.1 (by omega) ?_
  intro w21 e22 r23
  have b_w21 := H.2 28 ((place * 3) + slot) (-1) 7 rfl
  rw [← e22] at b_w21; clear r23
  refine r_sIp (args := [vI said, vI v1, vI w18, vI w21]) (rest := []) (pc' := 30) D88_27 rfl ck_9_static_161 TE45 rfl (Nat.le_of_ble_eq_true rfl) ⟨Nat.le_of_ble_eq_true rfl, Nat.le_of_ble_eq_true rfl⟩ (by decide) (dp_0 hd rfl) (k45 E (dp_n hd rfl) H said v1 w18 w21 (by omega) (by omega) (by omega) (by omega)) ?_
  intro v24 q27
  have q26 := q27; clear q27
  exact r_iretI D88_30 rfl (⟨rfl, by omega⟩)
set_option maxRecDepth 4000 in
theorem k89_20 {base : Nat} {X : Nat → Option mC} {G : Nat → Value} (E : EnvOK base X G) {d : Nat} (hd : 3 ≤ d) {M : mH} (H : HI base M) (place : Int) (said : Int) (move : Int) (h0 : 0 ≤ place ∧ place ≤ 144) (h1 : -2147483648 ≤ said ∧ said ≤ 2147483647) (h2 : 0 ≤ move ∧ move ≤ 22) (h3 : move = 1 → said ≤ 110) : sOk base X G d T89 [vR 20, vI place, vI said, vI move] M (pI (fun v M' => M' = M ∧ (-2147483648 ≤ v ∧ v ≤ 2147483647))) := by
  refine sOk.of (show sRn base X G d T89 0 [(0, vR 20), (1, vI place), (2, vI said), (3, vI move)] [] M _ from ?_)
  refine s_blx (lv' := [(0, vR 20), (1, vI place), (2, vI said), (3, vI move)]) (st' := [vI 20, vI move]) B89_0_3 rfl ?_
  refine r_icmp (tgt := 17) (pc' := 6) D89_3 rfl rfl (by unfold inR; omega) (fun (c1 : move < 20) => ?_) (fun (c1 : ¬ (move < 20)) => ?_)
  · refine s_blx (lv' := [(0, vR 20), (1, vI place), (2, vI said), (3, vI move)]) (st' := [vI 10, vI move]) B89_17_20 rfl ?_
    refine r_icmp (tgt := 32) (pc' := 23) D89_20 rfl rfl (by unfold inR; omega) (fun (c2 : move < 10) => ?_) (fun (c2 : ¬ (move < 10)) => ?_)
    · refine s_blx (lv' := [(0, vR 20), (1, vI place), (2, vI said), (3, vI move)]) (st' := [vI move]) B89_32_33 rfl ?_
      refine r_tsw (tgt := fun k => if k = 1 then 60 else if k = 2 then 79 else if k = 3 then 86 else 0) (td := 93) D89_33 (by unfold inR; omega) ?_ rfl ?_ ?_
      · intro k h1 h2
        have hk : k = 1 ∨ k = 2 ∨ k = 3 := by omega
        rcases hk with rfl | rfl | rfl <;> exact ⟨_, rfl, rfl⟩
      · intro k h1 h2 c3
        have hk : k = 1 ∨ k = 2 ∨ k = 3 := by omega
        clear h1 h2
        rcases hk with rfl | rfl | rfl
        · show sRn _ _ _ _ _ 60 _ _ _ _
          refine s_blx (lv' := [(0, vR 20), (1, vI place), (2, vI said), (3, vI move)]) (st' := [vR 20, vI said]) B89_60_62 rfl ?_
          refine r_gfix (r := 28) (pc' := 65) D89_62 rfl gf_9_34_20 H.1 ?_
          refine s_blx (lv' := [(0, vR 20), (1, vI place), (2, vI said), (3, vI move)]) (st' := [vI said, vI place, vR 20, vR 28, vI said]) B89_65_68 rfl ?_
          refine r_sIp (args := [vI said]) (rest := [vI place, vR 20, vR 28, vI said]) (pc' := 71) D89_68 rfl ck_9_static_143 TE42 rfl (Nat.le_of_ble_eq_true rfl) ⟨Nat.le_of_ble_eq_true rfl, Nat.le_of_ble_eq_true rfl⟩ (by decide) (dp_0 hd rfl) (k42 E (dp_n hd rfl) H said (by omega)) ?_
          intro v4 q11
          obtain ⟨q6, q7, q8, q9, q10⟩ := q11
          refine r_vIp (c := 20) (args := [vI place, vI v4]) (rest := [vR 28, vI said]) (pc' := 74) D89_71 rfl ck_9_virtual_171 TE85 rfl (Nat.le_of_ble_eq_true rfl) ⟨Nat.le_of_ble_eq_true rfl, Nat.le_of_ble_eq_true rfl⟩ sc_20 ⟨rfl, by decide⟩ H.1 (dp_0 hd rfl) (k85_20 E (dp_n hd rfl) H place v4 (by omega) (by omega)) ?_
          intro v12 q15
          have q14 := q15; clear q15
          refine r_iald (pc' := 75) D89_74 rfl sc_28 H.1 (by omega) ?_
          intro w16 e17 r18
          have b_w16 := H.2 28 (v12) (-1) 7 rfl
          rw [← e17] at b_w16; clear r18
          refine r_sIp (args := [vI said, vI w16]) (rest := []) (pc' := 78) D89_75 rfl ck_9_static_168 TE43 rfl (Nat.le_of_ble_eq_true rfl) ⟨Nat.le_of_ble_eq_true rfl, Nat.le_of_ble_eq_true rfl⟩ (by decide) (dp_0 hd rfl) (k43 E (dp_n hd rfl) H said w16 (by omega) (by omega)) ?_
          intro v19 q22
          have q21 := q22; clear q22
          refine r_norm ?_
          intro z23 r24 _; unfold inR at r24
          exact r_iretI D89_78 rfl (⟨rfl, by omega⟩)
        · show sRn _ _ _ _ _ 79 _ _ _ _
          refine s_blx (lv' := [(0, vR 20), (1, vI place), (2, vI said), (3, vI move)]) (st' := [vI 8, vI said]) B89_79_82 rfl ?_
          refine r_sIp (args := [vI said, vI 8]) (rest := []) (pc' := 85) D89_82 rfl ck_9_static_168 TE43 rfl (Nat.le_of_ble_eq_true rfl) ⟨Nat.le_of_ble_eq_true rfl, Nat.le_of_ble_eq_true rfl⟩ (by decide) (dp_0 hd rfl) (k43 E (dp_n hd rfl) H said 8 (by omega) (by omega)) ?_
          intro v25 q28
          have q27 := q28; clear q28
          refine r_norm ?_
          intro z29 r30 _; unfold inR at r30
          exact r_iretI D89_85 rfl (⟨rfl, by omega⟩)
        · show sRn _ _ _ _ _ 86 _ _ _ _
          refine s_blx (lv' := [(0, vR 20), (1, vI place), (2, vI said), (3, vI move)]) (st' := [vI 9, vI said]) B89_86_89 rfl ?_
          refine r_sIp (args := [vI said, vI 9]) (rest := []) (pc' := 92) D89_89 rfl ck_9_static_168 TE43 rfl (Nat.le_of_ble_eq_true rfl) ⟨Nat.le_of_ble_eq_true rfl, Nat.le_of_ble_eq_true rfl⟩ (by decide) (dp_0 hd rfl) (k43 E (dp_n hd rfl) H said 9 (by omega) (by omega)) ?_
          intro v31 q34
          have q33 := q34; clear q34
          refine r_norm ?_
          intro z35 r36 _; unfold inR at r36
          exact r_iretI D89_92 rfl (⟨rfl, by omega⟩)
      · intro c3
        refine s_blx (lv' := [(0, vR 20), (1, vI place), (2, vI said), (3, vI move)]) (st' := [vI said]) B89_93_94 rfl ?_
        exact r_iretI D89_94 rfl (⟨rfl, by omega⟩)
    · refine s_blx (lv' := [(0, vR 20), (1, vI place), (2, vI said), (3, vI move)]) (st' := [vI (move - 10), vI said]) B89_23_28 rfl ?_
      refine r_sIp (args := [vI said, vI (move - 10)]) (rest := []) (pc' := 31) D89_28 rfl ck_9_static_168 TE43 rfl (Nat.le_of_ble_eq_true rfl) ⟨Nat.le_of_ble_eq_true rfl, Nat.le_of_ble_eq_true rfl⟩ (by decide) (dp_0 hd rfl) (k43 E (dp_n hd rfl) H said (move - 10) (by omega) (by omega)) ?_
      intro v37 q40
      have q39 := q40; clear q40
      refine r_norm ?_
      intro z41 r42 _; unfold inR at r42
      exact r_iretI D89_31 rfl (⟨rfl, by omega⟩)
  · refine s_blx (lv' := [(0, vR 20), (1, vI place), (2, vI said), (3, vI move)]) (st' := [vI (move - 20), vI said, vI place, vR 20]) B89_6_13 rfl ?_
    refine r_vIp (c := 20) (args := [vI place, vI said, vI (move - 20)]) (rest := []) (pc' := 16) D89_13 rfl ck_9_virtual_165 TE88 rfl (Nat.le_of_ble_eq_true rfl) ⟨Nat.le_of_ble_eq_true rfl, Nat.le_of_ble_eq_true rfl⟩ sc_20 ⟨rfl, by decide⟩ H.1 (dp_0 hd rfl) (k88_20 E (dp_n hd rfl) H place said (move - 20) (by omega) (by omega) (by omega)) ?_
    intro v43 q46
    have q45 := q46; clear q46
    exact r_iretI D89_16 rfl (⟨rfl, by omega⟩)
set_option maxRecDepth 4000 in
theorem k93_20 {base : Nat} {X : Nat → Option mC} {G : Nat → Value} (E : EnvOK base X G) {d : Nat} (hd : 1 ≤ d) {M : mH} (H : HI base M) (place : Int) (said : Int) (move : Int) (h0 : 0 ≤ place ∧ place ≤ 144) (h1 : -2147483648 ≤ said ∧ said ≤ 2147483647) (h2 : 0 ≤ move ∧ move ≤ 22) (h3 : move = 2 → said ≤ 110) : sOk base X G d T93 [vR 20, vI place, vI said, vI move] M (pI (fun v M' => M' = M ∧ (-2147483648 ≤ v ∧ v ≤ 2147483647))) := by
  refine sOk.of (show sRn base X G d T93 0 [(0, vR 20), (1, vI place), (2, vI said), (3, vI move)] [] M _ from ?_)
  refine s_blx (lv' := [(0, vR 20), (1, vI place), (2, vI said), (3, vI move)]) (st' := [vI 2, vI move]) B93_0_2 rfl ?_
  refine r_icmp (tgt := 28) (pc' := 5) D93_2 rfl rfl (by unfold inR; omega) (fun (c1 : move ≠ 2) => ?_) (fun (c1 : ¬ (move ≠ 2)) => ?_)
  · refine s_blx (lv' := [(0, vR 20), (1, vI place), (2, vI said), (3, vI move)]) (st' := [vI 20, vI move]) B93_28_31 rfl ?_
    refine r_icmp (tgt := 44) (pc' := 34) D93_31 rfl rfl (by unfold inR; omega) (fun (c2 : move < 20) => ?_) (fun (c2 : ¬ (move < 20)) => ?_)
    · refine s_blx (lv' := [(0, vR 20), (1, vI place), (2, vI said), (3, vI move)]) (st' := [vI 0]) B93_44_45 rfl ?_
      exact r_iretI D93_45 rfl (⟨rfl, by omega⟩)
    · refine s_blx (lv' := [(0, vR 20), (1, vI place), (2, vI said), (3, vI move)]) (st' := [vR 20]) B93_34_35 rfl ?_
      refine r_gfix (r := 34) (pc' := 38) D93_35 rfl gf_9_52_20 H.1 ?_
      refine s_blx (lv' := [(0, vR 20), (1, vI place), (2, vI said), (3, vI move)]) (st' := [vI 6, vR 34]) B93_38_40 rfl ?_
      refine r_iald (pc' := 41) D93_40 rfl sc_34 H.1 (by omega) ?_
      intro w3 e4 r5
      have b_w3 := H.2 34 (6) 0 1000 rfl
      rw [← e4] at b_w3; clear r5
      refine r_goto (tgt := 45) D93_41 rfl ?_
      exact r_iretI D93_45 rfl (⟨rfl, by omega⟩)
  · refine s_blx (lv' := [(0, vR 20), (1, vI place), (2, vI said), (3, vI move)]) (st' := [vR 20]) B93_5_6 rfl ?_
    refine r_gfix (r := 34) (pc' := 9) D93_6 rfl gf_9_52_20 H.1 ?_
    refine s_blx (lv' := [(0, vR 20), (1, vI place), (2, vI said), (3, vI move)]) (st' := [vI 7, vR 34]) B93_9_11 rfl ?_
    refine r_iald (pc' := 12) D93_11 rfl sc_34 H.1 (by omega) ?_
    intro w6 e7 r8
    have b_w6 := H.2 34 (7) 0 1000 rfl
    rw [← e7] at b_w6; clear r8
    refine s_blx (lv' := [(0, vR 20), (1, vI place), (2, vI said), (3, vI move)]) (st' := [vR 20, vI w6]) B93_12_13 rfl ?_
    refine r_gfix (r := 31) (pc' := 16) D93_13 rfl gf_9_43_20 H.1 ?_
    refine s_blx (lv' := [(0, vR 20), (1, vI place), (2, vI said), (3, vI move)]) (st' := [vI said, vI place, vR 20, vR 31, vI w6]) B93_16_19 rfl ?_
    refine r_sIp (args := [vI said]) (rest := [vI place, vR 20, vR 31, vI w6]) (pc' := 22) D93_19 rfl ck_9_static_143 TE42 rfl (Nat.le_of_ble_eq_true rfl) ⟨Nat.le_of_ble_eq_true rfl, Nat.le_of_ble_eq_true rfl⟩ (by decide) (dp_0 hd rfl) (k42 E (dp_n hd rfl) H said (by omega)) ?_
    intro v9 q16
    obtain ⟨q11, q12, q13, q14, q15⟩ := q16
    refine r_vIp (c := 20) (args := [vI place, vI v9]) (rest := [vR 31, vI w6]) (pc' := 25) D93_22 rfl ck_9_virtual_171 TE85 rfl (Nat.le_of_ble_eq_true rfl) ⟨Nat.le_of_ble_eq_true rfl, Nat.le_of_ble_eq_true rfl⟩ sc_20 ⟨rfl, by decide⟩ H.1 (dp_0 hd rfl) (k85_20 E (dp_n hd rfl) H place v9 (by omega) (by omega)) ?_
    intro v17 q20
    have q19 := q20; clear q20
    refine r_iald (pc' := 26) D93_25 rfl sc_31 H.1 (by omega) ?_
    intro w21 e22 r23
    unfold inR at r23
    refine s_blx (lv' := [(0, vR 20), (1, vI place), (2, vI said), (3, vI move)]) (st' := [vI (w6 * w21)]) B93_26_27 rfl ?_
    refine r_norm ?_
    intro z24 r25 _; unfold inR at r25
    exact r_iretI D93_27 rfl (⟨rfl, by omega⟩)
set_option maxRecDepth 4000 in
theorem L_k94_20 {base : Nat} {X : Nat → Option mC} {G : Nat → Value} (E : EnvOK base X G) {d : Nat} (hd : 2 ≤ d) {M : mH} (H : HI base M) (place : Int) (said : Int) (h0 : 0 ≤ place ∧ place ≤ 144) (h1 : -2147483648 ≤ said ∧ said ≤ 2147483647) : ∀ mz : Nat, (∀ (x3 x4 : Int), (0 ≤ x3) → (0 ≤ x4) → (x4 ≤ 3) → (3 - x4) * 1 + 0 < (mz : Int) → sRn base X G d T94 5 [(0, vR 20), (1, vI place), (2, vI said), (3, vI x3), (4, vI x4)] [] M (s_Q base (pI (fun v M' => M' = M ∧ (-2147483648 ≤ v ∧ v ≤ 2147483647))))) := by
  intro mz
  induction mz with
  | zero => exact fun x3 x4 z0 z1 z2 z3 => by omega
  | succ mz ih =>
    intro x3 x4 i0 i1 i2 hmu
    refine s_blx (lv' := [(0, vR 20), (1, vI place), (2, vI said), (3, vI x3), (4, vI x4)]) (st' := [vI 3, vI x4]) B94_5_8 rfl ?_
    refine r_icmp (tgt := 78) (pc' := 11) D94_8 rfl rfl (by unfold inR; omega) (fun (c1 : 3 ≤ x4) => ?_) (fun (c1 : ¬ (3 ≤ x4)) => ?_)
    · refine s_blx (lv' := [(0, vR 20), (1, vI place), (2, vI said), (3, vI x3), (4, vI x4)]) (st' := [vI x3]) B94_78_79 rfl ?_
      refine r_norm ?_
      intro z2 r3 _; unfold inR at r3
      exact r_iretI D94_79 rfl (⟨rfl, by omega⟩)
    · refine s_blx (lv' := [(0, vR 20), (1, vI place), (2, vI said), (3, vI x3), (4, vI x4)]) (st' := [vI x4, vI said, vR 20]) B94_11_15 rfl ?_
      refine r_vIp (c := 20) (args := [vI said, vI x4]) (rest := []) (pc' := 18) D94_15 rfl ck_9_virtual_155 TE86 rfl (Nat.le_of_ble_eq_true rfl) ⟨Nat.le_of_ble_eq_true rfl, Nat.le_of_ble_eq_true rfl⟩ sc_20 ⟨rfl, by decide⟩ H.1 (dp_0 hd rfl) (k86_20 E (dp_n hd rfl) H said x4 (by omega) (by omega)) ?_
      intro v4 q7
      have q6 := q7; clear q7
      refine s_blx (lv' := [(5, vI v4), (0, vR 20), (1, vI place), (2, vI said), (3, vI x3), (4, vI x4)]) (st' := [vI 9, vI v4]) B94_18_24 rfl ?_
      refine r_icmp (tgt := 39) (pc' := 27) D94_24 rfl rfl (by unfold inR; omega) (fun (c8 : v4 ≠ 9) => ?_) (fun (c8 : ¬ (v4 ≠ 9)) => ?_)
      · refine s_blx (lv' := [(5, vI v4), (0, vR 20), (1, vI place), (2, vI said), (3, vI x3), (4, vI x4)]) (st' := [vI v4]) B94_39_41 rfl ?_
        refine r_sIp (args := [vI v4]) (rest := []) (pc' := 44) D94_41 rfl ck_9_static_158 TE144 rfl (Nat.le_of_ble_eq_true rfl) ⟨Nat.le_of_ble_eq_true rfl, Nat.le_of_ble_eq_true rfl⟩ (by decide) (dp_0 hd rfl) (k144 E (dp_n hd rfl) H v4 (by omega)) ?_
        intro v9 q13
        obtain ⟨q11, q12⟩ := q13
        refine r_ifc (tgt := 72) (pc' := 47) D94_44 rfl rfl (by unfold inR; omega) (fun (c14 : v9 = 0) => ?_) (fun (c14 : ¬ (v9 = 0)) => ?_)
        · refine s_blx (lv' := [(4, vI (x4 + 1)), (5, vI v4), (0, vR 20), (1, vI place), (2, vI said), (3, vI x3)]) (st' := []) B94_72_75 rfl ?_
          refine r_goto (tgt := 5) D94_75 rfl ?_
          refine r_loc (lv' := [(0, vR 20), (1, vI place), (2, vI said), (3, vI x3), (4, vI (x4 + 1))]) ⟨rfl, rfl, rfl, rfl, rfl, trivial⟩ rfl rfl ?_
          exact ih x3 (x4 + 1) (by omega) (by omega) (by omega) (by omega)
        · refine s_blx (lv' := [(5, vI v4), (0, vR 20), (1, vI place), (2, vI said), (3, vI x3), (4, vI x4)]) (st' := [vR 20, vI v4]) B94_47_50 rfl ?_
          refine r_gfix (r := 28) (pc' := 53) D94_50 rfl gf_9_34_20 H.1 ?_
          refine s_blx (lv' := [(5, vI v4), (0, vR 20), (1, vI place), (2, vI said), (3, vI x3), (4, vI x4)]) (st' := [vI ((place * 3) + x4), vR 28, vI v4]) B94_53_59 rfl ?_
          refine r_iald (pc' := 60) D94_59 rfl sc_28 H.1 (by omega) ?_
          intro w15 e16 r17
          have b_w15 := H.2 28 ((place * 3) + x4) (-1) 7 rfl
          rw [← e16] at b_w15; clear r17
          refine r_icmp (tgt := 72) (pc' := 63) D94_60 rfl rfl (by unfold inR; omega) (fun (c18 : v4 = w15) => ?_) (fun (c18 : ¬ (v4 = w15)) => ?_)
          · refine s_blx (lv' := [(4, vI (x4 + 1)), (5, vI v4), (0, vR 20), (1, vI place), (2, vI said), (3, vI x3)]) (st' := []) B94_72_75 rfl ?_
            refine r_goto (tgt := 5) D94_75 rfl ?_
            refine r_loc (lv' := [(0, vR 20), (1, vI place), (2, vI said), (3, vI x3), (4, vI (x4 + 1))]) ⟨rfl, rfl, rfl, rfl, rfl, trivial⟩ rfl rfl ?_
            exact ih x3 (x4 + 1) (by omega) (by omega) (by omega) (by omega)
          · refine s_blx (lv' := [(5, vI v4), (0, vR 20), (1, vI place), (2, vI said), (3, vI x3), (4, vI x4)]) (st' := [vR 20, vI x3]) B94_63_65 rfl ?_
            refine r_gfix (r := 34) (pc' := 68) D94_65 rfl gf_9_52_20 H.1 ?_
            refine s_blx (lv' := [(5, vI v4), (0, vR 20), (1, vI place), (2, vI said), (3, vI x3), (4, vI x4)]) (st' := [vI 4, vR 34, vI x3]) B94_68_69 rfl ?_
            refine r_iald (pc' := 70) D94_69 rfl sc_34 H.1 (by omega) ?_
            intro w19 e20 r21
            have b_w19 := H.2 34 (4) 0 1000 rfl
            rw [← e20] at b_w19; clear r21
            refine s_blx (lv' := [(4, vI (x4 + 1)), (3, vI (x3 + w19)), (5, vI v4), (0, vR 20), (1, vI place), (2, vI said)]) (st' := []) B94_70_75 rfl ?_
            refine r_goto (tgt := 5) D94_75 rfl ?_
            refine r_loc (lv' := [(0, vR 20), (1, vI place), (2, vI said), (3, vI (x3 + w19)), (4, vI (x4 + 1))]) ⟨rfl, rfl, rfl, rfl, rfl, trivial⟩ rfl rfl ?_
            exact ih (x3 + w19) (x4 + 1) (by omega) (by omega) (by omega) (by omega)
      · refine s_blx (lv' := [(5, vI v4), (0, vR 20), (1, vI place), (2, vI said), (3, vI x3), (4, vI x4)]) (st' := [vR 20, vI x3]) B94_27_29 rfl ?_
        refine r_gfix (r := 34) (pc' := 32) D94_29 rfl gf_9_52_20 H.1 ?_
        refine s_blx (lv' := [(5, vI v4), (0, vR 20), (1, vI place), (2, vI said), (3, vI x3), (4, vI x4)]) (st' := [vI 5, vR 34, vI x3]) B94_32_33 rfl ?_
        refine r_iald (pc' := 34) D94_33 rfl sc_34 H.1 (by omega) ?_
        intro w22 e23 r24
        have b_w22 := H.2 34 (5) 0 1000 rfl
        rw [← e23] at b_w22; clear r24
        refine s_blx (lv' := [(3, vI (x3 + w22)), (5, vI v4), (0, vR 20), (1, vI place), (2, vI said), (4, vI x4)]) (st' := []) B94_34_36 rfl ?_
        refine r_goto (tgt := 72) D94_36 rfl ?_
        refine s_blx (lv' := [(4, vI (x4 + 1)), (3, vI (x3 + w22)), (5, vI v4), (0, vR 20), (1, vI place), (2, vI said)]) (st' := []) B94_72_75 rfl ?_
        refine r_goto (tgt := 5) D94_75 rfl ?_
        refine r_loc (lv' := [(0, vR 20), (1, vI place), (2, vI said), (3, vI (x3 + w22)), (4, vI (x4 + 1))]) ⟨rfl, rfl, rfl, rfl, rfl, trivial⟩ rfl rfl ?_
        exact ih (x3 + w22) (x4 + 1) (by omega) (by omega) (by omega) (by omega)
set_option maxRecDepth 4000 in
theorem k94_20 {base : Nat} {X : Nat → Option mC} {G : Nat → Value} (E : EnvOK base X G) {d : Nat} (hd : 2 ≤ d) {M : mH} (H : HI base M) (place : Int) (said : Int) (h0 : 0 ≤ place ∧ place ≤ 144) (h1 : -2147483648 ≤ said ∧ said ≤ 2147483647) : sOk base X G d T94 [vR 20, vI place, vI said] M (pI (fun v M' => M' = M ∧ (-2147483648 ≤ v ∧ v ≤ 2147483647))) := by
  refine sOk.of (show sRn base X G d T94 0 [(0, vR 20), (1, vI place), (2, vI said)] [] M _ from ?_)
  refine s_blx (lv' := [(4, vI 0), (3, vI 0), (0, vR 20), (1, vI place), (2, vI said)]) (st' := []) B94_0_5 rfl ?_
  refine r_loc (lv' := [(0, vR 20), (1, vI place), (2, vI said), (3, vI 0), (4, vI 0)]) ⟨rfl, rfl, rfl, rfl, rfl, trivial⟩ rfl rfl ?_
  exact (L_k94_20 E hd H place said h0 h1 (((3 - 0) * 1 + 0 : Int) + 1).toNat) 0 0 (by omega) (by omega) (by omega) (by omega)
set_option maxRecDepth 4000 in
theorem k86_39 {base : Nat} {X : Nat → Option mC} {G : Nat → Value} (E : EnvOK base X G) {d : Nat} (hd : 1 ≤ d) {M : mH} (H : HI base M) (said : Int) (slot : Int) (h0 : -2147483648 ≤ said ∧ said ≤ 2147483647) (h1 : 0 ≤ slot ∧ slot ≤ 2) : sOk base X G d T86 [vR 39, vI said, vI slot] M (pI (fun v M' => M' = M ∧ (-2147483648 ≤ v ∧ v ≤ 2147483647))) := by
  refine sOk.of (show sRn base X G d T86 0 [(0, vR 39), (1, vI said), (2, vI slot)] [] M _ from ?_)
  refine s_blx (lv' := [(0, vR 39), (1, vI said), (2, vI slot)]) (st' := [vI said, vI said]) B86_0_2 rfl ?_
  refine r_sIp (args := [vI said]) (rest := [vI said]) (pc' := 5) D86_2 rfl ck_9_static_143 TE42 rfl (Nat.le_of_ble_eq_true rfl) ⟨Nat.le_of_ble_eq_true rfl, Nat.le_of_ble_eq_true rfl⟩ (by decide) (dp_0 hd rfl) (k42 E (dp_n hd rfl) H said (by omega)) ?_
  intro v1 q8
  obtain ⟨q3, q4, q5, q6, q7⟩ := q8
  obtain ⟨u9, f10, g11, g12, h13, k14⟩ := E.1 6 _ rfl
  refine r_gst (pc' := 8) D86_5 rfl st_9_148 g11 ?_
  refine s_blx (lv' := [(0, vR 39), (1, vI said), (2, vI slot)]) (st' := [vR 39, vA u9, vI v1, vI said]) B86_8_9 rfl ?_
  refine r_gint (ki := 16) (pc' := 12) D86_9 rfl gf_9_62_39 rfl H.1 ?_
  intro w15 e16 r17
  have b_w15 := H.2 39 (16) 0 5 rfl
  rw [← e16] at b_w15; clear r17
  refine s_blx (lv' := [(0, vR 39), (1, vI said), (2, vI slot)]) (st' := [vI ((w15 * 3) + slot), vA u9, vI v1, vI said]) B86_12_16 rfl ?_
  refine r_ialdT (pc' := 17) D86_16 rfl h13 g12 k14 (by first | omega | (show _ ∧ _ ∧ _; simp only [List.length]; omega)) ?_
  intro w18 e19 r20
  have b_w18 := tb_6 ((w15 * 3) + slot).toNat (by omega)
  rw [← e19] at b_w18; clear r20
  refine r_sIp (args := [vI said, vI v1, vI w18]) (rest := []) (pc' := 20) D86_17 rfl ck_9_static_151 TE44 rfl (Nat.le_of_ble_eq_true rfl) ⟨Nat.le_of_ble_eq_true rfl, Nat.le_of_ble_eq_true rfl⟩ (by decide) (dp_0 hd rfl) (k44 E (dp_n hd rfl) H said v1 w18 (by omega) (by omega) (by omega)) ?_
  intro v21 q24
  have q23 := q24; clear q24
  exact r_iretI D86_20 rfl (⟨rfl, by omega⟩)
set_option maxRecDepth 4000 in
theorem k87_39 {base : Nat} {X : Nat → Option mC} {G : Nat → Value} (E : EnvOK base X G) {d : Nat} (hd : 2 ≤ d) {M : mH} (H : HI base M) (place : Int) (said : Int) (slot : Int) (h0 : 0 ≤ place ∧ place ≤ 144) (h1 : -2147483648 ≤ said ∧ said ≤ 2147483647) (h2 : 0 ≤ slot ∧ slot ≤ 2) : sOk base X G d T87 [vR 39, vI place, vI said, vI slot] M (pI (fun v M' => M' = M ∧ (v = 0 ∨ v = 1))) := by
  refine sOk.of (show sRn base X G d T87 0 [(0, vR 39), (1, vI place), (2, vI said), (3, vI slot)] [] M _ from ?_)
  refine s_blx (lv' := [(0, vR 39), (1, vI place), (2, vI said), (3, vI slot)]) (st' := [vR 39]) B87_0_1 rfl ?_
  refine r_gfix (r := 47) (pc' := 4) D87_1 rfl gf_9_34_39 H.1 ?_
  refine s_blx (lv' := [(0, vR 39), (1, vI place), (2, vI said), (3, vI slot)]) (st' := [vI ((place * 3) + slot), vR 47]) B87_4_9 rfl ?_
  refine r_iald (pc' := 10) D87_9 rfl sc_47 H.1 (by omega) ?_
  intro w1 e2 r3
  have b_w1 := H.2 47 ((place * 3) + slot) (-1) 7 rfl
  rw [← e2] at b_w1; clear r3
  refine s_blx (lv' := [(4, vI w1), (0, vR 39), (1, vI place), (2, vI said), (3, vI slot)]) (st' := [vI slot, vI said, vR 39]) B87_10_15 rfl ?_
  refine r_vIp (c := 39) (args := [vI said, vI slot]) (rest := []) (pc' := 18) D87_15 rfl ck_9_virtual_155 TE86 rfl (Nat.le_of_ble_eq_true rfl) ⟨Nat.le_of_ble_eq_true rfl, Nat.le_of_ble_eq_true rfl⟩ sc_39 ⟨rfl, by decide⟩ H.1 (dp_0 hd rfl) (k86_39 E (dp_n hd rfl) H said slot (by omega) (by omega)) ?_
  intro v4 q7
  have q6 := q7; clear q7
  refine s_blx (lv' := [(5, vI v4), (4, vI w1), (0, vR 39), (1, vI place), (2, vI said), (3, vI slot)]) (st' := [vI (-1), vI w1]) B87_18_23 rfl ?_
  refine r_icmp (tgt := 45) (pc' := 26) D87_23 rfl rfl (by unfold inR; omega) (fun (c8 : w1 = (-1)) => ?_) (fun (c8 : ¬ (w1 = (-1))) => ?_)
  · refine s_blx (lv' := [(5, vI v4), (4, vI w1), (0, vR 39), (1, vI place), (2, vI said), (3, vI slot)]) (st' := [vI 0]) B87_45_46 rfl ?_
    exact r_zretI D87_46 rfl (by omega) (⟨rfl, by omega⟩)
  · refine s_blx (lv' := [(5, vI v4), (4, vI w1), (0, vR 39), (1, vI place), (2, vI said), (3, vI slot)]) (st' := [vI w1, vI v4]) B87_26_30 rfl ?_
    refine r_icmp (tgt := 45) (pc' := 33) D87_30 rfl rfl (by unfold inR; omega) (fun (c9 : v4 = w1) => ?_) (fun (c9 : ¬ (v4 = w1)) => ?_)
    · refine s_blx (lv' := [(5, vI v4), (4, vI w1), (0, vR 39), (1, vI place), (2, vI said), (3, vI slot)]) (st' := [vI 0]) B87_45_46 rfl ?_
      exact r_zretI D87_46 rfl (by omega) (⟨rfl, by omega⟩)
    · refine s_blx (lv' := [(5, vI v4), (4, vI w1), (0, vR 39), (1, vI place), (2, vI said), (3, vI slot)]) (st' := [vI v4]) B87_33_35 rfl ?_
      refine r_sIp (args := [vI v4]) (rest := []) (pc' := 38) D87_35 rfl ck_9_static_158 TE144 rfl (Nat.le_of_ble_eq_true rfl) ⟨Nat.le_of_ble_eq_true rfl, Nat.le_of_ble_eq_true rfl⟩ (by decide) (dp_0 hd rfl) (k144 E (dp_n hd rfl) H v4 (by omega)) ?_
      intro v10 q14
      obtain ⟨q12, q13⟩ := q14
      refine r_ifc (tgt := 45) (pc' := 41) D87_38 rfl rfl (by unfold inR; omega) (fun (c15 : v10 = 0) => ?_) (fun (c15 : ¬ (v10 = 0)) => ?_)
      · refine s_blx (lv' := [(5, vI v4), (4, vI w1), (0, vR 39), (1, vI place), (2, vI said), (3, vI slot)]) (st' := [vI 0]) B87_45_46 rfl ?_
        exact r_zretI D87_46 rfl (by omega) (⟨rfl, by omega⟩)
      · refine s_blx (lv' := [(5, vI v4), (4, vI w1), (0, vR 39), (1, vI place), (2, vI said), (3, vI slot)]) (st' := [vI 1]) B87_41_42 rfl ?_
        refine r_goto (tgt := 46) D87_42 rfl ?_
        exact r_zretI D87_46 rfl (by omega) (⟨rfl, by omega⟩)
set_option maxRecDepth 4000 in
theorem k88_39 {base : Nat} {X : Nat → Option mC} {G : Nat → Value} (E : EnvOK base X G) {d : Nat} (hd : 2 ≤ d) {M : mH} (H : HI base M) (place : Int) (said : Int) (slot : Int) (h0 : 0 ≤ place ∧ place ≤ 144) (h1 : -2147483648 ≤ said ∧ said ≤ 2147483647) (h2 : 0 ≤ slot ∧ slot ≤ 2) : sOk base X G d T88 [vR 39, vI place, vI said, vI slot] M (pI (fun v M' => M' = M ∧ (-2147483648 ≤ v ∧ v ≤ 2147483647))) := by
  refine sOk.of (show sRn base X G d T88 0 [(0, vR 39), (1, vI place), (2, vI said), (3, vI slot)] [] M _ from ?_)
  refine s_blx (lv' := [(0, vR 39), (1, vI place), (2, vI said), (3, vI slot)]) (st' := [vI said, vI said]) B88_0_2 rfl ?_
  refine r_sIp (args := [vI said]) (rest := [vI said]) (pc' := 5) D88_2 rfl ck_9_static_143 TE42 rfl (Nat.le_of_ble_eq_true rfl) ⟨Nat.le_of_ble_eq_true rfl, Nat.le_of_ble_eq_true rfl⟩ (by decide) (dp_0 hd rfl) (k42 E (dp_n hd rfl) H said (by omega)) ?_
  intro v1 q8
  obtain ⟨q3, q4, q5, q6, q7⟩ := q8
  obtain ⟨u9, f10, g11, g12, h13, k14⟩ := E.1 6 _ rfl
  refine r_gst (pc' := 8) D88_5 rfl st_9_148 g11 ?_
  refine s_blx (lv' := [(0, vR 39), (1, vI place), (2, vI said), (3, vI slot)]) (st' := [vR 39, vA u9, vI v1, vI said]) B88_8_9 rfl ?_
  refine r_gint (ki := 16) (pc' := 12) D88_9 rfl gf_9_62_39 rfl H.1 ?_
  intro w15 e16 r17
  have b_w15 := H.2 39 (16) 0 5 rfl
  rw [← e16] at b_w15; clear r17
  refine s_blx (lv' := [(0, vR 39), (1, vI place), (2, vI said), (3, vI slot)]) (st' := [vI ((w15 * 3) + slot), vA u9, vI v1, vI said]) B88_12_16 rfl ?_
  refine r_ialdT (pc' := 17) D88_16 rfl h13 g12 k14 (by first | omega | (show _ ∧ _ ∧ _; simp only [List.length]; omega)) ?_
  intro w18 e19 r20
  have b_w18 := tb_6 ((w15 * 3) + slot).toNat (by omega)
  rw [← e19] at b_w18; clear r20
  refine s_blx (lv' := [(0, vR 39), (1, vI place), (2, vI said), (3, vI slot)]) (st' := [vR 39, vI w18, vI v1, vI said]) B88_17_18 rfl ?_
  refine r_gfix (r := 47) (pc' := 21) D88_18 rfl gf_9_34_39 H.1 ?_
  refine s_blx (lv' := [(0, vR 39), (1, vI place), (2, vI said), (3, vI slot)]) (st' := [vI ((place * 3) + slot), vR 47, vI w18, vI v1, vI said]) B88_21_26 rfl ?_
  refine r_iald (pc' := 27) D88_26 rfl sc_47 H.1 (by omega) ?_
  intro w21 e22 r23
  have b_w21 := H.2 47 ((place * 3) + slot) (-1) 7 rfl
  rw [← e22] at b_w21; clear r23
  refine r_sIp (args := [vI said, vI v1, vI w18, vI w21]) (rest := []) (pc' := 30) D88_27 rfl ck_9_static_161 TE45 rfl (Nat.le_of_ble_eq_true rfl) ⟨Nat.le_of_ble_eq_true rfl, Nat.le_of_ble_eq_true rfl⟩ (by decide) (dp_0 hd rfl) (k45 E (dp_n hd rfl) H said v1 w18 w21 (by omega) (by omega) (by omega) (by omega)) ?_
  intro v24 q27
  have q26 := q27; clear q27
  exact r_iretI D88_30 rfl (⟨rfl, by omega⟩)
set_option maxRecDepth 4000 in
theorem k89_39 {base : Nat} {X : Nat → Option mC} {G : Nat → Value} (E : EnvOK base X G) {d : Nat} (hd : 3 ≤ d) {M : mH} (H : HI base M) (place : Int) (said : Int) (move : Int) (h0 : 0 ≤ place ∧ place ≤ 144) (h1 : -2147483648 ≤ said ∧ said ≤ 2147483647) (h2 : 0 ≤ move ∧ move ≤ 22) (h3 : move = 1 → said ≤ 110) : sOk base X G d T89 [vR 39, vI place, vI said, vI move] M (pI (fun v M' => M' = M ∧ (-2147483648 ≤ v ∧ v ≤ 2147483647))) := by
  refine sOk.of (show sRn base X G d T89 0 [(0, vR 39), (1, vI place), (2, vI said), (3, vI move)] [] M _ from ?_)
  refine s_blx (lv' := [(0, vR 39), (1, vI place), (2, vI said), (3, vI move)]) (st' := [vI 20, vI move]) B89_0_3 rfl ?_
  refine r_icmp (tgt := 17) (pc' := 6) D89_3 rfl rfl (by unfold inR; omega) (fun (c1 : move < 20) => ?_) (fun (c1 : ¬ (move < 20)) => ?_)
  · refine s_blx (lv' := [(0, vR 39), (1, vI place), (2, vI said), (3, vI move)]) (st' := [vI 10, vI move]) B89_17_20 rfl ?_
    refine r_icmp (tgt := 32) (pc' := 23) D89_20 rfl rfl (by unfold inR; omega) (fun (c2 : move < 10) => ?_) (fun (c2 : ¬ (move < 10)) => ?_)
    · refine s_blx (lv' := [(0, vR 39), (1, vI place), (2, vI said), (3, vI move)]) (st' := [vI move]) B89_32_33 rfl ?_
      refine r_tsw (tgt := fun k => if k = 1 then 60 else if k = 2 then 79 else if k = 3 then 86 else 0) (td := 93) D89_33 (by unfold inR; omega) ?_ rfl ?_ ?_
      · intro k h1 h2
        have hk : k = 1 ∨ k = 2 ∨ k = 3 := by omega
        rcases hk with rfl | rfl | rfl <;> exact ⟨_, rfl, rfl⟩
      · intro k h1 h2 c3
        have hk : k = 1 ∨ k = 2 ∨ k = 3 := by omega
        clear h1 h2
        rcases hk with rfl | rfl | rfl
        · show sRn _ _ _ _ _ 60 _ _ _ _
          refine s_blx (lv' := [(0, vR 39), (1, vI place), (2, vI said), (3, vI move)]) (st' := [vR 39, vI said]) B89_60_62 rfl ?_
          refine r_gfix (r := 47) (pc' := 65) D89_62 rfl gf_9_34_39 H.1 ?_
          refine s_blx (lv' := [(0, vR 39), (1, vI place), (2, vI said), (3, vI move)]) (st' := [vI said, vI place, vR 39, vR 47, vI said]) B89_65_68 rfl ?_
          refine r_sIp (args := [vI said]) (rest := [vI place, vR 39, vR 47, vI said]) (pc' := 71) D89_68 rfl ck_9_static_143 TE42 rfl (Nat.le_of_ble_eq_true rfl) ⟨Nat.le_of_ble_eq_true rfl, Nat.le_of_ble_eq_true rfl⟩ (by decide) (dp_0 hd rfl) (k42 E (dp_n hd rfl) H said (by omega)) ?_
          intro v4 q11
          obtain ⟨q6, q7, q8, q9, q10⟩ := q11
          refine r_vIp (c := 39) (args := [vI place, vI v4]) (rest := [vR 47, vI said]) (pc' := 74) D89_71 rfl ck_9_virtual_171 TE85 rfl (Nat.le_of_ble_eq_true rfl) ⟨Nat.le_of_ble_eq_true rfl, Nat.le_of_ble_eq_true rfl⟩ sc_39 ⟨rfl, by decide⟩ H.1 (dp_0 hd rfl) (k85_39 E (dp_n hd rfl) H place v4 (by omega) (by omega)) ?_
          intro v12 q15
          have q14 := q15; clear q15
          refine r_iald (pc' := 75) D89_74 rfl sc_47 H.1 (by omega) ?_
          intro w16 e17 r18
          have b_w16 := H.2 47 (v12) (-1) 7 rfl
          rw [← e17] at b_w16; clear r18
          refine r_sIp (args := [vI said, vI w16]) (rest := []) (pc' := 78) D89_75 rfl ck_9_static_168 TE43 rfl (Nat.le_of_ble_eq_true rfl) ⟨Nat.le_of_ble_eq_true rfl, Nat.le_of_ble_eq_true rfl⟩ (by decide) (dp_0 hd rfl) (k43 E (dp_n hd rfl) H said w16 (by omega) (by omega)) ?_
          intro v19 q22
          have q21 := q22; clear q22
          refine r_norm ?_
          intro z23 r24 _; unfold inR at r24
          exact r_iretI D89_78 rfl (⟨rfl, by omega⟩)
        · show sRn _ _ _ _ _ 79 _ _ _ _
          refine s_blx (lv' := [(0, vR 39), (1, vI place), (2, vI said), (3, vI move)]) (st' := [vI 8, vI said]) B89_79_82 rfl ?_
          refine r_sIp (args := [vI said, vI 8]) (rest := []) (pc' := 85) D89_82 rfl ck_9_static_168 TE43 rfl (Nat.le_of_ble_eq_true rfl) ⟨Nat.le_of_ble_eq_true rfl, Nat.le_of_ble_eq_true rfl⟩ (by decide) (dp_0 hd rfl) (k43 E (dp_n hd rfl) H said 8 (by omega) (by omega)) ?_
          intro v25 q28
          have q27 := q28; clear q28
          refine r_norm ?_
          intro z29 r30 _; unfold inR at r30
          exact r_iretI D89_85 rfl (⟨rfl, by omega⟩)
        · show sRn _ _ _ _ _ 86 _ _ _ _
          refine s_blx (lv' := [(0, vR 39), (1, vI place), (2, vI said), (3, vI move)]) (st' := [vI 9, vI said]) B89_86_89 rfl ?_
          refine r_sIp (args := [vI said, vI 9]) (rest := []) (pc' := 92) D89_89 rfl ck_9_static_168 TE43 rfl (Nat.le_of_ble_eq_true rfl) ⟨Nat.le_of_ble_eq_true rfl, Nat.le_of_ble_eq_true rfl⟩ (by decide) (dp_0 hd rfl) (k43 E (dp_n hd rfl) H said 9 (by omega) (by omega)) ?_
          intro v31 q34
          have q33 := q34; clear q34
          refine r_norm ?_
          intro z35 r36 _; unfold inR at r36
          exact r_iretI D89_92 rfl (⟨rfl, by omega⟩)
      · intro c3
        refine s_blx (lv' := [(0, vR 39), (1, vI place), (2, vI said), (3, vI move)]) (st' := [vI said]) B89_93_94 rfl ?_
        exact r_iretI D89_94 rfl (⟨rfl, by omega⟩)
    · refine s_blx (lv' := [(0, vR 39), (1, vI place), (2, vI said), (3, vI move)]) (st' := [vI (move - 10), vI said]) B89_23_28 rfl ?_
      refine r_sIp (args := [vI said, vI (move - 10)]) (rest := []) (pc' := 31) D89_28 rfl ck_9_static_168 TE43 rfl (Nat.le_of_ble_eq_true rfl) ⟨Nat.le_of_ble_eq_true rfl, Nat.le_of_ble_eq_true rfl⟩ (by decide) (dp_0 hd rfl) (k43 E (dp_n hd rfl) H said (move - 10) (by omega) (by omega)) ?_
      intro v37 q40
      have q39 := q40; clear q40
      refine r_norm ?_
      intro z41 r42 _; unfold inR at r42
      exact r_iretI D89_31 rfl (⟨rfl, by omega⟩)
  · refine s_blx (lv' := [(0, vR 39), (1, vI place), (2, vI said), (3, vI move)]) (st' := [vI (move - 20), vI said, vI place, vR 39]) B89_6_13 rfl ?_
    refine r_vIp (c := 39) (args := [vI place, vI said, vI (move - 20)]) (rest := []) (pc' := 16) D89_13 rfl ck_9_virtual_165 TE88 rfl (Nat.le_of_ble_eq_true rfl) ⟨Nat.le_of_ble_eq_true rfl, Nat.le_of_ble_eq_true rfl⟩ sc_39 ⟨rfl, by decide⟩ H.1 (dp_0 hd rfl) (k88_39 E (dp_n hd rfl) H place said (move - 20) (by omega) (by omega) (by omega)) ?_
    intro v43 q46
    have q45 := q46; clear q46
    exact r_iretI D89_16 rfl (⟨rfl, by omega⟩)
set_option maxRecDepth 4000 in
theorem k93_39 {base : Nat} {X : Nat → Option mC} {G : Nat → Value} (E : EnvOK base X G) {d : Nat} (hd : 1 ≤ d) {M : mH} (H : HI base M) (place : Int) (said : Int) (move : Int) (h0 : 0 ≤ place ∧ place ≤ 144) (h1 : -2147483648 ≤ said ∧ said ≤ 2147483647) (h2 : 0 ≤ move ∧ move ≤ 22) (h3 : move = 2 → said ≤ 110) : sOk base X G d T93 [vR 39, vI place, vI said, vI move] M (pI (fun v M' => M' = M ∧ (-2147483648 ≤ v ∧ v ≤ 2147483647))) := by
  refine sOk.of (show sRn base X G d T93 0 [(0, vR 39), (1, vI place), (2, vI said), (3, vI move)] [] M _ from ?_)
  refine s_blx (lv' := [(0, vR 39), (1, vI place), (2, vI said), (3, vI move)]) (st' := [vI 2, vI move]) B93_0_2 rfl ?_
  refine r_icmp (tgt := 28) (pc' := 5) D93_2 rfl rfl (by unfold inR; omega) (fun (c1 : move ≠ 2) => ?_) (fun (c1 : ¬ (move ≠ 2)) => ?_)
  · refine s_blx (lv' := [(0, vR 39), (1, vI place), (2, vI said), (3, vI move)]) (st' := [vI 20, vI move]) B93_28_31 rfl ?_
    refine r_icmp (tgt := 44) (pc' := 34) D93_31 rfl rfl (by unfold inR; omega) (fun (c2 : move < 20) => ?_) (fun (c2 : ¬ (move < 20)) => ?_)
    · refine s_blx (lv' := [(0, vR 39), (1, vI place), (2, vI said), (3, vI move)]) (st' := [vI 0]) B93_44_45 rfl ?_
      exact r_iretI D93_45 rfl (⟨rfl, by omega⟩)
    · refine s_blx (lv' := [(0, vR 39), (1, vI place), (2, vI said), (3, vI move)]) (st' := [vR 39]) B93_34_35 rfl ?_
      refine r_gfix (r := 53) (pc' := 38) D93_35 rfl gf_9_52_39 H.1 ?_
      refine s_blx (lv' := [(0, vR 39), (1, vI place), (2, vI said), (3, vI move)]) (st' := [vI 6, vR 53]) B93_38_40 rfl ?_
      refine r_iald (pc' := 41) D93_40 rfl sc_53 H.1 (by omega) ?_
      intro w3 e4 r5
      have b_w3 := H.2 53 (6) 0 1000 rfl
      rw [← e4] at b_w3; clear r5
      refine r_goto (tgt := 45) D93_41 rfl ?_
      exact r_iretI D93_45 rfl (⟨rfl, by omega⟩)
  · refine s_blx (lv' := [(0, vR 39), (1, vI place), (2, vI said), (3, vI move)]) (st' := [vR 39]) B93_5_6 rfl ?_
    refine r_gfix (r := 53) (pc' := 9) D93_6 rfl gf_9_52_39 H.1 ?_
    refine s_blx (lv' := [(0, vR 39), (1, vI place), (2, vI said), (3, vI move)]) (st' := [vI 7, vR 53]) B93_9_11 rfl ?_
    refine r_iald (pc' := 12) D93_11 rfl sc_53 H.1 (by omega) ?_
    intro w6 e7 r8
    have b_w6 := H.2 53 (7) 0 1000 rfl
    rw [← e7] at b_w6; clear r8
    refine s_blx (lv' := [(0, vR 39), (1, vI place), (2, vI said), (3, vI move)]) (st' := [vR 39, vI w6]) B93_12_13 rfl ?_
    refine r_gfix (r := 50) (pc' := 16) D93_13 rfl gf_9_43_39 H.1 ?_
    refine s_blx (lv' := [(0, vR 39), (1, vI place), (2, vI said), (3, vI move)]) (st' := [vI said, vI place, vR 39, vR 50, vI w6]) B93_16_19 rfl ?_
    refine r_sIp (args := [vI said]) (rest := [vI place, vR 39, vR 50, vI w6]) (pc' := 22) D93_19 rfl ck_9_static_143 TE42 rfl (Nat.le_of_ble_eq_true rfl) ⟨Nat.le_of_ble_eq_true rfl, Nat.le_of_ble_eq_true rfl⟩ (by decide) (dp_0 hd rfl) (k42 E (dp_n hd rfl) H said (by omega)) ?_
    intro v9 q16
    obtain ⟨q11, q12, q13, q14, q15⟩ := q16
    refine r_vIp (c := 39) (args := [vI place, vI v9]) (rest := [vR 50, vI w6]) (pc' := 25) D93_22 rfl ck_9_virtual_171 TE85 rfl (Nat.le_of_ble_eq_true rfl) ⟨Nat.le_of_ble_eq_true rfl, Nat.le_of_ble_eq_true rfl⟩ sc_39 ⟨rfl, by decide⟩ H.1 (dp_0 hd rfl) (k85_39 E (dp_n hd rfl) H place v9 (by omega) (by omega)) ?_
    intro v17 q20
    have q19 := q20; clear q20
    refine r_iald (pc' := 26) D93_25 rfl sc_50 H.1 (by omega) ?_
    intro w21 e22 r23
    unfold inR at r23
    refine s_blx (lv' := [(0, vR 39), (1, vI place), (2, vI said), (3, vI move)]) (st' := [vI (w6 * w21)]) B93_26_27 rfl ?_
    refine r_norm ?_
    intro z24 r25 _; unfold inR at r25
    exact r_iretI D93_27 rfl (⟨rfl, by omega⟩)
set_option maxRecDepth 4000 in
theorem L_k94_39 {base : Nat} {X : Nat → Option mC} {G : Nat → Value} (E : EnvOK base X G) {d : Nat} (hd : 2 ≤ d) {M : mH} (H : HI base M) (place : Int) (said : Int) (h0 : 0 ≤ place ∧ place ≤ 144) (h1 : -2147483648 ≤ said ∧ said ≤ 2147483647) : ∀ mz : Nat, (∀ (x3 x4 : Int), (0 ≤ x3) → (0 ≤ x4) → (x4 ≤ 3) → (3 - x4) * 1 + 0 < (mz : Int) → sRn base X G d T94 5 [(0, vR 39), (1, vI place), (2, vI said), (3, vI x3), (4, vI x4)] [] M (s_Q base (pI (fun v M' => M' = M ∧ (-2147483648 ≤ v ∧ v ≤ 2147483647))))) := by
  intro mz
  induction mz with
  | zero => exact fun x3 x4 z0 z1 z2 z3 => by omega
  | succ mz ih =>
    intro x3 x4 i0 i1 i2 hmu
    refine s_blx (lv' := [(0, vR 39), (1, vI place), (2, vI said), (3, vI x3), (4, vI x4)]) (st' := [vI 3, vI x4]) B94_5_8 rfl ?_
    refine r_icmp (tgt := 78) (pc' := 11) D94_8 rfl rfl (by unfold inR; omega) (fun (c1 : 3 ≤ x4) => ?_) (fun (c1 : ¬ (3 ≤ x4)) => ?_)
    · refine s_blx (lv' := [(0, vR 39), (1, vI place), (2, vI said), (3, vI x3), (4, vI x4)]) (st' := [vI x3]) B94_78_79 rfl ?_
      refine r_norm ?_
      intro z2 r3 _; unfold inR at r3
      exact r_iretI D94_79 rfl (⟨rfl, by omega⟩)
    · refine s_blx (lv' := [(0, vR 39), (1, vI place), (2, vI said), (3, vI x3), (4, vI x4)]) (st' := [vI x4, vI said, vR 39]) B94_11_15 rfl ?_
      refine r_vIp (c := 39) (args := [vI said, vI x4]) (rest := []) (pc' := 18) D94_15 rfl ck_9_virtual_155 TE86 rfl (Nat.le_of_ble_eq_true rfl) ⟨Nat.le_of_ble_eq_true rfl, Nat.le_of_ble_eq_true rfl⟩ sc_39 ⟨rfl, by decide⟩ H.1 (dp_0 hd rfl) (k86_39 E (dp_n hd rfl) H said x4 (by omega) (by omega)) ?_
      intro v4 q7
      have q6 := q7; clear q7
      refine s_blx (lv' := [(5, vI v4), (0, vR 39), (1, vI place), (2, vI said), (3, vI x3), (4, vI x4)]) (st' := [vI 9, vI v4]) B94_18_24 rfl ?_
      refine r_icmp (tgt := 39) (pc' := 27) D94_24 rfl rfl (by unfold inR; omega) (fun (c8 : v4 ≠ 9) => ?_) (fun (c8 : ¬ (v4 ≠ 9)) => ?_)
      · refine s_blx (lv' := [(5, vI v4), (0, vR 39), (1, vI place), (2, vI said), (3, vI x3), (4, vI x4)]) (st' := [vI v4]) B94_39_41 rfl ?_
        refine r_sIp (args := [vI v4]) (rest := []) (pc' := 44) D94_41 rfl ck_9_static_158 TE144 rfl (Nat.le_of_ble_eq_true rfl) ⟨Nat.le_of_ble_eq_true rfl, Nat.le_of_ble_eq_true rfl⟩ (by decide) (dp_0 hd rfl) (k144 E (dp_n hd rfl) H v4 (by omega)) ?_
        intro v9 q13
        obtain ⟨q11, q12⟩ := q13
        refine r_ifc (tgt := 72) (pc' := 47) D94_44 rfl rfl (by unfold inR; omega) (fun (c14 : v9 = 0) => ?_) (fun (c14 : ¬ (v9 = 0)) => ?_)
        · refine s_blx (lv' := [(4, vI (x4 + 1)), (5, vI v4), (0, vR 39), (1, vI place), (2, vI said), (3, vI x3)]) (st' := []) B94_72_75 rfl ?_
          refine r_goto (tgt := 5) D94_75 rfl ?_
          refine r_loc (lv' := [(0, vR 39), (1, vI place), (2, vI said), (3, vI x3), (4, vI (x4 + 1))]) ⟨rfl, rfl, rfl, rfl, rfl, trivial⟩ rfl rfl ?_
          exact ih x3 (x4 + 1) (by omega) (by omega) (by omega) (by omega)
        · refine s_blx (lv' := [(5, vI v4), (0, vR 39), (1, vI place), (2, vI said), (3, vI x3), (4, vI x4)]) (st' := [vR 39, vI v4]) B94_47_50 rfl ?_
          refine r_gfix (r := 47) (pc' := 53) D94_50 rfl gf_9_34_39 H.1 ?_
          refine s_blx (lv' := [(5, vI v4), (0, vR 39), (1, vI place), (2, vI said), (3, vI x3), (4, vI x4)]) (st' := [vI ((place * 3) + x4), vR 47, vI v4]) B94_53_59 rfl ?_
          refine r_iald (pc' := 60) D94_59 rfl sc_47 H.1 (by omega) ?_
          intro w15 e16 r17
          have b_w15 := H.2 47 ((place * 3) + x4) (-1) 7 rfl
          rw [← e16] at b_w15; clear r17
          refine r_icmp (tgt := 72) (pc' := 63) D94_60 rfl rfl (by unfold inR; omega) (fun (c18 : v4 = w15) => ?_) (fun (c18 : ¬ (v4 = w15)) => ?_)
          · refine s_blx (lv' := [(4, vI (x4 + 1)), (5, vI v4), (0, vR 39), (1, vI place), (2, vI said), (3, vI x3)]) (st' := []) B94_72_75 rfl ?_
            refine r_goto (tgt := 5) D94_75 rfl ?_
            refine r_loc (lv' := [(0, vR 39), (1, vI place), (2, vI said), (3, vI x3), (4, vI (x4 + 1))]) ⟨rfl, rfl, rfl, rfl, rfl, trivial⟩ rfl rfl ?_
            exact ih x3 (x4 + 1) (by omega) (by omega) (by omega) (by omega)
          · refine s_blx (lv' := [(5, vI v4), (0, vR 39), (1, vI place), (2, vI said), (3, vI x3), (4, vI x4)]) (st' := [vR 39, vI x3]) B94_63_65 rfl ?_
            refine r_gfix (r := 53) (pc' := 68) D94_65 rfl gf_9_52_39 H.1 ?_
            refine s_blx (lv' := [(5, vI v4), (0, vR 39), (1, vI place), (2, vI said), (3, vI x3), (4, vI x4)]) (st' := [vI 4, vR 53, vI x3]) B94_68_69 rfl ?_
            refine r_iald (pc' := 70) D94_69 rfl sc_53 H.1 (by omega) ?_
            intro w19 e20 r21
            have b_w19 := H.2 53 (4) 0 1000 rfl
            rw [← e20] at b_w19; clear r21
            refine s_blx (lv' := [(4, vI (x4 + 1)), (3, vI (x3 + w19)), (5, vI v4), (0, vR 39), (1, vI place), (2, vI said)]) (st' := []) B94_70_75 rfl ?_
            refine r_goto (tgt := 5) D94_75 rfl ?_
            refine r_loc (lv' := [(0, vR 39), (1, vI place), (2, vI said), (3, vI (x3 + w19)), (4, vI (x4 + 1))]) ⟨rfl, rfl, rfl, rfl, rfl, trivial⟩ rfl rfl ?_
            exact ih (x3 + w19) (x4 + 1) (by omega) (by omega) (by omega) (by omega)
      · refine s_blx (lv' := [(5, vI v4), (0, vR 39), (1, vI place), (2, vI said), (3, vI x3), (4, vI x4)]) (st' := [vR 39, vI x3]) B94_27_29 rfl ?_
        refine r_gfix (r := 53) (pc' := 32) D94_29 rfl gf_9_52_39 H.1 ?_
        refine s_blx (lv' := [(5, vI v4), (0, vR 39), (1, vI place), (2, vI said), (3, vI x3), (4, vI x4)]) (st' := [vI 5, vR 53, vI x3]) B94_32_33 rfl ?_
        refine r_iald (pc' := 34) D94_33 rfl sc_53 H.1 (by omega) ?_
        intro w22 e23 r24
        have b_w22 := H.2 53 (5) 0 1000 rfl
        rw [← e23] at b_w22; clear r24
        refine s_blx (lv' := [(3, vI (x3 + w22)), (5, vI v4), (0, vR 39), (1, vI place), (2, vI said), (4, vI x4)]) (st' := []) B94_34_36 rfl ?_
        refine r_goto (tgt := 72) D94_36 rfl ?_
        refine s_blx (lv' := [(4, vI (x4 + 1)), (3, vI (x3 + w22)), (5, vI v4), (0, vR 39), (1, vI place), (2, vI said)]) (st' := []) B94_72_75 rfl ?_
        refine r_goto (tgt := 5) D94_75 rfl ?_
        refine r_loc (lv' := [(0, vR 39), (1, vI place), (2, vI said), (3, vI (x3 + w22)), (4, vI (x4 + 1))]) ⟨rfl, rfl, rfl, rfl, rfl, trivial⟩ rfl rfl ?_
        exact ih (x3 + w22) (x4 + 1) (by omega) (by omega) (by omega) (by omega)
set_option maxRecDepth 4000 in
theorem k94_39 {base : Nat} {X : Nat → Option mC} {G : Nat → Value} (E : EnvOK base X G) {d : Nat} (hd : 2 ≤ d) {M : mH} (H : HI base M) (place : Int) (said : Int) (h0 : 0 ≤ place ∧ place ≤ 144) (h1 : -2147483648 ≤ said ∧ said ≤ 2147483647) : sOk base X G d T94 [vR 39, vI place, vI said] M (pI (fun v M' => M' = M ∧ (-2147483648 ≤ v ∧ v ≤ 2147483647))) := by
  refine sOk.of (show sRn base X G d T94 0 [(0, vR 39), (1, vI place), (2, vI said)] [] M _ from ?_)
  refine s_blx (lv' := [(4, vI 0), (3, vI 0), (0, vR 39), (1, vI place), (2, vI said)]) (st' := []) B94_0_5 rfl ?_
  refine r_loc (lv' := [(0, vR 39), (1, vI place), (2, vI said), (3, vI 0), (4, vI 0)]) ⟨rfl, rfl, rfl, rfl, rfl, trivial⟩ rfl rfl ?_
  exact (L_k94_39 E hd H place said h0 h1 (((3 - 0) * 1 + 0 : Int) + 1).toNat) 0 0 (by omega) (by omega) (by omega) (by omega)
set_option maxRecDepth 4000 in
theorem k96 {base : Nat} {X : Nat → Option mC} {G : Nat → Value} (E : EnvOK base X G) {d : Nat} (hd : 1 ≤ d) {M : mH} (H : HI base M) (word : Int) (what : Int) (value : Int) (h0 : -2147483648 ≤ word ∧ word ≤ 2147483647) (h1 : -2147483648 ≤ what ∧ what ≤ 2147483647) (h2 : -2147483648 ≤ value ∧ value ≤ 2147483647) : sOk base X G d T96 [vR 0, vI word, vI what, vI value] M (pI (fun v M' => HI base M' ∧ Fr [(0, 6), (0, 10), (2, 0)] M M')) := by
  have f0 : Fr [(0, 6), (0, 10), (2, 0)] M M := Fr.rf
  refine sOk.of (show sRn base X G d T96 0 [(0, vR 0), (1, vI word), (2, vI what), (3, vI value)] [] M _ from ?_)
  refine s_blx (lv' := [(0, vR 0), (1, vI word), (2, vI what), (3, vI value)]) (st' := [vI 29, vI 0, vI word]) B96_0_4 rfl ?_
  refine r_sIp (args := [vI word, vI 0, vI 29]) (rest := []) (pc' := 7) D96_4 rfl ck_10_static_102 TE142 rfl (Nat.le_of_ble_eq_true rfl) ⟨Nat.le_of_ble_eq_true rfl, Nat.le_of_ble_eq_true rfl⟩ (by decide) (dp_0 hd rfl) (k142 E (dp_n hd rfl) H word 0 29 (by omega) (by omega) (by omega)) ?_
  intro v1 q6
  obtain ⟨q3, q4, q5⟩ := q6
  refine r_ifc (tgt := 19) (pc' := 10) D96_7 rfl rfl (by unfold inR; omega) (fun (c7 : v1 = 0) => ?_) (fun (c7 : ¬ (v1 = 0)) => ?_)
  · refine s_blx (lv' := [(0, vR 0), (1, vI word), (2, vI what), (3, vI value)]) (st' := [vI (-1), vR 0]) B96_19_21 rfl ?_
    refine r_vI (c := 0) (args := [vI (-1)]) (rest := []) (pc' := 24) D96_21 rfl ck_10_virtual_106 TE133 rfl (Nat.le_of_ble_eq_true rfl) ⟨Nat.le_of_ble_eq_true rfl, Nat.le_of_ble_eq_true rfl⟩ sc_0 ⟨rfl, by decide⟩ H.1 (dp_0 hd rfl) (k133 E (dp_n hd rfl) H (-1) (by omega)) ?_
    intro v8 M9 q13
    obtain ⟨H10, f11, q12⟩ := q13
    have f14 := f0.tr (f11.up rfl)
    exact r_iretI D96_24 rfl (⟨H10, f14⟩)
  · refine s_blx (lv' := [(0, vR 0), (1, vI word), (2, vI what), (3, vI value)]) (st' := [vI 2, vI 0, vI what]) B96_10_13 rfl ?_
    refine r_sIp (args := [vI what, vI 0, vI 2]) (rest := []) (pc' := 16) D96_13 rfl ck_10_static_102 TE142 rfl (Nat.le_of_ble_eq_true rfl) ⟨Nat.le_of_ble_eq_true rfl, Nat.le_of_ble_eq_true rfl⟩ (by decide) (dp_0 hd rfl) (k142 E (dp_n hd rfl) H what 0 2 (by omega) (by omega) (by omega)) ?_
    intro v15 q20
    obtain ⟨q17, q18, q19⟩ := q20
    refine r_ifc (tgt := 25) (pc' := 19) D96_16 rfl rfl (by unfold inR; omega) (fun (c21 : v15 ≠ 0) => ?_) (fun (c21 : ¬ (v15 ≠ 0)) => ?_)
    · refine s_blx (lv' := [(0, vR 0), (1, vI word), (2, vI what), (3, vI value)]) (st' := [vI value]) B96_25_26 rfl ?_
      obtain ⟨u22, f23, g24, g25, h26, k27⟩ := E.1 0 _ rfl
      refine r_gst (pc' := 29) D96_26 rfl st_10_110 g24 ?_
      refine s_blx (lv' := [(0, vR 0), (1, vI word), (2, vI what), (3, vI value)]) (st' := [vI what, vA u22, vI value]) B96_29_30 rfl ?_
      refine r_ialdT (pc' := 31) D96_30 rfl h26 g25 k27 (by first | omega | (show _ ∧ _ ∧ _; simp only [List.length]; omega)) ?_
      intro w28 e29 r30
      have b_w28 := tb_0 (what).toNat (by omega)
      rw [← e29] at b_w28; clear r30
      obtain ⟨u31, f32, g33, g34, h35, k36⟩ := E.1 1 _ rfl
      refine r_gst (pc' := 34) D96_31 rfl st_10_113 g33 ?_
      refine s_blx (lv' := [(0, vR 0), (1, vI word), (2, vI what), (3, vI value)]) (st' := [vI what, vA u31, vI w28, vI value]) B96_34_35 rfl ?_
      refine r_ialdT (pc' := 36) D96_35 rfl h35 g34 k36 (by first | omega | (show _ ∧ _ ∧ _; simp only [List.length]; omega)) ?_
      intro w37 e38 r39
      have b_w37 := tb_1 (what).toNat (by omega)
      rw [← e38] at b_w37; clear r39
      refine r_sIp (args := [vI value, vI w28, vI w37]) (rest := []) (pc' := 39) D96_36 rfl ck_10_static_102 TE142 rfl (Nat.le_of_ble_eq_true rfl) ⟨Nat.le_of_ble_eq_true rfl, Nat.le_of_ble_eq_true rfl⟩ (by decide) (dp_0 hd rfl) (k142 E (dp_n hd rfl) H value w28 w37 (by omega) (by omega) (by omega)) ?_
      intro v40 q45
      obtain ⟨q42, q43, q44⟩ := q45
      refine r_ifc (tgt := 48) (pc' := 42) D96_39 rfl rfl (by unfold inR; omega) (fun (c46 : v40 ≠ 0) => ?_) (fun (c46 : ¬ (v40 ≠ 0)) => ?_)
      · refine s_blx (lv' := [(0, vR 0), (1, vI word), (2, vI what), (3, vI value)]) (st' := [vR 0, vR 0]) B96_48_50 rfl ?_
        refine r_gfix (r := 1) (pc' := 53) D96_50 rfl gf_10_10_0 H.1 ?_
        refine r_gfix (r := 2) (pc' := 56) D96_53 rfl gf_10_116_1 H.1 ?_
        refine s_blx (lv' := [(0, vR 0), (1, vI word), (2, vI what), (3, vI value)]) (st' := [vI value, vI ((what * 30) + word), vR 2, vR 0]) B96_56_63 rfl ?_
        refine r_sI (args := [vR 2, vI ((what * 30) + word), vI value]) (rest := [vR 0]) (pc' := 66) D96_63 rfl ck_10_static_119 TE145 rfl (Nat.le_of_ble_eq_true rfl) ⟨Nat.le_of_ble_eq_true rfl, Nat.le_of_ble_eq_true rfl⟩ (by decide) (dp_0 hd rfl) (k145_2 E (dp_n hd rfl) H ((what * 30) + word) value (by omega) (by omega)) ?_
        intro v47 M48 q52
        obtain ⟨H49, f50, q51⟩ := q52
        have f53 := f0.tr (f50.up rfl)
        refine r_vI (c := 0) (args := [vI v47]) (rest := []) (pc' := 69) D96_66 rfl ck_10_virtual_123 TE134 rfl (Nat.le_of_ble_eq_true rfl) ⟨Nat.le_of_ble_eq_true rfl, Nat.le_of_ble_eq_true rfl⟩ sc_0 ⟨rfl, by decide⟩ H49.1 (dp_0 hd rfl) (k134 E (dp_n hd rfl) H49 v47 (by omega)) ?_
        intro v54 M55 q59
        obtain ⟨H56, f57, q58⟩ := q59
        have f60 := f53.tr (f57.up rfl)
        exact r_iretI D96_69 rfl (⟨H56, f60⟩)
      · refine s_blx (lv' := [(0, vR 0), (1, vI word), (2, vI what), (3, vI value)]) (st' := [vI (-1), vR 0]) B96_42_44 rfl ?_
        refine r_vI (c := 0) (args := [vI (-1)]) (rest := []) (pc' := 47) D96_44 rfl ck_10_virtual_106 TE133 rfl (Nat.le_of_ble_eq_true rfl) ⟨Nat.le_of_ble_eq_true rfl, Nat.le_of_ble_eq_true rfl⟩ sc_0 ⟨rfl, by decide⟩ H.1 (dp_0 hd rfl) (k133 E (dp_n hd rfl) H (-1) (by omega)) ?_
        intro v61 M62 q66
        obtain ⟨H63, f64, q65⟩ := q66
        have f67 := f0.tr (f64.up rfl)
        exact r_iretI D96_47 rfl (⟨H63, f67⟩)
    · refine s_blx (lv' := [(0, vR 0), (1, vI word), (2, vI what), (3, vI value)]) (st' := [vI (-1), vR 0]) B96_19_21 rfl ?_
      refine r_vI (c := 0) (args := [vI (-1)]) (rest := []) (pc' := 24) D96_21 rfl ck_10_virtual_106 TE133 rfl (Nat.le_of_ble_eq_true rfl) ⟨Nat.le_of_ble_eq_true rfl, Nat.le_of_ble_eq_true rfl⟩ sc_0 ⟨rfl, by decide⟩ H.1 (dp_0 hd rfl) (k133 E (dp_n hd rfl) H (-1) (by omega)) ?_
      intro v68 M69 q73
      obtain ⟨H70, f71, q72⟩ := q73
      have f74 := f0.tr (f71.up rfl)
      exact r_iretI D96_24 rfl (⟨H70, f74⟩)
set_option maxRecDepth 4000 in
theorem k97 {base : Nat} {X : Nat → Option mC} {G : Nat → Value} (E : EnvOK base X G) {d : Nat} (hd : 1 ≤ d) {M : mH} (H : HI base M) (what : Int) (value : Int) (h0 : -2147483648 ≤ what ∧ what ≤ 2147483647) (h1 : -2147483648 ≤ value ∧ value ≤ 2147483647) : sOk base X G d T97 [vR 0, vI what, vI value] M (pI (fun v M' => HI base M' ∧ Fr [(0, 6), (0, 10), (3, 0)] M M')) := by
  have f0 : Fr [(0, 6), (0, 10), (3, 0)] M M := Fr.rf
  refine sOk.of (show sRn base X G d T97 0 [(0, vR 0), (1, vI what), (2, vI value)] [] M _ from ?_)
  refine s_blx (lv' := [(0, vR 0), (1, vI what), (2, vI value)]) (st' := [vI 8, vI 0, vI what]) B97_0_4 rfl ?_
  refine r_sIp (args := [vI what, vI 0, vI 8]) (rest := []) (pc' := 7) D97_4 rfl ck_10_static_102 TE142 rfl (Nat.le_of_ble_eq_true rfl) ⟨Nat.le_of_ble_eq_true rfl, Nat.le_of_ble_eq_true rfl⟩ (by decide) (dp_0 hd rfl) (k142 E (dp_n hd rfl) H what 0 8 (by omega) (by omega) (by omega)) ?_
  intro v1 q6
  obtain ⟨q3, q4, q5⟩ := q6
  refine r_ifc (tgt := 23) (pc' := 10) D97_7 rfl rfl (by unfold inR; omega) (fun (c7 : v1 = 0) => ?_) (fun (c7 : ¬ (v1 = 0)) => ?_)
  · refine s_blx (lv' := [(0, vR 0), (1, vI what), (2, vI value)]) (st' := [vI (-1), vR 0]) B97_23_25 rfl ?_
    refine r_vI (c := 0) (args := [vI (-1)]) (rest := []) (pc' := 28) D97_25 rfl ck_10_virtual_106 TE133 rfl (Nat.le_of_ble_eq_true rfl) ⟨Nat.le_of_ble_eq_true rfl, Nat.le_of_ble_eq_true rfl⟩ sc_0 ⟨rfl, by decide⟩ H.1 (dp_0 hd rfl) (k133 E (dp_n hd rfl) H (-1) (by omega)) ?_
    intro v8 M9 q13
    obtain ⟨H10, f11, q12⟩ := q13
    have f14 := f0.tr (f11.up rfl)
    exact r_iretI D97_28 rfl (⟨H10, f14⟩)
  · refine s_blx (lv' := [(0, vR 0), (1, vI what), (2, vI value)]) (st' := [vI 0, vI value]) B97_10_12 rfl ?_
    obtain ⟨u15, f16, g17, g18, h19, k20⟩ := E.1 2 _ rfl
    refine r_gst (pc' := 15) D97_12 rfl st_10_126 g17 ?_
    refine s_blx (lv' := [(0, vR 0), (1, vI what), (2, vI value)]) (st' := [vI what, vA u15, vI 0, vI value]) B97_15_16 rfl ?_
    refine r_ialdT (pc' := 17) D97_16 rfl h19 g18 k20 (by first | omega | (show _ ∧ _ ∧ _; simp only [List.length]; omega)) ?_
    intro w21 e22 r23
    have b_w21 := tb_2 (what).toNat (by omega)
    rw [← e22] at b_w21; clear r23
    refine r_sIp (args := [vI value, vI 0, vI w21]) (rest := []) (pc' := 20) D97_17 rfl ck_10_static_102 TE142 rfl (Nat.le_of_ble_eq_true rfl) ⟨Nat.le_of_ble_eq_true rfl, Nat.le_of_ble_eq_true rfl⟩ (by decide) (dp_0 hd rfl) (k142 E (dp_n hd rfl) H value 0 w21 (by omega) (by omega) (by omega)) ?_
    intro v24 q29
    obtain ⟨q26, q27, q28⟩ := q29
    refine r_ifc (tgt := 29) (pc' := 23) D97_20 rfl rfl (by unfold inR; omega) (fun (c30 : v24 ≠ 0) => ?_) (fun (c30 : ¬ (v24 ≠ 0)) => ?_)
    · refine s_blx (lv' := [(0, vR 0), (1, vI what), (2, vI value)]) (st' := [vR 0, vR 0]) B97_29_31 rfl ?_
      refine r_gfix (r := 1) (pc' := 34) D97_31 rfl gf_10_10_0 H.1 ?_
      refine r_gfix (r := 3) (pc' := 37) D97_34 rfl gf_10_129_1 H.1 ?_
      refine s_blx (lv' := [(0, vR 0), (1, vI what), (2, vI value)]) (st' := [vI value, vI what, vR 3, vR 0]) B97_37_39 rfl ?_
      refine r_sI (args := [vR 3, vI what, vI value]) (rest := [vR 0]) (pc' := 42) D97_39 rfl ck_10_static_119 TE145 rfl (Nat.le_of_ble_eq_true rfl) ⟨Nat.le_of_ble_eq_true rfl, Nat.le_of_ble_eq_true rfl⟩ (by decide) (dp_0 hd rfl) (k145_3 E (dp_n hd rfl) H what value (by omega) (by omega)) ?_
      intro v31 M32 q36
      obtain ⟨H33, f34, q35⟩ := q36
      have f37 := f0.tr (f34.up rfl)
      refine r_vI (c := 0) (args := [vI v31]) (rest := []) (pc' := 45) D97_42 rfl ck_10_virtual_123 TE134 rfl (Nat.le_of_ble_eq_true rfl) ⟨Nat.le_of_ble_eq_true rfl, Nat.le_of_ble_eq_true rfl⟩ sc_0 ⟨rfl, by decide⟩ H33.1 (dp_0 hd rfl) (k134 E (dp_n hd rfl) H33 v31 (by omega)) ?_
      intro v38 M39 q43
      obtain ⟨H40, f41, q42⟩ := q43
      have f44 := f37.tr (f41.up rfl)
      exact r_iretI D97_45 rfl (⟨H40, f44⟩)
    · refine s_blx (lv' := [(0, vR 0), (1, vI what), (2, vI value)]) (st' := [vI (-1), vR 0]) B97_23_25 rfl ?_
      refine r_vI (c := 0) (args := [vI (-1)]) (rest := []) (pc' := 28) D97_25 rfl ck_10_virtual_106 TE133 rfl (Nat.le_of_ble_eq_true rfl) ⟨Nat.le_of_ble_eq_true rfl, Nat.le_of_ble_eq_true rfl⟩ sc_0 ⟨rfl, by decide⟩ H.1 (dp_0 hd rfl) (k133 E (dp_n hd rfl) H (-1) (by omega)) ?_
      intro v45 M46 q50
      obtain ⟨H47, f48, q49⟩ := q50
      have f51 := f0.tr (f48.up rfl)
      exact r_iretI D97_28 rfl (⟨H47, f51⟩)
set_option maxRecDepth 4000 in
theorem k98 {base : Nat} {X : Nat → Option mC} {G : Nat → Value} (E : EnvOK base X G) {d : Nat} (hd : 1 ≤ d) {M : mH} (H : HI base M) (order : Int) (h0 : -2147483648 ≤ order ∧ order ≤ 2147483647) : sOk base X G d T98 [vR 0, vI order] M (pI (fun v M' => HI base M' ∧ Fr [(0, 6), (0, 10), (1, 3)] M M')) := by
  have f0 : Fr [(0, 6), (0, 10), (1, 3)] M M := Fr.rf
  refine sOk.of (show sRn base X G d T98 0 [(0, vR 0), (1, vI order)] [] M _ from ?_)
  refine s_blx (lv' := [(0, vR 0), (1, vI order)]) (st' := [vI 5, vI 0, vI order]) B98_0_3 rfl ?_
  refine r_sIp (args := [vI order, vI 0, vI 5]) (rest := []) (pc' := 6) D98_3 rfl ck_10_static_102 TE142 rfl (Nat.le_of_ble_eq_true rfl) ⟨Nat.le_of_ble_eq_true rfl, Nat.le_of_ble_eq_true rfl⟩ (by decide) (dp_0 hd rfl) (k142 E (dp_n hd rfl) H order 0 5 (by omega) (by omega) (by omega)) ?_
  intro v1 q6
  obtain ⟨q3, q4, q5⟩ := q6
  refine r_ifc (tgt := 15) (pc' := 9) D98_6 rfl rfl (by unfold inR; omega) (fun (c7 : v1 ≠ 0) => ?_) (fun (c7 : ¬ (v1 ≠ 0)) => ?_)
  · refine s_blx (lv' := [(0, vR 0), (1, vI order)]) (st' := [vR 0]) B98_15_16 rfl ?_
    refine r_gfix (r := 1) (pc' := 19) D98_16 rfl gf_10_10_0 H.1 ?_
    refine r_gint (ki := 2) (pc' := 22) D98_19 rfl gf_10_132_1 rfl H.1 ?_
    intro w8 e9 r10
    have b_w8 := H.2 1 (2) 0 5 rfl
    rw [← e9] at b_w8; clear r10
    refine s_blx (lv' := [(2, vI w8), (0, vR 0), (1, vI order)]) (st' := [vR 0]) B98_22_24 rfl ?_
    refine r_gfix (r := 1) (pc' := 27) D98_24 rfl gf_10_10_0 H.1 ?_
    refine s_blx (lv' := [(2, vI w8), (0, vR 0), (1, vI order)]) (st' := [vI order, vR 1]) B98_27_28 rfl ?_
    refine r_pint (ki := 2) (pc' := 31) D98_28 rfl pf_10_132_1 rfl H (by unfold inR; omega) (show 0 ≤ order ∧ order ≤ 5 by omega) ?_
    intro M11 u12 H13 p14
    have f15 := f0.wr u12 rfl
    refine s_blx (lv' := [(2, vI w8), (0, vR 0), (1, vI order)]) (st' := [vI w8, vR 0]) B98_31_33 rfl ?_
    refine r_vI (c := 0) (args := [vI w8]) (rest := []) (pc' := 36) D98_33 rfl ck_10_virtual_123 TE134 rfl (Nat.le_of_ble_eq_true rfl) ⟨Nat.le_of_ble_eq_true rfl, Nat.le_of_ble_eq_true rfl⟩ sc_0 ⟨rfl, by decide⟩ H13.1 (dp_0 hd rfl) (k134 E (dp_n hd rfl) H13 w8 (by omega)) ?_
    intro v16 M17 q21
    obtain ⟨H18, f19, q20⟩ := q21
    have f22 := f15.tr (f19.up rfl)
    exact r_iretI D98_36 rfl (⟨H18, f22⟩)
  · refine s_blx (lv' := [(0, vR 0), (1, vI order)]) (st' := [vI (-1), vR 0]) B98_9_11 rfl ?_
    refine r_vI (c := 0) (args := [vI (-1)]) (rest := []) (pc' := 14) D98_11 rfl ck_10_virtual_106 TE133 rfl (Nat.le_of_ble_eq_true rfl) ⟨Nat.le_of_ble_eq_true rfl, Nat.le_of_ble_eq_true rfl⟩ sc_0 ⟨rfl, by decide⟩ H.1 (dp_0 hd rfl) (k133 E (dp_n hd rfl) H (-1) (by omega)) ?_
    intro v23 M24 q28
    obtain ⟨H25, f26, q27⟩ := q28
    have f29 := f0.tr (f26.up rfl)
    exact r_iretI D98_14 rfl (⟨H25, f29⟩)
set_option maxRecDepth 4000 in
theorem k99 {base : Nat} {X : Nat → Option mC} {G : Nat → Value} (E : EnvOK base X G) {d : Nat} (hd : 2 ≤ d) {M : mH} (H : HI base M) (slot : Int) (values : Int) (length : Int) (h0 : -2147483648 ≤ slot ∧ slot ≤ 2147483647) (h1 : -2147483648 ≤ values ∧ values ≤ 2147483647) (h2 : -2147483648 ≤ length ∧ length ≤ 2147483647) : sOk base X G d T99 [vR 0, vI slot, vI values, vI length] M (pI (fun v M' => HI base M' ∧ Fr [(0, 6), (0, 10), (1, 5), (4, 0)] M M')) := by
  have f0 : Fr [(0, 6), (0, 10), (1, 5), (4, 0)] M M := Fr.rf
  refine sOk.of (show sRn base X G d T99 0 [(0, vR 0), (1, vI slot), (2, vI values), (3, vI length)] [] M _ from ?_)
  refine s_blx (lv' := [(0, vR 0), (1, vI slot), (2, vI values), (3, vI length)]) (st' := [vI slot]) B99_0_1 rfl ?_
  refine r_sIp (args := [vI slot]) (rest := []) (pc' := 4) D99_1 rfl ck_10_static_135 TE143 rfl (Nat.le_of_ble_eq_true rfl) ⟨Nat.le_of_ble_eq_true rfl, Nat.le_of_ble_eq_true rfl⟩ (by decide) (dp_0 hd rfl) (k143 E (dp_n hd rfl) H slot (by omega)) ?_
  intro v1 q5
  obtain ⟨q3, q4⟩ := q5
  refine r_ifc (tgt := 28) (pc' := 7) D99_4 rfl rfl (by unfold inR; omega) (fun (c6 : v1 = 0) => ?_) (fun (c6 : ¬ (v1 = 0)) => ?_)
  · refine s_blx (lv' := [(0, vR 0), (1, vI slot), (2, vI values), (3, vI length)]) (st' := [vI (-1), vR 0]) B99_28_30 rfl ?_
    refine r_vI (c := 0) (args := [vI (-1)]) (rest := []) (pc' := 33) D99_30 rfl ck_10_virtual_106 TE133 rfl (Nat.le_of_ble_eq_true rfl) ⟨Nat.le_of_ble_eq_true rfl, Nat.le_of_ble_eq_true rfl⟩ sc_0 ⟨rfl, by decide⟩ H.1 (dp_0 hd rfl) (k133 E (dp_n hd rfl) H (-1) (by omega)) ?_
    intro v7 M8 q12
    obtain ⟨H9, f10, q11⟩ := q12
    have f13 := f0.tr (f10.up rfl)
    exact r_iretI D99_33 rfl (⟨H9, f13⟩)
  · refine s_blx (lv' := [(0, vR 0), (1, vI slot), (2, vI values), (3, vI length)]) (st' := [vI 255, vI 1, vI values]) B99_7_12 rfl ?_
    refine r_sIp (args := [vI values, vI 1, vI 255]) (rest := []) (pc' := 15) D99_12 rfl ck_10_static_102 TE142 rfl (Nat.le_of_ble_eq_true rfl) ⟨Nat.le_of_ble_eq_true rfl, Nat.le_of_ble_eq_true rfl⟩ (by decide) (dp_0 hd rfl) (k142 E (dp_n hd rfl) H values 1 255 (by omega) (by omega) (by omega)) ?_
    intro v14 q19
    obtain ⟨q16, q17, q18⟩ := q19
    refine r_ifc (tgt := 28) (pc' := 18) D99_15 rfl rfl (by unfold inR; omega) (fun (c20 : v14 = 0) => ?_) (fun (c20 : ¬ (v14 = 0)) => ?_)
    · refine s_blx (lv' := [(0, vR 0), (1, vI slot), (2, vI values), (3, vI length)]) (st' := [vI (-1), vR 0]) B99_28_30 rfl ?_
      refine r_vI (c := 0) (args := [vI (-1)]) (rest := []) (pc' := 33) D99_30 rfl ck_10_virtual_106 TE133 rfl (Nat.le_of_ble_eq_true rfl) ⟨Nat.le_of_ble_eq_true rfl, Nat.le_of_ble_eq_true rfl⟩ sc_0 ⟨rfl, by decide⟩ H.1 (dp_0 hd rfl) (k133 E (dp_n hd rfl) H (-1) (by omega)) ?_
      intro v21 M22 q26
      obtain ⟨H23, f24, q25⟩ := q26
      have f27 := f0.tr (f24.up rfl)
      exact r_iretI D99_33 rfl (⟨H23, f27⟩)
    · refine s_blx (lv' := [(0, vR 0), (1, vI slot), (2, vI values), (3, vI length)]) (st' := [vI 9, vI 1, vI length]) B99_18_22 rfl ?_
      refine r_sIp (args := [vI length, vI 1, vI 9]) (rest := []) (pc' := 25) D99_22 rfl ck_10_static_102 TE142 rfl (Nat.le_of_ble_eq_true rfl) ⟨Nat.le_of_ble_eq_true rfl, Nat.le_of_ble_eq_true rfl⟩ (by decide) (dp_0 hd rfl) (k142 E (dp_n hd rfl) H length 1 9 (by omega) (by omega) (by omega)) ?_
      intro v28 q33
      obtain ⟨q30, q31, q32⟩ := q33
      refine r_ifc (tgt := 34) (pc' := 28) D99_25 rfl rfl (by unfold inR; omega) (fun (c34 : v28 ≠ 0) => ?_) (fun (c34 : ¬ (v28 ≠ 0)) => ?_)
      · refine s_blx (lv' := [(0, vR 0), (1, vI slot), (2, vI values), (3, vI length)]) (st' := [vR 0]) B99_34_35 rfl ?_
        refine r_gfix (r := 1) (pc' := 38) D99_35 rfl gf_10_10_0 H.1 ?_
        refine r_gint (ki := 4) (pc' := 41) D99_38 rfl gf_10_139_1 rfl H.1 ?_
        intro w35 e36 r37
        have b_w35 := H.2 1 (4) 0 12 rfl
        rw [← e36] at b_w35; clear r37
        refine s_blx (lv' := [(0, vR 0), (1, vI slot), (2, vI values), (3, vI length)]) (st' := [vI 12, vI w35]) B99_41_43 rfl ?_
        refine r_icmp (tgt := 53) (pc' := 46) D99_43 rfl rfl (by unfold inR; omega) (fun (c38 : w35 < 12) => ?_) (fun (c38 : ¬ (w35 < 12)) => ?_)
        · refine s_blx (lv' := [(0, vR 0), (1, vI slot), (2, vI values), (3, vI length)]) (st' := [vR 0, vR 0]) B99_53_55 rfl ?_
          refine r_gfix (r := 1) (pc' := 58) D99_55 rfl gf_10_10_0 H.1 ?_
          refine s_blx (lv' := [(0, vR 0), (1, vI slot), (2, vI values), (3, vI length)]) (st' := [vI length, vI values, vI slot, vR 1, vR 0]) B99_58_61 rfl ?_
          have g39 : gi M 1 4 = w35 := e36.symm
          refine r_vI (c := 1) (args := [vI slot, vI values, vI length]) (rest := [vR 0]) (pc' := 64) D99_61 rfl ck_10_virtual_142 TE59 rfl (Nat.le_of_ble_eq_true rfl) ⟨Nat.le_of_ble_eq_true rfl, Nat.le_of_ble_eq_true rfl⟩ sc_1 ⟨rfl, by decide⟩ H.1 (dp_0 hd rfl) (k59_1 E (dp_n hd rfl) H slot values length (by omega) (by omega) (by omega) (by omega)) ?_
          intro v40 M41 q45
          obtain ⟨H42, f43, q44⟩ := q45
          have f46 := f0.tr (f43.up rfl)
          refine r_vI (c := 0) (args := [vI v40]) (rest := []) (pc' := 67) D99_64 rfl ck_10_virtual_123 TE134 rfl (Nat.le_of_ble_eq_true rfl) ⟨Nat.le_of_ble_eq_true rfl, Nat.le_of_ble_eq_true rfl⟩ sc_0 ⟨rfl, by decide⟩ H42.1 (dp_0 hd rfl) (k134 E (dp_n hd rfl) H42 v40 (by omega)) ?_
          intro v47 M48 q52
          obtain ⟨H49, f50, q51⟩ := q52
          have f53 := f46.tr (f50.up rfl)
          exact r_iretI D99_67 rfl (⟨H49, f53⟩)
        · refine s_blx (lv' := [(0, vR 0), (1, vI slot), (2, vI values), (3, vI length)]) (st' := [vI (-5), vR 0]) B99_46_49 rfl ?_
          refine r_vI (c := 0) (args := [vI (-5)]) (rest := []) (pc' := 52) D99_49 rfl ck_10_virtual_106 TE133 rfl (Nat.le_of_ble_eq_true rfl) ⟨Nat.le_of_ble_eq_true rfl, Nat.le_of_ble_eq_true rfl⟩ sc_0 ⟨rfl, by decide⟩ H.1 (dp_0 hd rfl) (k133 E (dp_n hd rfl) H (-5) (by omega)) ?_
          intro v54 M55 q59
          obtain ⟨H56, f57, q58⟩ := q59
          have f60 := f0.tr (f57.up rfl)
          exact r_iretI D99_52 rfl (⟨H56, f60⟩)
      · refine s_blx (lv' := [(0, vR 0), (1, vI slot), (2, vI values), (3, vI length)]) (st' := [vI (-1), vR 0]) B99_28_30 rfl ?_
        refine r_vI (c := 0) (args := [vI (-1)]) (rest := []) (pc' := 33) D99_30 rfl ck_10_virtual_106 TE133 rfl (Nat.le_of_ble_eq_true rfl) ⟨Nat.le_of_ble_eq_true rfl, Nat.le_of_ble_eq_true rfl⟩ sc_0 ⟨rfl, by decide⟩ H.1 (dp_0 hd rfl) (k133 E (dp_n hd rfl) H (-1) (by omega)) ?_
        intro v61 M62 q66
        obtain ⟨H63, f64, q65⟩ := q66
        have f67 := f0.tr (f64.up rfl)
        exact r_iretI D99_33 rfl (⟨H63, f67⟩)
set_option maxRecDepth 4000 in
theorem k100 {base : Nat} {X : Nat → Option mC} {G : Nat → Value} (E : EnvOK base X G) {d : Nat} (hd : 1 ≤ d) {M : mH} (H : HI base M) (speaker : Int) (h0 : -2147483648 ≤ speaker ∧ speaker ≤ 2147483647) : sOk base X G d T100 [vR 0, vI speaker] M (pI (fun v M' => HI base M' ∧ Fr [(0, 6), (0, 10), (1, 6)] M M')) := by
  have f0 : Fr [(0, 6), (0, 10), (1, 6)] M M := Fr.rf
  refine sOk.of (show sRn base X G d T100 0 [(0, vR 0), (1, vI speaker)] [] M _ from ?_)
  refine s_blx (lv' := [(0, vR 0), (1, vI speaker)]) (st' := [vI 3, vI 0, vI speaker]) B100_0_3 rfl ?_
  refine r_sIp (args := [vI speaker, vI 0, vI 3]) (rest := []) (pc' := 6) D100_3 rfl ck_10_static_102 TE142 rfl (Nat.le_of_ble_eq_true rfl) ⟨Nat.le_of_ble_eq_true rfl, Nat.le_of_ble_eq_true rfl⟩ (by decide) (dp_0 hd rfl) (k142 E (dp_n hd rfl) H speaker 0 3 (by omega) (by omega) (by omega)) ?_
  intro v1 q6
  obtain ⟨q3, q4, q5⟩ := q6
  refine r_ifc (tgt := 15) (pc' := 9) D100_6 rfl rfl (by unfold inR; omega) (fun (c7 : v1 ≠ 0) => ?_) (fun (c7 : ¬ (v1 ≠ 0)) => ?_)
  · refine s_blx (lv' := [(0, vR 0), (1, vI speaker)]) (st' := [vR 0]) B100_15_16 rfl ?_
    refine r_gfix (r := 1) (pc' := 19) D100_16 rfl gf_10_10_0 H.1 ?_
    refine r_gint (ki := 5) (pc' := 22) D100_19 rfl gf_10_146_1 rfl H.1 ?_
    intro w8 e9 r10
    have b_w8 := H.2 1 (5) 0 3 rfl
    rw [← e9] at b_w8; clear r10
    refine s_blx (lv' := [(2, vI w8), (0, vR 0), (1, vI speaker)]) (st' := [vR 0]) B100_22_24 rfl ?_
    refine r_gfix (r := 1) (pc' := 27) D100_24 rfl gf_10_10_0 H.1 ?_
    refine s_blx (lv' := [(2, vI w8), (0, vR 0), (1, vI speaker)]) (st' := [vI speaker, vR 1]) B100_27_28 rfl ?_
    refine r_pint (ki := 5) (pc' := 31) D100_28 rfl pf_10_146_1 rfl H (by unfold inR; omega) (show 0 ≤ speaker ∧ speaker ≤ 3 by omega) ?_
    intro M11 u12 H13 p14
    have f15 := f0.wr u12 rfl
    refine s_blx (lv' := [(2, vI w8), (0, vR 0), (1, vI speaker)]) (st' := [vI w8, vR 0]) B100_31_33 rfl ?_
    refine r_vI (c := 0) (args := [vI w8]) (rest := []) (pc' := 36) D100_33 rfl ck_10_virtual_123 TE134 rfl (Nat.le_of_ble_eq_true rfl) ⟨Nat.le_of_ble_eq_true rfl, Nat.le_of_ble_eq_true rfl⟩ sc_0 ⟨rfl, by decide⟩ H13.1 (dp_0 hd rfl) (k134 E (dp_n hd rfl) H13 w8 (by omega)) ?_
    intro v16 M17 q21
    obtain ⟨H18, f19, q20⟩ := q21
    have f22 := f15.tr (f19.up rfl)
    exact r_iretI D100_36 rfl (⟨H18, f22⟩)
  · refine s_blx (lv' := [(0, vR 0), (1, vI speaker)]) (st' := [vI (-1), vR 0]) B100_9_11 rfl ?_
    refine r_vI (c := 0) (args := [vI (-1)]) (rest := []) (pc' := 14) D100_11 rfl ck_10_virtual_106 TE133 rfl (Nat.le_of_ble_eq_true rfl) ⟨Nat.le_of_ble_eq_true rfl, Nat.le_of_ble_eq_true rfl⟩ sc_0 ⟨rfl, by decide⟩ H.1 (dp_0 hd rfl) (k133 E (dp_n hd rfl) H (-1) (by omega)) ?_
    intro v23 M24 q28
    obtain ⟨H25, f26, q27⟩ := q28
    have f29 := f0.tr (f26.up rfl)
    exact r_iretI D100_14 rfl (⟨H25, f29⟩)
set_option maxRecDepth 4000 in
theorem k102 {base : Nat} {X : Nat → Option mC} {G : Nat → Value} (E : EnvOK base X G) {d : Nat} (hd : 2 ≤ d) {M : mH} (H : HI base M) (sentence : Int) (speaker : Int) (weight : Int) (h0 : -2147483648 ≤ sentence ∧ sentence ≤ 2147483647) (h1 : -2147483648 ≤ speaker ∧ speaker ≤ 2147483647) (h2 : -2147483648 ≤ weight ∧ weight ≤ 2147483647) : sOk base X G d T102 [vR 0, vI sentence, vI speaker, vI weight] M (pI (fun v M' => HI base M' ∧ Fr [(0, 6), (0, 10), (8, 0)] M M')) := by
  have f0 : Fr [(0, 6), (0, 10), (8, 0)] M M := Fr.rf
  refine sOk.of (show sRn base X G d T102 0 [(0, vR 0), (1, vI sentence), (2, vI speaker), (3, vI weight)] [] M _ from ?_)
  refine s_blx (lv' := [(0, vR 0), (1, vI sentence), (2, vI speaker), (3, vI weight)]) (st' := [vI 15, vI 0, vI sentence]) B102_0_4 rfl ?_
  refine r_sIp (args := [vI sentence, vI 0, vI 15]) (rest := []) (pc' := 7) D102_4 rfl ck_10_static_102 TE142 rfl (Nat.le_of_ble_eq_true rfl) ⟨Nat.le_of_ble_eq_true rfl, Nat.le_of_ble_eq_true rfl⟩ (by decide) (dp_0 hd rfl) (k142 E (dp_n hd rfl) H sentence 0 15 (by omega) (by omega) (by omega)) ?_
  intro v1 q6
  obtain ⟨q3, q4, q5⟩ := q6
  refine r_ifc (tgt := 29) (pc' := 10) D102_7 rfl rfl (by unfold inR; omega) (fun (c7 : v1 = 0) => ?_) (fun (c7 : ¬ (v1 = 0)) => ?_)
  · refine s_blx (lv' := [(0, vR 0), (1, vI sentence), (2, vI speaker), (3, vI weight)]) (st' := [vI (-1), vR 0]) B102_29_31 rfl ?_
    refine r_vI (c := 0) (args := [vI (-1)]) (rest := []) (pc' := 34) D102_31 rfl ck_10_virtual_106 TE133 rfl (Nat.le_of_ble_eq_true rfl) ⟨Nat.le_of_ble_eq_true rfl, Nat.le_of_ble_eq_true rfl⟩ sc_0 ⟨rfl, by decide⟩ H.1 (dp_0 hd rfl) (k133 E (dp_n hd rfl) H (-1) (by omega)) ?_
    intro v8 M9 q13
    obtain ⟨H10, f11, q12⟩ := q13
    have f14 := f0.tr (f11.up rfl)
    exact r_iretI D102_34 rfl (⟨H10, f14⟩)
  · refine s_blx (lv' := [(0, vR 0), (1, vI sentence), (2, vI speaker), (3, vI weight)]) (st' := [vI 3, vI 0, vI speaker]) B102_10_13 rfl ?_
    refine r_sIp (args := [vI speaker, vI 0, vI 3]) (rest := []) (pc' := 16) D102_13 rfl ck_10_static_102 TE142 rfl (Nat.le_of_ble_eq_true rfl) ⟨Nat.le_of_ble_eq_true rfl, Nat.le_of_ble_eq_true rfl⟩ (by decide) (dp_0 hd rfl) (k142 E (dp_n hd rfl) H speaker 0 3 (by omega) (by omega) (by omega)) ?_
    intro v15 q20
    obtain ⟨q17, q18, q19⟩ := q20
    refine r_ifc (tgt := 29) (pc' := 19) D102_16 rfl rfl (by unfold inR; omega) (fun (c21 : v15 = 0) => ?_) (fun (c21 : ¬ (v15 = 0)) => ?_)
    · refine s_blx (lv' := [(0, vR 0), (1, vI sentence), (2, vI speaker), (3, vI weight)]) (st' := [vI (-1), vR 0]) B102_29_31 rfl ?_
      refine r_vI (c := 0) (args := [vI (-1)]) (rest := []) (pc' := 34) D102_31 rfl ck_10_virtual_106 TE133 rfl (Nat.le_of_ble_eq_true rfl) ⟨Nat.le_of_ble_eq_true rfl, Nat.le_of_ble_eq_true rfl⟩ sc_0 ⟨rfl, by decide⟩ H.1 (dp_0 hd rfl) (k133 E (dp_n hd rfl) H (-1) (by omega)) ?_
      intro v22 M23 q27
      obtain ⟨H24, f25, q26⟩ := q27
      have f28 := f0.tr (f25.up rfl)
      exact r_iretI D102_34 rfl (⟨H24, f28⟩)
    · refine s_blx (lv' := [(0, vR 0), (1, vI sentence), (2, vI speaker), (3, vI weight)]) (st' := [vI 100, vI 0, vI weight]) B102_19_23 rfl ?_
      refine r_sIp (args := [vI weight, vI 0, vI 100]) (rest := []) (pc' := 26) D102_23 rfl ck_10_static_102 TE142 rfl (Nat.le_of_ble_eq_true rfl) ⟨Nat.le_of_ble_eq_true rfl, Nat.le_of_ble_eq_true rfl⟩ (by decide) (dp_0 hd rfl) (k142 E (dp_n hd rfl) H weight 0 100 (by omega) (by omega) (by omega)) ?_
      intro v29 q34
      obtain ⟨q31, q32, q33⟩ := q34
      refine r_ifc (tgt := 35) (pc' := 29) D102_26 rfl rfl (by unfold inR; omega) (fun (c35 : v29 ≠ 0) => ?_) (fun (c35 : ¬ (v29 ≠ 0)) => ?_)
      · refine s_blx (lv' := [(0, vR 0), (1, vI sentence), (2, vI speaker), (3, vI weight)]) (st' := [vR 0]) B102_35_36 rfl ?_
        refine r_gfix (r := 1) (pc' := 39) D102_36 rfl gf_10_10_0 H.1 ?_
        refine s_blx (lv' := [(0, vR 0), (1, vI sentence), (2, vI speaker), (3, vI weight)]) (st' := [vI sentence, vR 1]) B102_39_40 rfl ?_
        refine r_vIp (c := 1) (args := [vI sentence]) (rest := []) (pc' := 43) D102_40 rfl ck_10_virtual_174 TE65 rfl (Nat.le_of_ble_eq_true rfl) ⟨Nat.le_of_ble_eq_true rfl, Nat.le_of_ble_eq_true rfl⟩ sc_1 ⟨rfl, by decide⟩ H.1 (dp_0 hd rfl) (k65_1 E (dp_n hd rfl) H sentence (by omega)) ?_
        intro v36 q40
        obtain ⟨q38, q39⟩ := q40
        refine r_ifc (tgt := 53) (pc' := 46) D102_43 rfl rfl (by unfold inR; omega) (fun (c41 : v36 ≠ 0) => ?_) (fun (c41 : ¬ (v36 ≠ 0)) => ?_)
        · refine s_blx (lv' := [(0, vR 0), (1, vI sentence), (2, vI speaker), (3, vI weight)]) (st' := [vR 0, vR 0]) B102_53_55 rfl ?_
          refine r_gfix (r := 1) (pc' := 58) D102_55 rfl gf_10_10_0 H.1 ?_
          refine r_gfix (r := 8) (pc' := 61) D102_58 rfl gf_10_177_1 H.1 ?_
          refine s_blx (lv' := [(0, vR 0), (1, vI sentence), (2, vI speaker), (3, vI weight)]) (st' := [vI weight, vI ((sentence * 4) + speaker), vR 8, vR 0]) B102_61_67 rfl ?_
          refine r_sI (args := [vR 8, vI ((sentence * 4) + speaker), vI weight]) (rest := [vR 0]) (pc' := 70) D102_67 rfl ck_10_static_119 TE145 rfl (Nat.le_of_ble_eq_true rfl) ⟨Nat.le_of_ble_eq_true rfl, Nat.le_of_ble_eq_true rfl⟩ (by decide) (dp_0 hd rfl) (k145_8 E (dp_n hd rfl) H ((sentence * 4) + speaker) weight (by omega) (by omega)) ?_
          intro v42 M43 q47
          obtain ⟨H44, f45, q46⟩ := q47
          have f48 := f0.tr (f45.up rfl)
          refine r_vI (c := 0) (args := [vI v42]) (rest := []) (pc' := 73) D102_70 rfl ck_10_virtual_123 TE134 rfl (Nat.le_of_ble_eq_true rfl) ⟨Nat.le_of_ble_eq_true rfl, Nat.le_of_ble_eq_true rfl⟩ sc_0 ⟨rfl, by decide⟩ H44.1 (dp_0 hd rfl) (k134 E (dp_n hd rfl) H44 v42 (by omega)) ?_
          intro v49 M50 q54
          obtain ⟨H51, f52, q53⟩ := q54
          have f55 := f48.tr (f52.up rfl)
          exact r_iretI D102_73 rfl (⟨H51, f55⟩)
        · refine s_blx (lv' := [(0, vR 0), (1, vI sentence), (2, vI speaker), (3, vI weight)]) (st' := [vI (-2), vR 0]) B102_46_49 rfl ?_
          refine r_vI (c := 0) (args := [vI (-2)]) (rest := []) (pc' := 52) D102_49 rfl ck_10_virtual_106 TE133 rfl (Nat.le_of_ble_eq_true rfl) ⟨Nat.le_of_ble_eq_true rfl, Nat.le_of_ble_eq_true rfl⟩ sc_0 ⟨rfl, by decide⟩ H.1 (dp_0 hd rfl) (k133 E (dp_n hd rfl) H (-2) (by omega)) ?_
          intro v56 M57 q61
          obtain ⟨H58, f59, q60⟩ := q61
          have f62 := f0.tr (f59.up rfl)
          exact r_iretI D102_52 rfl (⟨H58, f62⟩)
      · refine s_blx (lv' := [(0, vR 0), (1, vI sentence), (2, vI speaker), (3, vI weight)]) (st' := [vI (-1), vR 0]) B102_29_31 rfl ?_
        refine r_vI (c := 0) (args := [vI (-1)]) (rest := []) (pc' := 34) D102_31 rfl ck_10_virtual_106 TE133 rfl (Nat.le_of_ble_eq_true rfl) ⟨Nat.le_of_ble_eq_true rfl, Nat.le_of_ble_eq_true rfl⟩ sc_0 ⟨rfl, by decide⟩ H.1 (dp_0 hd rfl) (k133 E (dp_n hd rfl) H (-1) (by omega)) ?_
        intro v63 M64 q68
        obtain ⟨H65, f66, q67⟩ := q68
        have f69 := f0.tr (f66.up rfl)
        exact r_iretI D102_34 rfl (⟨H65, f69⟩)
set_option maxRecDepth 4000 in
theorem k103 {base : Nat} {X : Nat → Option mC} {G : Nat → Value} (E : EnvOK base X G) {d : Nat} (hd : 2 ≤ d) {M : mH} (H : HI base M) (sentence : Int) (i : Int) (h0 : -2147483648 ≤ sentence ∧ sentence ≤ 2147483647) (h1 : -2147483648 ≤ i ∧ i ≤ 2147483647) : sOk base X G d T103 [vR 0, vI sentence, vI i] M (pI (fun v M' => M' = M ∧ True)) := by
  refine sOk.of (show sRn base X G d T103 0 [(0, vR 0), (1, vI sentence), (2, vI i)] [] M _ from ?_)
  refine s_blx (lv' := [(0, vR 0), (1, vI sentence), (2, vI i)]) (st' := [vR 0]) B103_0_1 rfl ?_
  refine r_gfix (r := 1) (pc' := 4) D103_1 rfl gf_10_10_0 H.1 ?_
  refine s_blx (lv' := [(0, vR 0), (1, vI sentence), (2, vI i)]) (st' := [vI sentence, vR 1]) B103_4_5 rfl ?_
  refine r_vIp (c := 1) (args := [vI sentence]) (rest := []) (pc' := 8) D103_5 rfl ck_10_virtual_174 TE65 rfl (Nat.le_of_ble_eq_true rfl) ⟨Nat.le_of_ble_eq_true rfl, Nat.le_of_ble_eq_true rfl⟩ sc_1 ⟨rfl, by decide⟩ H.1 (dp_0 hd rfl) (k65_1 E (dp_n hd rfl) H sentence (by omega)) ?_
  intro v1 q5
  obtain ⟨q3, q4⟩ := q5
  refine r_ifc (tgt := 13) (pc' := 11) D103_8 rfl rfl (by unfold inR; omega) (fun (c6 : v1 ≠ 0) => ?_) (fun (c6 : ¬ (v1 ≠ 0)) => ?_)
  · refine s_blx (lv' := [(0, vR 0), (1, vI sentence), (2, vI i)]) (st' := [vR 0]) B103_13_14 rfl ?_
    refine r_gfix (r := 1) (pc' := 17) D103_14 rfl gf_10_10_0 H.1 ?_
    refine r_gfix (r := 6) (pc' := 20) D103_17 rfl gf_10_180_1 H.1 ?_
    refine s_blx (lv' := [(0, vR 0), (1, vI sentence), (2, vI i)]) (st' := [vI sentence, vR 6]) B103_20_21 rfl ?_
    refine r_iald (pc' := 22) D103_21 rfl sc_6 H.1 (by omega) ?_
    intro w7 e8 r9
    have b_w7 := H.2 6 (sentence) 0 8 rfl
    rw [← e8] at b_w7; clear r9
    refine s_blx (lv' := [(3, vI w7), (0, vR 0), (1, vI sentence), (2, vI i)]) (st' := [vI (-1), vI i]) B103_22_25 rfl ?_
    refine r_icmp (tgt := 30) (pc' := 28) D103_25 rfl rfl (by unfold inR; omega) (fun (c10 : i ≠ (-1)) => ?_) (fun (c10 : ¬ (i ≠ (-1))) => ?_)
    · refine s_blx (lv' := [(3, vI w7), (0, vR 0), (1, vI sentence), (2, vI i)]) (st' := [vI (w7 - 1), vI 0, vI i]) B103_30_35 rfl ?_
      refine r_sIp (args := [vI i, vI 0, vI (w7 - 1)]) (rest := []) (pc' := 38) D103_35 rfl ck_10_static_102 TE142 rfl (Nat.le_of_ble_eq_true rfl) ⟨Nat.le_of_ble_eq_true rfl, Nat.le_of_ble_eq_true rfl⟩ (by decide) (dp_0 hd rfl) (k142 E (dp_n hd rfl) H i 0 (w7 - 1) (by omega) (by omega) (by omega)) ?_
      intro v11 q16
      obtain ⟨q13, q14, q15⟩ := q16
      refine r_ifc (tgt := 58) (pc' := 41) D103_38 rfl rfl (by unfold inR; omega) (fun (c17 : v11 = 0) => ?_) (fun (c17 : ¬ (v11 = 0)) => ?_)
      · refine s_blx (lv' := [(3, vI w7), (0, vR 0), (1, vI sentence), (2, vI i)]) (st' := [vI (-1)]) B103_58_59 rfl ?_
        exact r_iretI D103_59 rfl (⟨rfl, trivial⟩)
      · refine s_blx (lv' := [(3, vI w7), (0, vR 0), (1, vI sentence), (2, vI i)]) (st' := [vR 0]) B103_41_42 rfl ?_
        refine r_gfix (r := 1) (pc' := 45) D103_42 rfl gf_10_10_0 H.1 ?_
        refine r_gfix (r := 5) (pc' := 48) D103_45 rfl gf_10_183_1 H.1 ?_
        refine s_blx (lv' := [(3, vI w7), (0, vR 0), (1, vI sentence), (2, vI i)]) (st' := [vI ((sentence * 8) + i), vR 5]) B103_48_54 rfl ?_
        refine r_iald (pc' := 55) D103_54 rfl sc_5 H.1 (by omega) ?_
        intro w18 e19 r20
        have b_w18 := H.2 5 ((sentence * 8) + i) 0 29 rfl
        rw [← e19] at b_w18; clear r20
        refine r_goto (tgt := 59) D103_55 rfl ?_
        exact r_iretI D103_59 rfl (⟨rfl, trivial⟩)
    · refine s_blx (lv' := [(3, vI w7), (0, vR 0), (1, vI sentence), (2, vI i)]) (st' := [vI w7]) B103_28_29 rfl ?_
      exact r_iretI D103_29 rfl (⟨rfl, trivial⟩)
  · refine s_blx (lv' := [(0, vR 0), (1, vI sentence), (2, vI i)]) (st' := [vI (-1)]) B103_11_12 rfl ?_
    exact r_iretI D103_12 rfl (⟨rfl, trivial⟩)
set_option maxRecDepth 4000 in
theorem L_k104 {base : Nat} {X : Nat → Option mC} {G : Nat → Value} (E : EnvOK base X G) {d : Nat} (hd : 2 ≤ d) {M : mH} (H : HI base M) (sentence : Int) (slot : Int) (h0 : -2147483648 ≤ sentence ∧ sentence ≤ 2147483647) (h1 : -2147483648 ≤ slot ∧ slot ≤ 2147483647) : ∀ mz : Nat, (∀ (x3 x4 : Int), (0 ≤ x3) → (x3 ≤ 8) → (0 ≤ x4) → (x4 ≤ 8) → (0 ≤ sentence) → (sentence ≤ 15) → (0 ≤ slot) → (slot ≤ 2) → (8 - x4) * 1 + 0 < (mz : Int) → sRn base X G d T104 33 [(0, vR 0), (1, vI sentence), (2, vI slot), (3, vI x3), (4, vI x4)] [] M (s_Q base (pI (fun v M' => M' = M ∧ True)))) := by
  intro mz
  induction mz with
  | zero => exact fun x3 x4 z0 z1 z2 z3 z4 z5 z6 z7 z8 => by omega
  | succ mz ih =>
    intro x3 x4 i0 i1 i2 i3 i4 i5 i6 i7 hmu
    refine s_blx (lv' := [(0, vR 0), (1, vI sentence), (2, vI slot), (3, vI x3), (4, vI x4)]) (st' := [vI x3, vI x4]) B104_33_36 rfl ?_
    refine r_icmp (tgt := 79) (pc' := 39) D104_36 rfl rfl (by unfold inR; omega) (fun (c16 : x3 ≤ x4) => ?_) (fun (c16 : ¬ (x3 ≤ x4)) => ?_)
    · refine s_blx (lv' := [(0, vR 0), (1, vI sentence), (2, vI slot), (3, vI x3), (4, vI x4)]) (st' := [vI x3]) B104_79_80 rfl ?_
      exact r_iretI D104_80 rfl (⟨rfl, trivial⟩)
    · refine s_blx (lv' := [(0, vR 0), (1, vI sentence), (2, vI slot), (3, vI x3), (4, vI x4)]) (st' := [vR 0]) B104_39_40 rfl ?_
      refine r_gfix (r := 1) (pc' := 43) D104_40 rfl gf_10_10_0 H.1 ?_
      refine s_blx (lv' := [(0, vR 0), (1, vI sentence), (2, vI slot), (3, vI x3), (4, vI x4)]) (st' := [vI (x4 + 1), vI sentence, vR 1]) B104_43_48 rfl ?_
      refine r_vIp (c := 1) (args := [vI sentence, vI (x4 + 1)]) (rest := []) (pc' := 51) D104_48 rfl ck_10_virtual_189 TE70 rfl (Nat.le_of_ble_eq_true rfl) ⟨Nat.le_of_ble_eq_true rfl, Nat.le_of_ble_eq_true rfl⟩ sc_1 ⟨rfl, by decide⟩ H.1 (dp_0 hd rfl) (k70_1 E (dp_n hd rfl) H sentence (x4 + 1) (by omega) (by omega)) ?_
      intro v17 q20
      have q19 := q20; clear q20
      refine s_blx (lv' := [(5, vI v17), (0, vR 0), (1, vI sentence), (2, vI slot), (3, vI x3), (4, vI x4)]) (st' := [vR 0]) B104_51_54 rfl ?_
      refine r_gfix (r := 1) (pc' := 57) D104_54 rfl gf_10_10_0 H.1 ?_
      refine s_blx (lv' := [(5, vI v17), (0, vR 0), (1, vI sentence), (2, vI slot), (3, vI x3), (4, vI x4)]) (st' := [vI slot, vI v17, vR 1]) B104_57_60 rfl ?_
      refine r_vIp (c := 1) (args := [vI v17, vI slot]) (rest := []) (pc' := 63) D104_60 rfl ck_10_virtual_193 TE73 rfl (Nat.le_of_ble_eq_true rfl) ⟨Nat.le_of_ble_eq_true rfl, Nat.le_of_ble_eq_true rfl⟩ sc_1 ⟨rfl, by decide⟩ H.1 (dp_0 hd rfl) (k73_1 E (dp_n hd rfl) H v17 slot (by omega) (by omega)) ?_
      intro v21 q24
      have q23 := q24; clear q24
      refine r_sIp (args := [vI v21]) (rest := []) (pc' := 66) D104_63 rfl ck_10_static_196 TE267 rfl (Nat.le_of_ble_eq_true rfl) ⟨Nat.le_of_ble_eq_true rfl, Nat.le_of_ble_eq_true rfl⟩ (by decide) (dp_0 hd rfl) (k267 E (dp_n hd rfl) H v21 (by omega)) ?_
      intro v25 q28
      have q27 := q28; clear q28
      refine s_blx (lv' := [(5, vI v17), (0, vR 0), (1, vI sentence), (2, vI slot), (3, vI x3), (4, vI x4)]) (st' := [vI 1, vI v25]) B104_66_67 rfl ?_
      refine r_icmp (tgt := 73) (pc' := 70) D104_67 rfl rfl (by unfold inR; omega) (fun (c29 : v25 ≠ 1) => ?_) (fun (c29 : ¬ (v25 ≠ 1)) => ?_)
      · refine s_blx (lv' := [(4, vI (x4 + 1)), (5, vI v17), (0, vR 0), (1, vI sentence), (2, vI slot), (3, vI x3)]) (st' := []) B104_73_76 rfl ?_
        refine r_goto (tgt := 33) D104_76 rfl ?_
        refine r_loc (lv' := [(0, vR 0), (1, vI sentence), (2, vI slot), (3, vI x3), (4, vI (x4 + 1))]) ⟨rfl, rfl, rfl, rfl, rfl, trivial⟩ rfl rfl ?_
        exact ih x3 (x4 + 1) (by omega) (by omega) (by omega) (by omega) (by omega) (by omega) (by omega) (by omega) (by omega)
      · refine s_blx (lv' := [(5, vI v17), (0, vR 0), (1, vI sentence), (2, vI slot), (3, vI x3), (4, vI x4)]) (st' := [vI x4]) B104_70_72 rfl ?_
        exact r_iretI D104_72 rfl (⟨rfl, trivial⟩)
set_option maxRecDepth 4000 in
theorem k104 {base : Nat} {X : Nat → Option mC} {G : Nat → Value} (E : EnvOK base X G) {d : Nat} (hd : 2 ≤ d) {M : mH} (H : HI base M) (sentence : Int) (slot : Int) (h0 : -2147483648 ≤ sentence ∧ sentence ≤ 2147483647) (h1 : -2147483648 ≤ slot ∧ slot ≤ 2147483647) : sOk base X G d T104 [vR 0, vI sentence, vI slot] M (pI (fun v M' => M' = M ∧ True)) := by
  refine sOk.of (show sRn base X G d T104 0 [(0, vR 0), (1, vI sentence), (2, vI slot)] [] M _ from ?_)
  refine s_blx (lv' := [(0, vR 0), (1, vI sentence), (2, vI slot)]) (st' := [vI slot]) B104_0_1 rfl ?_
  refine r_sIp (args := [vI slot]) (rest := []) (pc' := 4) D104_1 rfl ck_10_static_135 TE143 rfl (Nat.le_of_ble_eq_true rfl) ⟨Nat.le_of_ble_eq_true rfl, Nat.le_of_ble_eq_true rfl⟩ (by decide) (dp_0 hd rfl) (k143 E (dp_n hd rfl) H slot (by omega)) ?_
  intro v1 q5
  obtain ⟨q3, q4⟩ := q5
  refine r_ifc (tgt := 18) (pc' := 7) D104_4 rfl rfl (by unfold inR; omega) (fun (c6 : v1 = 0) => ?_) (fun (c6 : ¬ (v1 = 0)) => ?_)
  · refine s_blx (lv' := [(0, vR 0), (1, vI sentence), (2, vI slot)]) (st' := [vI (-1)]) B104_18_19 rfl ?_
    exact r_iretI D104_19 rfl (⟨rfl, trivial⟩)
  · refine s_blx (lv' := [(0, vR 0), (1, vI sentence), (2, vI slot)]) (st' := [vR 0]) B104_7_8 rfl ?_
    refine r_gfix (r := 1) (pc' := 11) D104_8 rfl gf_10_10_0 H.1 ?_
    refine s_blx (lv' := [(0, vR 0), (1, vI sentence), (2, vI slot)]) (st' := [vI sentence, vR 1]) B104_11_12 rfl ?_
    refine r_vIp (c := 1) (args := [vI sentence]) (rest := []) (pc' := 15) D104_12 rfl ck_10_virtual_186 TE67 rfl (Nat.le_of_ble_eq_true rfl) ⟨Nat.le_of_ble_eq_true rfl, Nat.le_of_ble_eq_true rfl⟩ sc_1 ⟨rfl, by decide⟩ H.1 (dp_0 hd rfl) (k67_1 E (dp_n hd rfl) H sentence (by omega)) ?_
    intro v7 q11
    obtain ⟨q9, q10⟩ := q11
    refine r_ifc (tgt := 20) (pc' := 18) D104_15 rfl rfl (by unfold inR; omega) (fun (c12 : v7 ≠ 0) => ?_) (fun (c12 : ¬ (v7 ≠ 0)) => ?_)
    · refine s_blx (lv' := [(0, vR 0), (1, vI sentence), (2, vI slot)]) (st' := [vR 0]) B104_20_21 rfl ?_
      refine r_gfix (r := 1) (pc' := 24) D104_21 rfl gf_10_10_0 H.1 ?_
      refine r_gfix (r := 6) (pc' := 27) D104_24 rfl gf_10_180_1 H.1 ?_
      refine s_blx (lv' := [(0, vR 0), (1, vI sentence), (2, vI slot)]) (st' := [vI sentence, vR 6]) B104_27_28 rfl ?_
      refine r_iald (pc' := 29) D104_28 rfl sc_6 H.1 (by omega) ?_
      intro w13 e14 r15
      have b_w13 := H.2 6 (sentence) 0 8 rfl
      rw [← e14] at b_w13; clear r15
      refine s_blx (lv' := [(4, vI 0), (3, vI w13), (0, vR 0), (1, vI sentence), (2, vI slot)]) (st' := []) B104_29_33 rfl ?_
      refine r_loc (lv' := [(0, vR 0), (1, vI sentence), (2, vI slot), (3, vI w13), (4, vI 0)]) ⟨rfl, rfl, rfl, rfl, rfl, trivial⟩ rfl rfl ?_
      exact (L_k104 E hd H sentence slot h0 h1 (((8 - 0) * 1 + 0 : Int) + 1).toNat) w13 0 (by omega) (by omega) (by omega) (by omega) (by omega) (by omega) (by omega) (by omega) (by omega)
    · refine s_blx (lv' := [(0, vR 0), (1, vI sentence), (2, vI slot)]) (st' := [vI (-1)]) B104_18_19 rfl ?_
      exact r_iretI D104_19 rfl (⟨rfl, trivial⟩)
set_option maxRecDepth 4000 in
theorem k105 {base : Nat} {X : Nat → Option mC} {G : Nat → Value} (E : EnvOK base X G) {d : Nat} (hd : 2 ≤ d) {M : mH} (H : HI base M) (sentence : Int) (n : Int) (slot : Int) (value : Int) (part : Int) (h0 : -2147483648 ≤ sentence ∧ sentence ≤ 2147483647) (h1 : -2147483648 ≤ n ∧ n ≤ 2147483647) (h2 : -2147483648 ≤ slot ∧ slot ≤ 2147483647) (h3 : -2147483648 ≤ value ∧ value ≤ 2147483647) (h4 : -2147483648 ≤ part ∧ part ≤ 2147483647) : sOk base X G d T105 [vR 0, vI sentence, vI n, vI slot, vI value, vI part] M (pI (fun v M' => M' = M ∧ True)) := by
  refine sOk.of (show sRn base X G d T105 0 [(0, vR 0), (1, vI sentence), (2, vI n), (3, vI slot), (4, vI value), (5, vI part)] [] M _ from ?_)
  refine s_blx (lv' := [(0, vR 0), (1, vI sentence), (2, vI n), (3, vI slot), (4, vI value), (5, vI part)]) (st' := [vR 0]) B105_0_1 rfl ?_
  refine r_gfix (r := 1) (pc' := 4) D105_1 rfl gf_10_10_0 H.1 ?_
  refine s_blx (lv' := [(0, vR 0), (1, vI sentence), (2, vI n), (3, vI slot), (4, vI value), (5, vI part)]) (st' := [vI sentence, vR 1]) B105_4_5 rfl ?_
  refine r_vIp (c := 1) (args := [vI sentence]) (rest := []) (pc' := 8) D105_5 rfl ck_10_virtual_174 TE65 rfl (Nat.le_of_ble_eq_true rfl) ⟨Nat.le_of_ble_eq_true rfl, Nat.le_of_ble_eq_true rfl⟩ sc_1 ⟨rfl, by decide⟩ H.1 (dp_0 hd rfl) (k65_1 E (dp_n hd rfl) H sentence (by omega)) ?_
  intro v1 q5
  obtain ⟨q3, q4⟩ := q5
  refine r_ifc (tgt := 36) (pc' := 11) D105_8 rfl rfl (by unfold inR; omega) (fun (c6 : v1 = 0) => ?_) (fun (c6 : ¬ (v1 = 0)) => ?_)
  · refine s_blx (lv' := [(0, vR 0), (1, vI sentence), (2, vI n), (3, vI slot), (4, vI value), (5, vI part)]) (st' := [vI (-1)]) B105_36_37 rfl ?_
    exact r_iretI D105_37 rfl (⟨rfl, trivial⟩)
  · refine s_blx (lv' := [(0, vR 0), (1, vI sentence), (2, vI n), (3, vI slot), (4, vI value), (5, vI part)]) (st' := [vI slot]) B105_11_12 rfl ?_
    refine r_sIp (args := [vI slot]) (rest := []) (pc' := 15) D105_12 rfl ck_10_static_135 TE143 rfl (Nat.le_of_ble_eq_true rfl) ⟨Nat.le_of_ble_eq_true rfl, Nat.le_of_ble_eq_true rfl⟩ (by decide) (dp_0 hd rfl) (k143 E (dp_n hd rfl) H slot (by omega)) ?_
    intro v7 q11
    obtain ⟨q9, q10⟩ := q11
    refine r_ifc (tgt := 36) (pc' := 18) D105_15 rfl rfl (by unfold inR; omega) (fun (c12 : v7 = 0) => ?_) (fun (c12 : ¬ (v7 = 0)) => ?_)
    · refine s_blx (lv' := [(0, vR 0), (1, vI sentence), (2, vI n), (3, vI slot), (4, vI value), (5, vI part)]) (st' := [vI (-1)]) B105_36_37 rfl ?_
      exact r_iretI D105_37 rfl (⟨rfl, trivial⟩)
    · refine s_blx (lv' := [(0, vR 0), (1, vI sentence), (2, vI n), (3, vI slot), (4, vI value), (5, vI part)]) (st' := [vI value]) B105_18_20 rfl ?_
      refine r_sIp (args := [vI value]) (rest := []) (pc' := 23) D105_20 rfl ck_10_static_153 TE144 rfl (Nat.le_of_ble_eq_true rfl) ⟨Nat.le_of_ble_eq_true rfl, Nat.le_of_ble_eq_true rfl⟩ (by decide) (dp_0 hd rfl) (k144 E (dp_n hd rfl) H value (by omega)) ?_
      intro v13 q17
      obtain ⟨q15, q16⟩ := q17
      refine r_ifc (tgt := 36) (pc' := 26) D105_23 rfl rfl (by unfold inR; omega) (fun (c18 : v13 = 0) => ?_) (fun (c18 : ¬ (v13 = 0)) => ?_)
      · refine s_blx (lv' := [(0, vR 0), (1, vI sentence), (2, vI n), (3, vI slot), (4, vI value), (5, vI part)]) (st' := [vI (-1)]) B105_36_37 rfl ?_
        exact r_iretI D105_37 rfl (⟨rfl, trivial⟩)
      · refine s_blx (lv' := [(0, vR 0), (1, vI sentence), (2, vI n), (3, vI slot), (4, vI value), (5, vI part)]) (st' := [vI 1, vI 0, vI part]) B105_26_30 rfl ?_
        refine r_sIp (args := [vI part, vI 0, vI 1]) (rest := []) (pc' := 33) D105_30 rfl ck_10_static_102 TE142 rfl (Nat.le_of_ble_eq_true rfl) ⟨Nat.le_of_ble_eq_true rfl, Nat.le_of_ble_eq_true rfl⟩ (by decide) (dp_0 hd rfl) (k142 E (dp_n hd rfl) H part 0 1 (by omega) (by omega) (by omega)) ?_
        intro v19 q24
        obtain ⟨q21, q22, q23⟩ := q24
        refine r_ifc (tgt := 38) (pc' := 36) D105_33 rfl rfl (by unfold inR; omega) (fun (c25 : v19 ≠ 0) => ?_) (fun (c25 : ¬ (v19 ≠ 0)) => ?_)
        · refine s_blx (lv' := [(0, vR 0), (1, vI sentence), (2, vI n), (3, vI slot), (4, vI value), (5, vI part)]) (st' := [vR 0, vI 0, vI n]) B105_38_41 rfl ?_
          refine r_gfix (r := 1) (pc' := 44) D105_41 rfl gf_10_10_0 H.1 ?_
          refine r_gfix (r := 6) (pc' := 47) D105_44 rfl gf_10_180_1 H.1 ?_
          refine s_blx (lv' := [(0, vR 0), (1, vI sentence), (2, vI n), (3, vI slot), (4, vI value), (5, vI part)]) (st' := [vI sentence, vR 6, vI 0, vI n]) B105_47_48 rfl ?_
          refine r_iald (pc' := 49) D105_48 rfl sc_6 H.1 (by omega) ?_
          intro w26 e27 r28
          have b_w26 := H.2 6 (sentence) 0 8 rfl
          rw [← e27] at b_w26; clear r28
          refine r_sIp (args := [vI n, vI 0, vI w26]) (rest := []) (pc' := 52) D105_49 rfl ck_10_static_102 TE142 rfl (Nat.le_of_ble_eq_true rfl) ⟨Nat.le_of_ble_eq_true rfl, Nat.le_of_ble_eq_true rfl⟩ (by decide) (dp_0 hd rfl) (k142 E (dp_n hd rfl) H n 0 w26 (by omega) (by omega) (by omega)) ?_
          intro v29 q34
          obtain ⟨q31, q32, q33⟩ := q34
          refine r_ifc (tgt := 57) (pc' := 55) D105_52 rfl rfl (by unfold inR; omega) (fun (c35 : v29 ≠ 0) => ?_) (fun (c35 : ¬ (v29 ≠ 0)) => ?_)
          · refine s_blx (lv' := [(0, vR 0), (1, vI sentence), (2, vI n), (3, vI slot), (4, vI value), (5, vI part)]) (st' := [vR 0]) B105_57_58 rfl ?_
            refine r_gfix (r := 1) (pc' := 61) D105_58 rfl gf_10_10_0 H.1 ?_
            refine s_blx (lv' := [(0, vR 0), (1, vI sentence), (2, vI n), (3, vI slot), (4, vI value), (5, vI part)]) (st' := [vI n, vI sentence, vR 1]) B105_61_63 rfl ?_
            refine r_vIp (c := 1) (args := [vI sentence, vI n]) (rest := []) (pc' := 66) D105_63 rfl ck_10_virtual_189 TE70 rfl (Nat.le_of_ble_eq_true rfl) ⟨Nat.le_of_ble_eq_true rfl, Nat.le_of_ble_eq_true rfl⟩ sc_1 ⟨rfl, by decide⟩ H.1 (dp_0 hd rfl) (k70_1 E (dp_n hd rfl) H sentence n (by omega) (by omega)) ?_
            intro v36 q39
            have q38 := q39; clear q39
            refine s_blx (lv' := [(6, vI v36), (0, vR 0), (1, vI sentence), (2, vI n), (3, vI slot), (4, vI value), (5, vI part)]) (st' := [vR 0]) B105_66_69 rfl ?_
            refine r_gfix (r := 1) (pc' := 72) D105_69 rfl gf_10_10_0 H.1 ?_
            refine s_blx (lv' := [(6, vI v36), (0, vR 0), (1, vI sentence), (2, vI n), (3, vI slot), (4, vI value), (5, vI part)]) (st' := [vI v36, vR 1]) B105_72_74 rfl ?_
            refine r_vIp (c := 1) (args := [vI v36]) (rest := []) (pc' := 77) D105_74 rfl ck_10_virtual_201 TE76 rfl (Nat.le_of_ble_eq_true rfl) ⟨Nat.le_of_ble_eq_true rfl, Nat.le_of_ble_eq_true rfl⟩ sc_1 ⟨rfl, by decide⟩ H.1 (dp_0 hd rfl) (k76_1 E (dp_n hd rfl) H v36 (by omega)) ?_
            intro v40 q43
            have q42 := q43; clear q43
            refine s_blx (lv' := [(7, vI v40), (6, vI v36), (0, vR 0), (1, vI sentence), (2, vI n), (3, vI slot), (4, vI value), (5, vI part)]) (st' := [vI v40]) B105_77_81 rfl ?_
            refine r_ifc (tgt := 86) (pc' := 84) D105_81 rfl rfl (by unfold inR; omega) (fun (c44 : 0 < v40) => ?_) (fun (c44 : ¬ (0 < v40)) => ?_)
            · refine s_blx (lv' := [(7, vI v40), (6, vI v36), (0, vR 0), (1, vI sentence), (2, vI n), (3, vI slot), (4, vI value), (5, vI part)]) (st' := [vR 0]) B105_86_87 rfl ?_
              refine r_gfix (r := 1) (pc' := 90) D105_87 rfl gf_10_10_0 H.1 ?_
              refine s_blx (lv' := [(7, vI v40), (6, vI v36), (0, vR 0), (1, vI sentence), (2, vI n), (3, vI slot), (4, vI value), (5, vI part)]) (st' := [vR 0, vI v36, vR 1]) B105_90_93 rfl ?_
              refine r_gfix (r := 1) (pc' := 96) D105_93 rfl gf_10_10_0 H.1 ?_
              refine s_blx (lv' := [(7, vI v40), (6, vI v36), (0, vR 0), (1, vI sentence), (2, vI n), (3, vI slot), (4, vI value), (5, vI part)]) (st' := [vI value, vI slot, vR 1, vI v36, vR 1]) B105_96_99 rfl ?_
              refine r_vIp (c := 1) (args := [vI slot, vI value]) (rest := [vI v36, vR 1]) (pc' := 102) D105_99 rfl ck_10_virtual_204 TE74 rfl (Nat.le_of_ble_eq_true rfl) ⟨Nat.le_of_ble_eq_true rfl, Nat.le_of_ble_eq_true rfl⟩ sc_1 ⟨rfl, by decide⟩ H.1 (dp_0 hd rfl) (k74_1 E (dp_n hd rfl) H slot value (by omega) (by omega)) ?_
              intro v45 q48
              have q47 := q48; clear q48
              refine r_bin (pc' := 103) D105_102 rfl rfl ?_
              intro z49 r50 _; unfold inR at r50
              refine r_vIp (c := 1) (args := [vI z49]) (rest := []) (pc' := 106) D105_103 rfl ck_10_virtual_201 TE76 rfl (Nat.le_of_ble_eq_true rfl) ⟨Nat.le_of_ble_eq_true rfl, Nat.le_of_ble_eq_true rfl⟩ sc_1 ⟨rfl, by decide⟩ H.1 (dp_0 hd rfl) (k76_1 E (dp_n hd rfl) H z49 (by omega)) ?_
              intro v51 q54
              have q53 := q54; clear q54
              refine s_blx (lv' := [(8, vI v51), (7, vI v40), (6, vI v36), (0, vR 0), (1, vI sentence), (2, vI n), (3, vI slot), (4, vI value), (5, vI part)]) (st' := [vI v51, vI v40]) B105_106_112 rfl ?_
              refine r_sIp (args := [vI v40, vI v51]) (rest := []) (pc' := 115) D105_112 rfl ck_10_static_207 TE146 rfl (Nat.le_of_ble_eq_true rfl) ⟨Nat.le_of_ble_eq_true rfl, Nat.le_of_ble_eq_true rfl⟩ (by decide) (dp_0 hd rfl) (k146 E (dp_n hd rfl) H v40 v51 (by omega) (by omega)) ?_
              intro v55 q58
              have q57 := q58; clear q58
              refine s_blx (lv' := [(9, vI v55), (8, vI v51), (7, vI v40), (6, vI v36), (0, vR 0), (1, vI sentence), (2, vI n), (3, vI slot), (4, vI value), (5, vI part)]) (st' := [vI part]) B105_115_119 rfl ?_
              refine r_ifc (tgt := 127) (pc' := 122) D105_119 rfl rfl (by unfold inR; omega) (fun (c59 : part ≠ 0) => ?_) (fun (c59 : ¬ (part ≠ 0)) => ?_)
              · refine s_blx (lv' := [(9, vI v55), (8, vI v51), (7, vI v40), (6, vI v36), (0, vR 0), (1, vI sentence), (2, vI n), (3, vI slot), (4, vI value), (5, vI part)]) (st' := [vI v55, vI v40]) B105_127_131 rfl ?_
                refine r_idiv (pc' := 132) D105_131 rfl (by omega) ?_
                have r62 := Int.ediv_nonneg (show 0 ≤ v40 by omega) (show 0 ≤ v55 by omega)
                have r63 := Int.ediv_le_self (v55) (show 0 ≤ v40 by omega)
                generalize v40 / v55 = z60 at *
                exact r_iretI D105_132 rfl (⟨rfl, trivial⟩)
              · refine s_blx (lv' := [(9, vI v55), (8, vI v51), (7, vI v40), (6, vI v36), (0, vR 0), (1, vI sentence), (2, vI n), (3, vI slot), (4, vI value), (5, vI part)]) (st' := [vI v51]) B105_122_124 rfl ?_
                refine r_goto (tgt := 129) D105_124 rfl ?_
                refine s_blx (lv' := [(9, vI v55), (8, vI v51), (7, vI v40), (6, vI v36), (0, vR 0), (1, vI sentence), (2, vI n), (3, vI slot), (4, vI value), (5, vI part)]) (st' := [vI v55, vI v51]) B105_129_131 rfl ?_
                refine r_idivX (pc' := 132) D105_131 rfl (by unfold inR; omega) ?_
                intro z64 r65; unfold inR at r65
                exact r_iretI D105_132 rfl (⟨rfl, trivial⟩)
            · refine s_blx (lv' := [(7, vI v40), (6, vI v36), (0, vR 0), (1, vI sentence), (2, vI n), (3, vI slot), (4, vI value), (5, vI part)]) (st' := [vI (-1)]) B105_84_85 rfl ?_
              exact r_iretI D105_85 rfl (⟨rfl, trivial⟩)
          · refine s_blx (lv' := [(0, vR 0), (1, vI sentence), (2, vI n), (3, vI slot), (4, vI value), (5, vI part)]) (st' := [vI (-1)]) B105_55_56 rfl ?_
            exact r_iretI D105_56 rfl (⟨rfl, trivial⟩)
        · refine s_blx (lv' := [(0, vR 0), (1, vI sentence), (2, vI n), (3, vI slot), (4, vI value), (5, vI part)]) (st' := [vI (-1)]) B105_36_37 rfl ?_
          exact r_iretI D105_37 rfl (⟨rfl, trivial⟩)
set_option maxRecDepth 4000 in
theorem k106 {base : Nat} {X : Nat → Option mC} {G : Nat → Value} (E : EnvOK base X G) {d : Nat} (hd : 2 ≤ d) {M : mH} (H : HI base M) (sentence : Int) (n : Int) (slot : Int) (h0 : -2147483648 ≤ sentence ∧ sentence ≤ 2147483647) (h1 : -2147483648 ≤ n ∧ n ≤ 2147483647) (h2 : -2147483648 ≤ slot ∧ slot ≤ 2147483647) : sOk base X G d T106 [vR 0, vI sentence, vI n, vI slot] M (pI (fun v M' => M' = M ∧ True)) := by
  refine sOk.of (show sRn base X G d T106 0 [(0, vR 0), (1, vI sentence), (2, vI n), (3, vI slot)] [] M _ from ?_)
  refine s_blx (lv' := [(0, vR 0), (1, vI sentence), (2, vI n), (3, vI slot)]) (st' := [vR 0]) B106_0_1 rfl ?_
  refine r_gfix (r := 1) (pc' := 4) D106_1 rfl gf_10_10_0 H.1 ?_
  refine s_blx (lv' := [(0, vR 0), (1, vI sentence), (2, vI n), (3, vI slot)]) (st' := [vI sentence, vR 1]) B106_4_5 rfl ?_
  refine r_vIp (c := 1) (args := [vI sentence]) (rest := []) (pc' := 8) D106_5 rfl ck_10_virtual_174 TE65 rfl (Nat.le_of_ble_eq_true rfl) ⟨Nat.le_of_ble_eq_true rfl, Nat.le_of_ble_eq_true rfl⟩ sc_1 ⟨rfl, by decide⟩ H.1 (dp_0 hd rfl) (k65_1 E (dp_n hd rfl) H sentence (by omega)) ?_
  intro v1 q5
  obtain ⟨q3, q4⟩ := q5
  refine r_ifc (tgt := 35) (pc' := 11) D106_8 rfl rfl (by unfold inR; omega) (fun (c6 : v1 = 0) => ?_) (fun (c6 : ¬ (v1 = 0)) => ?_)
  · refine s_blx (lv' := [(0, vR 0), (1, vI sentence), (2, vI n), (3, vI slot)]) (st' := [vI (-1)]) B106_35_36 rfl ?_
    exact r_iretI D106_36 rfl (⟨rfl, trivial⟩)
  · refine s_blx (lv' := [(0, vR 0), (1, vI sentence), (2, vI n), (3, vI slot)]) (st' := [vI slot]) B106_11_12 rfl ?_
    refine r_sIp (args := [vI slot]) (rest := []) (pc' := 15) D106_12 rfl ck_10_static_135 TE143 rfl (Nat.le_of_ble_eq_true rfl) ⟨Nat.le_of_ble_eq_true rfl, Nat.le_of_ble_eq_true rfl⟩ (by decide) (dp_0 hd rfl) (k143 E (dp_n hd rfl) H slot (by omega)) ?_
    intro v7 q11
    obtain ⟨q9, q10⟩ := q11
    refine r_ifc (tgt := 35) (pc' := 18) D106_15 rfl rfl (by unfold inR; omega) (fun (c12 : v7 = 0) => ?_) (fun (c12 : ¬ (v7 = 0)) => ?_)
    · refine s_blx (lv' := [(0, vR 0), (1, vI sentence), (2, vI n), (3, vI slot)]) (st' := [vI (-1)]) B106_35_36 rfl ?_
      exact r_iretI D106_36 rfl (⟨rfl, trivial⟩)
    · refine s_blx (lv' := [(0, vR 0), (1, vI sentence), (2, vI n), (3, vI slot)]) (st' := [vR 0, vI 1, vI n]) B106_18_21 rfl ?_
      refine r_gfix (r := 1) (pc' := 24) D106_21 rfl gf_10_10_0 H.1 ?_
      refine r_gfix (r := 6) (pc' := 27) D106_24 rfl gf_10_180_1 H.1 ?_
      refine s_blx (lv' := [(0, vR 0), (1, vI sentence), (2, vI n), (3, vI slot)]) (st' := [vI sentence, vR 6, vI 1, vI n]) B106_27_28 rfl ?_
      refine r_iald (pc' := 29) D106_28 rfl sc_6 H.1 (by omega) ?_
      intro w13 e14 r15
      have b_w13 := H.2 6 (sentence) 0 8 rfl
      rw [← e14] at b_w13; clear r15
      refine r_sIp (args := [vI n, vI 1, vI w13]) (rest := []) (pc' := 32) D106_29 rfl ck_10_static_102 TE142 rfl (Nat.le_of_ble_eq_true rfl) ⟨Nat.le_of_ble_eq_true rfl, Nat.le_of_ble_eq_true rfl⟩ (by decide) (dp_0 hd rfl) (k142 E (dp_n hd rfl) H n 1 w13 (by omega) (by omega) (by omega)) ?_
      intro v16 q21
      obtain ⟨q18, q19, q20⟩ := q21
      refine r_ifc (tgt := 37) (pc' := 35) D106_32 rfl rfl (by unfold inR; omega) (fun (c22 : v16 ≠ 0) => ?_) (fun (c22 : ¬ (v16 ≠ 0)) => ?_)
      · refine s_blx (lv' := [(0, vR 0), (1, vI sentence), (2, vI n), (3, vI slot)]) (st' := [vR 0]) B106_37_38 rfl ?_
        refine r_gfix (r := 1) (pc' := 41) D106_38 rfl gf_10_10_0 H.1 ?_
        refine s_blx (lv' := [(0, vR 0), (1, vI sentence), (2, vI n), (3, vI slot)]) (st' := [vR 0, vI slot, vR 1]) B106_41_43 rfl ?_
        refine r_gfix (r := 1) (pc' := 46) D106_43 rfl gf_10_10_0 H.1 ?_
        refine s_blx (lv' := [(0, vR 0), (1, vI sentence), (2, vI n), (3, vI slot)]) (st' := [vR 0, vR 1, vI slot, vR 1]) B106_46_47 rfl ?_
        refine r_gfix (r := 1) (pc' := 50) D106_47 rfl gf_10_10_0 H.1 ?_
        refine s_blx (lv' := [(0, vR 0), (1, vI sentence), (2, vI n), (3, vI slot)]) (st' := [vI n, vI sentence, vR 1, vR 1, vI slot, vR 1]) B106_50_52 rfl ?_
        refine r_vIp (c := 1) (args := [vI sentence, vI n]) (rest := [vR 1, vI slot, vR 1]) (pc' := 55) D106_52 rfl ck_10_virtual_189 TE70 rfl (Nat.le_of_ble_eq_true rfl) ⟨Nat.le_of_ble_eq_true rfl, Nat.le_of_ble_eq_true rfl⟩ sc_1 ⟨rfl, by decide⟩ H.1 (dp_0 hd rfl) (k70_1 E (dp_n hd rfl) H sentence n (by omega) (by omega)) ?_
        intro v23 q26
        have q25 := q26; clear q26
        refine s_blx (lv' := [(0, vR 0), (1, vI sentence), (2, vI n), (3, vI slot)]) (st' := [vI slot, vI v23, vR 1, vI slot, vR 1]) B106_55_56 rfl ?_
        refine r_vIp (c := 1) (args := [vI v23, vI slot]) (rest := [vI slot, vR 1]) (pc' := 59) D106_56 rfl ck_10_virtual_193 TE73 rfl (Nat.le_of_ble_eq_true rfl) ⟨Nat.le_of_ble_eq_true rfl, Nat.le_of_ble_eq_true rfl⟩ sc_1 ⟨rfl, by decide⟩ H.1 (dp_0 hd rfl) (k73_1 E (dp_n hd rfl) H v23 slot (by omega) (by omega)) ?_
        intro v27 q30
        have q29 := q30; clear q30
        refine r_vIp (c := 1) (args := [vI slot, vI v27]) (rest := []) (pc' := 62) D106_59 rfl ck_10_virtual_210 TE77 rfl (Nat.le_of_ble_eq_true rfl) ⟨Nat.le_of_ble_eq_true rfl, Nat.le_of_ble_eq_true rfl⟩ sc_1 ⟨rfl, by decide⟩ H.1 (dp_0 hd rfl) (k77_1 E (dp_n hd rfl) H slot v27 (by omega) (by omega)) ?_
        intro v31 q34
        have q33 := q34; clear q34
        exact r_iretI D106_62 rfl (⟨rfl, trivial⟩)
      · refine s_blx (lv' := [(0, vR 0), (1, vI sentence), (2, vI n), (3, vI slot)]) (st' := [vI (-1)]) B106_35_36 rfl ?_
        exact r_iretI D106_36 rfl (⟨rfl, trivial⟩)
set_option maxRecDepth 4000 in
theorem k110 {base : Nat} {X : Nat → Option mC} {G : Nat → Value} (E : EnvOK base X G) {d : Nat} (hd : 1 ≤ d) {M : mH} (H : HI base M) (a : Int) (b : Int) (c : Int) (d_ : Int) (e : Int) (h0 : -2147483648 ≤ a ∧ a ≤ 2147483647) (h1 : -2147483648 ≤ b ∧ b ≤ 2147483647) (h2 : -2147483648 ≤ c ∧ c ≤ 2147483647) (h3 : -2147483648 ≤ d_ ∧ d_ ≤ 2147483647) (h4 : -2147483648 ≤ e ∧ e ≤ 2147483647) : sOk base X G d T110 [vR 0, vI a, vI b, vI c, vI d_, vI e] M (pI (fun v M' => HI base M' ∧ Fr [(0, 4), (13, 0)] M M')) := by
  have f0 : Fr [(0, 4), (13, 0)] M M := Fr.rf
  refine sOk.of (show sRn base X G d T110 0 [(0, vR 0), (1, vI a), (2, vI b), (3, vI c), (4, vI d_), (5, vI e)] [] M _ from ?_)
  refine s_blx (lv' := [(0, vR 0), (1, vI a), (2, vI b), (3, vI c), (4, vI d_), (5, vI e)]) (st' := [vR 0]) B110_0_1 rfl ?_
  refine r_gint (ki := 3) (pc' := 4) D110_1 rfl gf_10_24_0 rfl H.1 ?_
  intro w1 e2 r3
  have b_w1 := H.2 0 (3) 0 400 rfl
  rw [← e2] at b_w1; clear r3
  refine s_blx (lv' := [(0, vR 0), (1, vI a), (2, vI b), (3, vI c), (4, vI d_), (5, vI e)]) (st' := [vI 400, vI (w1 + 20)]) B110_4_10 rfl ?_
  refine r_icmp (tgt := 15) (pc' := 13) D110_10 rfl rfl (by unfold inR; omega) (fun (c4 : (w1 + 20) ≤ 400) => ?_) (fun (c4 : ¬ ((w1 + 20) ≤ 400)) => ?_)
  · refine s_blx (lv' := [(0, vR 0), (1, vI a), (2, vI b), (3, vI c), (4, vI d_), (5, vI e)]) (st' := [vI a, vR 0]) B110_15_17 rfl ?_
    have g5 : gi M 0 3 = w1 := e2.symm
    refine r_vV (c := 0) (args := [vI a]) (rest := []) (pc' := 20) D110_17 rfl ck_10_virtual_233 TE136 rfl (Nat.le_of_ble_eq_true rfl) ⟨Nat.le_of_ble_eq_true rfl, Nat.le_of_ble_eq_true rfl⟩ sc_0 ⟨rfl, by decide⟩ H.1 (dp_0 hd rfl) (k136 E (dp_n hd rfl) H a (by omega) (by omega)) ?_
    intro M7 q11
    obtain ⟨H8, f9, q10⟩ := q11
    have f12 := f0.tr (f9.up rfl)
    refine s_blx (lv' := [(0, vR 0), (1, vI a), (2, vI b), (3, vI c), (4, vI d_), (5, vI e)]) (st' := [vI b, vR 0]) B110_20_22 rfl ?_
    refine r_vV (c := 0) (args := [vI b]) (rest := []) (pc' := 25) D110_22 rfl ck_10_virtual_233 TE136 rfl (Nat.le_of_ble_eq_true rfl) ⟨Nat.le_of_ble_eq_true rfl, Nat.le_of_ble_eq_true rfl⟩ sc_0 ⟨rfl, by decide⟩ H8.1 (dp_0 hd rfl) (k136 E (dp_n hd rfl) H8 b (by omega) (by omega)) ?_
    intro M14 q18
    obtain ⟨H15, f16, q17⟩ := q18
    have f19 := f12.tr (f16.up rfl)
    refine s_blx (lv' := [(0, vR 0), (1, vI a), (2, vI b), (3, vI c), (4, vI d_), (5, vI e)]) (st' := [vI c, vR 0]) B110_25_27 rfl ?_
    refine r_vV (c := 0) (args := [vI c]) (rest := []) (pc' := 30) D110_27 rfl ck_10_virtual_233 TE136 rfl (Nat.le_of_ble_eq_true rfl) ⟨Nat.le_of_ble_eq_true rfl, Nat.le_of_ble_eq_true rfl⟩ sc_0 ⟨rfl, by decide⟩ H15.1 (dp_0 hd rfl) (k136 E (dp_n hd rfl) H15 c (by omega) (by omega)) ?_
    intro M21 q25
    obtain ⟨H22, f23, q24⟩ := q25
    have f26 := f19.tr (f23.up rfl)
    refine s_blx (lv' := [(0, vR 0), (1, vI a), (2, vI b), (3, vI c), (4, vI d_), (5, vI e)]) (st' := [vI d_, vR 0]) B110_30_33 rfl ?_
    refine r_vV (c := 0) (args := [vI d_]) (rest := []) (pc' := 36) D110_33 rfl ck_10_virtual_233 TE136 rfl (Nat.le_of_ble_eq_true rfl) ⟨Nat.le_of_ble_eq_true rfl, Nat.le_of_ble_eq_true rfl⟩ sc_0 ⟨rfl, by decide⟩ H22.1 (dp_0 hd rfl) (k136 E (dp_n hd rfl) H22 d_ (by omega) (by omega)) ?_
    intro M28 q32
    obtain ⟨H29, f30, q31⟩ := q32
    have f33 := f26.tr (f30.up rfl)
    refine s_blx (lv' := [(0, vR 0), (1, vI a), (2, vI b), (3, vI c), (4, vI d_), (5, vI e)]) (st' := [vI e, vR 0]) B110_36_39 rfl ?_
    refine r_vV (c := 0) (args := [vI e]) (rest := []) (pc' := 42) D110_39 rfl ck_10_virtual_233 TE136 rfl (Nat.le_of_ble_eq_true rfl) ⟨Nat.le_of_ble_eq_true rfl, Nat.le_of_ble_eq_true rfl⟩ sc_0 ⟨rfl, by decide⟩ H29.1 (dp_0 hd rfl) (k136 E (dp_n hd rfl) H29 e (by omega) (by omega)) ?_
    intro M35 q39
    obtain ⟨H36, f37, q38⟩ := q39
    have f40 := f33.tr (f37.up rfl)
    refine s_blx (lv' := [(0, vR 0), (1, vI a), (2, vI b), (3, vI c), (4, vI d_), (5, vI e)]) (st' := [vR 0]) B110_42_43 rfl ?_
    refine r_gint (ki := 3) (pc' := 46) D110_43 rfl gf_10_24_0 rfl H36.1 ?_
    intro w41 e42 r43
    have b_w41 := H36.2 0 (3) 0 400 rfl
    rw [← e42] at b_w41; clear r43
    exact r_iretI D110_46 rfl (⟨H36, f40⟩)
  · refine s_blx (lv' := [(0, vR 0), (1, vI a), (2, vI b), (3, vI c), (4, vI d_), (5, vI e)]) (st' := [vI (-1)]) B110_13_14 rfl ?_
    exact r_iretI D110_14 rfl (⟨H, f0⟩)
set_option maxRecDepth 4000 in
theorem k111 {base : Nat} {X : Nat → Option mC} {G : Nat → Value} (E : EnvOK base X G) {d : Nat} (hd : 1 ≤ d) {M : mH} (H : HI base M) (n : Int) (h0 : -2147483648 ≤ n ∧ n ≤ 2147483647) : sOk base X G d T111 [vR 0, vI n] M (pI (fun v M' => HI base M' ∧ Fr [(0, 4)] M M')) := by
  have f0 : Fr [(0, 4)] M M := Fr.rf
  refine sOk.of (show sRn base X G d T111 0 [(0, vR 0), (1, vI n)] [] M _ from ?_)
  refine s_blx (lv' := [(0, vR 0), (1, vI n)]) (st' := [vR 0, vI 0, vI n]) B111_0_3 rfl ?_
  refine r_gint (ki := 3) (pc' := 6) D111_3 rfl gf_10_24_0 rfl H.1 ?_
  intro w1 e2 r3
  have b_w1 := H.2 0 (3) 0 400 rfl
  rw [← e2] at b_w1; clear r3
  refine r_sIp (args := [vI n, vI 0, vI w1]) (rest := []) (pc' := 9) D111_6 rfl ck_10_static_102 TE142 rfl (Nat.le_of_ble_eq_true rfl) ⟨Nat.le_of_ble_eq_true rfl, Nat.le_of_ble_eq_true rfl⟩ (by decide) (dp_0 hd rfl) (k142 E (dp_n hd rfl) H n 0 w1 (by omega) (by omega) (by omega)) ?_
  intro v4 q9
  obtain ⟨q6, q7, q8⟩ := q9
  refine r_ifc (tgt := 14) (pc' := 12) D111_9 rfl rfl (by unfold inR; omega) (fun (c10 : v4 ≠ 0) => ?_) (fun (c10 : ¬ (v4 ≠ 0)) => ?_)
  · refine s_blx (lv' := [(0, vR 0), (1, vI n)]) (st' := [vI n, vR 0]) B111_14_16 rfl ?_
    refine r_pint (ki := 3) (pc' := 19) D111_16 rfl pf_10_24_0 rfl H (by unfold inR; omega) (show 0 ≤ n ∧ n ≤ 400 by omega) ?_
    intro M11 u12 H13 p14
    have f15 := f0.wr u12 rfl
    refine s_blx (lv' := [(0, vR 0), (1, vI n)]) (st' := [vI n]) B111_19_20 rfl ?_
    exact r_iretI D111_20 rfl (⟨H13, f15⟩)
  · refine s_blx (lv' := [(0, vR 0), (1, vI n)]) (st' := [vI (-1)]) B111_12_13 rfl ?_
    exact r_iretI D111_13 rfl (⟨H, f0⟩)
set_option maxRecDepth 4000 in
theorem k113 {base : Nat} {X : Nat → Option mC} {G : Nat → Value} (E : EnvOK base X G) {d : Nat} (hd : 0 ≤ d) {M : mH} (H : HI base M) : sOk base X G d T113 [vR 0] M (pI (fun v M' => M' = M ∧ True)) := by
  refine sOk.of (show sRn base X G d T113 0 [(0, vR 0)] [] M _ from ?_)
  refine s_blx (lv' := [(0, vR 0)]) (st' := [vR 0]) B113_0_1 rfl ?_
  refine r_gint (ki := 4) (pc' := 4) D113_1 rfl gf_10_28_0 rfl H.1 ?_
  intro w1 e2 r3
  unfold inR at r3
  exact r_iretI D113_4 rfl (⟨rfl, trivial⟩)
set_option maxRecDepth 4000 in
theorem k132 {base : Nat} {X : Nat → Option mC} {G : Nat → Value} (E : EnvOK base X G) {d : Nat} (hd : 0 ≤ d) {M : mH} (H : HI base M) : sOk base X G d T132 [vR 0] M (pI (fun v M' => M' = M ∧ True)) := by
  refine sOk.of (show sRn base X G d T132 0 [(0, vR 0)] [] M _ from ?_)
  refine s_blx (lv' := [(0, vR 0)]) (st' := [vR 0]) B132_0_1 rfl ?_
  refine r_gint (ki := 5) (pc' := 4) D132_1 rfl gf_10_31_0 rfl H.1 ?_
  intro w1 e2 r3
  unfold inR at r3
  exact r_iretI D132_4 rfl (⟨rfl, trivial⟩)
set_option maxRecDepth 4000 in
theorem k131 {base : Nat} {X : Nat → Option mC} {G : Nat → Value} (E : EnvOK base X G) {d : Nat} (hd : 0 ≤ d) {M : mH} (H : HI base M) (what : Int) (h0 : -2147483648 ≤ what ∧ what ≤ 2147483647) : sOk base X G d T131 [vR 0, vI what] M (pI (fun v M' => M' = M ∧ True)) := by
  refine sOk.of (show sRn base X G d T131 0 [(0, vR 0), (1, vI what)] [] M _ from ?_)
  refine s_blx (lv' := [(0, vR 0), (1, vI what)]) (st' := [vI what]) B131_0_1 rfl ?_
  refine r_tsw (tgt := fun k => if k = 0 then 36 else if k = 1 then 44 else if k = 2 then 52 else if k = 3 then 60 else if k = 4 then 68 else 0) (td := 73) D131_1 (by unfold inR; omega) ?_ rfl ?_ ?_
  · intro k h1 h2
    have hk : k = 0 ∨ k = 1 ∨ k = 2 ∨ k = 3 ∨ k = 4 := by omega
    rcases hk with rfl | rfl | rfl | rfl | rfl <;> exact ⟨_, rfl, rfl⟩
  · intro k h1 h2 c1
    have hk : k = 0 ∨ k = 1 ∨ k = 2 ∨ k = 3 ∨ k = 4 := by omega
    clear h1 h2
    rcases hk with rfl | rfl | rfl | rfl | rfl
    · show sRn _ _ _ _ _ 36 _ _ _ _
      refine s_blx (lv' := [(0, vR 0), (1, vI what)]) (st' := [vR 0]) B131_36_37 rfl ?_
      refine r_gfix (r := 1) (pc' := 40) D131_37 rfl gf_10_10_0 H.1 ?_
      refine r_gint (ki := 10) (pc' := 43) D131_40 rfl gf_10_163_1 rfl H.1 ?_
      intro w2 e3 r4
      have b_w2 := H.2 1 (10) 0 16 rfl
      rw [← e3] at b_w2; clear r4
      exact r_iretI D131_43 rfl (⟨rfl, trivial⟩)
    · show sRn _ _ _ _ _ 44 _ _ _ _
      refine s_blx (lv' := [(0, vR 0), (1, vI what)]) (st' := [vR 0]) B131_44_45 rfl ?_
      refine r_gfix (r := 1) (pc' := 48) D131_45 rfl gf_10_10_0 H.1 ?_
      refine r_gint (ki := 4) (pc' := 51) D131_48 rfl gf_10_139_1 rfl H.1 ?_
      intro w5 e6 r7
      have b_w5 := H.2 1 (4) 0 12 rfl
      rw [← e6] at b_w5; clear r7
      exact r_iretI D131_51 rfl (⟨rfl, trivial⟩)
    · show sRn _ _ _ _ _ 52 _ _ _ _
      refine s_blx (lv' := [(0, vR 0), (1, vI what)]) (st' := [vR 0]) B131_52_53 rfl ?_
      refine r_gfix (r := 1) (pc' := 56) D131_53 rfl gf_10_10_0 H.1 ?_
      refine r_gint (ki := 12) (pc' := 59) D131_56 rfl gf_10_237_1 rfl H.1 ?_
      intro w8 e9 r10
      have b_w8 := H.2 1 (12) 0 8 rfl
      rw [← e9] at b_w8; clear r10
      exact r_iretI D131_59 rfl (⟨rfl, trivial⟩)
    · show sRn _ _ _ _ _ 60 _ _ _ _
      refine s_blx (lv' := [(0, vR 0), (1, vI what)]) (st' := [vR 0]) B131_60_61 rfl ?_
      refine r_gfix (r := 1) (pc' := 64) D131_61 rfl gf_10_10_0 H.1 ?_
      refine r_gint (ki := 14) (pc' := 67) D131_64 rfl gf_10_279_1 rfl H.1 ?_
      intro w11 e12 r13
      have b_w11 := H.2 1 (14) 0 6 rfl
      rw [← e12] at b_w11; clear r13
      exact r_iretI D131_67 rfl (⟨rfl, trivial⟩)
    · show sRn _ _ _ _ _ 68 _ _ _ _
      refine s_blx (lv' := [(0, vR 0), (1, vI what)]) (st' := [vR 0]) B131_68_69 rfl ?_
      refine r_gint (ki := 3) (pc' := 72) D131_69 rfl gf_10_24_0 rfl H.1 ?_
      intro w14 e15 r16
      have b_w14 := H.2 0 (3) 0 400 rfl
      rw [← e15] at b_w14; clear r16
      exact r_iretI D131_72 rfl (⟨rfl, trivial⟩)
  · intro c1
    refine s_blx (lv' := [(0, vR 0), (1, vI what)]) (st' := [vI (-1)]) B131_73_74 rfl ?_
    exact r_iretI D131_74 rfl (⟨rfl, trivial⟩)
set_option maxRecDepth 4000 in
theorem k115 {base : Nat} {X : Nat → Option mC} {G : Nat → Value} (E : EnvOK base X G) {d : Nat} (hd : 1 ≤ d) {M : mH} (H : HI base M) (second : Int) (h0 : -2147483648 ≤ second ∧ second ≤ 2147483647) : sOk base X G d T115 [vR 0, vI second] M (pI (fun v M' => M' = M ∧ True)) := by
  refine sOk.of (show sRn base X G d T115 0 [(0, vR 0), (1, vI second)] [] M _ from ?_)
  refine s_blx (lv' := [(0, vR 0), (1, vI second)]) (st' := [vR 0, vI 0, vI second]) B115_0_3 rfl ?_
  refine r_gfix (r := 62) (pc' := 6) D115_3 rfl gf_10_74_0 H.1 ?_
  refine r_gint (ki := 1) (pc' := 9) D115_6 rfl gf_10_263_62 rfl H.1 ?_
  intro w1 e2 r3
  have b_w1 := H.2 62 (1) 0 12 rfl
  rw [← e2] at b_w1; clear r3
  refine s_blx (lv' := [(0, vR 0), (1, vI second)]) (st' := [vI (w1 - 1), vI 0, vI second]) B115_9_11 rfl ?_
  refine r_sIp (args := [vI second, vI 0, vI (w1 - 1)]) (rest := []) (pc' := 14) D115_11 rfl ck_10_static_102 TE142 rfl (Nat.le_of_ble_eq_true rfl) ⟨Nat.le_of_ble_eq_true rfl, Nat.le_of_ble_eq_true rfl⟩ (by decide) (dp_0 hd rfl) (k142 E (dp_n hd rfl) H second 0 (w1 - 1) (by omega) (by omega) (by omega)) ?_
  intro v4 q9
  obtain ⟨q6, q7, q8⟩ := q9
  refine r_ifc (tgt := 29) (pc' := 17) D115_14 rfl rfl (by unfold inR; omega) (fun (c10 : v4 = 0) => ?_) (fun (c10 : ¬ (v4 = 0)) => ?_)
  · refine s_blx (lv' := [(0, vR 0), (1, vI second)]) (st' := [vI (-1)]) B115_29_30 rfl ?_
    exact r_iretI D115_30 rfl (⟨rfl, trivial⟩)
  · refine s_blx (lv' := [(0, vR 0), (1, vI second)]) (st' := [vR 0]) B115_17_18 rfl ?_
    refine r_gfix (r := 62) (pc' := 21) D115_18 rfl gf_10_74_0 H.1 ?_
    refine r_gfix (r := 63) (pc' := 24) D115_21 rfl gf_10_266_62 H.1 ?_
    refine s_blx (lv' := [(0, vR 0), (1, vI second)]) (st' := [vI second, vR 63]) B115_24_25 rfl ?_
    refine r_iald (pc' := 26) D115_25 rfl sc_63 H.1 (by omega) ?_
    intro w11 e12 r13
    unfold inR at r13
    refine r_goto (tgt := 30) D115_26 rfl ?_
    exact r_iretI D115_30 rfl (⟨rfl, trivial⟩)
set_option maxRecDepth 4000 in
theorem k119 {base : Nat} {X : Nat → Option mC} {G : Nat → Value} (E : EnvOK base X G) {d : Nat} (hd : 1 ≤ d) {M : mH} (H : HI base M) (lag : Int) (keeps : Int) (limit : Int) (h0 : -2147483648 ≤ lag ∧ lag ≤ 2147483647) (h1 : -2147483648 ≤ keeps ∧ keeps ≤ 2147483647) (h2 : -2147483648 ≤ limit ∧ limit ≤ 2147483647) : sOk base X G d T119 [vR 0, vI lag, vI keeps, vI limit] M (pI (fun v M' => HI base M' ∧ Fr [(0, 6), (0, 10), (1, 15), (10, 0)] M M')) := by
  have f0 : Fr [(0, 6), (0, 10), (1, 15), (10, 0)] M M := Fr.rf
  refine sOk.of (show sRn base X G d T119 0 [(0, vR 0), (1, vI lag), (2, vI keeps), (3, vI limit)] [] M _ from ?_)
  refine s_blx (lv' := [(0, vR 0), (1, vI lag), (2, vI keeps), (3, vI limit)]) (st' := [vI 60, vI 0, vI lag]) B119_0_4 rfl ?_
  refine r_sIp (args := [vI lag, vI 0, vI 60]) (rest := []) (pc' := 7) D119_4 rfl ck_10_static_102 TE142 rfl (Nat.le_of_ble_eq_true rfl) ⟨Nat.le_of_ble_eq_true rfl, Nat.le_of_ble_eq_true rfl⟩ (by decide) (dp_0 hd rfl) (k142 E (dp_n hd rfl) H lag 0 60 (by omega) (by omega) (by omega)) ?_
  intro v1 q6
  obtain ⟨q3, q4, q5⟩ := q6
  refine r_ifc (tgt := 31) (pc' := 10) D119_7 rfl rfl (by unfold inR; omega) (fun (c7 : v1 = 0) => ?_) (fun (c7 : ¬ (v1 = 0)) => ?_)
  · refine s_blx (lv' := [(0, vR 0), (1, vI lag), (2, vI keeps), (3, vI limit)]) (st' := [vI (-1), vR 0]) B119_31_33 rfl ?_
    refine r_vI (c := 0) (args := [vI (-1)]) (rest := []) (pc' := 36) D119_33 rfl ck_10_virtual_106 TE133 rfl (Nat.le_of_ble_eq_true rfl) ⟨Nat.le_of_ble_eq_true rfl, Nat.le_of_ble_eq_true rfl⟩ sc_0 ⟨rfl, by decide⟩ H.1 (dp_0 hd rfl) (k133 E (dp_n hd rfl) H (-1) (by omega)) ?_
    intro v8 M9 q13
    obtain ⟨H10, f11, q12⟩ := q13
    have f14 := f0.tr (f11.up rfl)
    exact r_iretI D119_36 rfl (⟨H10, f14⟩)
  · refine s_blx (lv' := [(0, vR 0), (1, vI lag), (2, vI keeps), (3, vI limit)]) (st' := [vI 100, vI 0, vI keeps]) B119_10_14 rfl ?_
    refine r_sIp (args := [vI keeps, vI 0, vI 100]) (rest := []) (pc' := 17) D119_14 rfl ck_10_static_102 TE142 rfl (Nat.le_of_ble_eq_true rfl) ⟨Nat.le_of_ble_eq_true rfl, Nat.le_of_ble_eq_true rfl⟩ (by decide) (dp_0 hd rfl) (k142 E (dp_n hd rfl) H keeps 0 100 (by omega) (by omega) (by omega)) ?_
    intro v15 q20
    obtain ⟨q17, q18, q19⟩ := q20
    refine r_ifc (tgt := 31) (pc' := 20) D119_17 rfl rfl (by unfold inR; omega) (fun (c21 : v15 = 0) => ?_) (fun (c21 : ¬ (v15 = 0)) => ?_)
    · refine s_blx (lv' := [(0, vR 0), (1, vI lag), (2, vI keeps), (3, vI limit)]) (st' := [vI (-1), vR 0]) B119_31_33 rfl ?_
      refine r_vI (c := 0) (args := [vI (-1)]) (rest := []) (pc' := 36) D119_33 rfl ck_10_virtual_106 TE133 rfl (Nat.le_of_ble_eq_true rfl) ⟨Nat.le_of_ble_eq_true rfl, Nat.le_of_ble_eq_true rfl⟩ sc_0 ⟨rfl, by decide⟩ H.1 (dp_0 hd rfl) (k133 E (dp_n hd rfl) H (-1) (by omega)) ?_
      intro v22 M23 q27
      obtain ⟨H24, f25, q26⟩ := q27
      have f28 := f0.tr (f25.up rfl)
      exact r_iretI D119_36 rfl (⟨H24, f28⟩)
    · refine s_blx (lv' := [(0, vR 0), (1, vI lag), (2, vI keeps), (3, vI limit)]) (st' := [vI 300, vI 0, vI limit]) B119_20_25 rfl ?_
      refine r_sIp (args := [vI limit, vI 0, vI 300]) (rest := []) (pc' := 28) D119_25 rfl ck_10_static_102 TE142 rfl (Nat.le_of_ble_eq_true rfl) ⟨Nat.le_of_ble_eq_true rfl, Nat.le_of_ble_eq_true rfl⟩ (by decide) (dp_0 hd rfl) (k142 E (dp_n hd rfl) H limit 0 300 (by omega) (by omega) (by omega)) ?_
      intro v29 q34
      obtain ⟨q31, q32, q33⟩ := q34
      refine r_ifc (tgt := 37) (pc' := 31) D119_28 rfl rfl (by unfold inR; omega) (fun (c35 : v29 ≠ 0) => ?_) (fun (c35 : ¬ (v29 ≠ 0)) => ?_)
      · refine s_blx (lv' := [(0, vR 0), (1, vI lag), (2, vI keeps), (3, vI limit)]) (st' := [vR 0]) B119_37_38 rfl ?_
        refine r_gfix (r := 1) (pc' := 41) D119_38 rfl gf_10_10_0 H.1 ?_
        refine r_gint (ki := 14) (pc' := 44) D119_41 rfl gf_10_279_1 rfl H.1 ?_
        intro w36 e37 r38
        have b_w36 := H.2 1 (14) 0 6 rfl
        rw [← e37] at b_w36; clear r38
        refine s_blx (lv' := [(0, vR 0), (1, vI lag), (2, vI keeps), (3, vI limit)]) (st' := [vI 6, vI w36]) B119_44_46 rfl ?_
        refine r_icmp (tgt := 56) (pc' := 49) D119_46 rfl rfl (by unfold inR; omega) (fun (c39 : w36 < 6) => ?_) (fun (c39 : ¬ (w36 < 6)) => ?_)
        · refine s_blx (lv' := [(0, vR 0), (1, vI lag), (2, vI keeps), (3, vI limit)]) (st' := [vR 0, vR 0]) B119_56_58 rfl ?_
          refine r_gfix (r := 1) (pc' := 61) D119_58 rfl gf_10_10_0 H.1 ?_
          refine s_blx (lv' := [(0, vR 0), (1, vI lag), (2, vI keeps), (3, vI limit)]) (st' := [vI limit, vI keeps, vI lag, vR 1, vR 0]) B119_61_64 rfl ?_
          have g40 : gi M 1 14 = w36 := e37.symm
          refine r_vI (c := 1) (args := [vI lag, vI keeps, vI limit]) (rest := [vR 0]) (pc' := 67) D119_64 rfl ck_10_virtual_282 TE63 rfl (Nat.le_of_ble_eq_true rfl) ⟨Nat.le_of_ble_eq_true rfl, Nat.le_of_ble_eq_true rfl⟩ sc_1 ⟨rfl, by decide⟩ H.1 (dp_0 hd rfl) (k63_1 E (dp_n hd rfl) H lag keeps limit (by omega) (by omega) (by omega) (by omega)) ?_
          intro v41 M42 q46
          obtain ⟨H43, f44, q45⟩ := q46
          have f47 := f0.tr (f44.up rfl)
          refine r_vI (c := 0) (args := [vI v41]) (rest := []) (pc' := 70) D119_67 rfl ck_10_virtual_123 TE134 rfl (Nat.le_of_ble_eq_true rfl) ⟨Nat.le_of_ble_eq_true rfl, Nat.le_of_ble_eq_true rfl⟩ sc_0 ⟨rfl, by decide⟩ H43.1 (dp_0 hd rfl) (k134 E (dp_n hd rfl) H43 v41 (by omega)) ?_
          intro v48 M49 q53
          obtain ⟨H50, f51, q52⟩ := q53
          have f54 := f47.tr (f51.up rfl)
          exact r_iretI D119_70 rfl (⟨H50, f54⟩)
        · refine s_blx (lv' := [(0, vR 0), (1, vI lag), (2, vI keeps), (3, vI limit)]) (st' := [vI (-5), vR 0]) B119_49_52 rfl ?_
          refine r_vI (c := 0) (args := [vI (-5)]) (rest := []) (pc' := 55) D119_52 rfl ck_10_virtual_106 TE133 rfl (Nat.le_of_ble_eq_true rfl) ⟨Nat.le_of_ble_eq_true rfl, Nat.le_of_ble_eq_true rfl⟩ sc_0 ⟨rfl, by decide⟩ H.1 (dp_0 hd rfl) (k133 E (dp_n hd rfl) H (-5) (by omega)) ?_
          intro v55 M56 q60
          obtain ⟨H57, f58, q59⟩ := q60
          have f61 := f0.tr (f58.up rfl)
          exact r_iretI D119_55 rfl (⟨H57, f61⟩)
      · refine s_blx (lv' := [(0, vR 0), (1, vI lag), (2, vI keeps), (3, vI limit)]) (st' := [vI (-1), vR 0]) B119_31_33 rfl ?_
        refine r_vI (c := 0) (args := [vI (-1)]) (rest := []) (pc' := 36) D119_33 rfl ck_10_virtual_106 TE133 rfl (Nat.le_of_ble_eq_true rfl) ⟨Nat.le_of_ble_eq_true rfl, Nat.le_of_ble_eq_true rfl⟩ sc_0 ⟨rfl, by decide⟩ H.1 (dp_0 hd rfl) (k133 E (dp_n hd rfl) H (-1) (by omega)) ?_
        intro v62 M63 q67
        obtain ⟨H64, f65, q66⟩ := q67
        have f68 := f0.tr (f65.up rfl)
        exact r_iretI D119_36 rfl (⟨H64, f68⟩)
set_option maxRecDepth 4000 in
theorem k120 {base : Nat} {X : Nat → Option mC} {G : Nat → Value} (E : EnvOK base X G) {d : Nat} (hd : 9 ≤ d) {M : mH} (H : HI base M) : sOk base X G d T120 [vR 0] M (pI (fun v M' => HI base M' ∧ Fr [(66, 2), (66, 4), (67, 0), (68, 0)] M M')) := by
  have f0 : Fr [(66, 2), (66, 4), (67, 0), (68, 0)] M M := Fr.rf
  refine sOk.of (show sRn base X G d T120 0 [(0, vR 0)] [] M _ from ?_)
  refine s_blx (lv' := [(0, vR 0)]) (st' := [vR 0]) B120_0_1 rfl ?_
  refine r_gfix (r := 1) (pc' := 4) D120_1 rfl gf_10_10_0 H.1 ?_
  refine r_gint (ki := 14) (pc' := 7) D120_4 rfl gf_10_279_1 rfl H.1 ?_
  intro w1 e2 r3
  have b_w1 := H.2 1 (14) 0 6 rfl
  rw [← e2] at b_w1; clear r3
  refine s_blx (lv' := [(0, vR 0)]) (st' := [vI 1, vI w1]) B120_7_8 rfl ?_
  refine r_icmp (tgt := 15) (pc' := 11) D120_8 rfl rfl (by unfold inR; omega) (fun (c4 : 1 ≤ w1) => ?_) (fun (c4 : ¬ (1 ≤ w1)) => ?_)
  · refine s_blx (lv' := [(0, vR 0)]) (st' := [vR 0]) B120_15_16 rfl ?_
    refine r_gfix (r := 66) (pc' := 19) D120_16 rfl gf_10_80_0 H.1 ?_
    refine s_blx (lv' := [(0, vR 0)]) (st' := [vR 0, vR 66]) B120_19_20 rfl ?_
    refine r_gfix (r := 1) (pc' := 23) D120_20 rfl gf_10_10_0 H.1 ?_
    refine r_gfix (r := 10) (pc' := 26) D120_23 rfl gf_10_285_1 H.1 ?_
    refine s_blx (lv' := [(0, vR 0)]) (st' := [vR 0, vR 10, vR 66]) B120_26_27 rfl ?_
    refine r_gfix (r := 1) (pc' := 30) D120_27 rfl gf_10_10_0 H.1 ?_
    refine r_gint (ki := 14) (pc' := 33) D120_30 rfl gf_10_279_1 rfl H.1 ?_
    intro w5 e6 r7
    have e8 : w1 = w5 := (e6.trans (e2.symm)).symm
    subst e8
    refine r_vI (c := 66) (args := [vR 10, vI w1]) (rest := []) (pc' := 36) D120_33 rfl ck_10_virtual_288 TE10 rfl (Nat.le_of_ble_eq_true rfl) ⟨Nat.le_of_ble_eq_true rfl, Nat.le_of_ble_eq_true rfl⟩ sc_66 ⟨rfl, by decide⟩ H.1 (dp_0 hd rfl) (k10_66_10 E (dp_n hd rfl) H w1 (by omega)) ?_
    intro v9 M10 q14
    obtain ⟨H11, f12, q13⟩ := q14
    have f15 := f0.tr (f12.up rfl)
    exact r_iretI D120_36 rfl (⟨H11, f15⟩)
  · refine s_blx (lv' := [(0, vR 0)]) (st' := [vI (-1)]) B120_11_12 rfl ?_
    refine r_goto (tgt := 36) D120_12 rfl ?_
    exact r_iretI D120_36 rfl (⟨H, f0⟩)
set_option maxRecDepth 4000 in
theorem k121 {base : Nat} {X : Nat → Option mC} {G : Nat → Value} (E : EnvOK base X G) {d : Nat} (hd : 1 ≤ d) {M : mH} (H : HI base M) (i : Int) (h0 : -2147483648 ≤ i ∧ i ≤ 2147483647) : sOk base X G d T121 [vR 0, vI i] M (pI (fun v M' => M' = M ∧ True)) := by
  refine sOk.of (show sRn base X G d T121 0 [(0, vR 0), (1, vI i)] [] M _ from ?_)
  refine s_blx (lv' := [(0, vR 0), (1, vI i)]) (st' := [vR 0, vI 0, vI i]) B121_0_3 rfl ?_
  refine r_gfix (r := 66) (pc' := 6) D121_3 rfl gf_10_80_0 H.1 ?_
  refine r_gint (ki := 1) (pc' := 9) D121_6 rfl gf_10_291_66 rfl H.1 ?_
  intro w1 e2 r3
  have b_w1 := H.2 66 (1) 0 6 rfl
  rw [← e2] at b_w1; clear r3
  refine s_blx (lv' := [(0, vR 0), (1, vI i)]) (st' := [vI (w1 - 1), vI 0, vI i]) B121_9_11 rfl ?_
  refine r_sIp (args := [vI i, vI 0, vI (w1 - 1)]) (rest := []) (pc' := 14) D121_11 rfl ck_10_static_102 TE142 rfl (Nat.le_of_ble_eq_true rfl) ⟨Nat.le_of_ble_eq_true rfl, Nat.le_of_ble_eq_true rfl⟩ (by decide) (dp_0 hd rfl) (k142 E (dp_n hd rfl) H i 0 (w1 - 1) (by omega) (by omega) (by omega)) ?_
  intro v4 q9
  obtain ⟨q6, q7, q8⟩ := q9
  refine r_ifc (tgt := 29) (pc' := 17) D121_14 rfl rfl (by unfold inR; omega) (fun (c10 : v4 = 0) => ?_) (fun (c10 : ¬ (v4 = 0)) => ?_)
  · refine s_blx (lv' := [(0, vR 0), (1, vI i)]) (st' := [vI (-1)]) B121_29_30 rfl ?_
    exact r_iretI D121_30 rfl (⟨rfl, trivial⟩)
  · refine s_blx (lv' := [(0, vR 0), (1, vI i)]) (st' := [vR 0]) B121_17_18 rfl ?_
    refine r_gfix (r := 66) (pc' := 21) D121_18 rfl gf_10_80_0 H.1 ?_
    refine r_gfix (r := 67) (pc' := 24) D121_21 rfl gf_10_294_66 H.1 ?_
    refine s_blx (lv' := [(0, vR 0), (1, vI i)]) (st' := [vI i, vR 67]) B121_24_25 rfl ?_
    refine r_iald (pc' := 26) D121_25 rfl sc_67 H.1 (by omega) ?_
    intro w11 e12 r13
    unfold inR at r13
    refine r_goto (tgt := 30) D121_26 rfl ?_
    exact r_iretI D121_30 rfl (⟨rfl, trivial⟩)
set_option maxRecDepth 4000 in
theorem k122 {base : Nat} {X : Nat → Option mC} {G : Nat → Value} (E : EnvOK base X G) {d : Nat} (hd : 1 ≤ d) {M : mH} (H : HI base M) (minute : Int) (cost : Int) (h0 : -2147483648 ≤ minute ∧ minute ≤ 2147483647) (h1 : -2147483648 ≤ cost ∧ cost ≤ 2147483647) : sOk base X G d T122 [vR 0, vI minute, vI cost] M (pI (fun v M' => HI base M' ∧ Fr [(0, 6), (0, 10), (11, 0)] M M')) := by
  have f0 : Fr [(0, 6), (0, 10), (11, 0)] M M := Fr.rf
  refine sOk.of (show sRn base X G d T122 0 [(0, vR 0), (1, vI minute), (2, vI cost)] [] M _ from ?_)
  refine s_blx (lv' := [(0, vR 0), (1, vI minute), (2, vI cost)]) (st' := [vI 59, vI 0, vI minute]) B122_0_4 rfl ?_
  refine r_sIp (args := [vI minute, vI 0, vI 59]) (rest := []) (pc' := 7) D122_4 rfl ck_10_static_102 TE142 rfl (Nat.le_of_ble_eq_true rfl) ⟨Nat.le_of_ble_eq_true rfl, Nat.le_of_ble_eq_true rfl⟩ (by decide) (dp_0 hd rfl) (k142 E (dp_n hd rfl) H minute 0 59 (by omega) (by omega) (by omega)) ?_
  intro v1 q6
  obtain ⟨q3, q4, q5⟩ := q6
  refine r_ifc (tgt := 21) (pc' := 10) D122_7 rfl rfl (by unfold inR; omega) (fun (c7 : v1 = 0) => ?_) (fun (c7 : ¬ (v1 = 0)) => ?_)
  · refine s_blx (lv' := [(0, vR 0), (1, vI minute), (2, vI cost)]) (st' := [vI (-1), vR 0]) B122_21_23 rfl ?_
    refine r_vI (c := 0) (args := [vI (-1)]) (rest := []) (pc' := 26) D122_23 rfl ck_10_virtual_106 TE133 rfl (Nat.le_of_ble_eq_true rfl) ⟨Nat.le_of_ble_eq_true rfl, Nat.le_of_ble_eq_true rfl⟩ sc_0 ⟨rfl, by decide⟩ H.1 (dp_0 hd rfl) (k133 E (dp_n hd rfl) H (-1) (by omega)) ?_
    intro v8 M9 q13
    obtain ⟨H10, f11, q12⟩ := q13
    have f14 := f0.tr (f11.up rfl)
    exact r_iretI D122_26 rfl (⟨H10, f14⟩)
  · refine s_blx (lv' := [(0, vR 0), (1, vI minute), (2, vI cost)]) (st' := [vI 1000, vI 0, vI cost]) B122_10_15 rfl ?_
    refine r_sIp (args := [vI cost, vI 0, vI 1000]) (rest := []) (pc' := 18) D122_15 rfl ck_10_static_102 TE142 rfl (Nat.le_of_ble_eq_true rfl) ⟨Nat.le_of_ble_eq_true rfl, Nat.le_of_ble_eq_true rfl⟩ (by decide) (dp_0 hd rfl) (k142 E (dp_n hd rfl) H cost 0 1000 (by omega) (by omega) (by omega)) ?_
    intro v15 q20
    obtain ⟨q17, q18, q19⟩ := q20
    refine r_ifc (tgt := 27) (pc' := 21) D122_18 rfl rfl (by unfold inR; omega) (fun (c21 : v15 ≠ 0) => ?_) (fun (c21 : ¬ (v15 ≠ 0)) => ?_)
    · refine s_blx (lv' := [(0, vR 0), (1, vI minute), (2, vI cost)]) (st' := [vR 0, vR 0]) B122_27_29 rfl ?_
      refine r_gfix (r := 1) (pc' := 32) D122_29 rfl gf_10_10_0 H.1 ?_
      refine r_gfix (r := 11) (pc' := 35) D122_32 rfl gf_10_297_1 H.1 ?_
      refine s_blx (lv' := [(0, vR 0), (1, vI minute), (2, vI cost)]) (st' := [vI cost, vI minute, vR 11, vR 0]) B122_35_37 rfl ?_
      refine r_sI (args := [vR 11, vI minute, vI cost]) (rest := [vR 0]) (pc' := 40) D122_37 rfl ck_10_static_119 TE145 rfl (Nat.le_of_ble_eq_true rfl) ⟨Nat.le_of_ble_eq_true rfl, Nat.le_of_ble_eq_true rfl⟩ (by decide) (dp_0 hd rfl) (k145_11 E (dp_n hd rfl) H minute cost (by omega) (by omega)) ?_
      intro v22 M23 q27
      obtain ⟨H24, f25, q26⟩ := q27
      have f28 := f0.tr (f25.up rfl)
      refine r_vI (c := 0) (args := [vI v22]) (rest := []) (pc' := 43) D122_40 rfl ck_10_virtual_123 TE134 rfl (Nat.le_of_ble_eq_true rfl) ⟨Nat.le_of_ble_eq_true rfl, Nat.le_of_ble_eq_true rfl⟩ sc_0 ⟨rfl, by decide⟩ H24.1 (dp_0 hd rfl) (k134 E (dp_n hd rfl) H24 v22 (by omega)) ?_
      intro v29 M30 q34
      obtain ⟨H31, f32, q33⟩ := q34
      have f35 := f28.tr (f32.up rfl)
      exact r_iretI D122_43 rfl (⟨H31, f35⟩)
    · refine s_blx (lv' := [(0, vR 0), (1, vI minute), (2, vI cost)]) (st' := [vI (-1), vR 0]) B122_21_23 rfl ?_
      refine r_vI (c := 0) (args := [vI (-1)]) (rest := []) (pc' := 26) D122_23 rfl ck_10_virtual_106 TE133 rfl (Nat.le_of_ble_eq_true rfl) ⟨Nat.le_of_ble_eq_true rfl, Nat.le_of_ble_eq_true rfl⟩ sc_0 ⟨rfl, by decide⟩ H.1 (dp_0 hd rfl) (k133 E (dp_n hd rfl) H (-1) (by omega)) ?_
      intro v36 M37 q41
      obtain ⟨H38, f39, q40⟩ := q41
      have f42 := f0.tr (f39.up rfl)
      exact r_iretI D122_26 rfl (⟨H38, f42⟩)
set_option maxRecDepth 4000 in
theorem k123 {base : Nat} {X : Nat → Option mC} {G : Nat → Value} (E : EnvOK base X G) {d : Nat} (hd : 2 ≤ d) {M : mH} (H : HI base M) (minutes : Int) (h0 : -2147483648 ≤ minutes ∧ minutes ≤ 2147483647) : sOk base X G d T123 [vR 0, vI minutes] M (pI (fun v M' => HI base M' ∧ Fr [(69, 2), (70, 0), (71, 0), (72, 0)] M M')) := by
  have f0 : Fr [(69, 2), (70, 0), (71, 0), (72, 0)] M M := Fr.rf
  refine sOk.of (show sRn base X G d T123 0 [(0, vR 0), (1, vI minutes)] [] M _ from ?_)
  refine s_blx (lv' := [(0, vR 0), (1, vI minutes)]) (st' := [vI 120, vI 1, vI minutes]) B123_0_4 rfl ?_
  refine r_sIp (args := [vI minutes, vI 1, vI 120]) (rest := []) (pc' := 7) D123_4 rfl ck_10_static_102 TE142 rfl (Nat.le_of_ble_eq_true rfl) ⟨Nat.le_of_ble_eq_true rfl, Nat.le_of_ble_eq_true rfl⟩ (by decide) (dp_0 hd rfl) (k142 E (dp_n hd rfl) H minutes 1 120 (by omega) (by omega) (by omega)) ?_
  intro v1 q6
  obtain ⟨q3, q4, q5⟩ := q6
  refine r_ifc (tgt := 38) (pc' := 10) D123_7 rfl rfl (by unfold inR; omega) (fun (c7 : v1 = 0) => ?_) (fun (c7 : ¬ (v1 = 0)) => ?_)
  · refine s_blx (lv' := [(0, vR 0), (1, vI minutes)]) (st' := [vI (-1)]) B123_38_39 rfl ?_
    exact r_iretI D123_39 rfl (⟨H, f0⟩)
  · refine s_blx (lv' := [(0, vR 0), (1, vI minutes)]) (st' := [vR 0]) B123_10_11 rfl ?_
    refine r_gfix (r := 69) (pc' := 14) D123_11 rfl gf_10_87_0 H.1 ?_
    refine s_blx (lv' := [(0, vR 0), (1, vI minutes)]) (st' := [vR 0, vR 69]) B123_14_15 rfl ?_
    refine r_gfix (r := 1) (pc' := 18) D123_15 rfl gf_10_10_0 H.1 ?_
    refine r_gfix (r := 11) (pc' := 21) D123_18 rfl gf_10_297_1 H.1 ?_
    refine s_blx (lv' := [(0, vR 0), (1, vI minutes)]) (st' := [vR 0, vR 11, vR 69]) B123_21_22 rfl ?_
    refine r_gfix (r := 1) (pc' := 25) D123_22 rfl gf_10_10_0 H.1 ?_
    refine r_gfix (r := 3) (pc' := 28) D123_25 rfl gf_10_129_1 H.1 ?_
    refine s_blx (lv' := [(0, vR 0), (1, vI minutes)]) (st' := [vI 8, vR 3, vR 11, vR 69]) B123_28_30 rfl ?_
    refine r_iald (pc' := 31) D123_30 rfl sc_3 H.1 (by omega) ?_
    intro w8 e9 r10
    have b_w8 := H.2 3 (8) 0 1000 rfl
    rw [← e9] at b_w8; clear r10
    refine s_blx (lv' := [(0, vR 0), (1, vI minutes)]) (st' := [vI minutes, vI w8, vR 11, vR 69]) B123_31_32 rfl ?_
    refine r_vI (c := 69) (args := [vR 11, vI w8, vI minutes]) (rest := []) (pc' := 35) D123_32 rfl ck_10_virtual_300 TE40 rfl (Nat.le_of_ble_eq_true rfl) ⟨Nat.le_of_ble_eq_true rfl, Nat.le_of_ble_eq_true rfl⟩ sc_69 ⟨rfl, by decide⟩ H.1 (dp_0 hd rfl) (k40_69_11 E (dp_n hd rfl) H w8 minutes (by omega) (by omega)) ?_
    intro v11 M12 q16
    obtain ⟨H13, f14, q15⟩ := q16
    have f17 := f0.tr (f14.up rfl)
    refine r_goto (tgt := 39) D123_35 rfl ?_
    exact r_iretI D123_39 rfl (⟨H13, f17⟩)
set_option maxRecDepth 4000 in
theorem k124 {base : Nat} {X : Nat → Option mC} {G : Nat → Value} (E : EnvOK base X G) {d : Nat} (hd : 1 ≤ d) {M : mH} (H : HI base M) (i : Int) (h0 : -2147483648 ≤ i ∧ i ≤ 2147483647) : sOk base X G d T124 [vR 0, vI i] M (pI (fun v M' => M' = M ∧ True)) := by
  refine sOk.of (show sRn base X G d T124 0 [(0, vR 0), (1, vI i)] [] M _ from ?_)
  refine s_blx (lv' := [(0, vR 0), (1, vI i)]) (st' := [vI (-1), vI i]) B124_0_2 rfl ?_
  refine r_icmp (tgt := 13) (pc' := 5) D124_2 rfl rfl (by unfold inR; omega) (fun (c1 : i ≠ (-1)) => ?_) (fun (c1 : ¬ (i ≠ (-1))) => ?_)
  · refine s_blx (lv' := [(0, vR 0), (1, vI i)]) (st' := [vR 0, vI 0, vI i]) B124_13_16 rfl ?_
    refine r_gfix (r := 69) (pc' := 19) D124_16 rfl gf_10_87_0 H.1 ?_
    refine r_gint (ki := 1) (pc' := 22) D124_19 rfl gf_10_302_69 rfl H.1 ?_
    intro w2 e3 r4
    have b_w2 := H.2 69 (1) (-1) 120 rfl
    rw [← e3] at b_w2; clear r4
    refine s_blx (lv' := [(0, vR 0), (1, vI i)]) (st' := [vI (w2 - 1), vI 0, vI i]) B124_22_24 rfl ?_
    refine r_sIp (args := [vI i, vI 0, vI (w2 - 1)]) (rest := []) (pc' := 27) D124_24 rfl ck_10_static_102 TE142 rfl (Nat.le_of_ble_eq_true rfl) ⟨Nat.le_of_ble_eq_true rfl, Nat.le_of_ble_eq_true rfl⟩ (by decide) (dp_0 hd rfl) (k142 E (dp_n hd rfl) H i 0 (w2 - 1) (by omega) (by omega) (by omega)) ?_
    intro v5 q10
    obtain ⟨q7, q8, q9⟩ := q10
    refine r_ifc (tgt := 42) (pc' := 30) D124_27 rfl rfl (by unfold inR; omega) (fun (c11 : v5 = 0) => ?_) (fun (c11 : ¬ (v5 = 0)) => ?_)
    · refine s_blx (lv' := [(0, vR 0), (1, vI i)]) (st' := [vI (-1)]) B124_42_43 rfl ?_
      exact r_iretI D124_43 rfl (⟨rfl, trivial⟩)
    · refine s_blx (lv' := [(0, vR 0), (1, vI i)]) (st' := [vR 0]) B124_30_31 rfl ?_
      refine r_gfix (r := 69) (pc' := 34) D124_31 rfl gf_10_87_0 H.1 ?_
      refine r_gfix (r := 70) (pc' := 37) D124_34 rfl gf_10_305_69 H.1 ?_
      refine s_blx (lv' := [(0, vR 0), (1, vI i)]) (st' := [vI i, vR 70]) B124_37_38 rfl ?_
      refine r_iald (pc' := 39) D124_38 rfl sc_70 H.1 (by omega) ?_
      intro w12 e13 r14
      unfold inR at r14
      refine r_goto (tgt := 43) D124_39 rfl ?_
      exact r_iretI D124_43 rfl (⟨rfl, trivial⟩)
  · refine s_blx (lv' := [(0, vR 0), (1, vI i)]) (st' := [vR 0]) B124_5_6 rfl ?_
    refine r_gfix (r := 69) (pc' := 9) D124_6 rfl gf_10_87_0 H.1 ?_
    refine r_gint (ki := 1) (pc' := 12) D124_9 rfl gf_10_302_69 rfl H.1 ?_
    intro w15 e16 r17
    have b_w15 := H.2 69 (1) (-1) 120 rfl
    rw [← e16] at b_w15; clear r17
    exact r_iretI D124_12 rfl (⟨rfl, trivial⟩)
set_option maxRecDepth 4000 in
theorem k125 {base : Nat} {X : Nat → Option mC} {G : Nat → Value} (E : EnvOK base X G) {d : Nat} (hd : 3 ≤ d) {M : mH} (H : HI base M) (minutes : Int) (what : Int) (h0 : -2147483648 ≤ minutes ∧ minutes ≤ 2147483647) (h1 : -2147483648 ≤ what ∧ what ≤ 2147483647) : sOk base X G d T125 [vR 0, vI minutes, vI what] M (pI (fun v M' => HI base M' ∧ Fr [(74, 0), (75, 0)] M M')) := by
  have f0 : Fr [(74, 0), (75, 0)] M M := Fr.rf
  refine sOk.of (show sRn base X G d T125 0 [(0, vR 0), (1, vI minutes), (2, vI what)] [] M _ from ?_)
  refine s_blx (lv' := [(0, vR 0), (1, vI minutes), (2, vI what)]) (st' := [vI 240, vI 0, vI minutes]) B125_0_5 rfl ?_
  refine r_sIp (args := [vI minutes, vI 0, vI 240]) (rest := []) (pc' := 8) D125_5 rfl ck_10_static_102 TE142 rfl (Nat.le_of_ble_eq_true rfl) ⟨Nat.le_of_ble_eq_true rfl, Nat.le_of_ble_eq_true rfl⟩ (by decide) (dp_0 hd rfl) (k142 E (dp_n hd rfl) H minutes 0 240 (by omega) (by omega) (by omega)) ?_
  intro v1 q6
  obtain ⟨q3, q4, q5⟩ := q6
  refine r_ifc (tgt := 20) (pc' := 11) D125_8 rfl rfl (by unfold inR; omega) (fun (c7 : v1 = 0) => ?_) (fun (c7 : ¬ (v1 = 0)) => ?_)
  · refine s_blx (lv' := [(0, vR 0), (1, vI minutes), (2, vI what)]) (st' := [vI (-1)]) B125_20_21 rfl ?_
    exact r_iretI D125_21 rfl (⟨H, f0⟩)
  · refine s_blx (lv' := [(0, vR 0), (1, vI minutes), (2, vI what)]) (st' := [vI 1, vI 0, vI what]) B125_11_14 rfl ?_
    refine r_sIp (args := [vI what, vI 0, vI 1]) (rest := []) (pc' := 17) D125_14 rfl ck_10_static_102 TE142 rfl (Nat.le_of_ble_eq_true rfl) ⟨Nat.le_of_ble_eq_true rfl, Nat.le_of_ble_eq_true rfl⟩ (by decide) (dp_0 hd rfl) (k142 E (dp_n hd rfl) H what 0 1 (by omega) (by omega) (by omega)) ?_
    intro v8 q13
    obtain ⟨q10, q11, q12⟩ := q13
    refine r_ifc (tgt := 22) (pc' := 20) D125_17 rfl rfl (by unfold inR; omega) (fun (c14 : v8 ≠ 0) => ?_) (fun (c14 : ¬ (v8 ≠ 0)) => ?_)
    · refine s_blx (lv' := [(0, vR 0), (1, vI minutes), (2, vI what)]) (st' := [vR 0]) B125_22_23 rfl ?_
      refine r_gfix (r := 73) (pc' := 26) D125_23 rfl gf_10_94_0 H.1 ?_
      refine s_blx (lv' := [(0, vR 0), (1, vI minutes), (2, vI what)]) (st' := [vR 0, vR 73]) B125_26_27 rfl ?_
      refine r_gfix (r := 1) (pc' := 30) D125_27 rfl gf_10_10_0 H.1 ?_
      refine s_blx (lv' := [(0, vR 0), (1, vI minutes), (2, vI what)]) (st' := [vI minutes, vR 1, vR 73]) B125_30_31 rfl ?_
      refine r_vV (c := 73) (args := [vR 1, vI minutes]) (rest := []) (pc' := 34) D125_31 rfl ck_10_virtual_308 TE13 rfl (Nat.le_of_ble_eq_true rfl) ⟨Nat.le_of_ble_eq_true rfl, Nat.le_of_ble_eq_true rfl⟩ sc_73 ⟨rfl, by decide⟩ H.1 (dp_0 hd rfl) (k13_73 E (dp_n hd rfl) H minutes (by omega)) ?_
      intro M16 q19
      obtain ⟨H17, f18⟩ := q19
      have f20 := f0.tr (f18.up rfl)
      refine s_blx (lv' := [(0, vR 0), (1, vI minutes), (2, vI what)]) (st' := [vI what]) B125_34_35 rfl ?_
      refine r_ifc (tgt := 50) (pc' := 38) D125_35 rfl rfl (by unfold inR; omega) (fun (c21 : what ≠ 0) => ?_) (fun (c21 : ¬ (what ≠ 0)) => ?_)
      · refine s_blx (lv' := [(0, vR 0), (1, vI minutes), (2, vI what)]) (st' := [vR 0]) B125_50_51 rfl ?_
        refine r_gfix (r := 73) (pc' := 54) D125_51 rfl gf_10_94_0 H17.1 ?_
        refine r_gfix (r := 75) (pc' := 57) D125_54 rfl gf_10_313_73 H17.1 ?_
        refine s_blx (lv' := [(0, vR 0), (1, vI minutes), (2, vI what)]) (st' := [vI minutes, vR 75]) B125_57_58 rfl ?_
        refine r_iald (pc' := 59) D125_58 rfl sc_75 H17.1 (by omega) ?_
        intro w22 e23 r24
        unfold inR at r24
        exact r_iretI D125_59 rfl (⟨H17, f20⟩)
      · refine s_blx (lv' := [(0, vR 0), (1, vI minutes), (2, vI what)]) (st' := [vR 0]) B125_38_39 rfl ?_
        refine r_gfix (r := 73) (pc' := 42) D125_39 rfl gf_10_94_0 H17.1 ?_
        refine r_gfix (r := 74) (pc' := 45) D125_42 rfl gf_10_310_73 H17.1 ?_
        refine s_blx (lv' := [(0, vR 0), (1, vI minutes), (2, vI what)]) (st' := [vI minutes, vR 74]) B125_45_46 rfl ?_
        refine r_iald (pc' := 47) D125_46 rfl sc_74 H17.1 (by omega) ?_
        intro w25 e26 r27
        unfold inR at r27
        refine r_goto (tgt := 59) D125_47 rfl ?_
        exact r_iretI D125_59 rfl (⟨H17, f20⟩)
    · refine s_blx (lv' := [(0, vR 0), (1, vI minutes), (2, vI what)]) (st' := [vI (-1)]) B125_20_21 rfl ?_
      exact r_iretI D125_21 rfl (⟨H, f0⟩)
set_option maxRecDepth 4000 in
theorem k138 {base : Nat} {X : Nat → Option mC} {G : Nat → Value} (E : EnvOK base X G) {d : Nat} (hd : 6 ≤ d) {M : mH} (H : HI base M) : sOk base X G d T138 [vR 0] M (pV (fun M' => HI base M' ∧ Fr [(0, 10), (20, 16), (20, 17), (20, 18), (21, 0), (22, 0), (23, 0), (24, 0), (25, 0), (26, 0), (27, 0), (28, 0), (29, 0), (30, 0), (31, 0), (32, 0), (33, 0), (34, 0), (35, 0)] M M')) := by
  have f0 : Fr [(0, 10), (20, 16), (20, 17), (20, 18), (21, 0), (22, 0), (23, 0), (24, 0), (25, 0), (26, 0), (27, 0), (28, 0), (29, 0), (30, 0), (31, 0), (32, 0), (33, 0), (34, 0), (35, 0)] M M := Fr.rf
  refine sOk.of (show sRn base X G d T138 0 [(0, vR 0)] [] M _ from ?_)
  refine s_blx (lv' := [(0, vR 0)]) (st' := [vR 0]) B138_0_1 rfl ?_
  refine r_gint (ki := 9) (pc' := 4) D138_1 rfl gf_10_57_0 rfl H.1 ?_
  intro w1 e2 r3
  have b_w1 := H.2 0 (9) 0 1 rfl
  rw [← e2] at b_w1; clear r3
  refine r_ifc (tgt := 24) (pc' := 7) D138_4 rfl rfl (by unfold inR; omega) (fun (c4 : w1 = 0) => ?_) (fun (c4 : ¬ (w1 = 0)) => ?_)
  · exact r_retV D138_24 rfl (⟨H, f0⟩)
  · refine s_blx (lv' := [(0, vR 0)]) (st' := [vR 0]) B138_7_8 rfl ?_
    refine r_gfix (r := 20) (pc' := 11) D138_8 rfl gf_10_44_0 H.1 ?_
    refine s_blx (lv' := [(0, vR 0)]) (st' := [vR 0, vR 20]) B138_11_12 rfl ?_
    refine r_gfix (r := 1) (pc' := 15) D138_12 rfl gf_10_10_0 H.1 ?_
    refine s_blx (lv' := [(0, vR 0)]) (st' := [vI (-1), vR 1, vR 20]) B138_15_16 rfl ?_
    refine r_vV (c := 20) (args := [vR 1, vI (-1)]) (rest := []) (pc' := 19) D138_16 rfl ck_10_virtual_213 TE79 rfl (Nat.le_of_ble_eq_true rfl) ⟨Nat.le_of_ble_eq_true rfl, Nat.le_of_ble_eq_true rfl⟩ sc_20 ⟨rfl, by decide⟩ H.1 (dp_0 hd rfl) (k79_20 E (dp_n hd rfl) H (-1) (by omega)) ?_
    intro M6 q9
    obtain ⟨H7, f8⟩ := q9
    have f10 := f0.tr (f8.up rfl)
    refine s_blx (lv' := [(0, vR 0)]) (st' := [vI 0, vR 0]) B138_19_21 rfl ?_
    refine r_pbool (ki := 9) (pc' := 24) D138_21 rfl pf_10_57_0 rfl H7 (by omega) (show 0 ≤ 0 ∧ 0 ≤ 1 by omega) ?_
    intro M11 u12 H13 p14
    have f15 := f10.wr u12 rfl
    exact r_retV D138_24 rfl (⟨H13, f15⟩)
set_option maxRecDepth 4000 in
theorem L_k140 {base : Nat} {X : Nat → Option mC} {G : Nat → Value} (E : EnvOK base X G) {d : Nat} (hd : 0 ≤ d) {M : mH} (H : HI base M) (length : Int) (h0 : 0 ≤ length ∧ length ≤ 400) : ∀ mz : Nat, (∀ (x2 : Int), (0 ≤ x2) → (x2 ≤ 12) → (0 ≤ length) → (length ≤ 12) → (12 - x2) * 1 + 0 < (mz : Int) → sRn base X G d T140 15 [(0, vR 0), (1, vI length), (2, vI x2)] [] M (s_Q base (pI (fun v M' => M' = M ∧ (v = 0 ∨ v = 1))))) := by
  intro mz
  induction mz with
  | zero => exact fun x2 z0 z1 z2 z3 z4 => by omega
  | succ mz ih =>
    intro x2 i0 i1 i2 i3 hmu
    refine s_blx (lv' := [(0, vR 0), (1, vI length), (2, vI x2)]) (st' := [vI length, vI x2]) B140_15_17 rfl ?_
    refine r_icmp (tgt := 58) (pc' := 20) D140_17 rfl rfl (by unfold inR; omega) (fun (c5 : length ≤ x2) => ?_) (fun (c5 : ¬ (length ≤ x2)) => ?_)
    · refine s_blx (lv' := [(0, vR 0), (1, vI length), (2, vI x2)]) (st' := [vI 1]) B140_58_59 rfl ?_
      exact r_zretI D140_59 rfl (by omega) (⟨rfl, by omega⟩)
    · refine s_blx (lv' := [(0, vR 0), (1, vI length), (2, vI x2)]) (st' := [vR 0]) B140_20_21 rfl ?_
      refine r_gfix (r := 13) (pc' := 24) D140_21 rfl gf_10_20_0 H.1 ?_
      refine s_blx (lv' := [(0, vR 0), (1, vI length), (2, vI x2)]) (st' := [vI x2, vR 13]) B140_24_25 rfl ?_
      refine r_iald (pc' := 26) D140_25 rfl sc_13 H.1 (by omega) ?_
      intro w6 e7 r8
      have b_w6 := H.2 13 (x2) 0 255 rfl
      rw [← e7] at b_w6; clear r8
      refine s_blx (lv' := [(0, vR 0), (1, vI length), (2, vI x2)]) (st' := [vI 255, vI w6]) B140_26_29 rfl ?_
      refine r_icmp (tgt := 52) (pc' := 32) D140_29 rfl rfl (by unfold inR; omega) (fun (c9 : w6 = 255) => ?_) (fun (c9 : ¬ (w6 = 255)) => ?_)
      · refine s_blx (lv' := [(2, vI (x2 + 1)), (0, vR 0), (1, vI length)]) (st' := []) B140_52_55 rfl ?_
        refine r_goto (tgt := 15) D140_55 rfl ?_
        refine r_loc (lv' := [(0, vR 0), (1, vI length), (2, vI (x2 + 1))]) ⟨rfl, rfl, rfl, trivial⟩ rfl rfl ?_
        exact ih (x2 + 1) (by omega) (by omega) (by omega) (by omega) (by omega)
      · refine s_blx (lv' := [(0, vR 0), (1, vI length), (2, vI x2)]) (st' := [vR 0]) B140_32_33 rfl ?_
        refine r_gfix (r := 13) (pc' := 36) D140_33 rfl gf_10_20_0 H.1 ?_
        refine s_blx (lv' := [(0, vR 0), (1, vI length), (2, vI x2)]) (st' := [vI x2, vR 13]) B140_36_37 rfl ?_
        refine r_iald (pc' := 38) D140_37 rfl sc_13 H.1 (by omega) ?_
        intro w10 e11 r12
        have e13 : w6 = w10 := (e11.trans (e7.symm)).symm
        subst e13
        refine s_blx (lv' := [(0, vR 0), (1, vI length), (2, vI x2)]) (st' := [vR 0, vI w6]) B140_38_39 rfl ?_
        refine r_gfix (r := 58) (pc' := 42) D140_39 rfl gf_10_70_0 H.1 ?_
        refine r_gfix (r := 59) (pc' := 45) D140_42 rfl gf_10_266_58 H.1 ?_
        refine s_blx (lv' := [(0, vR 0), (1, vI length), (2, vI x2)]) (st' := [vI x2, vR 59, vI w6]) B140_45_46 rfl ?_
        refine r_iald (pc' := 47) D140_46 rfl sc_59 H.1 (by omega) ?_
        intro w14 e15 r16
        unfold inR at r16
        refine r_icmp (tgt := 52) (pc' := 50) D140_47 rfl rfl (by unfold inR; omega) (fun (c17 : w6 = w14) => ?_) (fun (c17 : ¬ (w6 = w14)) => ?_)
        · refine s_blx (lv' := [(2, vI (x2 + 1)), (0, vR 0), (1, vI length)]) (st' := []) B140_52_55 rfl ?_
          refine r_goto (tgt := 15) D140_55 rfl ?_
          refine r_loc (lv' := [(0, vR 0), (1, vI length), (2, vI (x2 + 1))]) ⟨rfl, rfl, rfl, trivial⟩ rfl rfl ?_
          exact ih (x2 + 1) (by omega) (by omega) (by omega) (by omega) (by omega)
        · refine s_blx (lv' := [(0, vR 0), (1, vI length), (2, vI x2)]) (st' := [vI 0]) B140_50_51 rfl ?_
          exact r_zretI D140_51 rfl (by omega) (⟨rfl, by omega⟩)
set_option maxRecDepth 4000 in
theorem k140 {base : Nat} {X : Nat → Option mC} {G : Nat → Value} (E : EnvOK base X G) {d : Nat} (hd : 0 ≤ d) {M : mH} (H : HI base M) (length : Int) (h0 : 0 ≤ length ∧ length ≤ 400) : sOk base X G d T140 [vR 0, vI length] M (pI (fun v M' => M' = M ∧ (v = 0 ∨ v = 1))) := by
  refine sOk.of (show sRn base X G d T140 0 [(0, vR 0), (1, vI length)] [] M _ from ?_)
  refine s_blx (lv' := [(0, vR 0), (1, vI length)]) (st' := [vR 0, vI length]) B140_0_2 rfl ?_
  refine r_gfix (r := 58) (pc' := 5) D140_2 rfl gf_10_70_0 H.1 ?_
  refine r_gint (ki := 1) (pc' := 8) D140_5 rfl gf_10_263_58 rfl H.1 ?_
  intro w1 e2 r3
  have b_w1 := H.2 58 (1) 0 12 rfl
  rw [← e2] at b_w1; clear r3
  refine r_icmp (tgt := 13) (pc' := 11) D140_8 rfl rfl (by unfold inR; omega) (fun (c4 : length = w1) => ?_) (fun (c4 : ¬ (length = w1)) => ?_)
  · refine s_blx (lv' := [(2, vI 0), (0, vR 0), (1, vI length)]) (st' := []) B140_13_15 rfl ?_
    refine r_loc (lv' := [(0, vR 0), (1, vI length), (2, vI 0)]) ⟨rfl, rfl, rfl, trivial⟩ rfl rfl ?_
    exact (L_k140 E hd H length h0 (((12 - 0) * 1 + 0 : Int) + 1).toNat) 0 (by omega) (by omega) (by omega) (by omega) (by omega)
  · refine s_blx (lv' := [(0, vR 0), (1, vI length)]) (st' := [vI 0]) B140_11_12 rfl ?_
    exact r_zretI D140_12 rfl (by omega) (⟨rfl, by omega⟩)
