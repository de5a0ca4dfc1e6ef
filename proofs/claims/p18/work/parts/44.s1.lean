noncomputable def T51 : mT := (7, yX7_packed, cX7_packed, 3, (some .long))
set_option maxRecDepth 10000 in
theorem TE51 : sy_m[51]? = some T51 := rfl
theorem B51_0_2 : s_dk T51.2.2.1 0 [.lload_n 0, .iconst 5] 2 = true := by decide +kernel
theorem D51_2 : decode T51.2.2.1 2 = .ok (.lshl, 1) := by decide +kernel
theorem B51_3_4 : s_dk T51.2.2.1 3 [.iload_n 2] 4 = true := by decide +kernel
theorem D51_4 : decode T51.2.2.1 4 = .ok (.i2l, 1) := by decide +kernel
theorem D51_5 : decode T51.2.2.1 5 = .ok (.lor, 1) := by decide +kernel
theorem D51_6 : decode T51.2.2.1 6 = .ok (.lreturn, 1) := by decide +kernel
noncomputable def T50 : mT := (7, yX7_fateOf, cX7_fateOf, 3, (some .int))
set_option maxRecDepth 10000 in
theorem TE50 : sy_m[50]? = some T50 := rfl
theorem B50_0_1 : s_dk T50.2.2.1 0 [.aload_n 0] 1 = true := by decide +kernel
theorem gf_7_31_36 : s_gf 7 31 36 = some (0, 23) := by decide +kernel
theorem D50_1 : decode T50.2.2.1 1 = .ok (.getfield 31, 3) := by decide +kernel
theorem gf_7_78_20 : s_gf 7 78 20 = some (6, 30) := by decide +kernel
theorem D50_4 : decode T50.2.2.1 4 = .ok (.getfield 78, 3) := by decide +kernel
theorem B50_7_8 : s_dk T50.2.2.1 7 [.iload_n 1] 8 = true := by decide +kernel
theorem D50_8 : decode T50.2.2.1 8 = .ok (.iaload, 1) := by decide +kernel
theorem B50_9_10 : s_dk T50.2.2.1 9 [.iload_n 2] 10 = true := by decide +kernel
theorem D50_10 : decode T50.2.2.1 10 = .ok (.ishr, 1) := by decide +kernel
theorem B50_11_12 : s_dk T50.2.2.1 11 [.iconst 1] 12 = true := by decide +kernel
theorem D50_12 : decode T50.2.2.1 12 = .ok (.iand, 1) := by decide +kernel
theorem D50_13 : decode T50.2.2.1 13 = .ok (.ifCond .ne 6, 3) := by decide +kernel
theorem B50_19_20 : s_dk T50.2.2.1 19 [.aload_n 0] 20 = true := by decide +kernel
theorem D50_20 : decode T50.2.2.1 20 = .ok (.getfield 31, 3) := by decide +kernel
theorem gf_7_81_20 : s_gf 7 81 20 = some (7, 31) := by decide +kernel
theorem D50_23 : decode T50.2.2.1 23 = .ok (.getfield 81, 3) := by decide +kernel
theorem B50_26_27 : s_dk T50.2.2.1 26 [.iload_n 1] 27 = true := by decide +kernel
theorem D50_27 : decode T50.2.2.1 27 = .ok (.iaload, 1) := by decide +kernel
theorem B50_28_29 : s_dk T50.2.2.1 28 [.iconst (-1)] 29 = true := by decide +kernel
theorem D50_29 : decode T50.2.2.1 29 = .ok (.if_icmp .ne 7, 3) := by decide +kernel
theorem B50_36_38 : s_dk T50.2.2.1 36 [.bipush 8] 38 = true := by decide +kernel
theorem D50_38 : decode T50.2.2.1 38 = .ok (.ireturn, 1) := by decide +kernel
theorem B50_32_33 : s_dk T50.2.2.1 32 [.iload_n 2] 33 = true := by decide +kernel
theorem D50_33 : decode T50.2.2.1 33 = .ok (.goto 5, 3) := by decide +kernel
theorem B50_16_18 : s_dk T50.2.2.1 16 [.bipush 9] 18 = true := by decide +kernel
theorem D50_18 : decode T50.2.2.1 18 = .ok (.ireturn, 1) := by decide +kernel
noncomputable def T49 : mT := (7, yX7_seenFrom, cX7_seenFrom, 9, (some .int))
set_option maxRecDepth 10000 in
theorem TE49 : sy_m[49]? = some T49 := rfl
theorem B49_0_14 : s_dk T49.2.2.1 0 [.iload_n 2, .istore 4, .iload_n 2, .istore 5, .iconst 1, .istore 6, .iload_n 3, .iconst 1, .isub, .istore 7] 14 = true := by decide +kernel
theorem B49_14_16 : s_dk T49.2.2.1 14 [.iload 7] 16 = true := by decide +kernel
theorem D49_16 : decode T49.2.2.1 16 = .ok (.ifCond .lt 68, 3) := by decide +kernel
theorem B49_84_86 : s_dk T49.2.2.1 84 [.iload 4] 86 = true := by decide +kernel
theorem D49_86 : decode T49.2.2.1 86 = .ok (.ireturn, 1) := by decide +kernel
theorem B49_19_25 : s_dk T49.2.2.1 19 [.iload 5, .iconst 1, .isub, .bipush 10] 25 = true := by decide +kernel
theorem D49_25 : decode T49.2.2.1 25 = .ok (.irem, 1) := by decide +kernel
theorem B49_26_34 : s_dk T49.2.2.1 26 [.istore 8, .iload 5, .iconst 1, .isub, .bipush 10] 34 = true := by decide +kernel
theorem D49_34 : decode T49.2.2.1 34 = .ok (.idiv, 1) := by decide +kernel
theorem B49_35_41 : s_dk T49.2.2.1 35 [.istore 5, .iload 8, .bipush 8] 41 = true := by decide +kernel
theorem D49_41 : decode T49.2.2.1 41 = .ok (.if_icmp .ge 30, 3) := by decide +kernel
theorem B49_71_81 : s_dk T49.2.2.1 71 [.iload 6, .bipush 10, .imul, .istore 6, .iinc 7 (-1)] 81 = true := by decide +kernel
theorem D49_81 : decode T49.2.2.1 81 = .ok (.goto (-67), 3) := by decide +kernel
theorem B49_44_48 : s_dk T49.2.2.1 44 [.iload 4, .aload_n 0, .aload_n 0] 48 = true := by decide +kernel
theorem D49_48 : decode T49.2.2.1 48 = .ok (.getfield 31, 3) := by decide +kernel
theorem B49_51_54 : s_dk T49.2.2.1 51 [.iload_n 1, .iload 7] 54 = true := by decide +kernel
theorem D49_54 : decode T49.2.2.1 54 = .ok (.invokevirtual 72, 3) := by decide +kernel
theorem ck_7_virtual_72 : m_call 7 (.invokevirtual 72) = some (0, 85, 2) := by decide +kernel
theorem B49_57_59 : s_dk T49.2.2.1 57 [.iload 8] 59 = true := by decide +kernel
theorem D49_59 : decode T49.2.2.1 59 = .ok (.invokevirtual 75, 3) := by decide +kernel
theorem ck_7_virtual_75 : m_call 7 (.invokevirtual 75) = some (0, 50, 2) := by decide +kernel
theorem B49_62_81 : s_dk T49.2.2.1 62 [.iload 8, .isub, .iload 6, .imul, .iadd, .istore 4, .iload 6, .bipush 10, .imul, .istore 6, .iinc 7 (-1)] 81 = true := by decide +kernel
theorem gf_7_31_55 : s_gf 7 31 55 = some (0, 42) := by decide +kernel
theorem gf_7_78_39 : s_gf 7 78 39 = some (6, 49) := by decide +kernel
theorem gf_7_81_39 : s_gf 7 81 39 = some (7, 50) := by decide +kernel
noncomputable def T56 : mT := (7, yX7_lossFrom, cX7_lossFrom, 10, (some .long))
set_option maxRecDepth 10000 in
theorem TE56 : sy_m[56]? = some T56 := rfl
theorem B56_0_4 : s_dk T56.2.2.1 0 [.lconst 0, .lstore 5, .aload_n 0] 4 = true := by decide +kernel
theorem D56_4 : decode T56.2.2.1 4 = .ok (.getfield 31, 3) := by decide +kernel
theorem gf_7_121_20 : s_gf 7 121 20 = some (0, 24) := by decide +kernel
theorem D56_7 : decode T56.2.2.1 7 = .ok (.getfield 121, 3) := by decide +kernel
theorem B56_10_11 : s_dk T56.2.2.1 10 [.iload_n 1] 11 = true := by decide +kernel
theorem D56_11 : decode T56.2.2.1 11 = .ok (.iaload, 1) := by decide +kernel
theorem B56_12_17 : s_dk T56.2.2.1 12 [.istore 7, .iconst 0, .istore 8] 17 = true := by decide +kernel
theorem B56_17_22 : s_dk T56.2.2.1 17 [.iload 8, .sipush 145] 22 = true := by decide +kernel
theorem D56_22 : decode T56.2.2.1 22 = .ok (.if_icmp .ge 74, 3) := by decide +kernel
theorem B56_25_28 : s_dk T56.2.2.1 25 [.iload 7, .iconst (-1)] 28 = true := by decide +kernel
theorem D56_28 : decode T56.2.2.1 28 = .ok (.if_icmp .eq 68, 3) := by decide +kernel
theorem B56_96_98 : s_dk T56.2.2.1 96 [.lload 5] 98 = true := by decide +kernel
theorem D56_98 : decode T56.2.2.1 98 = .ok (.lreturn, 1) := by decide +kernel
theorem B56_31_32 : s_dk T56.2.2.1 31 [.aload_n 0] 32 = true := by decide +kernel
theorem D56_32 : decode T56.2.2.1 32 = .ok (.getfield 31, 3) := by decide +kernel
theorem gf_7_124_20 : s_gf 7 124 20 = some (5, 29) := by decide +kernel
theorem D56_35 : decode T56.2.2.1 35 = .ok (.getfield 124, 3) := by decide +kernel
theorem B56_38_40 : s_dk T56.2.2.1 38 [.iload 7] 40 = true := by decide +kernel
theorem D56_40 : decode T56.2.2.1 40 = .ok (.baload, 1) := by decide +kernel
theorem D56_41 : decode T56.2.2.1 41 = .ok (.ifCond .eq 14, 3) := by decide +kernel
theorem B56_55_70 : s_dk T56.2.2.1 55 [.iload_n 2, .istore 9, .lload 5, .aload_n 0, .iload 7, .iload 9, .iload_n 3, .iload 4, .iconst 1, .iadd] 70 = true := by decide +kernel
theorem D56_70 : decode T56.2.2.1 70 = .ok (.invokevirtual 67, 3) := by decide +kernel
theorem ck_7_virtual_67 : m_call 7 (.invokevirtual 67) = some (0, 52, 4) := by decide +kernel
noncomputable def T52 : mT := (7, yX7_choose, cX7_choose, 12, (some .long))
set_option maxRecDepth 10000 in
theorem TE52 : sy_m[52]? = some T52 := rfl
theorem B56_73_74 : s_dk T56.2.2.1 73 [.iconst 5] 74 = true := by decide +kernel
theorem D56_74 : decode T56.2.2.1 74 = .ok (.lshr, 1) := by decide +kernel
theorem B56_75_79 : s_dk T56.2.2.1 75 [.ladd, .lstore 5, .aload_n 0] 79 = true := by decide +kernel
theorem D56_79 : decode T56.2.2.1 79 = .ok (.getfield 31, 3) := by decide +kernel
theorem gf_7_127_20 : s_gf 7 127 20 = some (1, 25) := by decide +kernel
theorem D56_82 : decode T56.2.2.1 82 = .ok (.getfield 127, 3) := by decide +kernel
theorem B56_85_87 : s_dk T56.2.2.1 85 [.iload 7] 87 = true := by decide +kernel
theorem D56_87 : decode T56.2.2.1 87 = .ok (.iaload, 1) := by decide +kernel
theorem B56_88_93 : s_dk T56.2.2.1 88 [.istore 7, .iinc 8 1] 93 = true := by decide +kernel
theorem D56_93 : decode T56.2.2.1 93 = .ok (.goto (-76), 3) := by decide +kernel
theorem B56_44_49 : s_dk T56.2.2.1 44 [.aload_n 0, .iload 7, .iload_n 2, .iload_n 3] 49 = true := by decide +kernel
theorem D56_49 : decode T56.2.2.1 49 = .ok (.invokevirtual 64, 3) := by decide +kernel
theorem ck_7_virtual_64 : m_call 7 (.invokevirtual 64) = some (0, 49, 3) := by decide +kernel
theorem D56_52 : decode T56.2.2.1 52 = .ok (.goto 4, 3) := by decide +kernel
theorem B56_56_70 : s_dk T56.2.2.1 56 [.istore 9, .lload 5, .aload_n 0, .iload 7, .iload 9, .iload_n 3, .iload 4, .iconst 1, .iadd] 70 = true := by decide +kernel
noncomputable def T55 : mT := (7, yX7_lossAfter, cX7_lossAfter, 9, (some .long))
set_option maxRecDepth 10000 in
theorem TE55 : sy_m[55]? = some T55 := rfl
theorem B55_0_1 : s_dk T55.2.2.1 0 [.aload_n 0] 1 = true := by decide +kernel
theorem gf_7_13_36 : s_gf 7 13 36 = some (1, 40) := by decide +kernel
theorem D55_1 : decode T55.2.2.1 1 = .ok (.getfield 13, 3) := by decide +kernel
theorem B55_4_5 : s_dk T55.2.2.1 4 [.iload_n 1] 5 = true := by decide +kernel
theorem D55_5 : decode T55.2.2.1 5 = .ok (.aaload, 1) := by decide +kernel
theorem B55_6_7 : s_dk T55.2.2.1 6 [.iload_n 2] 7 = true := by decide +kernel
theorem D55_7 : decode T55.2.2.1 7 = .ok (.laload, 1) := by decide +kernel
theorem B55_8_14 : s_dk T55.2.2.1 8 [.lstore 5, .lload 5, .bipush 32] 14 = true := by decide +kernel
theorem D55_14 : decode T55.2.2.1 14 = .ok (.lushr, 1) := by decide +kernel
theorem B55_15_16 : s_dk T55.2.2.1 15 [.aload_n 0] 16 = true := by decide +kernel
theorem gf_7_23_36 : s_gf 7 23 36 = some (3, 2) := by decide +kernel
theorem D55_16 : decode T55.2.2.1 16 = .ok (.getfield 23, 3) := by decide +kernel
theorem D55_19 : decode T55.2.2.1 19 = .ok (.lcmp, 1) := by decide +kernel
theorem D55_20 : decode T55.2.2.1 20 = .ok (.ifCond .ne 10, 3) := by decide +kernel
theorem B55_30_31 : s_dk T55.2.2.1 30 [.aload_n 0] 31 = true := by decide +kernel
theorem gf_7_19_36 : s_gf 7 19 36 = some (2, 41) := by decide +kernel
theorem D55_31 : decode T55.2.2.1 31 = .ok (.getfield 19, 3) := by decide +kernel
theorem B55_34_39 : s_dk T55.2.2.1 34 [.iload_n 1, .iconst 4, .imul, .iload_n 3, .iadd] 39 = true := by decide +kernel
theorem D55_39 : decode T55.2.2.1 39 = .ok (.iaload, 1) := by decide +kernel
theorem D55_40 : decode T55.2.2.1 40 = .ok (.i2l, 1) := by decide +kernel
theorem B55_41_44 : s_dk T55.2.2.1 41 [.lstore 7, .aload_n 0] 44 = true := by decide +kernel
theorem D55_44 : decode T55.2.2.1 44 = .ok (.getfield 31, 3) := by decide +kernel
theorem gf_7_84_20 : s_gf 7 84 20 = some (4, 28) := by decide +kernel
theorem D55_47 : decode T55.2.2.1 47 = .ok (.getfield 84, 3) := by decide +kernel
theorem B55_50_51 : s_dk T55.2.2.1 50 [.iload_n 1] 51 = true := by decide +kernel
theorem D55_51 : decode T55.2.2.1 51 = .ok (.baload, 1) := by decide +kernel
theorem D55_52 : decode T55.2.2.1 52 = .ok (.ifCond .eq 24, 3) := by decide +kernel
theorem B55_76_84 : s_dk T55.2.2.1 76 [.lload 7, .aload_n 0, .iload_n 1, .iload_n 2, .iload_n 3, .iload 4] 84 = true := by decide +kernel
theorem D55_84 : decode T55.2.2.1 84 = .ok (.invokevirtual 46, 3) := by decide +kernel
theorem ck_7_virtual_46 : m_call 7 (.invokevirtual 46) = some (0, 56, 4) := by decide +kernel
theorem B55_87_91 : s_dk T55.2.2.1 87 [.ladd, .lstore 7, .aload_n 0] 91 = true := by decide +kernel
theorem D55_91 : decode T55.2.2.1 91 = .ok (.getfield 13, 3) := by decide +kernel
theorem B55_94_95 : s_dk T55.2.2.1 94 [.iload_n 1] 95 = true := by decide +kernel
theorem D55_95 : decode T55.2.2.1 95 = .ok (.aaload, 1) := by decide +kernel
theorem B55_96_98 : s_dk T55.2.2.1 96 [.iload_n 2, .aload_n 0] 98 = true := by decide +kernel
theorem D55_98 : decode T55.2.2.1 98 = .ok (.getfield 23, 3) := by decide +kernel
theorem B55_101_103 : s_dk T55.2.2.1 101 [.bipush 32] 103 = true := by decide +kernel
theorem D55_103 : decode T55.2.2.1 103 = .ok (.lshl, 1) := by decide +kernel
theorem B55_104_106 : s_dk T55.2.2.1 104 [.lload 7] 106 = true := by decide +kernel
theorem D55_106 : decode T55.2.2.1 106 = .ok (.lor, 1) := by decide +kernel
theorem D55_107 : decode T55.2.2.1 107 = .ok (.lastore, 1) := by decide +kernel
theorem B55_108_110 : s_dk T55.2.2.1 108 [.lload 7] 110 = true := by decide +kernel
theorem D55_110 : decode T55.2.2.1 110 = .ok (.lreturn, 1) := by decide +kernel
theorem B55_55_65 : s_dk T55.2.2.1 55 [.lload 7, .aload_n 0, .iload_n 1, .iload_n 2, .iload_n 3, .iload 4, .iconst 1, .iadd] 65 = true := by decide +kernel
theorem D55_65 : decode T55.2.2.1 65 = .ok (.invokevirtual 67, 3) := by decide +kernel
theorem B55_68_69 : s_dk T55.2.2.1 68 [.iconst 5] 69 = true := by decide +kernel
theorem D55_69 : decode T55.2.2.1 69 = .ok (.lshr, 1) := by decide +kernel
theorem B55_70_73 : s_dk T55.2.2.1 70 [.ladd, .lstore 7] 73 = true := by decide +kernel
theorem D55_73 : decode T55.2.2.1 73 = .ok (.goto 17, 3) := by decide +kernel
theorem B55_90_91 : s_dk T55.2.2.1 90 [.aload_n 0] 91 = true := by decide +kernel
theorem B55_23_25 : s_dk T55.2.2.1 23 [.lload 5] 25 = true := by decide +kernel
theorem cl_7_119 : m_cl 7 119 = some (4294967295) := by decide +kernel
theorem D55_25 : decode T55.2.2.1 25 = .ok (.ldc2_w 119, 3) := by decide +kernel
theorem D55_28 : decode T55.2.2.1 28 = .ok (.land, 1) := by decide +kernel
theorem D55_29 : decode T55.2.2.1 29 = .ok (.lreturn, 1) := by decide +kernel
noncomputable def T53 : mT := (7, yX7_chooseNext, cX7_chooseNext, 16, (some .long))
set_option maxRecDepth 10000 in
theorem TE53 : sy_m[53]? = some T53 := rfl
theorem B53_0_1 : s_dk T53.2.2.1 0 [.aload_n 0] 1 = true := by decide +kernel
theorem D53_1 : decode T53.2.2.1 1 = .ok (.getfield 31, 3) := by decide +kernel
theorem B53_4_6 : s_dk T53.2.2.1 4 [.iload_n 1, .iload_n 3] 6 = true := by decide +kernel
theorem D53_6 : decode T53.2.2.1 6 = .ok (.invokevirtual 72, 3) := by decide +kernel
theorem B53_9_12 : s_dk T53.2.2.1 9 [.istore 5, .aload_n 0] 12 = true := by decide +kernel
theorem D53_12 : decode T53.2.2.1 12 = .ok (.getfield 31, 3) := by decide +kernel
theorem gf_7_39_20 : s_gf 7 39 20 = some (2, 26) := by decide +kernel
theorem D53_15 : decode T53.2.2.1 15 = .ok (.getfield 39, 3) := by decide +kernel
theorem B53_18_19 : s_dk T53.2.2.1 18 [.iload_n 1] 19 = true := by decide +kernel
theorem D53_19 : decode T53.2.2.1 19 = .ok (.iaload, 1) := by decide +kernel
theorem D53_20 : decode T53.2.2.1 20 = .ok (.i2l, 1) := by decide +kernel
theorem B53_21_28 : s_dk T53.2.2.1 21 [.lstore 6, .aload_n 0, .iload_n 1, .iload_n 2, .bipush 8] 28 = true := by decide +kernel
theorem D53_28 : decode T53.2.2.1 28 = .ok (.invokestatic 113, 3) := by decide +kernel
theorem ck_7_static_113 : m_call 7 (.invokestatic 113) = some (1, 43, 2) := by decide +kernel
theorem B53_31_36 : s_dk T53.2.2.1 31 [.iload_n 3, .iconst 1, .iadd, .iload 4] 36 = true := by decide +kernel
theorem D53_36 : decode T53.2.2.1 36 = .ok (.invokevirtual 90, 3) := by decide +kernel
theorem ck_7_virtual_90 : m_call 7 (.invokevirtual 90) = some (0, 55, 4) := by decide +kernel
theorem B53_39_46 : s_dk T53.2.2.1 39 [.lstore 8, .lload 8, .lload 6, .aload_n 0] 46 = true := by decide +kernel
theorem D53_46 : decode T53.2.2.1 46 = .ok (.getfield 31, 3) := by decide +kernel
theorem gf_7_110_20 : s_gf 7 110 20 = some (13, 37) := by decide +kernel
theorem D53_49 : decode T53.2.2.1 49 = .ok (.getfield 110, 3) := by decide +kernel
theorem B53_52_53 : s_dk T53.2.2.1 52 [.iconst 5] 53 = true := by decide +kernel
theorem D53_53 : decode T53.2.2.1 53 = .ok (.iaload, 1) := by decide +kernel
theorem D53_54 : decode T53.2.2.1 54 = .ok (.i2l, 1) := by decide +kernel
theorem B53_55_58 : s_dk T53.2.2.1 55 [.lmul, .ladd, .iconst 3] 58 = true := by decide +kernel
theorem D53_58 : decode T53.2.2.1 58 = .ok (.invokestatic 93, 3) := by decide +kernel
theorem ck_7_static_93 : m_call 7 (.invokestatic 93) = some (1, 51, 2) := by decide +kernel
theorem B53_61_64 : s_dk T53.2.2.1 61 [.lstore 10, .aload_n 0] 64 = true := by decide +kernel
theorem D53_64 : decode T53.2.2.1 64 = .ok (.getfield 31, 3) := by decide +kernel
theorem D53_67 : decode T53.2.2.1 67 = .ok (.getfield 81, 3) := by decide +kernel
theorem B53_70_72 : s_dk T53.2.2.1 70 [.iload 5] 72 = true := by decide +kernel
theorem D53_72 : decode T53.2.2.1 72 = .ok (.iaload, 1) := by decide +kernel
theorem B53_73_74 : s_dk T53.2.2.1 73 [.iconst (-1)] 74 = true := by decide +kernel
theorem D53_74 : decode T53.2.2.1 74 = .ok (.if_icmp .eq 15, 3) := by decide +kernel
theorem B53_89_90 : s_dk T53.2.2.1 89 [.aload_n 0] 90 = true := by decide +kernel
theorem D53_90 : decode T53.2.2.1 90 = .ok (.getfield 31, 3) := by decide +kernel
theorem gf_7_116_20 : s_gf 7 116 20 = some (10, 34) := by decide +kernel
theorem D53_93 : decode T53.2.2.1 93 = .ok (.getfield 116, 3) := by decide +kernel
theorem B53_96_98 : s_dk T53.2.2.1 96 [.iload 5] 98 = true := by decide +kernel
theorem D53_98 : decode T53.2.2.1 98 = .ok (.iaload, 1) := by decide +kernel
theorem D53_99 : decode T53.2.2.1 99 = .ok (.ifCond .le 47, 3) := by decide +kernel
theorem B53_146_147 : s_dk T53.2.2.1 146 [.aload_n 0] 147 = true := by decide +kernel
theorem gf_7_27_36 : s_gf 7 27 36 = some (4, 1) := by decide +kernel
theorem D53_147 : decode T53.2.2.1 147 = .ok (.getfield 27, 3) := by decide +kernel
theorem D53_150 : decode T53.2.2.1 150 = .ok (.ifCond .eq 16, 3) := by decide +kernel
theorem B53_166_172 : s_dk T53.2.2.1 166 [.iconst 0, .istore 12, .iconst 0, .istore 13] 172 = true := by decide +kernel
theorem B53_153_154 : s_dk T53.2.2.1 153 [.aload_n 0] 154 = true := by decide +kernel
theorem D53_154 : decode T53.2.2.1 154 = .ok (.getfield 31, 3) := by decide +kernel
theorem D53_157 : decode T53.2.2.1 157 = .ok (.getfield 78, 3) := by decide +kernel
theorem B53_160_162 : s_dk T53.2.2.1 160 [.iload 5] 162 = true := by decide +kernel
theorem D53_162 : decode T53.2.2.1 162 = .ok (.iaload, 1) := by decide +kernel
theorem D53_163 : decode T53.2.2.1 163 = .ok (.goto 4, 3) := by decide +kernel
theorem B53_167_172 : s_dk T53.2.2.1 167 [.istore 12, .iconst 0, .istore 13] 172 = true := by decide +kernel
theorem B53_102_107 : s_dk T53.2.2.1 102 [.lload 8, .lload 6, .aload_n 0] 107 = true := by decide +kernel
theorem D53_107 : decode T53.2.2.1 107 = .ok (.getfield 31, 3) := by decide +kernel
theorem D53_110 : decode T53.2.2.1 110 = .ok (.getfield 110, 3) := by decide +kernel
theorem B53_113_115 : s_dk T53.2.2.1 113 [.bipush 7] 115 = true := by decide +kernel
theorem D53_115 : decode T53.2.2.1 115 = .ok (.iaload, 1) := by decide +kernel
theorem D53_116 : decode T53.2.2.1 116 = .ok (.i2l, 1) := by decide +kernel
theorem B53_117_119 : s_dk T53.2.2.1 117 [.lmul, .aload_n 0] 119 = true := by decide +kernel
theorem D53_119 : decode T53.2.2.1 119 = .ok (.getfield 31, 3) := by decide +kernel
theorem D53_122 : decode T53.2.2.1 122 = .ok (.getfield 116, 3) := by decide +kernel
theorem B53_125_127 : s_dk T53.2.2.1 125 [.iload 5] 127 = true := by decide +kernel
theorem D53_127 : decode T53.2.2.1 127 = .ok (.iaload, 1) := by decide +kernel
theorem D53_128 : decode T53.2.2.1 128 = .ok (.i2l, 1) := by decide +kernel
theorem B53_129_138 : s_dk T53.2.2.1 129 [.lmul, .ladd, .lstore 12, .lload 10, .lload 12, .iconst 2] 138 = true := by decide +kernel
theorem D53_138 : decode T53.2.2.1 138 = .ok (.invokestatic 93, 3) := by decide +kernel
theorem D53_141 : decode T53.2.2.1 141 = .ok (.invokestatic 100, 3) := by decide +kernel
theorem mc_7_static_100 : m_call 7 (.invokestatic 100) = none := by decide +kernel
theorem sp_7_100 : m_sp 7 100 = some 4 := by decide +kernel
theorem B53_144_147 : s_dk T53.2.2.1 144 [.lstore 10, .aload_n 0] 147 = true := by decide +kernel
theorem B53_77_82 : s_dk T53.2.2.1 77 [.lload 10, .lload 8, .iconst 1] 82 = true := by decide +kernel
theorem D53_82 : decode T53.2.2.1 82 = .ok (.invokestatic 93, 3) := by decide +kernel
theorem D53_85 : decode T53.2.2.1 85 = .ok (.invokestatic 100, 3) := by decide +kernel
theorem D53_88 : decode T53.2.2.1 88 = .ok (.lreturn, 1) := by decide +kernel
theorem B53_172_176 : s_dk T53.2.2.1 172 [.iload 13, .bipush 8] 176 = true := by decide +kernel
theorem D53_176 : decode T53.2.2.1 176 = .ok (.if_icmp .ge 55, 3) := by decide +kernel
theorem B53_179_183 : s_dk T53.2.2.1 179 [.iload 12, .iload 13] 183 = true := by decide +kernel
theorem D53_183 : decode T53.2.2.1 183 = .ok (.ishr, 1) := by decide +kernel
theorem B53_184_185 : s_dk T53.2.2.1 184 [.iconst 1] 185 = true := by decide +kernel
theorem D53_185 : decode T53.2.2.1 185 = .ok (.iand, 1) := by decide +kernel
theorem B53_186_187 : s_dk T53.2.2.1 186 [.iconst 1] 187 = true := by decide +kernel
theorem D53_187 : decode T53.2.2.1 187 = .ok (.if_icmp .ne 38, 3) := by decide +kernel
theorem B53_225_228 : s_dk T53.2.2.1 225 [.iinc 13 1] 228 = true := by decide +kernel
theorem D53_228 : decode T53.2.2.1 228 = .ok (.goto (-56), 3) := by decide +kernel
theorem B53_190_195 : s_dk T53.2.2.1 190 [.aload_n 0, .iload_n 1, .iload_n 2, .iload 13] 195 = true := by decide +kernel
theorem D53_195 : decode T53.2.2.1 195 = .ok (.invokestatic 113, 3) := by decide +kernel
theorem B53_198_203 : s_dk T53.2.2.1 198 [.iload_n 3, .iconst 1, .iadd, .iload 4] 203 = true := by decide +kernel
theorem D53_203 : decode T53.2.2.1 203 = .ok (.invokevirtual 90, 3) := by decide +kernel
theorem B53_206_217 : s_dk T53.2.2.1 206 [.lstore 14, .lload 10, .lload 14, .bipush 10, .iload 13, .iadd] 217 = true := by decide +kernel
theorem D53_217 : decode T53.2.2.1 217 = .ok (.invokestatic 93, 3) := by decide +kernel
theorem D53_220 : decode T53.2.2.1 220 = .ok (.invokestatic 100, 3) := by decide +kernel
theorem B53_223_228 : s_dk T53.2.2.1 223 [.lstore 10, .iinc 13 1] 228 = true := by decide +kernel
theorem B53_231_233 : s_dk T53.2.2.1 231 [.lload 10] 233 = true := by decide +kernel
theorem D53_233 : decode T53.2.2.1 233 = .ok (.lreturn, 1) := by decide +kernel
noncomputable def T54 : mT := (7, yX7_chooseMend, cX7_chooseMend, 9, (some .long))
set_option maxRecDepth 10000 in
theorem TE54 : sy_m[54]? = some T54 := rfl
theorem B54_0_1 : s_dk T54.2.2.1 0 [.aload_n 0] 1 = true := by decide +kernel
theorem D54_1 : decode T54.2.2.1 1 = .ok (.getfield 31, 3) := by decide +kernel
theorem B54_4_7 : s_dk T54.2.2.1 4 [.iload_n 1, .iload 4] 7 = true := by decide +kernel
theorem D54_7 : decode T54.2.2.1 7 = .ok (.invokevirtual 72, 3) := by decide +kernel
theorem B54_10_13 : s_dk T54.2.2.1 10 [.istore 6, .aload_n 0] 13 = true := by decide +kernel
theorem D54_13 : decode T54.2.2.1 13 = .ok (.getfield 31, 3) := by decide +kernel
theorem D54_16 : decode T54.2.2.1 16 = .ok (.getfield 81, 3) := by decide +kernel
theorem B54_19_21 : s_dk T54.2.2.1 19 [.iload 6] 21 = true := by decide +kernel
theorem D54_21 : decode T54.2.2.1 21 = .ok (.iaload, 1) := by decide +kernel
theorem B54_22_23 : s_dk T54.2.2.1 22 [.iconst (-1)] 23 = true := by decide +kernel
theorem D54_23 : decode T54.2.2.1 23 = .ok (.if_icmp .ne 7, 3) := by decide +kernel
theorem B54_30_31 : s_dk T54.2.2.1 30 [.aload_n 0] 31 = true := by decide +kernel
theorem D54_31 : decode T54.2.2.1 31 = .ok (.getfield 31, 3) := by decide +kernel
theorem D54_34 : decode T54.2.2.1 34 = .ok (.getfield 39, 3) := by decide +kernel
theorem B54_37_38 : s_dk T54.2.2.1 37 [.iload_n 1] 38 = true := by decide +kernel
theorem D54_38 : decode T54.2.2.1 38 = .ok (.iaload, 1) := by decide +kernel
theorem D54_39 : decode T54.2.2.1 39 = .ok (.i2l, 1) := by decide +kernel
theorem B54_40_41 : s_dk T54.2.2.1 40 [.aload_n 0] 41 = true := by decide +kernel
theorem D54_41 : decode T54.2.2.1 41 = .ok (.getfield 31, 3) := by decide +kernel
theorem D54_44 : decode T54.2.2.1 44 = .ok (.getfield 110, 3) := by decide +kernel
theorem B54_47_49 : s_dk T54.2.2.1 47 [.bipush 6] 49 = true := by decide +kernel
theorem D54_49 : decode T54.2.2.1 49 = .ok (.iaload, 1) := by decide +kernel
theorem D54_50 : decode T54.2.2.1 50 = .ok (.i2l, 1) := by decide +kernel
theorem B54_51_58 : s_dk T54.2.2.1 51 [.lmul, .aload_n 0, .iload_n 1, .iload_n 2, .iload_n 3, .iload 5] 58 = true := by decide +kernel
theorem D54_58 : decode T54.2.2.1 58 = .ok (.invokevirtual 90, 3) := by decide +kernel
theorem B54_61_75 : s_dk T54.2.2.1 61 [.ladd, .lstore 7, .lload 7, .bipush 20, .iload 6, .iadd, .iload_n 1, .iconst 3, .imul, .isub] 75 = true := by decide +kernel
theorem D54_75 : decode T54.2.2.1 75 = .ok (.invokestatic 93, 3) := by decide +kernel
theorem D54_78 : decode T54.2.2.1 78 = .ok (.lreturn, 1) := by decide +kernel
theorem cl_7_88 : m_cl 7 88 = some (4611686018427387904) := by decide +kernel
theorem D54_26 : decode T54.2.2.1 26 = .ok (.ldc2_w 88, 3) := by decide +kernel
theorem D54_29 : decode T54.2.2.1 29 = .ok (.lreturn, 1) := by decide +kernel
theorem B52_0_4 : s_dk T52.2.2.1 0 [.iload 4, .bipush 40] 4 = true := by decide +kernel
theorem D52_4 : decode T52.2.2.1 4 = .ok (.if_icmp .le 5, 3) := by decide +kernel
theorem B52_9_10 : s_dk T52.2.2.1 9 [.aload_n 0] 10 = true := by decide +kernel
theorem D52_10 : decode T52.2.2.1 10 = .ok (.getfield 31, 3) := by decide +kernel
theorem D52_13 : decode T52.2.2.1 13 = .ok (.getfield 84, 3) := by decide +kernel
theorem B52_16_17 : s_dk T52.2.2.1 16 [.iload_n 1] 17 = true := by decide +kernel
theorem D52_17 : decode T52.2.2.1 17 = .ok (.baload, 1) := by decide +kernel
theorem D52_18 : decode T52.2.2.1 18 = .ok (.ifCond .eq 9, 3) := by decide +kernel
theorem B52_27_33 : s_dk T52.2.2.1 27 [.aload_n 0, .iload_n 1, .iload_n 2, .iload_n 3, .iload 4] 33 = true := by decide +kernel
theorem D52_33 : decode T52.2.2.1 33 = .ok (.invokevirtual 90, 3) := by decide +kernel
theorem B52_36_37 : s_dk T52.2.2.1 36 [.iconst 0] 37 = true := by decide +kernel
theorem D52_37 : decode T52.2.2.1 37 = .ok (.invokestatic 93, 3) := by decide +kernel
theorem B52_40_44 : s_dk T52.2.2.1 40 [.lstore 5, .iload_n 3, .iconst 3] 44 = true := by decide +kernel
theorem D52_44 : decode T52.2.2.1 44 = .ok (.if_icmp .ge 19, 3) := by decide +kernel
theorem B52_63_77 : s_dk T52.2.2.1 63 [.iconst 0, .istore 7, .iload_n 2, .istore 8, .iconst 1, .istore 9, .iload_n 3, .iconst 1, .isub, .istore 10] 77 = true := by decide +kernel
theorem B52_47_55 : s_dk T52.2.2.1 47 [.lload 5, .aload_n 0, .iload_n 1, .iload_n 2, .iload_n 3, .iload 4] 55 = true := by decide +kernel
theorem D52_55 : decode T52.2.2.1 55 = .ok (.invokevirtual 97, 3) := by decide +kernel
theorem ck_7_virtual_97 : m_call 7 (.invokevirtual 97) = some (0, 53, 4) := by decide +kernel
theorem D52_58 : decode T52.2.2.1 58 = .ok (.invokestatic 100, 3) := by decide +kernel
theorem B52_61_77 : s_dk T52.2.2.1 61 [.lstore 5, .iconst 0, .istore 7, .iload_n 2, .istore 8, .iconst 1, .istore 9, .iload_n 3, .iconst 1, .isub, .istore 10] 77 = true := by decide +kernel
theorem D52_21 : decode T52.2.2.1 21 = .ok (.ldc2_w 88, 3) := by decide +kernel
theorem D52_24 : decode T52.2.2.1 24 = .ok (.goto 16, 3) := by decide +kernel
theorem B52_7_8 : s_dk T52.2.2.1 7 [.lconst 0] 8 = true := by decide +kernel
theorem D52_8 : decode T52.2.2.1 8 = .ok (.lreturn, 1) := by decide +kernel
theorem B52_77_79 : s_dk T52.2.2.1 77 [.iload 10] 79 = true := by decide +kernel
theorem D52_79 : decode T52.2.2.1 79 = .ok (.ifCond .lt 61, 3) := by decide +kernel
theorem B52_82_88 : s_dk T52.2.2.1 82 [.iload 8, .iconst 1, .isub, .bipush 10] 88 = true := by decide +kernel
theorem D52_88 : decode T52.2.2.1 88 = .ok (.irem, 1) := by decide +kernel
theorem B52_89_91 : s_dk T52.2.2.1 89 [.bipush 9] 91 = true := by decide +kernel
theorem D52_91 : decode T52.2.2.1 91 = .ok (.if_icmp .ne 27, 3) := by decide +kernel
theorem B52_118_124 : s_dk T52.2.2.1 118 [.iload 8, .iconst 1, .isub, .bipush 10] 124 = true := by decide +kernel
theorem D52_124 : decode T52.2.2.1 124 = .ok (.idiv, 1) := by decide +kernel
theorem B52_125_137 : s_dk T52.2.2.1 125 [.istore 8, .iload 9, .bipush 10, .imul, .istore 9, .iinc 10 (-1)] 137 = true := by decide +kernel
theorem D52_137 : decode T52.2.2.1 137 = .ok (.goto (-60), 3) := by decide +kernel
theorem B52_94_110 : s_dk T52.2.2.1 94 [.iinc 7 1, .lload 5, .aload_n 0, .iload_n 1, .iload_n 2, .iload 9, .isub, .iload_n 3, .iload 10, .iload 4] 110 = true := by decide +kernel
theorem D52_110 : decode T52.2.2.1 110 = .ok (.invokevirtual 106, 3) := by decide +kernel
theorem ck_7_virtual_106 : m_call 7 (.invokevirtual 106) = some (0, 54, 5) := by decide +kernel
theorem D52_113 : decode T52.2.2.1 113 = .ok (.invokestatic 100, 3) := by decide +kernel
theorem B52_116_124 : s_dk T52.2.2.1 116 [.lstore 5, .iload 8, .iconst 1, .isub, .bipush 10] 124 = true := by decide +kernel
theorem B52_140_142 : s_dk T52.2.2.1 140 [.iload_n 3, .iconst 3] 142 = true := by decide +kernel
theorem D52_142 : decode T52.2.2.1 142 = .ok (.if_icmp .ne 55, 3) := by decide +kernel
theorem B52_197_199 : s_dk T52.2.2.1 197 [.lload 5] 199 = true := by decide +kernel
theorem D52_199 : decode T52.2.2.1 199 = .ok (.lreturn, 1) := by decide +kernel
theorem B52_145_146 : s_dk T52.2.2.1 145 [.aload_n 0] 146 = true := by decide +kernel
theorem D52_146 : decode T52.2.2.1 146 = .ok (.getfield 31, 3) := by decide +kernel
theorem D52_149 : decode T52.2.2.1 149 = .ok (.getfield 84, 3) := by decide +kernel
theorem B52_152_153 : s_dk T52.2.2.1 152 [.iload_n 1] 153 = true := by decide +kernel
theorem D52_153 : decode T52.2.2.1 153 = .ok (.baload, 1) := by decide +kernel
theorem D52_154 : decode T52.2.2.1 154 = .ok (.ifCond .eq 43, 3) := by decide +kernel
theorem B52_157_158 : s_dk T52.2.2.1 157 [.aload_n 0] 158 = true := by decide +kernel
theorem D52_158 : decode T52.2.2.1 158 = .ok (.getfield 31, 3) := by decide +kernel
theorem D52_161 : decode T52.2.2.1 161 = .ok (.getfield 39, 3) := by decide +kernel
theorem B52_164_165 : s_dk T52.2.2.1 164 [.iload_n 1] 165 = true := by decide +kernel
theorem D52_165 : decode T52.2.2.1 165 = .ok (.iaload, 1) := by decide +kernel
theorem D52_166 : decode T52.2.2.1 166 = .ok (.i2l, 1) := by decide +kernel
theorem B52_167_168 : s_dk T52.2.2.1 167 [.aload_n 0] 168 = true := by decide +kernel
theorem D52_168 : decode T52.2.2.1 168 = .ok (.getfield 31, 3) := by decide +kernel
theorem D52_171 : decode T52.2.2.1 171 = .ok (.getfield 110, 3) := by decide +kernel
theorem B52_174_175 : s_dk T52.2.2.1 174 [.iconst 4] 175 = true := by decide +kernel
theorem D52_175 : decode T52.2.2.1 175 = .ok (.iaload, 1) := by decide +kernel
theorem D52_176 : decode T52.2.2.1 176 = .ok (.i2l, 1) := by decide +kernel
theorem B52_177_180 : s_dk T52.2.2.1 177 [.lmul, .iload 7] 180 = true := by decide +kernel
theorem D52_180 : decode T52.2.2.1 180 = .ok (.i2l, 1) := by decide +kernel
theorem B52_181_189 : s_dk T52.2.2.1 181 [.lmul, .lstore 10, .lload 5, .lload 10, .iconst 4] 189 = true := by decide +kernel
theorem D52_189 : decode T52.2.2.1 189 = .ok (.invokestatic 93, 3) := by decide +kernel
theorem D52_192 : decode T52.2.2.1 192 = .ok (.invokestatic 100, 3) := by decide +kernel
theorem B52_195_199 : s_dk T52.2.2.1 195 [.lstore 5, .lload 5] 199 = true := by decide +kernel
theorem gf_7_121_39 : s_gf 7 121 39 = some (0, 43) := by decide +kernel
theorem gf_7_124_39 : s_gf 7 124 39 = some (5, 48) := by decide +kernel
theorem gf_7_127_39 : s_gf 7 127 39 = some (1, 44) := by decide +kernel
theorem gf_7_13_55 : s_gf 7 13 55 = some (1, 59) := by decide +kernel
theorem gf_7_23_55 : s_gf 7 23 55 = some (3, 2) := by decide +kernel
theorem gf_7_19_55 : s_gf 7 19 55 = some (2, 60) := by decide +kernel
theorem gf_7_84_39 : s_gf 7 84 39 = some (4, 47) := by decide +kernel
theorem gf_7_39_39 : s_gf 7 39 39 = some (2, 45) := by decide +kernel
theorem gf_7_110_39 : s_gf 7 110 39 = some (13, 56) := by decide +kernel
theorem gf_7_116_39 : s_gf 7 116 39 = some (10, 53) := by decide +kernel
theorem gf_7_27_55 : s_gf 7 27 55 = some (4, 1) := by decide +kernel
set_option maxRecDepth 4000 in
theorem k51 {base : Nat} {X : Nat → Option mC} {G : Nat → Value} (E : EnvOK base X G) {d : Nat} (hd : 0 ≤ d) {M : mH} (H : HI base M) (loss : Int) (move : Int) (h0 : 0 ≤ move ∧ move ≤ 31) : sOk base X G d T51 [vL loss, vI move] M (pL (fun v M' => M' = M ∧ True)) := by
  refine sOk.of (show sRn base X G d T51 0 [(0, vL loss), (2, vI move)] [] M _ from ?_)
  refine s_blx (lv' := [(0, vL loss), (2, vI move)]) (st' := [vI 5, vL loss]) B51_0_2 rfl ?_
  refine r_binLI (pc' := 3) D51_2 rfl rfl ?_
  intro z1 _ _
  refine s_blx (lv' := [(0, vL loss), (2, vI move)]) (st' := [vI move, vL z1]) B51_3_4 rfl ?_
  refine r_i2l (pc' := 5) D51_4 rfl (by unfold inR; omega) ?_
  refine r_binL (pc' := 6) D51_5 rfl rfl ?_
  intro z3 _ _
  exact r_lretL D51_6 rfl (⟨rfl, trivial⟩)
set_option maxRecDepth 4000 in
theorem k50_36 {base : Nat} {X : Nat → Option mC} {G : Nat → Value} (E : EnvOK base X G) {d : Nat} (hd : 0 ≤ d) {M : mH} (H : HI base M) (at_ : Int) (value : Int) (h0 : 0 ≤ at_ ∧ at_ ≤ 434) (h1 : 0 ≤ value ∧ value ≤ 7) : sOk base X G d T50 [vR 36, vI at_, vI value] M (pI (fun v M' => M' = M ∧ (0 ≤ v ∧ v ≤ 9))) := by
  refine sOk.of (show sRn base X G d T50 0 [(0, vR 36), (1, vI at_), (2, vI value)] [] M _ from ?_)
  refine s_blx (lv' := [(0, vR 36), (1, vI at_), (2, vI value)]) (st' := [vR 36]) B50_0_1 rfl ?_
  refine r_gfix (r := 20) (pc' := 4) D50_1 rfl gf_7_31_36 H.1 ?_
  refine r_gfix (r := 27) (pc' := 7) D50_4 rfl gf_7_78_20 H.1 ?_
  refine s_blx (lv' := [(0, vR 36), (1, vI at_), (2, vI value)]) (st' := [vI at_, vR 27]) B50_7_8 rfl ?_
  refine r_iald (pc' := 9) D50_8 rfl sc_27 H.1 (by omega) ?_
  intro w1 e2 r3
  unfold inR at r3
  refine s_blx (lv' := [(0, vR 36), (1, vI at_), (2, vI value)]) (st' := [vI value, vI w1]) B50_9_10 rfl ?_
  refine r_bin (pc' := 11) D50_10 rfl rfl ?_
  intro z4 r5 _; unfold inR at r5
  refine s_blx (lv' := [(0, vR 36), (1, vI at_), (2, vI value)]) (st' := [vI 1, vI z4]) B50_11_12 rfl ?_
  refine r_and1 (pc' := 13) D50_12 rfl ?_
  refine r_ifc (tgt := 19) (pc' := 16) D50_13 rfl rfl (by unfold inR; omega) (fun (c6 : (z4 % 2) ≠ 0) => ?_) (fun (c6 : ¬ ((z4 % 2) ≠ 0)) => ?_)
  · refine s_blx (lv' := [(0, vR 36), (1, vI at_), (2, vI value)]) (st' := [vR 36]) B50_19_20 rfl ?_
    refine r_gfix (r := 20) (pc' := 23) D50_20 rfl gf_7_31_36 H.1 ?_
    refine r_gfix (r := 28) (pc' := 26) D50_23 rfl gf_7_81_20 H.1 ?_
    refine s_blx (lv' := [(0, vR 36), (1, vI at_), (2, vI value)]) (st' := [vI at_, vR 28]) B50_26_27 rfl ?_
    refine r_iald (pc' := 28) D50_27 rfl sc_28 H.1 (by omega) ?_
    intro w7 e8 r9
    have b_w7 := H.2 28 (at_) (-1) 7 rfl
    rw [← e8] at b_w7; clear r9
    refine s_blx (lv' := [(0, vR 36), (1, vI at_), (2, vI value)]) (st' := [vI (-1), vI w7]) B50_28_29 rfl ?_
    refine r_icmp (tgt := 36) (pc' := 32) D50_29 rfl rfl (by unfold inR; omega) (fun (c10 : w7 ≠ (-1)) => ?_) (fun (c10 : ¬ (w7 ≠ (-1))) => ?_)
    · refine s_blx (lv' := [(0, vR 36), (1, vI at_), (2, vI value)]) (st' := [vI 8]) B50_36_38 rfl ?_
      exact r_iretI D50_38 rfl (⟨rfl, by omega⟩)
    · refine s_blx (lv' := [(0, vR 36), (1, vI at_), (2, vI value)]) (st' := [vI value]) B50_32_33 rfl ?_
      refine r_goto (tgt := 38) D50_33 rfl ?_
      exact r_iretI D50_38 rfl (⟨rfl, by omega⟩)
  · refine s_blx (lv' := [(0, vR 36), (1, vI at_), (2, vI value)]) (st' := [vI 9]) B50_16_18 rfl ?_
    exact r_iretI D50_18 rfl (⟨rfl, by omega⟩)
set_option maxRecDepth 4000 in
theorem L_k49_36 {base : Nat} {X : Nat → Option mC} {G : Nat → Value} (E : EnvOK base X G) {d : Nat} (hd : 1 ≤ d) {M : mH} (H : HI base M) (place : Int) (said : Int) (done : Int) (h0 : 0 ≤ place ∧ place ≤ 144) (h1 : (done = 0 ∧ said = 0) ∨ (done = 1 ∧ 1 ≤ said ∧ said ≤ 10) ∨ (done = 2 ∧ 11 ≤ said ∧ said ≤ 110) ∨ (done = 3 ∧ 111 ≤ said ∧ said ≤ 1110)) (h2 : 0 ≤ done ∧ done ≤ 3) (h3 : 0 ≤ said ∧ said ≤ 1110) : ∀ mz : Nat, (∀ (x4 x5 x6 x7 : Int), ((done - 1 - x7 = 0 ∧ x6 = 1 ∧ x4 = x5) ∨ (done - 1 - x7 = 1 ∧ x6 = 10 ∧ 1 ≤ x4 - 10 * x5 ∧ x4 - 10 * x5 ≤ 10) ∨ (done - 1 - x7 = 2 ∧ x6 = 100 ∧ 11 ≤ x4 - 100 * x5 ∧ x4 - 100 * x5 ≤ 110) ∨ (done - 1 - x7 = 3 ∧ x6 = 1000 ∧ 111 ≤ x4 - 1000 * x5 ∧ x4 - 1000 * x5 ≤ 1110)) → (((x7 + 1) = 0 ∧ x5 = 0) ∨ ((x7 + 1) = 1 ∧ 1 ≤ x5 ∧ x5 ≤ 10) ∨ ((x7 + 1) = 2 ∧ 11 ≤ x5 ∧ x5 ≤ 110) ∨ ((x7 + 1) = 3 ∧ 111 ≤ x5 ∧ x5 ≤ 1110)) → (0 ≤ x5 ∧ x5 ≤ 1110) → (1 ≤ x6 ∧ x6 ≤ 1000) → (-1 ≤ x7 ∧ x7 ≤ 2) → ((-1) ≤ x5) → (x5 ≤ 1110) → (1 ≤ x6) → (x6 ≤ 10000) → ((-1) ≤ x7) → (x7 ≤ 2) → (x7 + 1) * 1 + 0 < (mz : Int) → sRn base X G d T49 14 [(0, vR 36), (1, vI place), (4, vI x4), (5, vI x5), (6, vI x6), (7, vI x7)] [] M (s_Q base (pI (fun v M' => M' = M ∧ ((done = 0 ∧ v = 0) ∨ (done = 1 ∧ 1 ≤ v ∧ v ≤ 10) ∨ (done = 2 ∧ 11 ≤ v ∧ v ≤ 110) ∨ (done = 3 ∧ 111 ≤ v ∧ v ≤ 1110)) ∧ (0 ≤ v ∧ v ≤ 1110))))) := by
  intro mz
  induction mz with
  | zero => exact fun x4 x5 x6 x7 z0 z1 z2 z3 z4 z5 z6 z7 z8 z9 z10 z11 => by omega
  | succ mz ih =>
    intro x4 x5 x6 x7 i0 i1 i2 i3 i4 i5 i6 i7 i8 i9 i10 hmu
    refine s_blx (lv' := [(0, vR 36), (1, vI place), (4, vI x4), (5, vI x5), (6, vI x6), (7, vI x7)]) (st' := [vI x7]) B49_14_16 rfl ?_
    refine r_ifc (tgt := 84) (pc' := 19) D49_16 rfl rfl (by unfold inR; omega) (fun (c1 : x7 < 0) => ?_) (fun (c1 : ¬ (x7 < 0)) => ?_)
    · refine s_blx (lv' := [(0, vR 36), (1, vI place), (4, vI x4), (5, vI x5), (6, vI x6), (7, vI x7)]) (st' := [vI x4]) B49_84_86 rfl ?_
      exact r_iretI D49_86 rfl (⟨rfl, by omega, by omega⟩)
    · refine s_blx (lv' := [(0, vR 36), (1, vI place), (4, vI x4), (5, vI x5), (6, vI x6), (7, vI x7)]) (st' := [vI 10, vI (x5 - 1)]) B49_19_25 rfl ?_
      refine r_irem (pc' := 26) D49_25 rfl (by omega) ?_
      refine s_blx (lv' := [(8, vI ((x5 - 1) % 10)), (0, vR 36), (1, vI place), (4, vI x4), (5, vI x5), (6, vI x6), (7, vI x7)]) (st' := [vI 10, vI (x5 - 1)]) B49_26_34 rfl ?_
      refine r_idiv (pc' := 35) D49_34 rfl (by omega) ?_
      refine s_blx (lv' := [(5, vI ((x5 - 1) / 10)), (8, vI ((x5 - 1) % 10)), (0, vR 36), (1, vI place), (4, vI x4), (6, vI x6), (7, vI x7)]) (st' := [vI 8, vI ((x5 - 1) % 10)]) B49_35_41 rfl ?_
      refine r_icmp (tgt := 71) (pc' := 44) D49_41 rfl rfl (by unfold inR; omega) (fun (c2 : 8 ≤ ((x5 - 1) % 10)) => ?_) (fun (c2 : ¬ (8 ≤ ((x5 - 1) % 10))) => ?_)
      · refine s_blx (lv' := [(7, vI (x7 + (-1))), (6, vI (x6 * 10)), (5, vI ((x5 - 1) / 10)), (8, vI ((x5 - 1) % 10)), (0, vR 36), (1, vI place), (4, vI x4)]) (st' := []) B49_71_81 rfl ?_
        refine r_goto (tgt := 14) D49_81 rfl ?_
        refine r_loc (lv' := [(0, vR 36), (1, vI place), (4, vI x4), (5, vI ((x5 - 1) / 10)), (6, vI (x6 * 10)), (7, vI (x7 + (-1)))]) ⟨rfl, rfl, rfl, rfl, rfl, rfl, trivial⟩ rfl rfl ?_
        exact ih x4 ((x5 - 1) / 10) (x6 * 10) (x7 + (-1)) (by rcases i0 with ⟨z1, rfl, z2⟩ | ⟨z1, rfl, z2⟩ | ⟨z1, rfl, z2⟩ | ⟨z1, rfl, z2⟩ <;> omega) (by omega) (by omega) (by omega) (by omega) (by omega) (by omega) (by omega) (by omega) (by omega) (by omega) (by omega)
      · refine s_blx (lv' := [(5, vI ((x5 - 1) / 10)), (8, vI ((x5 - 1) % 10)), (0, vR 36), (1, vI place), (4, vI x4), (6, vI x6), (7, vI x7)]) (st' := [vR 36, vR 36, vI x4]) B49_44_48 rfl ?_
        refine r_gfix (r := 20) (pc' := 51) D49_48 rfl gf_7_31_36 H.1 ?_
        refine s_blx (lv' := [(5, vI ((x5 - 1) / 10)), (8, vI ((x5 - 1) % 10)), (0, vR 36), (1, vI place), (4, vI x4), (6, vI x6), (7, vI x7)]) (st' := [vI x7, vI place, vR 20, vR 36, vI x4]) B49_51_54 rfl ?_
        refine r_vIp (c := 20) (args := [vI place, vI x7]) (rest := [vR 36, vI x4]) (pc' := 57) D49_54 rfl ck_7_virtual_72 TE85 rfl (Nat.le_of_ble_eq_true rfl) ⟨Nat.le_of_ble_eq_true rfl, Nat.le_of_ble_eq_true rfl⟩ sc_20 ⟨rfl, by decide⟩ H.1 (dp_0 hd rfl) (k85_20 E (dp_n hd rfl) H place x7 (by omega) (by omega)) ?_
        intro v3 q6
        have q5 := q6; clear q6
        refine s_blx (lv' := [(5, vI ((x5 - 1) / 10)), (8, vI ((x5 - 1) % 10)), (0, vR 36), (1, vI place), (4, vI x4), (6, vI x6), (7, vI x7)]) (st' := [vI ((x5 - 1) % 10), vI v3, vR 36, vI x4]) B49_57_59 rfl ?_
        refine r_vIp (c := 36) (args := [vI v3, vI ((x5 - 1) % 10)]) (rest := [vI x4]) (pc' := 62) D49_59 rfl ck_7_virtual_75 TE50 rfl (Nat.le_of_ble_eq_true rfl) ⟨Nat.le_of_ble_eq_true rfl, Nat.le_of_ble_eq_true rfl⟩ sc_36 ⟨rfl, by decide⟩ H.1 (dp_0 hd rfl) (k50_36 E (dp_n hd rfl) H v3 ((x5 - 1) % 10) (by omega) (by omega)) ?_
        intro v7 q10
        have q9 := q10; clear q10
        refine s_blx (lv' := [(7, vI (x7 + (-1))), (6, vI (x6 * 10)), (4, vI (x4 + ((v7 - ((x5 - 1) % 10)) * x6))), (5, vI ((x5 - 1) / 10)), (8, vI ((x5 - 1) % 10)), (0, vR 36), (1, vI place)]) (st' := []) B49_62_81 rfl ?_
        refine r_goto (tgt := 14) D49_81 rfl ?_
        refine r_loc (lv' := [(0, vR 36), (1, vI place), (4, vI (x4 + ((v7 - ((x5 - 1) % 10)) * x6))), (5, vI ((x5 - 1) / 10)), (6, vI (x6 * 10)), (7, vI (x7 + (-1)))]) ⟨rfl, rfl, rfl, rfl, rfl, rfl, trivial⟩ rfl rfl ?_
        exact ih (x4 + ((v7 - ((x5 - 1) % 10)) * x6)) ((x5 - 1) / 10) (x6 * 10) (x7 + (-1)) (by rcases i0 with ⟨z1, rfl, z2⟩ | ⟨z1, rfl, z2⟩ | ⟨z1, rfl, z2⟩ | ⟨z1, rfl, z2⟩ <;> omega) (by omega) (by omega) (by omega) (by omega) (by omega) (by omega) (by omega) (by omega) (by omega) (by omega) (by omega)
set_option maxRecDepth 4000 in
theorem k49_36 {base : Nat} {X : Nat → Option mC} {G : Nat → Value} (E : EnvOK base X G) {d : Nat} (hd : 1 ≤ d) {M : mH} (H : HI base M) (place : Int) (said : Int) (done : Int) (h0 : 0 ≤ place ∧ place ≤ 144) (h1 : (done = 0 ∧ said = 0) ∨ (done = 1 ∧ 1 ≤ said ∧ said ≤ 10) ∨ (done = 2 ∧ 11 ≤ said ∧ said ≤ 110) ∨ (done = 3 ∧ 111 ≤ said ∧ said ≤ 1110)) (h2 : 0 ≤ done ∧ done ≤ 3) (h3 : 0 ≤ said ∧ said ≤ 1110) : sOk base X G d T49 [vR 36, vI place, vI said, vI done] M (pI (fun v M' => M' = M ∧ ((done = 0 ∧ v = 0) ∨ (done = 1 ∧ 1 ≤ v ∧ v ≤ 10) ∨ (done = 2 ∧ 11 ≤ v ∧ v ≤ 110) ∨ (done = 3 ∧ 111 ≤ v ∧ v ≤ 1110)) ∧ (0 ≤ v ∧ v ≤ 1110))) := by
  refine sOk.of (show sRn base X G d T49 0 [(0, vR 36), (1, vI place), (2, vI said), (3, vI done)] [] M _ from ?_)
  refine s_blx (lv' := [(7, vI (done - 1)), (6, vI 1), (5, vI said), (4, vI said), (0, vR 36), (1, vI place), (2, vI said), (3, vI done)]) (st' := []) B49_0_14 rfl ?_
  refine r_loc (lv' := [(0, vR 36), (1, vI place), (4, vI said), (5, vI said), (6, vI 1), (7, vI (done - 1))]) ⟨rfl, rfl, rfl, rfl, rfl, rfl, trivial⟩ rfl rfl ?_
  exact (L_k49_36 E hd H place said done h0 h1 h2 h3 ((((done - 1) + 1) * 1 + 0 : Int) + 1).toNat) said said 1 (done - 1) (by omega) (by omega) (by omega) (by omega) (by omega) (by omega) (by omega) (by omega) (by omega) (by omega) (by omega) (by omega)
set_option maxRecDepth 4000 in
theorem k50_55 {base : Nat} {X : Nat → Option mC} {G : Nat → Value} (E : EnvOK base X G) {d : Nat} (hd : 0 ≤ d) {M : mH} (H : HI base M) (at_ : Int) (value : Int) (h0 : 0 ≤ at_ ∧ at_ ≤ 434) (h1 : 0 ≤ value ∧ value ≤ 7) : sOk base X G d T50 [vR 55, vI at_, vI value] M (pI (fun v M' => M' = M ∧ (0 ≤ v ∧ v ≤ 9))) := by
  refine sOk.of (show sRn base X G d T50 0 [(0, vR 55), (1, vI at_), (2, vI value)] [] M _ from ?_)
  refine s_blx (lv' := [(0, vR 55), (1, vI at_), (2, vI value)]) (st' := [vR 55]) B50_0_1 rfl ?_
  refine r_gfix (r := 39) (pc' := 4) D50_1 rfl gf_7_31_55 H.1 ?_
  refine r_gfix (r := 46) (pc' := 7) D50_4 rfl gf_7_78_39 H.1 ?_
  refine s_blx (lv' := [(0, vR 55), (1, vI at_), (2, vI value)]) (st' := [vI at_, vR 46]) B50_7_8 rfl ?_
  refine r_iald (pc' := 9) D50_8 rfl sc_46 H.1 (by omega) ?_
  intro w1 e2 r3
  unfold inR at r3
  refine s_blx (lv' := [(0, vR 55), (1, vI at_), (2, vI value)]) (st' := [vI value, vI w1]) B50_9_10 rfl ?_
  refine r_bin (pc' := 11) D50_10 rfl rfl ?_
  intro z4 r5 _; unfold inR at r5
  refine s_blx (lv' := [(0, vR 55), (1, vI at_), (2, vI value)]) (st' := [vI 1, vI z4]) B50_11_12 rfl ?_
  refine r_and1 (pc' := 13) D50_12 rfl ?_
  refine r_ifc (tgt := 19) (pc' := 16) D50_13 rfl rfl (by unfold inR; omega) (fun (c6 : (z4 % 2) ≠ 0) => ?_) (fun (c6 : ¬ ((z4 % 2) ≠ 0)) => ?_)
  · refine s_blx (lv' := [(0, vR 55), (1, vI at_), (2, vI value)]) (st' := [vR 55]) B50_19_20 rfl ?_
    refine r_gfix (r := 39) (pc' := 23) D50_20 rfl gf_7_31_55 H.1 ?_
    refine r_gfix (r := 47) (pc' := 26) D50_23 rfl gf_7_81_39 H.1 ?_
    refine s_blx (lv' := [(0, vR 55), (1, vI at_), (2, vI value)]) (st' := [vI at_, vR 47]) B50_26_27 rfl ?_
    refine r_iald (pc' := 28) D50_27 rfl sc_47 H.1 (by omega) ?_
    intro w7 e8 r9
    have b_w7 := H.2 47 (at_) (-1) 7 rfl
    rw [← e8] at b_w7; clear r9
    refine s_blx (lv' := [(0, vR 55), (1, vI at_), (2, vI value)]) (st' := [vI (-1), vI w7]) B50_28_29 rfl ?_
    refine r_icmp (tgt := 36) (pc' := 32) D50_29 rfl rfl (by unfold inR; omega) (fun (c10 : w7 ≠ (-1)) => ?_) (fun (c10 : ¬ (w7 ≠ (-1))) => ?_)
    · refine s_blx (lv' := [(0, vR 55), (1, vI at_), (2, vI value)]) (st' := [vI 8]) B50_36_38 rfl ?_
      exact r_iretI D50_38 rfl (⟨rfl, by omega⟩)
    · refine s_blx (lv' := [(0, vR 55), (1, vI at_), (2, vI value)]) (st' := [vI value]) B50_32_33 rfl ?_
      refine r_goto (tgt := 38) D50_33 rfl ?_
      exact r_iretI D50_38 rfl (⟨rfl, by omega⟩)
  · refine s_blx (lv' := [(0, vR 55), (1, vI at_), (2, vI value)]) (st' := [vI 9]) B50_16_18 rfl ?_
    exact r_iretI D50_18 rfl (⟨rfl, by omega⟩)
set_option maxRecDepth 4000 in
theorem L_k49_55 {base : Nat} {X : Nat → Option mC} {G : Nat → Value} (E : EnvOK base X G) {d : Nat} (hd : 1 ≤ d) {M : mH} (H : HI base M) (place : Int) (said : Int) (done : Int) (h0 : 0 ≤ place ∧ place ≤ 144) (h1 : (done = 0 ∧ said = 0) ∨ (done = 1 ∧ 1 ≤ said ∧ said ≤ 10) ∨ (done = 2 ∧ 11 ≤ said ∧ said ≤ 110) ∨ (done = 3 ∧ 111 ≤ said ∧ said ≤ 1110)) (h2 : 0 ≤ done ∧ done ≤ 3) (h3 : 0 ≤ said ∧ said ≤ 1110) : ∀ mz : Nat, (∀ (x4 x5 x6 x7 : Int), ((done - 1 - x7 = 0 ∧ x6 = 1 ∧ x4 = x5) ∨ (done - 1 - x7 = 1 ∧ x6 = 10 ∧ 1 ≤ x4 - 10 * x5 ∧ x4 - 10 * x5 ≤ 10) ∨ (done - 1 - x7 = 2 ∧ x6 = 100 ∧ 11 ≤ x4 - 100 * x5 ∧ x4 - 100 * x5 ≤ 110) ∨ (done - 1 - x7 = 3 ∧ x6 = 1000 ∧ 111 ≤ x4 - 1000 * x5 ∧ x4 - 1000 * x5 ≤ 1110)) → (((x7 + 1) = 0 ∧ x5 = 0) ∨ ((x7 + 1) = 1 ∧ 1 ≤ x5 ∧ x5 ≤ 10) ∨ ((x7 + 1) = 2 ∧ 11 ≤ x5 ∧ x5 ≤ 110) ∨ ((x7 + 1) = 3 ∧ 111 ≤ x5 ∧ x5 ≤ 1110)) → (0 ≤ x5 ∧ x5 ≤ 1110) → (1 ≤ x6 ∧ x6 ≤ 1000) → (-1 ≤ x7 ∧ x7 ≤ 2) → ((-1) ≤ x5) → (x5 ≤ 1110) → (1 ≤ x6) → (x6 ≤ 10000) → ((-1) ≤ x7) → (x7 ≤ 2) → (x7 + 1) * 1 + 0 < (mz : Int) → sRn base X G d T49 14 [(0, vR 55), (1, vI place), (4, vI x4), (5, vI x5), (6, vI x6), (7, vI x7)] [] M (s_Q base (pI (fun v M' => M' = M ∧ ((done = 0 ∧ v = 0) ∨ (done = 1 ∧ 1 ≤ v ∧ v ≤ 10) ∨ (done = 2 ∧ 11 ≤ v ∧ v ≤ 110) ∨ (done = 3 ∧ 111 ≤ v ∧ v ≤ 1110)) ∧ (0 ≤ v ∧ v ≤ 1110))))) := by
  intro mz
  induction mz with
  | zero => exact fun x4 x5 x6 x7 z0 z1 z2 z3 z4 z5 z6 z7 z8 z9 z10 z11 => by omega
  | succ mz ih =>
    intro x4 x5 x6 x7 i0 i1 i2 i3 i4 i5 i6 i7 i8 i9 i10 hmu
    refine s_blx (lv' := [(0, vR 55), (1, vI place), (4, vI x4), (5, vI x5), (6, vI x6), (7, vI x7)]) (st' := [vI x7]) B49_14_16 rfl ?_
    refine r_ifc (tgt := 84) (pc' := 19) D49_16 rfl rfl (by unfold inR; omega) (fun (c1 : x7 < 0) => ?_) (fun (c1 : ¬ (x7 < 0)) => ?_)
    · refine s_blx (lv' := [(0, vR 55), (1, vI place), (4, vI x4), (5, vI x5), (6, vI x6), (7, vI x7)]) (st' := [vI x4]) B49_84_86 rfl ?_
      exact r_iretI D49_86 rfl (⟨rfl, by omega, by omega⟩)
    · refine s_blx (lv' := [(0, vR 55), (1, vI place), (4, vI x4), (5, vI x5), (6, vI x6), (7, vI x7)]) (st' := [vI 10, vI (x5 - 1)]) B49_19_25 rfl ?_
      refine r_irem (pc' := 26) D49_25 rfl (by omega) ?_
      refine s_blx (lv' := [(8, vI ((x5 - 1) % 10)), (0, vR 55), (1, vI place), (4, vI x4), (5, vI x5), (6, vI x6), (7, vI x7)]) (st' := [vI 10, vI (x5 - 1)]) B49_26_34 rfl ?_
      refine r_idiv (pc' := 35) D49_34 rfl (by omega) ?_
      refine s_blx (lv' := [(5, vI ((x5 - 1) / 10)), (8, vI ((x5 - 1) % 10)), (0, vR 55), (1, vI place), (4, vI x4), (6, vI x6), (7, vI x7)]) (st' := [vI 8, vI ((x5 - 1) % 10)]) B49_35_41 rfl ?_
      refine r_icmp (tgt := 71) (pc' := 44) D49_41 rfl rfl (by unfold inR; omega) (fun (c2 : 8 ≤ ((x5 - 1) % 10)) => ?_) (fun (c2 : ¬ (8 ≤ ((x5 - 1) % 10))) => ?_)
      · refine s_blx (lv' := [(7, vI (x7 + (-1))), (6, vI (x6 * 10)), (5, vI ((x5 - 1) / 10)), (8, vI ((x5 - 1) % 10)), (0, vR 55), (1, vI place), (4, vI x4)]) (st' := []) B49_71_81 rfl ?_
        refine r_goto (tgt := 14) D49_81 rfl ?_
        refine r_loc (lv' := [(0, vR 55), (1, vI place), (4, vI x4), (5, vI ((x5 - 1) / 10)), (6, vI (x6 * 10)), (7, vI (x7 + (-1)))]) ⟨rfl, rfl, rfl, rfl, rfl, rfl, trivial⟩ rfl rfl ?_
        exact ih x4 ((x5 - 1) / 10) (x6 * 10) (x7 + (-1)) (by rcases i0 with ⟨z1, rfl, z2⟩ | ⟨z1, rfl, z2⟩ | ⟨z1, rfl, z2⟩ | ⟨z1, rfl, z2⟩ <;> omega) (by omega) (by omega) (by omega) (by omega) (by omega) (by omega) (by omega) (by omega) (by omega) (by omega) (by omega)
      · refine s_blx (lv' := [(5, vI ((x5 - 1) / 10)), (8, vI ((x5 - 1) % 10)), (0, vR 55), (1, vI place), (4, vI x4), (6, vI x6), (7, vI x7)]) (st' := [vR 55, vR 55, vI x4]) B49_44_48 rfl ?_
        refine r_gfix (r := 39) (pc' := 51) D49_48 rfl gf_7_31_55 H.1 ?_
        refine s_blx (lv' := [(5, vI ((x5 - 1) / 10)), (8, vI ((x5 - 1) % 10)), (0, vR 55), (1, vI place), (4, vI x4), (6, vI x6), (7, vI x7)]) (st' := [vI x7, vI place, vR 39, vR 55, vI x4]) B49_51_54 rfl ?_
        refine r_vIp (c := 39) (args := [vI place, vI x7]) (rest := [vR 55, vI x4]) (pc' := 57) D49_54 rfl ck_7_virtual_72 TE85 rfl (Nat.le_of_ble_eq_true rfl) ⟨Nat.le_of_ble_eq_true rfl, Nat.le_of_ble_eq_true rfl⟩ sc_39 ⟨rfl, by decide⟩ H.1 (dp_0 hd rfl) (k85_39 E (dp_n hd rfl) H place x7 (by omega) (by omega)) ?_
        intro v3 q6
        have q5 := q6; clear q6
        refine s_blx (lv' := [(5, vI ((x5 - 1) / 10)), (8, vI ((x5 - 1) % 10)), (0, vR 55), (1, vI place), (4, vI x4), (6, vI x6), (7, vI x7)]) (st' := [vI ((x5 - 1) % 10), vI v3, vR 55, vI x4]) B49_57_59 rfl ?_
        refine r_vIp (c := 55) (args := [vI v3, vI ((x5 - 1) % 10)]) (rest := [vI x4]) (pc' := 62) D49_59 rfl ck_7_virtual_75 TE50 rfl (Nat.le_of_ble_eq_true rfl) ⟨Nat.le_of_ble_eq_true rfl, Nat.le_of_ble_eq_true rfl⟩ sc_55 ⟨rfl, by decide⟩ H.1 (dp_0 hd rfl) (k50_55 E (dp_n hd rfl) H v3 ((x5 - 1) % 10) (by omega) (by omega)) ?_
        intro v7 q10
        have q9 := q10; clear q10
        refine s_blx (lv' := [(7, vI (x7 + (-1))), (6, vI (x6 * 10)), (4, vI (x4 + ((v7 - ((x5 - 1) % 10)) * x6))), (5, vI ((x5 - 1) / 10)), (8, vI ((x5 - 1) % 10)), (0, vR 55), (1, vI place)]) (st' := []) B49_62_81 rfl ?_
        refine r_goto (tgt := 14) D49_81 rfl ?_
        refine r_loc (lv' := [(0, vR 55), (1, vI place), (4, vI (x4 + ((v7 - ((x5 - 1) % 10)) * x6))), (5, vI ((x5 - 1) / 10)), (6, vI (x6 * 10)), (7, vI (x7 + (-1)))]) ⟨rfl, rfl, rfl, rfl, rfl, rfl, trivial⟩ rfl rfl ?_
        exact ih (x4 + ((v7 - ((x5 - 1) % 10)) * x6)) ((x5 - 1) / 10) (x6 * 10) (x7 + (-1)) (by rcases i0 with ⟨z1, rfl, z2⟩ | ⟨z1, rfl, z2⟩ | ⟨z1, rfl, z2⟩ | ⟨z1, rfl, z2⟩ <;> omega) (by omega) (by omega) (by omega) (by omega) (by omega) (by omega) (by omega) (by omega) (by omega) (by omega) (by omega)
set_option maxRecDepth 4000 in
theorem k49_55 {base : Nat} {X : Nat → Option mC} {G : Nat → Value} (E : EnvOK base X G) {d : Nat} (hd : 1 ≤ d) {M : mH} (H : HI base M) (place : Int) (said : Int) (done : Int) (h0 : 0 ≤ place ∧ place ≤ 144) (h1 : (done = 0 ∧ said = 0) ∨ (done = 1 ∧ 1 ≤ said ∧ said ≤ 10) ∨ (done = 2 ∧ 11 ≤ said ∧ said ≤ 110) ∨ (done = 3 ∧ 111 ≤ said ∧ said ≤ 1110)) (h2 : 0 ≤ done ∧ done ≤ 3) (h3 : 0 ≤ said ∧ said ≤ 1110) : sOk base X G d T49 [vR 55, vI place, vI said, vI done] M (pI (fun v M' => M' = M ∧ ((done = 0 ∧ v = 0) ∨ (done = 1 ∧ 1 ≤ v ∧ v ≤ 10) ∨ (done = 2 ∧ 11 ≤ v ∧ v ≤ 110) ∨ (done = 3 ∧ 111 ≤ v ∧ v ≤ 1110)) ∧ (0 ≤ v ∧ v ≤ 1110))) := by
  refine sOk.of (show sRn base X G d T49 0 [(0, vR 55), (1, vI place), (2, vI said), (3, vI done)] [] M _ from ?_)
  refine s_blx (lv' := [(7, vI (done - 1)), (6, vI 1), (5, vI said), (4, vI said), (0, vR 55), (1, vI place), (2, vI said), (3, vI done)]) (st' := []) B49_0_14 rfl ?_
  refine r_loc (lv' := [(0, vR 55), (1, vI place), (4, vI said), (5, vI said), (6, vI 1), (7, vI (done - 1))]) ⟨rfl, rfl, rfl, rfl, rfl, rfl, trivial⟩ rfl rfl ?_
  exact (L_k49_55 E hd H place said done h0 h1 h2 h3 ((((done - 1) + 1) * 1 + 0 : Int) + 1).toNat) said said 1 (done - 1) (by omega) (by omega) (by omega) (by omega) (by omega) (by omega) (by omega) (by omega) (by omega) (by omega) (by omega) (by omega)
set_option maxRecDepth 4000 in
theorem L_k56_36 {base : Nat} {X : Nat → Option mC} {G : Nat → Value} (E : EnvOK base X G) {rr : Nat} (ihr : ∀ {d : Nat} (_ : 8 + 4 * rr ≤ d) {M : mH} (_ : HI base M) (place : Int) (said : Int) (done : Int) (depth : Int) (n : Int), (RW base 37 n M) → (TR 21 n M) → (1 ≤ n ∧ n ≤ 145) → (0 ≤ done ∧ done ≤ 3 ∧ 0 ≤ said ∧ said ≤ 1110) → (1 ≤ place ∧ place < n) → ((done = 0 ∧ said = 0) ∨ (done = 1 ∧ 1 ≤ said ∧ said ≤ 10) ∨ (done = 2 ∧ 11 ≤ said ∧ said ≤ 110) ∨ (done = 3 ∧ 111 ≤ said ∧ said ≤ 1110)) → (0 ≤ depth ∧ depth ≤ 41) → 41 - depth < ((rr : Nat) : Int) → sOk base X G d T52 [vR 36, vI place, vI said, vI done, vI depth] M (pL (fun v M' => HI base M' ∧ Fq [(38, 0)] M M'))) {d : Nat} (hd : 9 + 4 * rr ≤ d) {M : mH} (H : HI base M) (place : Int) (said : Int) (done : Int) (depth : Int) (n : Int) (h0 : RW base 37 n M) (h1 : TR 21 n M) (h2 : 1 ≤ n ∧ n ≤ 145) (h3 : 0 ≤ done ∧ done ≤ 3 ∧ 0 ≤ said ∧ said ≤ 1110) (h4 : 0 ≤ place ∧ place < n) (h5 : (done = 0 ∧ said = 0) ∨ (done = 1 ∧ 1 ≤ said ∧ said ≤ 10) ∨ (done = 2 ∧ 11 ≤ said ∧ said ≤ 110) ∨ (done = 3 ∧ 111 ≤ said ∧ said ≤ 1110)) (h6 : 0 ≤ depth ∧ depth ≤ 40 ∧ 40 - depth < (rr : Int)) : ∀ mz : Nat, (∀ (x5 x7 x8 : Int) (N : mH), HI base N → Fq [(38, 0)] M N → (x7 = -1 ∨ (1 ≤ x7 ∧ x7 < n)) → ((-1) ≤ x7) → (x7 ≤ 144) → (0 ≤ x8) → (x8 ≤ 145) → (145 - x8) * 1 + 0 < (mz : Int) → sRn base X G d T56 17 [(0, vR 36), (2, vI said), (3, vI done), (4, vI depth), (5, vL x5), (7, vI x7), (8, vI x8)] [] N (s_Q base (pL (fun v M' => HI base M' ∧ Fq [(38, 0)] M M')))) := by
  have f0 : Fq [(38, 0)] M M := Fq.rf
  intro mz
  induction mz with
  | zero => exact fun x5 x7 x8 N _ _ z0 z1 z2 z3 z4 z5 => by omega
  | succ mz ih =>
    intro x5 x7 x8 N HN fN i0 i1 i2 i3 i4 hmu
    refine s_blx (lv' := [(0, vR 36), (2, vI said), (3, vI done), (4, vI depth), (5, vL x5), (7, vI x7), (8, vI x8)]) (st' := [vI 145, vI x8]) B56_17_22 rfl ?_
    refine r_icmp (tgt := 96) (pc' := 25) D56_22 rfl rfl (by unfold inR; omega) (fun (c4 : 145 ≤ x8) => ?_) (fun (c4 : ¬ (145 ≤ x8)) => ?_)
    · refine s_blx (lv' := [(0, vR 36), (2, vI said), (3, vI done), (4, vI depth), (5, vL x5), (7, vI x7), (8, vI x8)]) (st' := [vL x5]) B56_96_98 rfl ?_
      exact r_lretL D56_98 rfl (⟨HN, fN⟩)
    · refine s_blx (lv' := [(0, vR 36), (2, vI said), (3, vI done), (4, vI depth), (5, vL x5), (7, vI x7), (8, vI x8)]) (st' := [vI (-1), vI x7]) B56_25_28 rfl ?_
      refine r_icmp (tgt := 96) (pc' := 31) D56_28 rfl rfl (by unfold inR; omega) (fun (c5 : x7 = (-1)) => ?_) (fun (c5 : ¬ (x7 = (-1))) => ?_)
      · refine s_blx (lv' := [(0, vR 36), (2, vI said), (3, vI done), (4, vI depth), (5, vL x5), (7, vI x7), (8, vI x8)]) (st' := [vL x5]) B56_96_98 rfl ?_
        exact r_lretL D56_98 rfl (⟨HN, fN⟩)
      · refine s_blx (lv' := [(0, vR 36), (2, vI said), (3, vI done), (4, vI depth), (5, vL x5), (7, vI x7), (8, vI x8)]) (st' := [vR 36]) B56_31_32 rfl ?_
        refine r_gfix (r := 20) (pc' := 35) D56_32 rfl gf_7_31_36 HN.1 ?_
        refine r_gfix (r := 26) (pc' := 38) D56_35 rfl gf_7_124_20 HN.1 ?_
        refine s_blx (lv' := [(0, vR 36), (2, vI said), (3, vI done), (4, vI depth), (5, vL x5), (7, vI x7), (8, vI x8)]) (st' := [vI x7, vR 26]) B56_38_40 rfl ?_
        refine r_bald (pc' := 41) D56_40 rfl sc_26 (by decide) HN.1 (by omega) ?_
        intro w6 e7 r8
        have b_w6 := HN.2 26 (x7) 0 1 rfl
        rw [← e7] at b_w6; clear r8
        refine r_ifc (tgt := 55) (pc' := 44) D56_41 rfl rfl (by unfold inR; omega) (fun (c9 : w6 = 0) => ?_) (fun (c9 : ¬ (w6 = 0)) => ?_)
        · refine s_blx (lv' := [(9, vI said), (0, vR 36), (2, vI said), (3, vI done), (4, vI depth), (5, vL x5), (7, vI x7), (8, vI x8)]) (st' := [vI (depth + 1), vI done, vI said, vI x7, vR 36, vL x5]) B56_55_70 rfl ?_
          refine r_vL (c := 36) (args := [vI x7, vI said, vI done, vI (depth + 1)]) (rest := [vL x5]) (pc' := 73) D56_70 rfl ck_7_virtual_67 TE52 rfl (Nat.le_of_ble_eq_true rfl) ⟨Nat.le_of_ble_eq_true rfl, Nat.le_of_ble_eq_true rfl⟩ sc_36 ⟨rfl, by decide⟩ HN.1 (by omega) (ihr (by omega) HN x7 said done (depth + 1) n ((h0.fq fN rfl)) ((h1.fq fN rfl)) (by omega) (by omega) (by omega) (by omega) (by omega) (by omega)) ?_
          intro v10 M11 q14
          obtain ⟨H12, f13⟩ := q14
          have f15 := fN.tr (f13.up rfl)
          refine s_blx (lv' := [(9, vI said), (0, vR 36), (2, vI said), (3, vI done), (4, vI depth), (5, vL x5), (7, vI x7), (8, vI x8)]) (st' := [vI 5, vL v10, vL x5]) B56_73_74 rfl ?_
          refine r_binLI (pc' := 75) D56_74 rfl rfl ?_
          intro z16 _ _
          refine s_blx (lv' := [(5, vL (x5 + z16)), (9, vI said), (0, vR 36), (2, vI said), (3, vI done), (4, vI depth), (7, vI x7), (8, vI x8)]) (st' := [vR 36]) B56_75_79 rfl ?_
          refine r_gfix (r := 20) (pc' := 82) D56_79 rfl gf_7_31_36 H12.1 ?_
          refine r_gfix (r := 22) (pc' := 85) D56_82 rfl gf_7_127_20 H12.1 ?_
          refine s_blx (lv' := [(5, vL (x5 + z16)), (9, vI said), (0, vR 36), (2, vI said), (3, vI done), (4, vI depth), (7, vI x7), (8, vI x8)]) (st' := [vI x7, vR 22]) B56_85_87 rfl ?_
          refine r_iald (pc' := 88) D56_87 rfl sc_22 H12.1 (by omega) ?_
          intro w18 e19 r20
          have b_w18 := H12.2 22 (x7) (-1) 144 rfl
          rw [← e19] at b_w18; clear r20
          have tq := ((h1.fq f15 rfl) (x7) (by omega) (by omega)).2 (by omega)
          rw [← e19] at tq
          refine s_blx (lv' := [(8, vI (x8 + 1)), (7, vI w18), (5, vL (x5 + z16)), (9, vI said), (0, vR 36), (2, vI said), (3, vI done), (4, vI depth)]) (st' := []) B56_88_93 rfl ?_
          refine r_goto (tgt := 17) D56_93 rfl ?_
          refine r_loc (lv' := [(0, vR 36), (2, vI said), (3, vI done), (4, vI depth), (5, vL (x5 + z16)), (7, vI w18), (8, vI (x8 + 1))]) ⟨rfl, rfl, rfl, rfl, rfl, rfl, rfl, trivial⟩ rfl rfl ?_
          exact ih (x5 + z16) w18 (x8 + 1) M11 H12 f15 (by omega) (by omega) (by omega) (by omega) (by omega) (by omega)
        · refine s_blx (lv' := [(0, vR 36), (2, vI said), (3, vI done), (4, vI depth), (5, vL x5), (7, vI x7), (8, vI x8)]) (st' := [vI done, vI said, vI x7, vR 36]) B56_44_49 rfl ?_
          refine r_vIp (c := 36) (args := [vI x7, vI said, vI done]) (rest := []) (pc' := 52) D56_49 rfl ck_7_virtual_64 TE49 rfl (Nat.le_of_ble_eq_true rfl) ⟨Nat.le_of_ble_eq_true rfl, Nat.le_of_ble_eq_true rfl⟩ sc_36 ⟨rfl, by decide⟩ HN.1 (by omega) (k49_36 E (by omega) HN x7 said done (by omega) (by omega) (by omega) (by omega)) ?_
          intro v21 q25
          obtain ⟨q23, q24⟩ := q25
          refine r_goto (tgt := 56) D56_52 rfl ?_
          refine s_blx (lv' := [(9, vI v21), (0, vR 36), (2, vI said), (3, vI done), (4, vI depth), (5, vL x5), (7, vI x7), (8, vI x8)]) (st' := [vI (depth + 1), vI done, vI v21, vI x7, vR 36, vL x5]) B56_56_70 rfl ?_
          refine r_vL (c := 36) (args := [vI x7, vI v21, vI done, vI (depth + 1)]) (rest := [vL x5]) (pc' := 73) D56_70 rfl ck_7_virtual_67 TE52 rfl (Nat.le_of_ble_eq_true rfl) ⟨Nat.le_of_ble_eq_true rfl, Nat.le_of_ble_eq_true rfl⟩ sc_36 ⟨rfl, by decide⟩ HN.1 (by omega) (ihr (by omega) HN x7 v21 done (depth + 1) n ((h0.fq fN rfl)) ((h1.fq fN rfl)) (by omega) (by omega) (by omega) (by omega) (by omega) (by omega)) ?_
          intro v26 M27 q30
          obtain ⟨H28, f29⟩ := q30
          have f31 := fN.tr (f29.up rfl)
          refine s_blx (lv' := [(9, vI v21), (0, vR 36), (2, vI said), (3, vI done), (4, vI depth), (5, vL x5), (7, vI x7), (8, vI x8)]) (st' := [vI 5, vL v26, vL x5]) B56_73_74 rfl ?_
          refine r_binLI (pc' := 75) D56_74 rfl rfl ?_
          intro z32 _ _
          refine s_blx (lv' := [(5, vL (x5 + z32)), (9, vI v21), (0, vR 36), (2, vI said), (3, vI done), (4, vI depth), (7, vI x7), (8, vI x8)]) (st' := [vR 36]) B56_75_79 rfl ?_
          refine r_gfix (r := 20) (pc' := 82) D56_79 rfl gf_7_31_36 H28.1 ?_
          refine r_gfix (r := 22) (pc' := 85) D56_82 rfl gf_7_127_20 H28.1 ?_
          refine s_blx (lv' := [(5, vL (x5 + z32)), (9, vI v21), (0, vR 36), (2, vI said), (3, vI done), (4, vI depth), (7, vI x7), (8, vI x8)]) (st' := [vI x7, vR 22]) B56_85_87 rfl ?_
          refine r_iald (pc' := 88) D56_87 rfl sc_22 H28.1 (by omega) ?_
          intro w34 e35 r36
          have b_w34 := H28.2 22 (x7) (-1) 144 rfl
          rw [← e35] at b_w34; clear r36
          have tq := ((h1.fq f31 rfl) (x7) (by omega) (by omega)).2 (by omega)
          rw [← e35] at tq
          refine s_blx (lv' := [(8, vI (x8 + 1)), (7, vI w34), (5, vL (x5 + z32)), (9, vI v21), (0, vR 36), (2, vI said), (3, vI done), (4, vI depth)]) (st' := []) B56_88_93 rfl ?_
          refine r_goto (tgt := 17) D56_93 rfl ?_
          refine r_loc (lv' := [(0, vR 36), (2, vI said), (3, vI done), (4, vI depth), (5, vL (x5 + z32)), (7, vI w34), (8, vI (x8 + 1))]) ⟨rfl, rfl, rfl, rfl, rfl, rfl, rfl, trivial⟩ rfl rfl ?_
          exact ih (x5 + z32) w34 (x8 + 1) M27 H28 f31 (by omega) (by omega) (by omega) (by omega) (by omega) (by omega)
set_option maxRecDepth 4000 in
theorem k56_36 {base : Nat} {X : Nat → Option mC} {G : Nat → Value} (E : EnvOK base X G) {rr : Nat} (ihr : ∀ {d : Nat} (_ : 8 + 4 * rr ≤ d) {M : mH} (_ : HI base M) (place : Int) (said : Int) (done : Int) (depth : Int) (n : Int), (RW base 37 n M) → (TR 21 n M) → (1 ≤ n ∧ n ≤ 145) → (0 ≤ done ∧ done ≤ 3 ∧ 0 ≤ said ∧ said ≤ 1110) → (1 ≤ place ∧ place < n) → ((done = 0 ∧ said = 0) ∨ (done = 1 ∧ 1 ≤ said ∧ said ≤ 10) ∨ (done = 2 ∧ 11 ≤ said ∧ said ≤ 110) ∨ (done = 3 ∧ 111 ≤ said ∧ said ≤ 1110)) → (0 ≤ depth ∧ depth ≤ 41) → 41 - depth < ((rr : Nat) : Int) → sOk base X G d T52 [vR 36, vI place, vI said, vI done, vI depth] M (pL (fun v M' => HI base M' ∧ Fq [(38, 0)] M M'))) {d : Nat} (hd : 9 + 4 * rr ≤ d) {M : mH} (H : HI base M) (place : Int) (said : Int) (done : Int) (depth : Int) (n : Int) (h0 : RW base 37 n M) (h1 : TR 21 n M) (h2 : 1 ≤ n ∧ n ≤ 145) (h3 : 0 ≤ done ∧ done ≤ 3 ∧ 0 ≤ said ∧ said ≤ 1110) (h4 : 0 ≤ place ∧ place < n) (h5 : (done = 0 ∧ said = 0) ∨ (done = 1 ∧ 1 ≤ said ∧ said ≤ 10) ∨ (done = 2 ∧ 11 ≤ said ∧ said ≤ 110) ∨ (done = 3 ∧ 111 ≤ said ∧ said ≤ 1110)) (h6 : 0 ≤ depth ∧ depth ≤ 40 ∧ 40 - depth < (rr : Int)) : sOk base X G d T56 [vR 36, vI place, vI said, vI done, vI depth] M (pL (fun v M' => HI base M' ∧ Fq [(38, 0)] M M')) := by
  have f0 : Fq [(38, 0)] M M := Fq.rf
  refine sOk.of (show sRn base X G d T56 0 [(0, vR 36), (1, vI place), (2, vI said), (3, vI done), (4, vI depth)] [] M _ from ?_)
  refine s_blx (lv' := [(5, vL 0), (0, vR 36), (1, vI place), (2, vI said), (3, vI done), (4, vI depth)]) (st' := [vR 36]) B56_0_4 rfl ?_
  refine r_gfix (r := 20) (pc' := 7) D56_4 rfl gf_7_31_36 H.1 ?_
  refine r_gfix (r := 21) (pc' := 10) D56_7 rfl gf_7_121_20 H.1 ?_
  refine s_blx (lv' := [(5, vL 0), (0, vR 36), (1, vI place), (2, vI said), (3, vI done), (4, vI depth)]) (st' := [vI place, vR 21]) B56_10_11 rfl ?_
  refine r_iald (pc' := 12) D56_11 rfl sc_21 H.1 (by omega) ?_
  intro w1 e2 r3
  have b_w1 := H.2 21 (place) (-1) 144 rfl
  rw [← e2] at b_w1; clear r3
  have tq := (h1 (place) (by omega) (by omega)).1
  rw [← e2] at tq
  refine s_blx (lv' := [(8, vI 0), (7, vI w1), (5, vL 0), (0, vR 36), (1, vI place), (2, vI said), (3, vI done), (4, vI depth)]) (st' := []) B56_12_17 rfl ?_
  refine r_loc (lv' := [(0, vR 36), (2, vI said), (3, vI done), (4, vI depth), (5, vL 0), (7, vI w1), (8, vI 0)]) ⟨rfl, rfl, rfl, rfl, rfl, rfl, rfl, trivial⟩ rfl rfl ?_
  exact (L_k56_36 E ihr hd H place said done depth n h0 h1 h2 h3 h4 h5 h6 (((145 - 0) * 1 + 0 : Int) + 1).toNat) 0 w1 0 M H f0 (by omega) (by omega) (by omega) (by omega) (by omega) (by omega)
set_option maxRecDepth 4000 in
theorem k55_36 {base : Nat} {X : Nat → Option mC} {G : Nat → Value} (E : EnvOK base X G) {rr : Nat} (ihr : ∀ {d : Nat} (_ : 8 + 4 * rr ≤ d) {M : mH} (_ : HI base M) (place : Int) (said : Int) (done : Int) (depth : Int) (n : Int), (RW base 37 n M) → (TR 21 n M) → (1 ≤ n ∧ n ≤ 145) → (0 ≤ done ∧ done ≤ 3 ∧ 0 ≤ said ∧ said ≤ 1110) → (1 ≤ place ∧ place < n) → ((done = 0 ∧ said = 0) ∨ (done = 1 ∧ 1 ≤ said ∧ said ≤ 10) ∨ (done = 2 ∧ 11 ≤ said ∧ said ≤ 110) ∨ (done = 3 ∧ 111 ≤ said ∧ said ≤ 1110)) → (0 ≤ depth ∧ depth ≤ 41) → 41 - depth < ((rr : Nat) : Int) → sOk base X G d T52 [vR 36, vI place, vI said, vI done, vI depth] M (pL (fun v M' => HI base M' ∧ Fq [(38, 0)] M M'))) {d : Nat} (hd : 10 + 4 * rr ≤ d) {M : mH} (H : HI base M) (place : Int) (said : Int) (done : Int) (depth : Int) (n : Int) (h0 : RW base 37 n M) (h1 : TR 21 n M) (h2 : 1 ≤ n ∧ n ≤ 145) (h3 : 0 ≤ done ∧ done ≤ 3 ∧ 0 ≤ said ∧ said ≤ 1110) (h4 : 1 ≤ place ∧ place < n) (h5 : (done = 0 ∧ said = 0) ∨ (done = 1 ∧ 1 ≤ said ∧ said ≤ 10) ∨ (done = 2 ∧ 11 ≤ said ∧ said ≤ 110) ∨ (done = 3 ∧ 111 ≤ said ∧ said ≤ 1110)) (h6 : 0 ≤ depth ∧ depth ≤ 40 ∧ 40 - depth < (rr : Int)) : sOk base X G d T55 [vR 36, vI place, vI said, vI done, vI depth] M (pL (fun v M' => HI base M' ∧ Fq [(38, 0)] M M')) := by
  have f0 : Fq [(38, 0)] M M := Fq.rf
  refine sOk.of (show sRn base X G d T55 0 [(0, vR 36), (1, vI place), (2, vI said), (3, vI done), (4, vI depth)] [] M _ from ?_)
  refine s_blx (lv' := [(0, vR 36), (1, vI place), (2, vI said), (3, vI done), (4, vI depth)]) (st' := [vR 36]) B55_0_1 rfl ?_
  refine r_gfix (r := 37) (pc' := 4) D55_1 rfl gf_7_13_36 H.1 ?_
  refine s_blx (lv' := [(0, vR 36), (1, vI place), (2, vI said), (3, vI done), (4, vI depth)]) (st' := [vI place, vR 37]) B55_4_5 rfl ?_
  obtain ⟨r1, a2, a3⟩ := h0 (place) (by omega) (by omega)
  refine r_aald (v := vR r1) (pc' := 6) D55_5 rfl sc_37 (by decide) H.1 (by omega) a2 ?_
  refine s_blx (lv' := [(0, vR 36), (1, vI place), (2, vI said), (3, vI done), (4, vI depth)]) (st' := [vI said, vR (r1)]) B55_6_7 rfl ?_
  refine r_laldD (pc' := 8) D55_7 rfl a3 (by omega) ?_
  intro w4
  refine s_blx (lv' := [(5, vL w4), (0, vR 36), (1, vI place), (2, vI said), (3, vI done), (4, vI depth)]) (st' := [vI 32, vL w4]) B55_8_14 rfl ?_
  refine r_binLI (pc' := 15) D55_14 rfl rfl ?_
  intro z5 _ _
  refine s_blx (lv' := [(5, vL w4), (0, vR 36), (1, vI place), (2, vI said), (3, vI done), (4, vI depth)]) (st' := [vR 36, vL z5]) B55_15_16 rfl ?_
  refine r_glong (ki := 3) (pc' := 19) D55_16 rfl gf_7_23_36 rfl H.1 ?_
  intro w7 e8 r9
  clear r9
  refine r_lcmp (pc' := 20) D55_19 rfl ?_
  intro z10 r11 r12
  refine r_ifc (tgt := 30) (pc' := 23) D55_20 rfl rfl (by unfold inR; omega) (fun (c13 : z10 ≠ 0) => ?_) (fun (c13 : ¬ (z10 ≠ 0)) => ?_)
  · refine s_blx (lv' := [(5, vL w4), (0, vR 36), (1, vI place), (2, vI said), (3, vI done), (4, vI depth)]) (st' := [vR 36]) B55_30_31 rfl ?_
    refine r_gfix (r := 38) (pc' := 34) D55_31 rfl gf_7_19_36 H.1 ?_
    refine s_blx (lv' := [(5, vL w4), (0, vR 36), (1, vI place), (2, vI said), (3, vI done), (4, vI depth)]) (st' := [vI ((place * 4) + done), vR 38]) B55_34_39 rfl ?_
    refine r_iald (pc' := 40) D55_39 rfl sc_38 H.1 (by omega) ?_
    intro w14 e15 r16
    unfold inR at r16
    refine r_i2l (pc' := 41) D55_40 rfl (by unfold inR; omega) ?_
    refine s_blx (lv' := [(7, vL w14), (5, vL w4), (0, vR 36), (1, vI place), (2, vI said), (3, vI done), (4, vI depth)]) (st' := [vR 36]) B55_41_44 rfl ?_
    refine r_gfix (r := 20) (pc' := 47) D55_44 rfl gf_7_31_36 H.1 ?_
    refine r_gfix (r := 25) (pc' := 50) D55_47 rfl gf_7_84_20 H.1 ?_
    refine s_blx (lv' := [(7, vL w14), (5, vL w4), (0, vR 36), (1, vI place), (2, vI said), (3, vI done), (4, vI depth)]) (st' := [vI place, vR 25]) B55_50_51 rfl ?_
    refine r_bald (pc' := 52) D55_51 rfl sc_25 (by decide) H.1 (by omega) ?_
    intro w17 e18 r19
    have b_w17 := H.2 25 (place) 0 1 rfl
    rw [← e18] at b_w17; clear r19
    refine r_ifc (tgt := 76) (pc' := 55) D55_52 rfl rfl (by unfold inR; omega) (fun (c20 : w17 = 0) => ?_) (fun (c20 : ¬ (w17 = 0)) => ?_)
    · refine s_blx (lv' := [(7, vL w14), (5, vL w4), (0, vR 36), (1, vI place), (2, vI said), (3, vI done), (4, vI depth)]) (st' := [vI depth, vI done, vI said, vI place, vR 36, vL w14]) B55_76_84 rfl ?_
      refine r_vL (c := 36) (args := [vI place, vI said, vI done, vI depth]) (rest := [vL w14]) (pc' := 87) D55_84 rfl ck_7_virtual_46 TE56 rfl (Nat.le_of_ble_eq_true rfl) ⟨Nat.le_of_ble_eq_true rfl, Nat.le_of_ble_eq_true rfl⟩ sc_36 ⟨rfl, by decide⟩ H.1 (by omega) (k56_36 E ihr (by omega) H place said done depth n (h0) (h1) (by omega) (by omega) (by omega) (by omega) (by omega)) ?_
      intro v21 M22 q25
      obtain ⟨H23, f24⟩ := q25
      have f26 := f0.tr (f24.up rfl)
      refine s_blx (lv' := [(7, vL (w14 + v21)), (5, vL w4), (0, vR 36), (1, vI place), (2, vI said), (3, vI done), (4, vI depth)]) (st' := [vR 36]) B55_87_91 rfl ?_
      refine r_gfix (r := 37) (pc' := 94) D55_91 rfl gf_7_13_36 H23.1 ?_
      refine s_blx (lv' := [(7, vL (w14 + v21)), (5, vL w4), (0, vR 36), (1, vI place), (2, vI said), (3, vI done), (4, vI depth)]) (st' := [vI place, vR 37]) B55_94_95 rfl ?_
      obtain ⟨r27, a28, a29⟩ := (h0.fq f26 rfl) (place) (by omega) (by omega)
      refine r_aald (v := vR r27) (pc' := 96) D55_95 rfl sc_37 (by decide) H23.1 (by omega) a28 ?_
      refine s_blx (lv' := [(7, vL (w14 + v21)), (5, vL w4), (0, vR 36), (1, vI place), (2, vI said), (3, vI done), (4, vI depth)]) (st' := [vR 36, vI said, vR (r27)]) B55_96_98 rfl ?_
      refine r_glong (ki := 3) (pc' := 101) D55_98 rfl gf_7_23_36 rfl H23.1 ?_
      intro w30 e31 r32
      clear r32
      refine s_blx (lv' := [(7, vL (w14 + v21)), (5, vL w4), (0, vR 36), (1, vI place), (2, vI said), (3, vI done), (4, vI depth)]) (st' := [vI 32, vL w30, vI said, vR (r27)]) B55_101_103 rfl ?_
      refine r_binLI (pc' := 104) D55_103 rfl rfl ?_
      intro z33 _ _
      refine s_blx (lv' := [(7, vL (w14 + v21)), (5, vL w4), (0, vR 36), (1, vI place), (2, vI said), (3, vI done), (4, vI depth)]) (st' := [vL (w14 + v21), vL z33, vI said, vR (r27)]) B55_104_106 rfl ?_
      refine r_binL (pc' := 107) D55_106 rfl rfl ?_
      intro z35 _ _
      refine r_normL ?_
      intro z37 r38 _; unfold inJ at r38
      refine r_lastD (pc' := 108) D55_107 rfl H23 a29 (by omega) ?_
      intro M39 u40 H41
      have f42 := f26.row u40 a29
      refine s_blx (lv' := [(7, vL (w14 + v21)), (5, vL w4), (0, vR 36), (1, vI place), (2, vI said), (3, vI done), (4, vI depth)]) (st' := [vL (w14 + v21)]) B55_108_110 rfl ?_
      exact r_lretL D55_110 rfl (⟨H41, f42⟩)
    · refine s_blx (lv' := [(7, vL w14), (5, vL w4), (0, vR 36), (1, vI place), (2, vI said), (3, vI done), (4, vI depth)]) (st' := [vI (depth + 1), vI done, vI said, vI place, vR 36, vL w14]) B55_55_65 rfl ?_
      refine r_vL (c := 36) (args := [vI place, vI said, vI done, vI (depth + 1)]) (rest := [vL w14]) (pc' := 68) D55_65 rfl ck_7_virtual_67 TE52 rfl (Nat.le_of_ble_eq_true rfl) ⟨Nat.le_of_ble_eq_true rfl, Nat.le_of_ble_eq_true rfl⟩ sc_36 ⟨rfl, by decide⟩ H.1 (by omega) (ihr (by omega) H place said done (depth + 1) n (h0) (h1) (by omega) (by omega) (by omega) (by omega) (by omega) (by omega)) ?_
      intro v43 M44 q47
      obtain ⟨H45, f46⟩ := q47
      have f48 := f0.tr (f46.up rfl)
      refine s_blx (lv' := [(7, vL w14), (5, vL w4), (0, vR 36), (1, vI place), (2, vI said), (3, vI done), (4, vI depth)]) (st' := [vI 5, vL v43, vL w14]) B55_68_69 rfl ?_
      refine r_binLI (pc' := 70) D55_69 rfl rfl ?_
      intro z49 _ _
      refine s_blx (lv' := [(7, vL (w14 + z49)), (5, vL w4), (0, vR 36), (1, vI place), (2, vI said), (3, vI done), (4, vI depth)]) (st' := []) B55_70_73 rfl ?_
      refine r_goto (tgt := 90) D55_73 rfl ?_
      refine s_blx (lv' := [(7, vL (w14 + z49)), (5, vL w4), (0, vR 36), (1, vI place), (2, vI said), (3, vI done), (4, vI depth)]) (st' := [vR 36]) B55_90_91 rfl ?_
      refine r_gfix (r := 37) (pc' := 94) D55_91 rfl gf_7_13_36 H45.1 ?_
      refine s_blx (lv' := [(7, vL (w14 + z49)), (5, vL w4), (0, vR 36), (1, vI place), (2, vI said), (3, vI done), (4, vI depth)]) (st' := [vI place, vR 37]) B55_94_95 rfl ?_
      obtain ⟨r51, a52, a53⟩ := (h0.fq f48 rfl) (place) (by omega) (by omega)
      refine r_aald (v := vR r51) (pc' := 96) D55_95 rfl sc_37 (by decide) H45.1 (by omega) a52 ?_
      refine s_blx (lv' := [(7, vL (w14 + z49)), (5, vL w4), (0, vR 36), (1, vI place), (2, vI said), (3, vI done), (4, vI depth)]) (st' := [vR 36, vI said, vR (r51)]) B55_96_98 rfl ?_
      refine r_glong (ki := 3) (pc' := 101) D55_98 rfl gf_7_23_36 rfl H45.1 ?_
      intro w54 e55 r56
      clear r56
      refine s_blx (lv' := [(7, vL (w14 + z49)), (5, vL w4), (0, vR 36), (1, vI place), (2, vI said), (3, vI done), (4, vI depth)]) (st' := [vI 32, vL w54, vI said, vR (r51)]) B55_101_103 rfl ?_
      refine r_binLI (pc' := 104) D55_103 rfl rfl ?_
      intro z57 _ _
      refine s_blx (lv' := [(7, vL (w14 + z49)), (5, vL w4), (0, vR 36), (1, vI place), (2, vI said), (3, vI done), (4, vI depth)]) (st' := [vL (w14 + z49), vL z57, vI said, vR (r51)]) B55_104_106 rfl ?_
      refine r_binL (pc' := 107) D55_106 rfl rfl ?_
      intro z59 _ _
      refine r_normL ?_
      intro z61 r62 _; unfold inJ at r62
      refine r_lastD (pc' := 108) D55_107 rfl H45 a53 (by omega) ?_
      intro M63 u64 H65
      have f66 := f48.row u64 a53
      refine s_blx (lv' := [(7, vL (w14 + z49)), (5, vL w4), (0, vR 36), (1, vI place), (2, vI said), (3, vI done), (4, vI depth)]) (st' := [vL (w14 + z49)]) B55_108_110 rfl ?_
      exact r_lretL D55_110 rfl (⟨H65, f66⟩)
  · refine s_blx (lv' := [(5, vL w4), (0, vR 36), (1, vI place), (2, vI said), (3, vI done), (4, vI depth)]) (st' := [vL w4]) B55_23_25 rfl ?_
    refine r_ldc2 (e := 4294967295) (pc' := 28) D55_25 rfl cl_7_119 (by decide) ?_
    refine r_binL (pc' := 29) D55_28 rfl rfl ?_
    intro z67 _ _
    exact r_lretL D55_29 rfl (⟨H, f0⟩)
set_option maxRecDepth 4000 in
theorem L_k53_36 {base : Nat} {X : Nat → Option mC} {G : Nat → Value} (E : EnvOK base X G) {rr : Nat} (ihr : ∀ {d : Nat} (_ : 8 + 4 * rr ≤ d) {M : mH} (_ : HI base M) (place : Int) (said : Int) (done : Int) (depth : Int) (n : Int), (RW base 37 n M) → (TR 21 n M) → (1 ≤ n ∧ n ≤ 145) → (0 ≤ done ∧ done ≤ 3 ∧ 0 ≤ said ∧ said ≤ 1110) → (1 ≤ place ∧ place < n) → ((done = 0 ∧ said = 0) ∨ (done = 1 ∧ 1 ≤ said ∧ said ≤ 10) ∨ (done = 2 ∧ 11 ≤ said ∧ said ≤ 110) ∨ (done = 3 ∧ 111 ≤ said ∧ said ≤ 1110)) → (0 ≤ depth ∧ depth ≤ 41) → 41 - depth < ((rr : Nat) : Int) → sOk base X G d T52 [vR 36, vI place, vI said, vI done, vI depth] M (pL (fun v M' => HI base M' ∧ Fq [(38, 0)] M M'))) {d : Nat} (hd : 11 + 4 * rr ≤ d) {M : mH} (H : HI base M) (place : Int) (said : Int) (done : Int) (depth : Int) (n : Int) (h0 : RW base 37 n M) (h1 : TR 21 n M) (h2 : 1 ≤ n ∧ n ≤ 145) (h3 : 0 ≤ done ∧ done ≤ 3 ∧ 0 ≤ said ∧ said ≤ 1110) (h4 : 1 ≤ place ∧ place < n) (h5 : (done = 0 ∧ said = 0) ∨ (done = 1 ∧ 1 ≤ said ∧ said ≤ 10) ∨ (done = 2 ∧ 11 ≤ said ∧ said ≤ 110) ∨ (done = 3 ∧ 111 ≤ said ∧ said ≤ 1110)) (h6 : done ≤ 2) (h7 : 0 ≤ depth ∧ depth ≤ 40 ∧ 40 - depth < (rr : Int)) : ∀ mz : Nat, (∀ (x10 x12 x13 : Int) (N : mH), HI base N → Fq [(38, 0)] M N → ((-2147483648) ≤ x12) → (x12 ≤ 2147483647) → (0 ≤ x13) → (x13 ≤ 8) → (8 - x13) * 1 + 0 < (mz : Int) → sRn base X G d T53 172 [(0, vR 36), (1, vI place), (2, vI said), (3, vI done), (4, vI depth), (10, vL x10), (12, vI x12), (13, vI x13)] [] N (s_Q base (pL (fun v M' => HI base M' ∧ Fq [(38, 0)] M M')))) := by
  have f0 : Fq [(38, 0)] M M := Fq.rf
  intro mz
  induction mz with
  | zero => exact fun x10 x12 x13 N _ _ z0 z1 z2 z3 z4 => by omega
  | succ mz ih =>
    intro x10 x12 x13 N HN fN i0 i1 i2 i3 hmu
    refine s_blx (lv' := [(0, vR 36), (1, vI place), (2, vI said), (3, vI done), (4, vI depth), (10, vL x10), (12, vI x12), (13, vI x13)]) (st' := [vI 8, vI x13]) B53_172_176 rfl ?_
    refine r_icmp (tgt := 231) (pc' := 179) D53_176 rfl rfl (by unfold inR; omega) (fun (c61 : 8 ≤ x13) => ?_) (fun (c61 : ¬ (8 ≤ x13)) => ?_)
    · refine s_blx (lv' := [(0, vR 36), (1, vI place), (2, vI said), (3, vI done), (4, vI depth), (10, vL x10), (12, vI x12), (13, vI x13)]) (st' := [vL x10]) B53_231_233 rfl ?_
      exact r_lretL D53_233 rfl (⟨HN, fN⟩)
    · refine s_blx (lv' := [(0, vR 36), (1, vI place), (2, vI said), (3, vI done), (4, vI depth), (10, vL x10), (12, vI x12), (13, vI x13)]) (st' := [vI x13, vI x12]) B53_179_183 rfl ?_
      refine r_bin (pc' := 184) D53_183 rfl rfl ?_
      intro z62 r63 _; unfold inR at r63
      refine s_blx (lv' := [(0, vR 36), (1, vI place), (2, vI said), (3, vI done), (4, vI depth), (10, vL x10), (12, vI x12), (13, vI x13)]) (st' := [vI 1, vI z62]) B53_184_185 rfl ?_
      refine r_and1 (pc' := 186) D53_185 rfl ?_
      refine s_blx (lv' := [(0, vR 36), (1, vI place), (2, vI said), (3, vI done), (4, vI depth), (10, vL x10), (12, vI x12), (13, vI x13)]) (st' := [vI 1, vI (z62 % 2)]) B53_186_187 rfl ?_
      refine r_icmp (tgt := 225) (pc' := 190) D53_187 rfl rfl (by unfold inR; omega) (fun (c64 : (z62 % 2) ≠ 1) => ?_) (fun (c64 : ¬ ((z62 % 2) ≠ 1)) => ?_)
      · refine s_blx (lv' := [(13, vI (x13 + 1)), (0, vR 36), (1, vI place), (2, vI said), (3, vI done), (4, vI depth), (10, vL x10), (12, vI x12)]) (st' := []) B53_225_228 rfl ?_
        refine r_goto (tgt := 172) D53_228 rfl ?_
        refine r_loc (lv' := [(0, vR 36), (1, vI place), (2, vI said), (3, vI done), (4, vI depth), (10, vL x10), (12, vI x12), (13, vI (x13 + 1))]) ⟨rfl, rfl, rfl, rfl, rfl, rfl, rfl, rfl, trivial⟩ rfl rfl ?_
        exact ih x10 x12 (x13 + 1) N HN fN (by omega) (by omega) (by omega) (by omega) (by omega)
      · refine s_blx (lv' := [(0, vR 36), (1, vI place), (2, vI said), (3, vI done), (4, vI depth), (10, vL x10), (12, vI x12), (13, vI x13)]) (st' := [vI x13, vI said, vI place, vR 36]) B53_190_195 rfl ?_
        refine r_sIp (args := [vI said, vI x13]) (rest := [vI place, vR 36]) (pc' := 198) D53_195 rfl ck_7_static_113 TE43 rfl (Nat.le_of_ble_eq_true rfl) ⟨Nat.le_of_ble_eq_true rfl, Nat.le_of_ble_eq_true rfl⟩ (by decide) (by omega) (k43 E (by omega) HN said x13 (by omega) (by omega)) ?_
        intro v65 q68
        have q67 := q68; clear q68
        refine s_blx (lv' := [(0, vR 36), (1, vI place), (2, vI said), (3, vI done), (4, vI depth), (10, vL x10), (12, vI x12), (13, vI x13)]) (st' := [vI depth, vI (done + 1), vI v65, vI place, vR 36]) B53_198_203 rfl ?_
        refine r_vL (c := 36) (args := [vI place, vI v65, vI (done + 1), vI depth]) (rest := []) (pc' := 206) D53_203 rfl ck_7_virtual_90 TE55 rfl (Nat.le_of_ble_eq_true rfl) ⟨Nat.le_of_ble_eq_true rfl, Nat.le_of_ble_eq_true rfl⟩ sc_36 ⟨rfl, by decide⟩ HN.1 (by omega) (k55_36 E ihr (by omega) HN place v65 (done + 1) depth n ((h0.fq fN rfl)) ((h1.fq fN rfl)) (by omega) (by omega) (by omega) (by omega) (by omega)) ?_
        intro v69 M70 q73
        obtain ⟨H71, f72⟩ := q73
        have f74 := fN.tr (f72.up rfl)
        refine s_blx (lv' := [(14, vL v69), (0, vR 36), (1, vI place), (2, vI said), (3, vI done), (4, vI depth), (10, vL x10), (12, vI x12), (13, vI x13)]) (st' := [vI (10 + x13), vL v69, vL x10]) B53_206_217 rfl ?_
        refine r_sLp (args := [vL v69, vI (10 + x13)]) (rest := [vL x10]) (pc' := 220) D53_217 rfl ck_7_static_93 TE51 rfl (Nat.le_of_ble_eq_true rfl) ⟨Nat.le_of_ble_eq_true rfl, Nat.le_of_ble_eq_true rfl⟩ (by decide) (by omega) (k51 E (by omega) H71 v69 (10 + x13) (by omega)) ?_
        intro v75 q77
        refine r_minX (pc' := 223) D53_220 rfl mc_7_static_100 sp_7_100 (Nat.le_of_ble_eq_true rfl) ?_
        intro z78
        refine s_blx (lv' := [(13, vI (x13 + 1)), (10, vL z78), (14, vL v69), (0, vR 36), (1, vI place), (2, vI said), (3, vI done), (4, vI depth), (12, vI x12)]) (st' := []) B53_223_228 rfl ?_
        refine r_goto (tgt := 172) D53_228 rfl ?_
        refine r_loc (lv' := [(0, vR 36), (1, vI place), (2, vI said), (3, vI done), (4, vI depth), (10, vL z78), (12, vI x12), (13, vI (x13 + 1))]) ⟨rfl, rfl, rfl, rfl, rfl, rfl, rfl, rfl, trivial⟩ rfl rfl ?_
        exact ih z78 x12 (x13 + 1) M70 H71 f74 (by omega) (by omega) (by omega) (by omega) (by omega)
set_option maxRecDepth 4000 in
theorem k53_36 {base : Nat} {X : Nat → Option mC} {G : Nat → Value} (E : EnvOK base X G) {rr : Nat} (ihr : ∀ {d : Nat} (_ : 8 + 4 * rr ≤ d) {M : mH} (_ : HI base M) (place : Int) (said : Int) (done : Int) (depth : Int) (n : Int), (RW base 37 n M) → (TR 21 n M) → (1 ≤ n ∧ n ≤ 145) → (0 ≤ done ∧ done ≤ 3 ∧ 0 ≤ said ∧ said ≤ 1110) → (1 ≤ place ∧ place < n) → ((done = 0 ∧ said = 0) ∨ (done = 1 ∧ 1 ≤ said ∧ said ≤ 10) ∨ (done = 2 ∧ 11 ≤ said ∧ said ≤ 110) ∨ (done = 3 ∧ 111 ≤ said ∧ said ≤ 1110)) → (0 ≤ depth ∧ depth ≤ 41) → 41 - depth < ((rr : Nat) : Int) → sOk base X G d T52 [vR 36, vI place, vI said, vI done, vI depth] M (pL (fun v M' => HI base M' ∧ Fq [(38, 0)] M M'))) {d : Nat} (hd : 11 + 4 * rr ≤ d) {M : mH} (H : HI base M) (place : Int) (said : Int) (done : Int) (depth : Int) (n : Int) (h0 : RW base 37 n M) (h1 : TR 21 n M) (h2 : 1 ≤ n ∧ n ≤ 145) (h3 : 0 ≤ done ∧ done ≤ 3 ∧ 0 ≤ said ∧ said ≤ 1110) (h4 : 1 ≤ place ∧ place < n) (h5 : (done = 0 ∧ said = 0) ∨ (done = 1 ∧ 1 ≤ said ∧ said ≤ 10) ∨ (done = 2 ∧ 11 ≤ said ∧ said ≤ 110) ∨ (done = 3 ∧ 111 ≤ said ∧ said ≤ 1110)) (h6 : done ≤ 2) (h7 : 0 ≤ depth ∧ depth ≤ 40 ∧ 40 - depth < (rr : Int)) : sOk base X G d T53 [vR 36, vI place, vI said, vI done, vI depth] M (pL (fun v M' => HI base M' ∧ Fq [(38, 0)] M M')) := by
  have f0 : Fq [(38, 0)] M M := Fq.rf
  refine sOk.of (show sRn base X G d T53 0 [(0, vR 36), (1, vI place), (2, vI said), (3, vI done), (4, vI depth)] [] M _ from ?_)
  refine s_blx (lv' := [(0, vR 36), (1, vI place), (2, vI said), (3, vI done), (4, vI depth)]) (st' := [vR 36]) B53_0_1 rfl ?_
  refine r_gfix (r := 20) (pc' := 4) D53_1 rfl gf_7_31_36 H.1 ?_
  refine s_blx (lv' := [(0, vR 36), (1, vI place), (2, vI said), (3, vI done), (4, vI depth)]) (st' := [vI done, vI place, vR 20]) B53_4_6 rfl ?_
  refine r_vIp (c := 20) (args := [vI place, vI done]) (rest := []) (pc' := 9) D53_6 rfl ck_7_virtual_72 TE85 rfl (Nat.le_of_ble_eq_true rfl) ⟨Nat.le_of_ble_eq_true rfl, Nat.le_of_ble_eq_true rfl⟩ sc_20 ⟨rfl, by decide⟩ H.1 (by omega) (k85_20 E (by omega) H place done (by omega) (by omega)) ?_
  intro v1 q4
  have q3 := q4; clear q4
  refine s_blx (lv' := [(5, vI v1), (0, vR 36), (1, vI place), (2, vI said), (3, vI done), (4, vI depth)]) (st' := [vR 36]) B53_9_12 rfl ?_
  refine r_gfix (r := 20) (pc' := 15) D53_12 rfl gf_7_31_36 H.1 ?_
  refine r_gfix (r := 23) (pc' := 18) D53_15 rfl gf_7_39_20 H.1 ?_
  refine s_blx (lv' := [(5, vI v1), (0, vR 36), (1, vI place), (2, vI said), (3, vI done), (4, vI depth)]) (st' := [vI place, vR 23]) B53_18_19 rfl ?_
  refine r_iald (pc' := 20) D53_19 rfl sc_23 H.1 (by omega) ?_
  intro w5 e6 r7
  unfold inR at r7
  refine r_i2l (pc' := 21) D53_20 rfl (by unfold inR; omega) ?_
  refine s_blx (lv' := [(6, vL w5), (5, vI v1), (0, vR 36), (1, vI place), (2, vI said), (3, vI done), (4, vI depth)]) (st' := [vI 8, vI said, vI place, vR 36]) B53_21_28 rfl ?_
  refine r_sIp (args := [vI said, vI 8]) (rest := [vI place, vR 36]) (pc' := 31) D53_28 rfl ck_7_static_113 TE43 rfl (Nat.le_of_ble_eq_true rfl) ⟨Nat.le_of_ble_eq_true rfl, Nat.le_of_ble_eq_true rfl⟩ (by decide) (by omega) (k43 E (by omega) H said 8 (by omega) (by omega)) ?_
  intro v8 q11
  have q10 := q11; clear q11
  refine s_blx (lv' := [(6, vL w5), (5, vI v1), (0, vR 36), (1, vI place), (2, vI said), (3, vI done), (4, vI depth)]) (st' := [vI depth, vI (done + 1), vI v8, vI place, vR 36]) B53_31_36 rfl ?_
  refine r_vL (c := 36) (args := [vI place, vI v8, vI (done + 1), vI depth]) (rest := []) (pc' := 39) D53_36 rfl ck_7_virtual_90 TE55 rfl (Nat.le_of_ble_eq_true rfl) ⟨Nat.le_of_ble_eq_true rfl, Nat.le_of_ble_eq_true rfl⟩ sc_36 ⟨rfl, by decide⟩ H.1 (by omega) (k55_36 E ihr (by omega) H place v8 (done + 1) depth n (h0) (h1) (by omega) (by omega) (by omega) (by omega) (by omega)) ?_
  intro v12 M13 q16
  obtain ⟨H14, f15⟩ := q16
  have f17 := f0.tr (f15.up rfl)
  refine s_blx (lv' := [(8, vL v12), (6, vL w5), (5, vI v1), (0, vR 36), (1, vI place), (2, vI said), (3, vI done), (4, vI depth)]) (st' := [vR 36, vL w5, vL v12]) B53_39_46 rfl ?_
  refine r_gfix (r := 20) (pc' := 49) D53_46 rfl gf_7_31_36 H14.1 ?_
  refine r_gfix (r := 34) (pc' := 52) D53_49 rfl gf_7_110_20 H14.1 ?_
  refine s_blx (lv' := [(8, vL v12), (6, vL w5), (5, vI v1), (0, vR 36), (1, vI place), (2, vI said), (3, vI done), (4, vI depth)]) (st' := [vI 5, vR 34, vL w5, vL v12]) B53_52_53 rfl ?_
  refine r_iald (pc' := 54) D53_53 rfl sc_34 H14.1 (by omega) ?_
  intro w18 e19 r20
  have b_w18 := H14.2 34 (5) 0 1000 rfl
  rw [← e19] at b_w18; clear r20
  refine r_i2l (pc' := 55) D53_54 rfl (by unfold inR; omega) ?_
  refine s_blx (lv' := [(8, vL v12), (6, vL w5), (5, vI v1), (0, vR 36), (1, vI place), (2, vI said), (3, vI done), (4, vI depth)]) (st' := [vI 3, vL (v12 + (w5 * w18))]) B53_55_58 rfl ?_
  refine r_sLp (args := [vL (v12 + (w5 * w18)), vI 3]) (rest := []) (pc' := 61) D53_58 rfl ck_7_static_93 TE51 rfl (Nat.le_of_ble_eq_true rfl) ⟨Nat.le_of_ble_eq_true rfl, Nat.le_of_ble_eq_true rfl⟩ (by decide) (by omega) (k51 E (by omega) H14 (v12 + (w5 * w18)) 3 (by omega)) ?_
  intro v21 q23
  refine s_blx (lv' := [(10, vL v21), (8, vL v12), (6, vL w5), (5, vI v1), (0, vR 36), (1, vI place), (2, vI said), (3, vI done), (4, vI depth)]) (st' := [vR 36]) B53_61_64 rfl ?_
  refine r_gfix (r := 20) (pc' := 67) D53_64 rfl gf_7_31_36 H14.1 ?_
  refine r_gfix (r := 28) (pc' := 70) D53_67 rfl gf_7_81_20 H14.1 ?_
  refine s_blx (lv' := [(10, vL v21), (8, vL v12), (6, vL w5), (5, vI v1), (0, vR 36), (1, vI place), (2, vI said), (3, vI done), (4, vI depth)]) (st' := [vI v1, vR 28]) B53_70_72 rfl ?_
  refine r_iald (pc' := 73) D53_72 rfl sc_28 H14.1 (by omega) ?_
  intro w24 e25 r26
  have b_w24 := H14.2 28 (v1) (-1) 7 rfl
  rw [← e25] at b_w24; clear r26
  refine s_blx (lv' := [(10, vL v21), (8, vL v12), (6, vL w5), (5, vI v1), (0, vR 36), (1, vI place), (2, vI said), (3, vI done), (4, vI depth)]) (st' := [vI (-1), vI w24]) B53_73_74 rfl ?_
  refine r_icmp (tgt := 89) (pc' := 77) D53_74 rfl rfl (by unfold inR; omega) (fun (c27 : w24 = (-1)) => ?_) (fun (c27 : ¬ (w24 = (-1))) => ?_)
  · refine s_blx (lv' := [(10, vL v21), (8, vL v12), (6, vL w5), (5, vI v1), (0, vR 36), (1, vI place), (2, vI said), (3, vI done), (4, vI depth)]) (st' := [vR 36]) B53_89_90 rfl ?_
    refine r_gfix (r := 20) (pc' := 93) D53_90 rfl gf_7_31_36 H14.1 ?_
    refine r_gfix (r := 31) (pc' := 96) D53_93 rfl gf_7_116_20 H14.1 ?_
    refine s_blx (lv' := [(10, vL v21), (8, vL v12), (6, vL w5), (5, vI v1), (0, vR 36), (1, vI place), (2, vI said), (3, vI done), (4, vI depth)]) (st' := [vI v1, vR 31]) B53_96_98 rfl ?_
    refine r_iald (pc' := 99) D53_98 rfl sc_31 H14.1 (by omega) ?_
    intro w28 e29 r30
    unfold inR at r30
    refine r_ifc (tgt := 146) (pc' := 102) D53_99 rfl rfl (by unfold inR; omega) (fun (c31 : w28 ≤ 0) => ?_) (fun (c31 : ¬ (w28 ≤ 0)) => ?_)
    · refine s_blx (lv' := [(10, vL v21), (8, vL v12), (6, vL w5), (5, vI v1), (0, vR 36), (1, vI place), (2, vI said), (3, vI done), (4, vI depth)]) (st' := [vR 36]) B53_146_147 rfl ?_
      refine r_gint (ki := 4) (pc' := 150) D53_147 rfl gf_7_27_36 rfl H14.1 ?_
      intro w32 e33 r34
      have b_w32 := H14.2 36 (4) 0 1 rfl
      rw [← e33] at b_w32; clear r34
      refine r_ifc (tgt := 166) (pc' := 153) D53_150 rfl rfl (by unfold inR; omega) (fun (c35 : w32 = 0) => ?_) (fun (c35 : ¬ (w32 = 0)) => ?_)
      · refine s_blx (lv' := [(13, vI 0), (12, vI 0), (10, vL v21), (8, vL v12), (6, vL w5), (5, vI v1), (0, vR 36), (1, vI place), (2, vI said), (3, vI done), (4, vI depth)]) (st' := []) B53_166_172 rfl ?_
        refine r_loc (lv' := [(0, vR 36), (1, vI place), (2, vI said), (3, vI done), (4, vI depth), (10, vL v21), (12, vI 0), (13, vI 0)]) ⟨rfl, rfl, rfl, rfl, rfl, rfl, rfl, rfl, trivial⟩ rfl rfl ?_
        exact (L_k53_36 E ihr hd H place said done depth n h0 h1 h2 h3 h4 h5 h6 h7 (((8 - 0) * 1 + 0 : Int) + 1).toNat) v21 0 0 M13 H14 f17 (by omega) (by omega) (by omega) (by omega) (by omega)
      · refine s_blx (lv' := [(10, vL v21), (8, vL v12), (6, vL w5), (5, vI v1), (0, vR 36), (1, vI place), (2, vI said), (3, vI done), (4, vI depth)]) (st' := [vR 36]) B53_153_154 rfl ?_
        refine r_gfix (r := 20) (pc' := 157) D53_154 rfl gf_7_31_36 H14.1 ?_
        refine r_gfix (r := 27) (pc' := 160) D53_157 rfl gf_7_78_20 H14.1 ?_
        refine s_blx (lv' := [(10, vL v21), (8, vL v12), (6, vL w5), (5, vI v1), (0, vR 36), (1, vI place), (2, vI said), (3, vI done), (4, vI depth)]) (st' := [vI v1, vR 27]) B53_160_162 rfl ?_
        refine r_iald (pc' := 163) D53_162 rfl sc_27 H14.1 (by omega) ?_
        intro w36 e37 r38
        unfold inR at r38
        refine r_goto (tgt := 167) D53_163 rfl ?_
        refine s_blx (lv' := [(13, vI 0), (12, vI w36), (10, vL v21), (8, vL v12), (6, vL w5), (5, vI v1), (0, vR 36), (1, vI place), (2, vI said), (3, vI done), (4, vI depth)]) (st' := []) B53_167_172 rfl ?_
        refine r_loc (lv' := [(0, vR 36), (1, vI place), (2, vI said), (3, vI done), (4, vI depth), (10, vL v21), (12, vI w36), (13, vI 0)]) ⟨rfl, rfl, rfl, rfl, rfl, rfl, rfl, rfl, trivial⟩ rfl rfl ?_
        exact (L_k53_36 E ihr hd H place said done depth n h0 h1 h2 h3 h4 h5 h6 h7 (((8 - 0) * 1 + 0 : Int) + 1).toNat) v21 w36 0 M13 H14 f17 (by omega) (by omega) (by omega) (by omega) (by omega)
    · refine s_blx (lv' := [(10, vL v21), (8, vL v12), (6, vL w5), (5, vI v1), (0, vR 36), (1, vI place), (2, vI said), (3, vI done), (4, vI depth)]) (st' := [vR 36, vL w5, vL v12]) B53_102_107 rfl ?_
      refine r_gfix (r := 20) (pc' := 110) D53_107 rfl gf_7_31_36 H14.1 ?_
      refine r_gfix (r := 34) (pc' := 113) D53_110 rfl gf_7_110_20 H14.1 ?_
      refine s_blx (lv' := [(10, vL v21), (8, vL v12), (6, vL w5), (5, vI v1), (0, vR 36), (1, vI place), (2, vI said), (3, vI done), (4, vI depth)]) (st' := [vI 7, vR 34, vL w5, vL v12]) B53_113_115 rfl ?_
      refine r_iald (pc' := 116) D53_115 rfl sc_34 H14.1 (by omega) ?_
      intro w39 e40 r41
      have b_w39 := H14.2 34 (7) 0 1000 rfl
      rw [← e40] at b_w39; clear r41
      refine r_i2l (pc' := 117) D53_116 rfl (by unfold inR; omega) ?_
      refine s_blx (lv' := [(10, vL v21), (8, vL v12), (6, vL w5), (5, vI v1), (0, vR 36), (1, vI place), (2, vI said), (3, vI done), (4, vI depth)]) (st' := [vR 36, vL (w5 * w39), vL v12]) B53_117_119 rfl ?_
      refine r_gfix (r := 20) (pc' := 122) D53_119 rfl gf_7_31_36 H14.1 ?_
      refine r_gfix (r := 31) (pc' := 125) D53_122 rfl gf_7_116_20 H14.1 ?_
      refine s_blx (lv' := [(10, vL v21), (8, vL v12), (6, vL w5), (5, vI v1), (0, vR 36), (1, vI place), (2, vI said), (3, vI done), (4, vI depth)]) (st' := [vI v1, vR 31, vL (w5 * w39), vL v12]) B53_125_127 rfl ?_
      refine r_iald (pc' := 128) D53_127 rfl sc_31 H14.1 (by omega) ?_
      intro w42 e43 r44
      have e45 : w28 = w42 := (e43.trans (e29.symm)).symm
      subst e45
      refine r_i2l (pc' := 129) D53_128 rfl (by unfold inR; omega) ?_
      refine s_blx (lv' := [(12, vL (v12 + ((w5 * w39) * w28))), (10, vL v21), (8, vL v12), (6, vL w5), (5, vI v1), (0, vR 36), (1, vI place), (2, vI said), (3, vI done), (4, vI depth)]) (st' := [vI 2, vL (v12 + ((w5 * w39) * w28)), vL v21]) B53_129_138 rfl ?_
      refine r_sLp (args := [vL (v12 + ((w5 * w39) * w28)), vI 2]) (rest := [vL v21]) (pc' := 141) D53_138 rfl ck_7_static_93 TE51 rfl (Nat.le_of_ble_eq_true rfl) ⟨Nat.le_of_ble_eq_true rfl, Nat.le_of_ble_eq_true rfl⟩ (by decide) (by omega) (k51 E (by omega) H14 (v12 + ((w5 * w39) * w28)) 2 (by omega)) ?_
      intro v46 q48
      refine r_minX (pc' := 144) D53_141 rfl mc_7_static_100 sp_7_100 (Nat.le_of_ble_eq_true rfl) ?_
      intro z49
      refine s_blx (lv' := [(10, vL z49), (12, vL (v12 + ((w5 * w39) * w28))), (8, vL v12), (6, vL w5), (5, vI v1), (0, vR 36), (1, vI place), (2, vI said), (3, vI done), (4, vI depth)]) (st' := [vR 36]) B53_144_147 rfl ?_
      refine r_gint (ki := 4) (pc' := 150) D53_147 rfl gf_7_27_36 rfl H14.1 ?_
      intro w50 e51 r52
      have b_w50 := H14.2 36 (4) 0 1 rfl
      rw [← e51] at b_w50; clear r52
      refine r_ifc (tgt := 166) (pc' := 153) D53_150 rfl rfl (by unfold inR; omega) (fun (c53 : w50 = 0) => ?_) (fun (c53 : ¬ (w50 = 0)) => ?_)
      · refine s_blx (lv' := [(13, vI 0), (12, vI 0), (10, vL z49), (8, vL v12), (6, vL w5), (5, vI v1), (0, vR 36), (1, vI place), (2, vI said), (3, vI done), (4, vI depth)]) (st' := []) B53_166_172 rfl ?_
        refine r_loc (lv' := [(0, vR 36), (1, vI place), (2, vI said), (3, vI done), (4, vI depth), (10, vL z49), (12, vI 0), (13, vI 0)]) ⟨rfl, rfl, rfl, rfl, rfl, rfl, rfl, rfl, trivial⟩ rfl rfl ?_
        exact (L_k53_36 E ihr hd H place said done depth n h0 h1 h2 h3 h4 h5 h6 h7 (((8 - 0) * 1 + 0 : Int) + 1).toNat) z49 0 0 M13 H14 f17 (by omega) (by omega) (by omega) (by omega) (by omega)
      · refine s_blx (lv' := [(10, vL z49), (12, vL (v12 + ((w5 * w39) * w28))), (8, vL v12), (6, vL w5), (5, vI v1), (0, vR 36), (1, vI place), (2, vI said), (3, vI done), (4, vI depth)]) (st' := [vR 36]) B53_153_154 rfl ?_
        refine r_gfix (r := 20) (pc' := 157) D53_154 rfl gf_7_31_36 H14.1 ?_
        refine r_gfix (r := 27) (pc' := 160) D53_157 rfl gf_7_78_20 H14.1 ?_
        refine s_blx (lv' := [(10, vL z49), (12, vL (v12 + ((w5 * w39) * w28))), (8, vL v12), (6, vL w5), (5, vI v1), (0, vR 36), (1, vI place), (2, vI said), (3, vI done), (4, vI depth)]) (st' := [vI v1, vR 27]) B53_160_162 rfl ?_
        refine r_iald (pc' := 163) D53_162 rfl sc_27 H14.1 (by omega) ?_
        intro w54 e55 r56
        unfold inR at r56
        refine r_goto (tgt := 167) D53_163 rfl ?_
        refine s_blx (lv' := [(13, vI 0), (12, vI w54), (10, vL z49), (8, vL v12), (6, vL w5), (5, vI v1), (0, vR 36), (1, vI place), (2, vI said), (3, vI done), (4, vI depth)]) (st' := []) B53_167_172 rfl ?_
        refine r_loc (lv' := [(0, vR 36), (1, vI place), (2, vI said), (3, vI done), (4, vI depth), (10, vL z49), (12, vI w54), (13, vI 0)]) ⟨rfl, rfl, rfl, rfl, rfl, rfl, rfl, rfl, trivial⟩ rfl rfl ?_
        exact (L_k53_36 E ihr hd H place said done depth n h0 h1 h2 h3 h4 h5 h6 h7 (((8 - 0) * 1 + 0 : Int) + 1).toNat) z49 w54 0 M13 H14 f17 (by omega) (by omega) (by omega) (by omega) (by omega)
  · refine s_blx (lv' := [(10, vL v21), (8, vL v12), (6, vL w5), (5, vI v1), (0, vR 36), (1, vI place), (2, vI said), (3, vI done), (4, vI depth)]) (st' := [vI 1, vL v12, vL v21]) B53_77_82 rfl ?_
    refine r_sLp (args := [vL v12, vI 1]) (rest := [vL v21]) (pc' := 85) D53_82 rfl ck_7_static_93 TE51 rfl (Nat.le_of_ble_eq_true rfl) ⟨Nat.le_of_ble_eq_true rfl, Nat.le_of_ble_eq_true rfl⟩ (by decide) (by omega) (k51 E (by omega) H14 v12 1 (by omega)) ?_
    intro v57 q59
    refine r_minX (pc' := 88) D53_85 rfl mc_7_static_100 sp_7_100 (Nat.le_of_ble_eq_true rfl) ?_
    intro z60
    exact r_lretL D53_88 rfl (⟨H14, f17⟩)
set_option maxRecDepth 4000 in
theorem k54_36 {base : Nat} {X : Nat → Option mC} {G : Nat → Value} (E : EnvOK base X G) {rr : Nat} (ihr : ∀ {d : Nat} (_ : 8 + 4 * rr ≤ d) {M : mH} (_ : HI base M) (place : Int) (said : Int) (done : Int) (depth : Int) (n : Int), (RW base 37 n M) → (TR 21 n M) → (1 ≤ n ∧ n ≤ 145) → (0 ≤ done ∧ done ≤ 3 ∧ 0 ≤ said ∧ said ≤ 1110) → (1 ≤ place ∧ place < n) → ((done = 0 ∧ said = 0) ∨ (done = 1 ∧ 1 ≤ said ∧ said ≤ 10) ∨ (done = 2 ∧ 11 ≤ said ∧ said ≤ 110) ∨ (done = 3 ∧ 111 ≤ said ∧ said ≤ 1110)) → (0 ≤ depth ∧ depth ≤ 41) → 41 - depth < ((rr : Nat) : Int) → sOk base X G d T52 [vR 36, vI place, vI said, vI done, vI depth] M (pL (fun v M' => HI base M' ∧ Fq [(38, 0)] M M'))) {d : Nat} (hd : 11 + 4 * rr ≤ d) {M : mH} (H : HI base M) (place : Int) (mended : Int) (done : Int) (at_ : Int) (depth : Int) (n : Int) (h0 : RW base 37 n M) (h1 : TR 21 n M) (h2 : 1 ≤ n ∧ n ≤ 145) (h3 : 0 ≤ done ∧ done ≤ 3 ∧ 0 ≤ mended ∧ mended ≤ 1110) (h4 : 1 ≤ place ∧ place < n) (h5 : (done = 0 ∧ mended = 0) ∨ (done = 1 ∧ 1 ≤ mended ∧ mended ≤ 10) ∨ (done = 2 ∧ 11 ≤ mended ∧ mended ≤ 110) ∨ (done = 3 ∧ 111 ≤ mended ∧ mended ≤ 1110)) (h6 : 0 ≤ at_ ∧ at_ ≤ 2) (h7 : 0 ≤ depth ∧ depth ≤ 40 ∧ 40 - depth < (rr : Int)) : sOk base X G d T54 [vR 36, vI place, vI mended, vI done, vI at_, vI depth] M (pL (fun v M' => HI base M' ∧ Fq [(38, 0)] M M')) := by
  have f0 : Fq [(38, 0)] M M := Fq.rf
  refine sOk.of (show sRn base X G d T54 0 [(0, vR 36), (1, vI place), (2, vI mended), (3, vI done), (4, vI at_), (5, vI depth)] [] M _ from ?_)
  refine s_blx (lv' := [(0, vR 36), (1, vI place), (2, vI mended), (3, vI done), (4, vI at_), (5, vI depth)]) (st' := [vR 36]) B54_0_1 rfl ?_
  refine r_gfix (r := 20) (pc' := 4) D54_1 rfl gf_7_31_36 H.1 ?_
  refine s_blx (lv' := [(0, vR 36), (1, vI place), (2, vI mended), (3, vI done), (4, vI at_), (5, vI depth)]) (st' := [vI at_, vI place, vR 20]) B54_4_7 rfl ?_
  refine r_vIp (c := 20) (args := [vI place, vI at_]) (rest := []) (pc' := 10) D54_7 rfl ck_7_virtual_72 TE85 rfl (Nat.le_of_ble_eq_true rfl) ⟨Nat.le_of_ble_eq_true rfl, Nat.le_of_ble_eq_true rfl⟩ sc_20 ⟨rfl, by decide⟩ H.1 (by omega) (k85_20 E (by omega) H place at_ (by omega) (by omega)) ?_
  intro v1 q4
  have q3 := q4; clear q4
  refine s_blx (lv' := [(6, vI v1), (0, vR 36), (1, vI place), (2, vI mended), (3, vI done), (4, vI at_), (5, vI depth)]) (st' := [vR 36]) B54_10_13 rfl ?_
  refine r_gfix (r := 20) (pc' := 16) D54_13 rfl gf_7_31_36 H.1 ?_
  refine r_gfix (r := 28) (pc' := 19) D54_16 rfl gf_7_81_20 H.1 ?_
  refine s_blx (lv' := [(6, vI v1), (0, vR 36), (1, vI place), (2, vI mended), (3, vI done), (4, vI at_), (5, vI depth)]) (st' := [vI v1, vR 28]) B54_19_21 rfl ?_
  refine r_iald (pc' := 22) D54_21 rfl sc_28 H.1 (by omega) ?_
  intro w5 e6 r7
  have b_w5 := H.2 28 (v1) (-1) 7 rfl
  rw [← e6] at b_w5; clear r7
  refine s_blx (lv' := [(6, vI v1), (0, vR 36), (1, vI place), (2, vI mended), (3, vI done), (4, vI at_), (5, vI depth)]) (st' := [vI (-1), vI w5]) B54_22_23 rfl ?_
  refine r_icmp (tgt := 30) (pc' := 26) D54_23 rfl rfl (by unfold inR; omega) (fun (c8 : w5 ≠ (-1)) => ?_) (fun (c8 : ¬ (w5 ≠ (-1))) => ?_)
  · refine s_blx (lv' := [(6, vI v1), (0, vR 36), (1, vI place), (2, vI mended), (3, vI done), (4, vI at_), (5, vI depth)]) (st' := [vR 36]) B54_30_31 rfl ?_
    refine r_gfix (r := 20) (pc' := 34) D54_31 rfl gf_7_31_36 H.1 ?_
    refine r_gfix (r := 23) (pc' := 37) D54_34 rfl gf_7_39_20 H.1 ?_
    refine s_blx (lv' := [(6, vI v1), (0, vR 36), (1, vI place), (2, vI mended), (3, vI done), (4, vI at_), (5, vI depth)]) (st' := [vI place, vR 23]) B54_37_38 rfl ?_
    refine r_iald (pc' := 39) D54_38 rfl sc_23 H.1 (by omega) ?_
    intro w9 e10 r11
    unfold inR at r11
    refine r_i2l (pc' := 40) D54_39 rfl (by unfold inR; omega) ?_
    refine s_blx (lv' := [(6, vI v1), (0, vR 36), (1, vI place), (2, vI mended), (3, vI done), (4, vI at_), (5, vI depth)]) (st' := [vR 36, vL w9]) B54_40_41 rfl ?_
    refine r_gfix (r := 20) (pc' := 44) D54_41 rfl gf_7_31_36 H.1 ?_
    refine r_gfix (r := 34) (pc' := 47) D54_44 rfl gf_7_110_20 H.1 ?_
    refine s_blx (lv' := [(6, vI v1), (0, vR 36), (1, vI place), (2, vI mended), (3, vI done), (4, vI at_), (5, vI depth)]) (st' := [vI 6, vR 34, vL w9]) B54_47_49 rfl ?_
    refine r_iald (pc' := 50) D54_49 rfl sc_34 H.1 (by omega) ?_
    intro w12 e13 r14
    have b_w12 := H.2 34 (6) 0 1000 rfl
    rw [← e13] at b_w12; clear r14
    refine r_i2l (pc' := 51) D54_50 rfl (by unfold inR; omega) ?_
    refine s_blx (lv' := [(6, vI v1), (0, vR 36), (1, vI place), (2, vI mended), (3, vI done), (4, vI at_), (5, vI depth)]) (st' := [vI depth, vI done, vI mended, vI place, vR 36, vL (w9 * w12)]) B54_51_58 rfl ?_
    refine r_vL (c := 36) (args := [vI place, vI mended, vI done, vI depth]) (rest := [vL (w9 * w12)]) (pc' := 61) D54_58 rfl ck_7_virtual_90 TE55 rfl (Nat.le_of_ble_eq_true rfl) ⟨Nat.le_of_ble_eq_true rfl, Nat.le_of_ble_eq_true rfl⟩ sc_36 ⟨rfl, by decide⟩ H.1 (by omega) (k55_36 E ihr (by omega) H place mended done depth n (h0) (h1) (by omega) (by omega) (by omega) (by omega) (by omega)) ?_
    intro v15 M16 q19
    obtain ⟨H17, f18⟩ := q19
    have f20 := f0.tr (f18.up rfl)
    refine s_blx (lv' := [(7, vL ((w9 * w12) + v15)), (6, vI v1), (0, vR 36), (1, vI place), (2, vI mended), (3, vI done), (4, vI at_), (5, vI depth)]) (st' := [vI ((20 + v1) - (place * 3)), vL ((w9 * w12) + v15)]) B54_61_75 rfl ?_
    refine r_sLp (args := [vL ((w9 * w12) + v15), vI ((20 + v1) - (place * 3))]) (rest := []) (pc' := 78) D54_75 rfl ck_7_static_93 TE51 rfl (Nat.le_of_ble_eq_true rfl) ⟨Nat.le_of_ble_eq_true rfl, Nat.le_of_ble_eq_true rfl⟩ (by decide) (by omega) (k51 E (by omega) H17 ((w9 * w12) + v15) ((20 + v1) - (place * 3)) (by omega)) ?_
    intro v21 q23
    exact r_lretL D54_78 rfl (⟨H17, f20⟩)
  · refine r_ldc2 (e := 4611686018427387904) (pc' := 29) D54_26 rfl cl_7_88 (by decide) ?_
    exact r_lretL D54_29 rfl (⟨H, f0⟩)
set_option maxRecDepth 4000 in
theorem L_k52_36 {base : Nat} {X : Nat → Option mC} {G : Nat → Value} (E : EnvOK base X G) {rr : Nat} (ihr : ∀ {d : Nat} (_ : 8 + 4 * rr ≤ d) {M : mH} (_ : HI base M) (place : Int) (said : Int) (done : Int) (depth : Int) (n : Int), (RW base 37 n M) → (TR 21 n M) → (1 ≤ n ∧ n ≤ 145) → (0 ≤ done ∧ done ≤ 3 ∧ 0 ≤ said ∧ said ≤ 1110) → (1 ≤ place ∧ place < n) → ((done = 0 ∧ said = 0) ∨ (done = 1 ∧ 1 ≤ said ∧ said ≤ 10) ∨ (done = 2 ∧ 11 ≤ said ∧ said ≤ 110) ∨ (done = 3 ∧ 111 ≤ said ∧ said ≤ 1110)) → (0 ≤ depth ∧ depth ≤ 41) → 41 - depth < ((rr : Nat) : Int) → sOk base X G d T52 [vR 36, vI place, vI said, vI done, vI depth] M (pL (fun v M' => HI base M' ∧ Fq [(38, 0)] M M'))) {d : Nat} (hd : 8 + 4 * (rr + 1) ≤ d) {M : mH} (H : HI base M) (place : Int) (said : Int) (done : Int) (depth : Int) (n : Int) (h0 : RW base 37 n M) (h1 : TR 21 n M) (h2 : 1 ≤ n ∧ n ≤ 145) (h3 : 0 ≤ done ∧ done ≤ 3 ∧ 0 ≤ said ∧ said ≤ 1110) (h4 : 1 ≤ place ∧ place < n) (h5 : (done = 0 ∧ said = 0) ∨ (done = 1 ∧ 1 ≤ said ∧ said ≤ 10) ∨ (done = 2 ∧ 11 ≤ said ∧ said ≤ 110) ∨ (done = 3 ∧ 111 ≤ said ∧ said ≤ 1110)) (h6 : 0 ≤ depth ∧ depth ≤ 41) (hrr : 41 - depth < ((rr + 1 : Nat) : Int)) : ∀ mz : Nat, (∀ (x5 x7 x8 x9 x10 : Int) (N : mH), HI base N → Fq [(38, 0)] M N → ((done - 1 - x10 = 0 ∧ x9 = 1 ∧ said = x8) ∨ (done - 1 - x10 = 1 ∧ x9 = 10 ∧ 1 ≤ said - 10 * x8 ∧ said - 10 * x8 ≤ 10) ∨ (done - 1 - x10 = 2 ∧ x9 = 100 ∧ 11 ≤ said - 100 * x8 ∧ said - 100 * x8 ≤ 110) ∨ (done - 1 - x10 = 3 ∧ x9 = 1000 ∧ 111 ≤ said - 1000 * x8 ∧ said - 1000 * x8 ≤ 1110)) → (((x10 + 1) = 0 ∧ x8 = 0) ∨ ((x10 + 1) = 1 ∧ 1 ≤ x8 ∧ x8 ≤ 10) ∨ ((x10 + 1) = 2 ∧ 11 ≤ x8 ∧ x8 ≤ 110) ∨ ((x10 + 1) = 3 ∧ 111 ≤ x8 ∧ x8 ≤ 1110)) → (0 ≤ x8 ∧ x8 ≤ 1110) → (1 ≤ x9 ∧ x9 ≤ 1000) → (-1 ≤ x10 ∧ x10 ≤ 2) → (0 ≤ x7) → ((-1) ≤ x8) → (x8 ≤ 1110) → (1 ≤ x9) → (x9 ≤ 10000) → ((-1) ≤ x10) → (x10 ≤ 2) → (0 ≤ depth) → (depth ≤ 40) → (x10 + 1) * 1 + 0 < (mz : Int) → sRn base X G d T52 77 [(0, vR 36), (1, vI place), (2, vI said), (3, vI done), (4, vI depth), (5, vL x5), (7, vI x7), (8, vI x8), (9, vI x9), (10, vI x10)] [] N (s_Q base (pL (fun v M' => HI base M' ∧ Fq [(38, 0)] M M')))) := by
  have f0 : Fq [(38, 0)] M M := Fq.rf
  intro mz
  induction mz with
  | zero => exact fun x5 x7 x8 x9 x10 N _ _ z0 z1 z2 z3 z4 z5 z6 z7 z8 z9 z10 z11 z12 z13 z14 => by omega
  | succ mz ih =>
    intro x5 x7 x8 x9 x10 N HN fN i0 i1 i2 i3 i4 i5 i6 i7 i8 i9 i10 i11 i12 i13 hmu
    refine s_blx (lv' := [(0, vR 36), (1, vI place), (2, vI said), (3, vI done), (4, vI depth), (5, vL x5), (7, vI x7), (8, vI x8), (9, vI x9), (10, vI x10)]) (st' := [vI x10]) B52_77_79 rfl ?_
    refine r_ifc (tgt := 140) (pc' := 82) D52_79 rfl rfl (by unfold inR; omega) (fun (c31 : x10 < 0) => ?_) (fun (c31 : ¬ (x10 < 0)) => ?_)
    · refine s_blx (lv' := [(0, vR 36), (1, vI place), (2, vI said), (3, vI done), (4, vI depth), (5, vL x5), (7, vI x7), (8, vI x8), (9, vI x9), (10, vI x10)]) (st' := [vI 3, vI done]) B52_140_142 rfl ?_
      refine r_icmp (tgt := 197) (pc' := 145) D52_142 rfl rfl (by unfold inR; omega) (fun (c32 : done ≠ 3) => ?_) (fun (c32 : ¬ (done ≠ 3)) => ?_)
      · refine s_blx (lv' := [(0, vR 36), (1, vI place), (2, vI said), (3, vI done), (4, vI depth), (5, vL x5), (7, vI x7), (8, vI x8), (9, vI x9), (10, vI x10)]) (st' := [vL x5]) B52_197_199 rfl ?_
        exact r_lretL D52_199 rfl (⟨HN, fN⟩)
      · refine s_blx (lv' := [(0, vR 36), (1, vI place), (2, vI said), (3, vI done), (4, vI depth), (5, vL x5), (7, vI x7), (8, vI x8), (9, vI x9), (10, vI x10)]) (st' := [vR 36]) B52_145_146 rfl ?_
        refine r_gfix (r := 20) (pc' := 149) D52_146 rfl gf_7_31_36 HN.1 ?_
        refine r_gfix (r := 25) (pc' := 152) D52_149 rfl gf_7_84_20 HN.1 ?_
        refine s_blx (lv' := [(0, vR 36), (1, vI place), (2, vI said), (3, vI done), (4, vI depth), (5, vL x5), (7, vI x7), (8, vI x8), (9, vI x9), (10, vI x10)]) (st' := [vI place, vR 25]) B52_152_153 rfl ?_
        refine r_bald (pc' := 154) D52_153 rfl sc_25 (by decide) HN.1 (by omega) ?_
        intro w33 e34 r35
        have b_w33 := HN.2 25 (place) 0 1 rfl
        rw [← e34] at b_w33; clear r35
        refine r_ifc (tgt := 197) (pc' := 157) D52_154 rfl rfl (by unfold inR; omega) (fun (c36 : w33 = 0) => ?_) (fun (c36 : ¬ (w33 = 0)) => ?_)
        · refine s_blx (lv' := [(0, vR 36), (1, vI place), (2, vI said), (3, vI done), (4, vI depth), (5, vL x5), (7, vI x7), (8, vI x8), (9, vI x9), (10, vI x10)]) (st' := [vL x5]) B52_197_199 rfl ?_
          exact r_lretL D52_199 rfl (⟨HN, fN⟩)
        · refine s_blx (lv' := [(0, vR 36), (1, vI place), (2, vI said), (3, vI done), (4, vI depth), (5, vL x5), (7, vI x7), (8, vI x8), (9, vI x9), (10, vI x10)]) (st' := [vR 36]) B52_157_158 rfl ?_
          refine r_gfix (r := 20) (pc' := 161) D52_158 rfl gf_7_31_36 HN.1 ?_
          refine r_gfix (r := 23) (pc' := 164) D52_161 rfl gf_7_39_20 HN.1 ?_
          refine s_blx (lv' := [(0, vR 36), (1, vI place), (2, vI said), (3, vI done), (4, vI depth), (5, vL x5), (7, vI x7), (8, vI x8), (9, vI x9), (10, vI x10)]) (st' := [vI place, vR 23]) B52_164_165 rfl ?_
          refine r_iald (pc' := 166) D52_165 rfl sc_23 HN.1 (by omega) ?_
          intro w37 e38 r39
          unfold inR at r39
          refine r_i2l (pc' := 167) D52_166 rfl (by unfold inR; omega) ?_
          refine s_blx (lv' := [(0, vR 36), (1, vI place), (2, vI said), (3, vI done), (4, vI depth), (5, vL x5), (7, vI x7), (8, vI x8), (9, vI x9), (10, vI x10)]) (st' := [vR 36, vL w37]) B52_167_168 rfl ?_
          refine r_gfix (r := 20) (pc' := 171) D52_168 rfl gf_7_31_36 HN.1 ?_
          refine r_gfix (r := 34) (pc' := 174) D52_171 rfl gf_7_110_20 HN.1 ?_
          refine s_blx (lv' := [(0, vR 36), (1, vI place), (2, vI said), (3, vI done), (4, vI depth), (5, vL x5), (7, vI x7), (8, vI x8), (9, vI x9), (10, vI x10)]) (st' := [vI 4, vR 34, vL w37]) B52_174_175 rfl ?_
          refine r_iald (pc' := 176) D52_175 rfl sc_34 HN.1 (by omega) ?_
          intro w40 e41 r42
          have b_w40 := HN.2 34 (4) 0 1000 rfl
          rw [← e41] at b_w40; clear r42
          refine r_i2l (pc' := 177) D52_176 rfl (by unfold inR; omega) ?_
          refine s_blx (lv' := [(0, vR 36), (1, vI place), (2, vI said), (3, vI done), (4, vI depth), (5, vL x5), (7, vI x7), (8, vI x8), (9, vI x9), (10, vI x10)]) (st' := [vI x7, vL (w37 * w40)]) B52_177_180 rfl ?_
          refine r_norm ?_
          intro z43 r44 _; unfold inR at r44
          refine r_i2l (pc' := 181) D52_180 rfl (by unfold inR; omega) ?_
          refine s_blx (lv' := [(10, vL ((w37 * w40) * z43)), (0, vR 36), (1, vI place), (2, vI said), (3, vI done), (4, vI depth), (5, vL x5), (7, vI x7), (8, vI x8), (9, vI x9)]) (st' := [vI 4, vL ((w37 * w40) * z43), vL x5]) B52_181_189 rfl ?_
          refine r_sLp (args := [vL ((w37 * w40) * z43), vI 4]) (rest := [vL x5]) (pc' := 192) D52_189 rfl ck_7_static_93 TE51 rfl (Nat.le_of_ble_eq_true rfl) ⟨Nat.le_of_ble_eq_true rfl, Nat.le_of_ble_eq_true rfl⟩ (by decide) (by omega) (k51 E (by omega) HN ((w37 * w40) * z43) 4 (by omega)) ?_
          intro v45 q47
          refine r_minX (pc' := 195) D52_192 rfl mc_7_static_100 sp_7_100 (Nat.le_of_ble_eq_true rfl) ?_
          intro z48
          refine s_blx (lv' := [(5, vL z48), (10, vL ((w37 * w40) * z43)), (0, vR 36), (1, vI place), (2, vI said), (3, vI done), (4, vI depth), (7, vI x7), (8, vI x8), (9, vI x9)]) (st' := [vL z48]) B52_195_199 rfl ?_
          exact r_lretL D52_199 rfl (⟨HN, fN⟩)
    · refine s_blx (lv' := [(0, vR 36), (1, vI place), (2, vI said), (3, vI done), (4, vI depth), (5, vL x5), (7, vI x7), (8, vI x8), (9, vI x9), (10, vI x10)]) (st' := [vI 10, vI (x8 - 1)]) B52_82_88 rfl ?_
      refine r_irem (pc' := 89) D52_88 rfl (by omega) ?_
      refine s_blx (lv' := [(0, vR 36), (1, vI place), (2, vI said), (3, vI done), (4, vI depth), (5, vL x5), (7, vI x7), (8, vI x8), (9, vI x9), (10, vI x10)]) (st' := [vI 9, vI ((x8 - 1) % 10)]) B52_89_91 rfl ?_
      refine r_icmp (tgt := 118) (pc' := 94) D52_91 rfl rfl (by unfold inR; omega) (fun (c49 : ((x8 - 1) % 10) ≠ 9) => ?_) (fun (c49 : ¬ (((x8 - 1) % 10) ≠ 9)) => ?_)
      · refine s_blx (lv' := [(0, vR 36), (1, vI place), (2, vI said), (3, vI done), (4, vI depth), (5, vL x5), (7, vI x7), (8, vI x8), (9, vI x9), (10, vI x10)]) (st' := [vI 10, vI (x8 - 1)]) B52_118_124 rfl ?_
        refine r_idiv (pc' := 125) D52_124 rfl (by omega) ?_
        refine s_blx (lv' := [(10, vI (x10 + (-1))), (9, vI (x9 * 10)), (8, vI ((x8 - 1) / 10)), (0, vR 36), (1, vI place), (2, vI said), (3, vI done), (4, vI depth), (5, vL x5), (7, vI x7)]) (st' := []) B52_125_137 rfl ?_
        refine r_goto (tgt := 77) D52_137 rfl ?_
        refine r_loc (lv' := [(0, vR 36), (1, vI place), (2, vI said), (3, vI done), (4, vI depth), (5, vL x5), (7, vI x7), (8, vI ((x8 - 1) / 10)), (9, vI (x9 * 10)), (10, vI (x10 + (-1)))]) ⟨rfl, rfl, rfl, rfl, rfl, rfl, rfl, rfl, rfl, rfl, trivial⟩ rfl rfl ?_
        exact ih x5 x7 ((x8 - 1) / 10) (x9 * 10) (x10 + (-1)) N HN fN (by rcases i0 with ⟨z1, rfl, z2⟩ | ⟨z1, rfl, z2⟩ | ⟨z1, rfl, z2⟩ | ⟨z1, rfl, z2⟩ <;> omega) (by omega) (by omega) (by omega) (by omega) (by omega) (by omega) (by omega) (by omega) (by omega) (by omega) (by omega) (by omega) (by omega) (by omega)
      · refine s_blx (lv' := [(7, vI (x7 + 1)), (0, vR 36), (1, vI place), (2, vI said), (3, vI done), (4, vI depth), (5, vL x5), (8, vI x8), (9, vI x9), (10, vI x10)]) (st' := [vI depth, vI x10, vI done, vI (said - x9), vI place, vR 36, vL x5]) B52_94_110 rfl ?_
        refine r_vL (c := 36) (args := [vI place, vI (said - x9), vI done, vI x10, vI depth]) (rest := [vL x5]) (pc' := 113) D52_110 rfl ck_7_virtual_106 TE54 rfl (Nat.le_of_ble_eq_true rfl) ⟨Nat.le_of_ble_eq_true rfl, Nat.le_of_ble_eq_true rfl⟩ sc_36 ⟨rfl, by decide⟩ HN.1 (by omega) (k54_36 E ihr (by omega) HN place (said - x9) done x10 depth n ((h0.fq fN rfl)) ((h1.fq fN rfl)) (by omega) (by rcases i0 with ⟨z1, rfl, z2⟩ | ⟨z1, rfl, z2⟩ | ⟨z1, rfl, z2⟩ | ⟨z1, rfl, z2⟩ <;> omega) (by omega) (by rcases i0 with ⟨z1, rfl, z2⟩ | ⟨z1, rfl, z2⟩ | ⟨z1, rfl, z2⟩ | ⟨z1, rfl, z2⟩ <;> omega) (by omega) (by omega)) ?_
        intro v50 M51 q54
        obtain ⟨H52, f53⟩ := q54
        have f55 := fN.tr (f53.up rfl)
        refine r_minX (pc' := 116) D52_113 rfl mc_7_static_100 sp_7_100 (Nat.le_of_ble_eq_true rfl) ?_
        intro z56
        refine s_blx (lv' := [(5, vL z56), (7, vI (x7 + 1)), (0, vR 36), (1, vI place), (2, vI said), (3, vI done), (4, vI depth), (8, vI x8), (9, vI x9), (10, vI x10)]) (st' := [vI 10, vI (x8 - 1)]) B52_116_124 rfl ?_
        refine r_idiv (pc' := 125) D52_124 rfl (by omega) ?_
        refine s_blx (lv' := [(10, vI (x10 + (-1))), (9, vI (x9 * 10)), (8, vI ((x8 - 1) / 10)), (5, vL z56), (7, vI (x7 + 1)), (0, vR 36), (1, vI place), (2, vI said), (3, vI done), (4, vI depth)]) (st' := []) B52_125_137 rfl ?_
        refine r_goto (tgt := 77) D52_137 rfl ?_
        refine r_loc (lv' := [(0, vR 36), (1, vI place), (2, vI said), (3, vI done), (4, vI depth), (5, vL z56), (7, vI (x7 + 1)), (8, vI ((x8 - 1) / 10)), (9, vI (x9 * 10)), (10, vI (x10 + (-1)))]) ⟨rfl, rfl, rfl, rfl, rfl, rfl, rfl, rfl, rfl, rfl, trivial⟩ rfl rfl ?_
        exact ih z56 (x7 + 1) ((x8 - 1) / 10) (x9 * 10) (x10 + (-1)) M51 H52 f55 (by rcases i0 with ⟨z1, rfl, z2⟩ | ⟨z1, rfl, z2⟩ | ⟨z1, rfl, z2⟩ | ⟨z1, rfl, z2⟩ <;> omega) (by omega) (by omega) (by omega) (by omega) (by omega) (by omega) (by omega) (by omega) (by omega) (by omega) (by omega) (by omega) (by omega) (by omega)
set_option maxRecDepth 4000 in
theorem k52_36r {base : Nat} {X : Nat → Option mC} {G : Nat → Value} (E : EnvOK base X G) : ∀ rr : Nat, ∀ {d : Nat} (_ : 8 + 4 * rr ≤ d) {M : mH} (_ : HI base M) (place : Int) (said : Int) (done : Int) (depth : Int) (n : Int), (RW base 37 n M) → (TR 21 n M) → (1 ≤ n ∧ n ≤ 145) → (0 ≤ done ∧ done ≤ 3 ∧ 0 ≤ said ∧ said ≤ 1110) → (1 ≤ place ∧ place < n) → ((done = 0 ∧ said = 0) ∨ (done = 1 ∧ 1 ≤ said ∧ said ≤ 10) ∨ (done = 2 ∧ 11 ≤ said ∧ said ≤ 110) ∨ (done = 3 ∧ 111 ≤ said ∧ said ≤ 1110)) → (0 ≤ depth ∧ depth ≤ 41) → 41 - depth < ((rr : Nat) : Int) → sOk base X G d T52 [vR 36, vI place, vI said, vI done, vI depth] M (pL (fun v M' => HI base M' ∧ Fq [(38, 0)] M M')) := by
  intro rr
  induction rr with
  | zero => intro d hd M H place said done depth n h0 h1 h2 h3 h4 h5 h6 hrr; exfalso; omega
  | succ rr ihr =>
  intro d hd M H place said done depth n h0 h1 h2 h3 h4 h5 h6 hrr
  have f0 : Fq [(38, 0)] M M := Fq.rf
  refine sOk.of (show sRn base X G d T52 0 [(0, vR 36), (1, vI place), (2, vI said), (3, vI done), (4, vI depth)] [] M _ from ?_)
  refine s_blx (lv' := [(0, vR 36), (1, vI place), (2, vI said), (3, vI done), (4, vI depth)]) (st' := [vI 40, vI depth]) B52_0_4 rfl ?_
  refine r_icmp (tgt := 9) (pc' := 7) D52_4 rfl rfl (by unfold inR; omega) (fun (c1 : depth ≤ 40) => ?_) (fun (c1 : ¬ (depth ≤ 40)) => ?_)
  · refine s_blx (lv' := [(0, vR 36), (1, vI place), (2, vI said), (3, vI done), (4, vI depth)]) (st' := [vR 36]) B52_9_10 rfl ?_
    refine r_gfix (r := 20) (pc' := 13) D52_10 rfl gf_7_31_36 H.1 ?_
    refine r_gfix (r := 25) (pc' := 16) D52_13 rfl gf_7_84_20 H.1 ?_
    refine s_blx (lv' := [(0, vR 36), (1, vI place), (2, vI said), (3, vI done), (4, vI depth)]) (st' := [vI place, vR 25]) B52_16_17 rfl ?_
    refine r_bald (pc' := 18) D52_17 rfl sc_25 (by decide) H.1 (by omega) ?_
    intro w2 e3 r4
    have b_w2 := H.2 25 (place) 0 1 rfl
    rw [← e3] at b_w2; clear r4
    refine r_ifc (tgt := 27) (pc' := 21) D52_18 rfl rfl (by unfold inR; omega) (fun (c5 : w2 = 0) => ?_) (fun (c5 : ¬ (w2 = 0)) => ?_)
    · refine s_blx (lv' := [(0, vR 36), (1, vI place), (2, vI said), (3, vI done), (4, vI depth)]) (st' := [vI depth, vI done, vI said, vI place, vR 36]) B52_27_33 rfl ?_
      refine r_vL (c := 36) (args := [vI place, vI said, vI done, vI depth]) (rest := []) (pc' := 36) D52_33 rfl ck_7_virtual_90 TE55 rfl (Nat.le_of_ble_eq_true rfl) ⟨Nat.le_of_ble_eq_true rfl, Nat.le_of_ble_eq_true rfl⟩ sc_36 ⟨rfl, by decide⟩ H.1 (by omega) (k55_36 E ihr (by omega) H place said done depth n (h0) (h1) (by omega) (by omega) (by omega) (by omega) (by omega)) ?_
      intro v6 M7 q10
      obtain ⟨H8, f9⟩ := q10
      have f11 := f0.tr (f9.up rfl)
      refine s_blx (lv' := [(0, vR 36), (1, vI place), (2, vI said), (3, vI done), (4, vI depth)]) (st' := [vI 0, vL v6]) B52_36_37 rfl ?_
      refine r_sLp (args := [vL v6, vI 0]) (rest := []) (pc' := 40) D52_37 rfl ck_7_static_93 TE51 rfl (Nat.le_of_ble_eq_true rfl) ⟨Nat.le_of_ble_eq_true rfl, Nat.le_of_ble_eq_true rfl⟩ (by decide) (by omega) (k51 E (by omega) H8 v6 0 (by omega)) ?_
      intro v12 q14
      refine s_blx (lv' := [(5, vL v12), (0, vR 36), (1, vI place), (2, vI said), (3, vI done), (4, vI depth)]) (st' := [vI 3, vI done]) B52_40_44 rfl ?_
      refine r_icmp (tgt := 63) (pc' := 47) D52_44 rfl rfl (by unfold inR; omega) (fun (c15 : 3 ≤ done) => ?_) (fun (c15 : ¬ (3 ≤ done)) => ?_)
      · refine s_blx (lv' := [(10, vI (done - 1)), (9, vI 1), (8, vI said), (7, vI 0), (5, vL v12), (0, vR 36), (1, vI place), (2, vI said), (3, vI done), (4, vI depth)]) (st' := []) B52_63_77 rfl ?_
        refine r_loc (lv' := [(0, vR 36), (1, vI place), (2, vI said), (3, vI done), (4, vI depth), (5, vL v12), (7, vI 0), (8, vI said), (9, vI 1), (10, vI (done - 1))]) ⟨rfl, rfl, rfl, rfl, rfl, rfl, rfl, rfl, rfl, rfl, trivial⟩ rfl rfl ?_
        exact (L_k52_36 E ihr hd H place said done depth n h0 h1 h2 h3 h4 h5 h6 hrr ((((done - 1) + 1) * 1 + 0 : Int) + 1).toNat) v12 0 said 1 (done - 1) M7 H8 f11 (by omega) (by omega) (by omega) (by omega) (by omega) (by omega) (by omega) (by omega) (by omega) (by omega) (by omega) (by omega) (by omega) (by omega) (by omega)
      · refine s_blx (lv' := [(5, vL v12), (0, vR 36), (1, vI place), (2, vI said), (3, vI done), (4, vI depth)]) (st' := [vI depth, vI done, vI said, vI place, vR 36, vL v12]) B52_47_55 rfl ?_
        refine r_vL (c := 36) (args := [vI place, vI said, vI done, vI depth]) (rest := [vL v12]) (pc' := 58) D52_55 rfl ck_7_virtual_97 TE53 rfl (Nat.le_of_ble_eq_true rfl) ⟨Nat.le_of_ble_eq_true rfl, Nat.le_of_ble_eq_true rfl⟩ sc_36 ⟨rfl, by decide⟩ H8.1 (by omega) (k53_36 E ihr (by omega) H8 place said done depth n ((h0.fq f11 rfl)) ((h1.fq f11 rfl)) (by omega) (by omega) (by omega) (by omega) (by omega) (by omega)) ?_
        intro v16 M17 q20
        obtain ⟨H18, f19⟩ := q20
        have f21 := f11.tr (f19.up rfl)
        refine r_minX (pc' := 61) D52_58 rfl mc_7_static_100 sp_7_100 (Nat.le_of_ble_eq_true rfl) ?_
        intro z22
        refine s_blx (lv' := [(10, vI (done - 1)), (9, vI 1), (8, vI said), (7, vI 0), (5, vL z22), (0, vR 36), (1, vI place), (2, vI said), (3, vI done), (4, vI depth)]) (st' := []) B52_61_77 rfl ?_
        refine r_loc (lv' := [(0, vR 36), (1, vI place), (2, vI said), (3, vI done), (4, vI depth), (5, vL z22), (7, vI 0), (8, vI said), (9, vI 1), (10, vI (done - 1))]) ⟨rfl, rfl, rfl, rfl, rfl, rfl, rfl, rfl, rfl, rfl, trivial⟩ rfl rfl ?_
        exact (L_k52_36 E ihr hd H place said done depth n h0 h1 h2 h3 h4 h5 h6 hrr ((((done - 1) + 1) * 1 + 0 : Int) + 1).toNat) z22 0 said 1 (done - 1) M17 H18 f21 (by omega) (by omega) (by omega) (by omega) (by omega) (by omega) (by omega) (by omega) (by omega) (by omega) (by omega) (by omega) (by omega) (by omega) (by omega)
    · refine r_ldc2 (e := 4611686018427387904) (pc' := 24) D52_21 rfl cl_7_88 (by decide) ?_
      refine r_goto (tgt := 40) D52_24 rfl ?_
      refine s_blx (lv' := [(5, vL 4611686018427387904), (0, vR 36), (1, vI place), (2, vI said), (3, vI done), (4, vI depth)]) (st' := [vI 3, vI done]) B52_40_44 rfl ?_
      refine r_icmp (tgt := 63) (pc' := 47) D52_44 rfl rfl (by unfold inR; omega) (fun (c23 : 3 ≤ done) => ?_) (fun (c23 : ¬ (3 ≤ done)) => ?_)
      · refine s_blx (lv' := [(10, vI (done - 1)), (9, vI 1), (8, vI said), (7, vI 0), (5, vL 4611686018427387904), (0, vR 36), (1, vI place), (2, vI said), (3, vI done), (4, vI depth)]) (st' := []) B52_63_77 rfl ?_
        refine r_loc (lv' := [(0, vR 36), (1, vI place), (2, vI said), (3, vI done), (4, vI depth), (5, vL 4611686018427387904), (7, vI 0), (8, vI said), (9, vI 1), (10, vI (done - 1))]) ⟨rfl, rfl, rfl, rfl, rfl, rfl, rfl, rfl, rfl, rfl, trivial⟩ rfl rfl ?_
        exact (L_k52_36 E ihr hd H place said done depth n h0 h1 h2 h3 h4 h5 h6 hrr ((((done - 1) + 1) * 1 + 0 : Int) + 1).toNat) 4611686018427387904 0 said 1 (done - 1) M H f0 (by omega) (by omega) (by omega) (by omega) (by omega) (by omega) (by omega) (by omega) (by omega) (by omega) (by omega) (by omega) (by omega) (by omega) (by omega)
      · refine s_blx (lv' := [(5, vL 4611686018427387904), (0, vR 36), (1, vI place), (2, vI said), (3, vI done), (4, vI depth)]) (st' := [vI depth, vI done, vI said, vI place, vR 36, vL 4611686018427387904]) B52_47_55 rfl ?_
        refine r_vL (c := 36) (args := [vI place, vI said, vI done, vI depth]) (rest := [vL 4611686018427387904]) (pc' := 58) D52_55 rfl ck_7_virtual_97 TE53 rfl (Nat.le_of_ble_eq_true rfl) ⟨Nat.le_of_ble_eq_true rfl, Nat.le_of_ble_eq_true rfl⟩ sc_36 ⟨rfl, by decide⟩ H.1 (by omega) (k53_36 E ihr (by omega) H place said done depth n (h0) (h1) (by omega) (by omega) (by omega) (by omega) (by omega) (by omega)) ?_
        intro v24 M25 q28
        obtain ⟨H26, f27⟩ := q28
        have f29 := f0.tr (f27.up rfl)
        refine r_minX (pc' := 61) D52_58 rfl mc_7_static_100 sp_7_100 (Nat.le_of_ble_eq_true rfl) ?_
        intro z30
        refine s_blx (lv' := [(10, vI (done - 1)), (9, vI 1), (8, vI said), (7, vI 0), (5, vL z30), (0, vR 36), (1, vI place), (2, vI said), (3, vI done), (4, vI depth)]) (st' := []) B52_61_77 rfl ?_
        refine r_loc (lv' := [(0, vR 36), (1, vI place), (2, vI said), (3, vI done), (4, vI depth), (5, vL z30), (7, vI 0), (8, vI said), (9, vI 1), (10, vI (done - 1))]) ⟨rfl, rfl, rfl, rfl, rfl, rfl, rfl, rfl, rfl, rfl, trivial⟩ rfl rfl ?_
        exact (L_k52_36 E ihr hd H place said done depth n h0 h1 h2 h3 h4 h5 h6 hrr ((((done - 1) + 1) * 1 + 0 : Int) + 1).toNat) z30 0 said 1 (done - 1) M25 H26 f29 (by omega) (by omega) (by omega) (by omega) (by omega) (by omega) (by omega) (by omega) (by omega) (by omega) (by omega) (by omega) (by omega) (by omega) (by omega)
  · refine s_blx (lv' := [(0, vR 36), (1, vI place), (2, vI said), (3, vI done), (4, vI depth)]) (st' := [vL 0]) B52_7_8 rfl ?_
    exact r_lretL D52_8 rfl (⟨H, f0⟩)
theorem k52_36 {base : Nat} {X : Nat → Option mC} {G : Nat → Value} (E : EnvOK base X G) {d : Nat} (hd : 176 ≤ d) {M : mH} (H : HI base M) (place : Int) (said : Int) (done : Int) (depth : Int) (n : Int) (h0 : RW base 37 n M) (h1 : TR 21 n M) (h2 : 1 ≤ n ∧ n ≤ 145) (h3 : 0 ≤ done ∧ done ≤ 3 ∧ 0 ≤ said ∧ said ≤ 1110) (h4 : 1 ≤ place ∧ place < n) (h5 : (done = 0 ∧ said = 0) ∨ (done = 1 ∧ 1 ≤ said ∧ said ≤ 10) ∨ (done = 2 ∧ 11 ≤ said ∧ said ≤ 110) ∨ (done = 3 ∧ 111 ≤ said ∧ said ≤ 1110)) (h6 : 0 ≤ depth ∧ depth ≤ 41) : sOk base X G d T52 [vR 36, vI place, vI said, vI done, vI depth] M (pL (fun v M' => HI base M' ∧ Fq [(38, 0)] M M')) := k52_36r E 42 (by omega) H place said done depth n h0 h1 h2 h3 h4 h5 h6 (by omega)
set_option maxRecDepth 4000 in
theorem L_k56_55 {base : Nat} {X : Nat → Option mC} {G : Nat → Value} (E : EnvOK base X G) {rr : Nat} (ihr : ∀ {d : Nat} (_ : 8 + 4 * rr ≤ d) {M : mH} (_ : HI base M) (place : Int) (said : Int) (done : Int) (depth : Int) (n : Int), (RW base 56 n M) → (TR 40 n M) → (1 ≤ n ∧ n ≤ 145) → (0 ≤ done ∧ done ≤ 3 ∧ 0 ≤ said ∧ said ≤ 1110) → (1 ≤ place ∧ place < n) → ((done = 0 ∧ said = 0) ∨ (done = 1 ∧ 1 ≤ said ∧ said ≤ 10) ∨ (done = 2 ∧ 11 ≤ said ∧ said ≤ 110) ∨ (done = 3 ∧ 111 ≤ said ∧ said ≤ 1110)) → (0 ≤ depth ∧ depth ≤ 41) → 41 - depth < ((rr : Nat) : Int) → sOk base X G d T52 [vR 55, vI place, vI said, vI done, vI depth] M (pL (fun v M' => HI base M' ∧ Fq [(57, 0)] M M'))) {d : Nat} (hd : 9 + 4 * rr ≤ d) {M : mH} (H : HI base M) (place : Int) (said : Int) (done : Int) (depth : Int) (n : Int) (h0 : RW base 56 n M) (h1 : TR 40 n M) (h2 : 1 ≤ n ∧ n ≤ 145) (h3 : 0 ≤ done ∧ done ≤ 3 ∧ 0 ≤ said ∧ said ≤ 1110) (h4 : 0 ≤ place ∧ place < n) (h5 : (done = 0 ∧ said = 0) ∨ (done = 1 ∧ 1 ≤ said ∧ said ≤ 10) ∨ (done = 2 ∧ 11 ≤ said ∧ said ≤ 110) ∨ (done = 3 ∧ 111 ≤ said ∧ said ≤ 1110)) (h6 : 0 ≤ depth ∧ depth ≤ 40 ∧ 40 - depth < (rr : Int)) : ∀ mz : Nat, (∀ (x5 x7 x8 : Int) (N : mH), HI base N → Fq [(57, 0)] M N → (x7 = -1 ∨ (1 ≤ x7 ∧ x7 < n)) → ((-1) ≤ x7) → (x7 ≤ 144) → (0 ≤ x8) → (x8 ≤ 145) → (145 - x8) * 1 + 0 < (mz : Int) → sRn base X G d T56 17 [(0, vR 55), (2, vI said), (3, vI done), (4, vI depth), (5, vL x5), (7, vI x7), (8, vI x8)] [] N (s_Q base (pL (fun v M' => HI base M' ∧ Fq [(57, 0)] M M')))) := by
  have f0 : Fq [(57, 0)] M M := Fq.rf
  intro mz
  induction mz with
  | zero => exact fun x5 x7 x8 N _ _ z0 z1 z2 z3 z4 z5 => by omega
  | succ mz ih =>
    intro x5 x7 x8 N HN fN i0 i1 i2 i3 i4 hmu
    refine s_blx (lv' := [(0, vR 55), (2, vI said), (3, vI done), (4, vI depth), (5, vL x5), (7, vI x7), (8, vI x8)]) (st' := [vI 145, vI x8]) B56_17_22 rfl ?_
    refine r_icmp (tgt := 96) (pc' := 25) D56_22 rfl rfl (by unfold inR; omega) (fun (c4 : 145 ≤ x8) => ?_) (fun (c4 : ¬ (145 ≤ x8)) => ?_)
    · refine s_blx (lv' := [(0, vR 55), (2, vI said), (3, vI done), (4, vI depth), (5, vL x5), (7, vI x7), (8, vI x8)]) (st' := [vL x5]) B56_96_98 rfl ?_
      exact r_lretL D56_98 rfl (⟨HN, fN⟩)
    · refine s_blx (lv' := [(0, vR 55), (2, vI said), (3, vI done), (4, vI depth), (5, vL x5), (7, vI x7), (8, vI x8)]) (st' := [vI (-1), vI x7]) B56_25_28 rfl ?_
      refine r_icmp (tgt := 96) (pc' := 31) D56_28 rfl rfl (by unfold inR; omega) (fun (c5 : x7 = (-1)) => ?_) (fun (c5 : ¬ (x7 = (-1))) => ?_)
      · refine s_blx (lv' := [(0, vR 55), (2, vI said), (3, vI done), (4, vI depth), (5, vL x5), (7, vI x7), (8, vI x8)]) (st' := [vL x5]) B56_96_98 rfl ?_
        exact r_lretL D56_98 rfl (⟨HN, fN⟩)
      · refine s_blx (lv' := [(0, vR 55), (2, vI said), (3, vI done), (4, vI depth), (5, vL x5), (7, vI x7), (8, vI x8)]) (st' := [vR 55]) B56_31_32 rfl ?_
        refine r_gfix (r := 39) (pc' := 35) D56_32 rfl gf_7_31_55 HN.1 ?_
        refine r_gfix (r := 45) (pc' := 38) D56_35 rfl gf_7_124_39 HN.1 ?_
        refine s_blx (lv' := [(0, vR 55), (2, vI said), (3, vI done), (4, vI depth), (5, vL x5), (7, vI x7), (8, vI x8)]) (st' := [vI x7, vR 45]) B56_38_40 rfl ?_
        refine r_bald (pc' := 41) D56_40 rfl sc_45 (by decide) HN.1 (by omega) ?_
        intro w6 e7 r8
        have b_w6 := HN.2 45 (x7) 0 1 rfl
        rw [← e7] at b_w6; clear r8
        refine r_ifc (tgt := 55) (pc' := 44) D56_41 rfl rfl (by unfold inR; omega) (fun (c9 : w6 = 0) => ?_) (fun (c9 : ¬ (w6 = 0)) => ?_)
        · refine s_blx (lv' := [(9, vI said), (0, vR 55), (2, vI said), (3, vI done), (4, vI depth), (5, vL x5), (7, vI x7), (8, vI x8)]) (st' := [vI (depth + 1), vI done, vI said, vI x7, vR 55, vL x5]) B56_55_70 rfl ?_
          refine r_vL (c := 55) (args := [vI x7, vI said, vI done, vI (depth + 1)]) (rest := [vL x5]) (pc' := 73) D56_70 rfl ck_7_virtual_67 TE52 rfl (Nat.le_of_ble_eq_true rfl) ⟨Nat.le_of_ble_eq_true rfl, Nat.le_of_ble_eq_true rfl⟩ sc_55 ⟨rfl, by decide⟩ HN.1 (by omega) (ihr (by omega) HN x7 said done (depth + 1) n ((h0.fq fN rfl)) ((h1.fq fN rfl)) (by omega) (by omega) (by omega) (by omega) (by omega) (by omega)) ?_
          intro v10 M11 q14
          obtain ⟨H12, f13⟩ := q14
          have f15 := fN.tr (f13.up rfl)
          refine s_blx (lv' := [(9, vI said), (0, vR 55), (2, vI said), (3, vI done), (4, vI depth), (5, vL x5), (7, vI x7), (8, vI x8)]) (st' := [vI 5, vL v10, vL x5]) B56_73_74 rfl ?_
          refine r_binLI (pc' := 75) D56_74 rfl rfl ?_
          intro z16 _ _
          refine s_blx (lv' := [(5, vL (x5 + z16)), (9, vI said), (0, vR 55), (2, vI said), (3, vI done), (4, vI depth), (7, vI x7), (8, vI x8)]) (st' := [vR 55]) B56_75_79 rfl ?_
          refine r_gfix (r := 39) (pc' := 82) D56_79 rfl gf_7_31_55 H12.1 ?_
          refine r_gfix (r := 41) (pc' := 85) D56_82 rfl gf_7_127_39 H12.1 ?_
          refine s_blx (lv' := [(5, vL (x5 + z16)), (9, vI said), (0, vR 55), (2, vI said), (3, vI done), (4, vI depth), (7, vI x7), (8, vI x8)]) (st' := [vI x7, vR 41]) B56_85_87 rfl ?_
          refine r_iald (pc' := 88) D56_87 rfl sc_41 H12.1 (by omega) ?_
          intro w18 e19 r20
          have b_w18 := H12.2 41 (x7) (-1) 144 rfl
          rw [← e19] at b_w18; clear r20
          have tq := ((h1.fq f15 rfl) (x7) (by omega) (by omega)).2 (by omega)
          rw [← e19] at tq
          refine s_blx (lv' := [(8, vI (x8 + 1)), (7, vI w18), (5, vL (x5 + z16)), (9, vI said), (0, vR 55), (2, vI said), (3, vI done), (4, vI depth)]) (st' := []) B56_88_93 rfl ?_
          refine r_goto (tgt := 17) D56_93 rfl ?_
          refine r_loc (lv' := [(0, vR 55), (2, vI said), (3, vI done), (4, vI depth), (5, vL (x5 + z16)), (7, vI w18), (8, vI (x8 + 1))]) ⟨rfl, rfl, rfl, rfl, rfl, rfl, rfl, trivial⟩ rfl rfl ?_
          exact ih (x5 + z16) w18 (x8 + 1) M11 H12 f15 (by omega) (by omega) (by omega) (by omega) (by omega) (by omega)
        · refine s_blx (lv' := [(0, vR 55), (2, vI said), (3, vI done), (4, vI depth), (5, vL x5), (7, vI x7), (8, vI x8)]) (st' := [vI done, vI said, vI x7, vR 55]) B56_44_49 rfl ?_
          refine r_vIp (c := 55) (args := [vI x7, vI said, vI done]) (rest := []) (pc' := 52) D56_49 rfl ck_7_virtual_64 TE49 rfl (Nat.le_of_ble_eq_true rfl) ⟨Nat.le_of_ble_eq_true rfl, Nat.le_of_ble_eq_true rfl⟩ sc_55 ⟨rfl, by decide⟩ HN.1 (by omega) (k49_55 E (by omega) HN x7 said done (by omega) (by omega) (by omega) (by omega)) ?_
          intro v21 q25
          obtain ⟨q23, q24⟩ := q25
          refine r_goto (tgt := 56) D56_52 rfl ?_
          refine s_blx (lv' := [(9, vI v21), (0, vR 55), (2, vI said), (3, vI done), (4, vI depth), (5, vL x5), (7, vI x7), (8, vI x8)]) (st' := [vI (depth + 1), vI done, vI v21, vI x7, vR 55, vL x5]) B56_56_70 rfl ?_
          refine r_vL (c := 55) (args := [vI x7, vI v21, vI done, vI (depth + 1)]) (rest := [vL x5]) (pc' := 73) D56_70 rfl ck_7_virtual_67 TE52 rfl (Nat.le_of_ble_eq_true rfl) ⟨Nat.le_of_ble_eq_true rfl, Nat.le_of_ble_eq_true rfl⟩ sc_55 ⟨rfl, by decide⟩ HN.1 (by omega) (ihr (by omega) HN x7 v21 done (depth + 1) n ((h0.fq fN rfl)) ((h1.fq fN rfl)) (by omega) (by omega) (by omega) (by omega) (by omega) (by omega)) ?_
          intro v26 M27 q30
          obtain ⟨H28, f29⟩ := q30
          have f31 := fN.tr (f29.up rfl)
          refine s_blx (lv' := [(9, vI v21), (0, vR 55), (2, vI said), (3, vI done), (4, vI depth), (5, vL x5), (7, vI x7), (8, vI x8)]) (st' := [vI 5, vL v26, vL x5]) B56_73_74 rfl ?_
          refine r_binLI (pc' := 75) D56_74 rfl rfl ?_
          intro z32 _ _
          refine s_blx (lv' := [(5, vL (x5 + z32)), (9, vI v21), (0, vR 55), (2, vI said), (3, vI done), (4, vI depth), (7, vI x7), (8, vI x8)]) (st' := [vR 55]) B56_75_79 rfl ?_
          refine r_gfix (r := 39) (pc' := 82) D56_79 rfl gf_7_31_55 H28.1 ?_
          refine r_gfix (r := 41) (pc' := 85) D56_82 rfl gf_7_127_39 H28.1 ?_
          refine s_blx (lv' := [(5, vL (x5 + z32)), (9, vI v21), (0, vR 55), (2, vI said), (3, vI done), (4, vI depth), (7, vI x7), (8, vI x8)]) (st' := [vI x7, vR 41]) B56_85_87 rfl ?_
          refine r_iald (pc' := 88) D56_87 rfl sc_41 H28.1 (by omega) ?_
          intro w34 e35 r36
          have b_w34 := H28.2 41 (x7) (-1) 144 rfl
          rw [← e35] at b_w34; clear r36
          have tq := ((h1.fq f31 rfl) (x7) (by omega) (by omega)).2 (by omega)
          rw [← e35] at tq
          refine s_blx (lv' := [(8, vI (x8 + 1)), (7, vI w34), (5, vL (x5 + z32)), (9, vI v21), (0, vR 55), (2, vI said), (3, vI done), (4, vI depth)]) (st' := []) B56_88_93 rfl ?_
          refine r_goto (tgt := 17) D56_93 rfl ?_
          refine r_loc (lv' := [(0, vR 55), (2, vI said), (3, vI done), (4, vI depth), (5, vL (x5 + z32)), (7, vI w34), (8, vI (x8 + 1))]) ⟨rfl, rfl, rfl, rfl, rfl, rfl, rfl, trivial⟩ rfl rfl ?_
          exact ih (x5 + z32) w34 (x8 + 1) M27 H28 f31 (by omega) (by omega) (by omega) (by omega) (by omega) (by omega)
set_option maxRecDepth 4000 in
theorem k56_55 {base : Nat} {X : Nat → Option mC} {G : Nat → Value} (E : EnvOK base X G) {rr : Nat} (ihr : ∀ {d : Nat} (_ : 8 + 4 * rr ≤ d) {M : mH} (_ : HI base M) (place : Int) (said : Int) (done : Int) (depth : Int) (n : Int), (RW base 56 n M) → (TR 40 n M) → (1 ≤ n ∧ n ≤ 145) → (0 ≤ done ∧ done ≤ 3 ∧ 0 ≤ said ∧ said ≤ 1110) → (1 ≤ place ∧ place < n) → ((done = 0 ∧ said = 0) ∨ (done = 1 ∧ 1 ≤ said ∧ said ≤ 10) ∨ (done = 2 ∧ 11 ≤ said ∧ said ≤ 110) ∨ (done = 3 ∧ 111 ≤ said ∧ said ≤ 1110)) → (0 ≤ depth ∧ depth ≤ 41) → 41 - depth < ((rr : Nat) : Int) → sOk base X G d T52 [vR 55, vI place, vI said, vI done, vI depth] M (pL (fun v M' => HI base M' ∧ Fq [(57, 0)] M M'))) {d : Nat} (hd : 9 + 4 * rr ≤ d) {M : mH} (H : HI base M) (place : Int) (said : Int) (done : Int) (depth : Int) (n : Int) (h0 : RW base 56 n M) (h1 : TR 40 n M) (h2 : 1 ≤ n ∧ n ≤ 145) (h3 : 0 ≤ done ∧ done ≤ 3 ∧ 0 ≤ said ∧ said ≤ 1110) (h4 : 0 ≤ place ∧ place < n) (h5 : (done = 0 ∧ said = 0) ∨ (done = 1 ∧ 1 ≤ said ∧ said ≤ 10) ∨ (done = 2 ∧ 11 ≤ said ∧ said ≤ 110) ∨ (done = 3 ∧ 111 ≤ said ∧ said ≤ 1110)) (h6 : 0 ≤ depth ∧ depth ≤ 40 ∧ 40 - depth < (rr : Int)) : sOk base X G d T56 [vR 55, vI place, vI said, vI done, vI depth] M (pL (fun v M' => HI base M' ∧ Fq [(57, 0)] M M')) := by
  have f0 : Fq [(57, 0)] M M := Fq.rf
  refine sOk.of (show sRn base X G d T56 0 [(0, vR 55), (1, vI place), (2, vI said), (3, vI done), (4, vI depth)] [] M _ from ?_)
  refine s_blx (lv' := [(5, vL 0), (0, vR 55), (1, vI place), (2, vI said), (3, vI done), (4, vI depth)]) (st' := [vR 55]) B56_0_4 rfl ?_
  refine r_gfix (r := 39) (pc' := 7) D56_4 rfl gf_7_31_55 H.1 ?_
  refine r_gfix (r := 40) (pc' := 10) D56_7 rfl gf_7_121_39 H.1 ?_
  refine s_blx (lv' := [(5, vL 0), (0, vR 55), (1, vI place), (2, vI said), (3, vI done), (4, vI depth)]) (st' := [vI place, vR 40]) B56_10_11 rfl ?_
  refine r_iald (pc' := 12) D56_11 rfl sc_40 H.1 (by omega) ?_
  intro w1 e2 r3
  have b_w1 := H.2 40 (place) (-1) 144 rfl
  rw [← e2] at b_w1; clear r3
  have tq := (h1 (place) (by omega) (by omega)).1
  rw [← e2] at tq
  refine s_blx (lv' := [(8, vI 0), (7, vI w1), (5, vL 0), (0, vR 55), (1, vI place), (2, vI said), (3, vI done), (4, vI depth)]) (st' := []) B56_12_17 rfl ?_
  refine r_loc (lv' := [(0, vR 55), (2, vI said), (3, vI done), (4, vI depth), (5, vL 0), (7, vI w1), (8, vI 0)]) ⟨rfl, rfl, rfl, rfl, rfl, rfl, rfl, trivial⟩ rfl rfl ?_
  exact (L_k56_55 E ihr hd H place said done depth n h0 h1 h2 h3 h4 h5 h6 (((145 - 0) * 1 + 0 : Int) + 1).toNat) 0 w1 0 M H f0 (by omega) (by omega) (by omega) (by omega) (by omega) (by omega)
set_option maxRecDepth 4000 in
theorem k55_55 {base : Nat} {X : Nat → Option mC} {G : Nat → Value} (E : EnvOK base X G) {rr : Nat} (ihr : ∀ {d : Nat} (_ : 8 + 4 * rr ≤ d) {M : mH} (_ : HI base M) (place : Int) (said : Int) (done : Int) (depth : Int) (n : Int), (RW base 56 n M) → (TR 40 n M) → (1 ≤ n ∧ n ≤ 145) → (0 ≤ done ∧ done ≤ 3 ∧ 0 ≤ said ∧ said ≤ 1110) → (1 ≤ place ∧ place < n) → ((done = 0 ∧ said = 0) ∨ (done = 1 ∧ 1 ≤ said ∧ said ≤ 10) ∨ (done = 2 ∧ 11 ≤ said ∧ said ≤ 110) ∨ (done = 3 ∧ 111 ≤ said ∧ said ≤ 1110)) → (0 ≤ depth ∧ depth ≤ 41) → 41 - depth < ((rr : Nat) : Int) → sOk base X G d T52 [vR 55, vI place, vI said, vI done, vI depth] M (pL (fun v M' => HI base M' ∧ Fq [(57, 0)] M M'))) {d : Nat} (hd : 10 + 4 * rr ≤ d) {M : mH} (H : HI base M) (place : Int) (said : Int) (done : Int) (depth : Int) (n : Int) (h0 : RW base 56 n M) (h1 : TR 40 n M) (h2 : 1 ≤ n ∧ n ≤ 145) (h3 : 0 ≤ done ∧ done ≤ 3 ∧ 0 ≤ said ∧ said ≤ 1110) (h4 : 1 ≤ place ∧ place < n) (h5 : (done = 0 ∧ said = 0) ∨ (done = 1 ∧ 1 ≤ said ∧ said ≤ 10) ∨ (done = 2 ∧ 11 ≤ said ∧ said ≤ 110) ∨ (done = 3 ∧ 111 ≤ said ∧ said ≤ 1110)) (h6 : 0 ≤ depth ∧ depth ≤ 40 ∧ 40 - depth < (rr : Int)) : sOk base X G d T55 [vR 55, vI place, vI said, vI done, vI depth] M (pL (fun v M' => HI base M' ∧ Fq [(57, 0)] M M')) := by
  have f0 : Fq [(57, 0)] M M := Fq.rf
  refine sOk.of (show sRn base X G d T55 0 [(0, vR 55), (1, vI place), (2, vI said), (3, vI done), (4, vI depth)] [] M _ from ?_)
  refine s_blx (lv' := [(0, vR 55), (1, vI place), (2, vI said), (3, vI done), (4, vI depth)]) (st' := [vR 55]) B55_0_1 rfl ?_
  refine r_gfix (r := 56) (pc' := 4) D55_1 rfl gf_7_13_55 H.1 ?_
  refine s_blx (lv' := [(0, vR 55), (1, vI place), (2, vI said), (3, vI done), (4, vI depth)]) (st' := [vI place, vR 56]) B55_4_5 rfl ?_
  obtain ⟨r1, a2, a3⟩ := h0 (place) (by omega) (by omega)
  refine r_aald (v := vR r1) (pc' := 6) D55_5 rfl sc_56 (by decide) H.1 (by omega) a2 ?_
  refine s_blx (lv' := [(0, vR 55), (1, vI place), (2, vI said), (3, vI done), (4, vI depth)]) (st' := [vI said, vR (r1)]) B55_6_7 rfl ?_
  refine r_laldD (pc' := 8) D55_7 rfl a3 (by omega) ?_
  intro w4
  refine s_blx (lv' := [(5, vL w4), (0, vR 55), (1, vI place), (2, vI said), (3, vI done), (4, vI depth)]) (st' := [vI 32, vL w4]) B55_8_14 rfl ?_
  refine r_binLI (pc' := 15) D55_14 rfl rfl ?_
  intro z5 _ _
  refine s_blx (lv' := [(5, vL w4), (0, vR 55), (1, vI place), (2, vI said), (3, vI done), (4, vI depth)]) (st' := [vR 55, vL z5]) B55_15_16 rfl ?_
  refine r_glong (ki := 3) (pc' := 19) D55_16 rfl gf_7_23_55 rfl H.1 ?_
  intro w7 e8 r9
  clear r9
  refine r_lcmp (pc' := 20) D55_19 rfl ?_
  intro z10 r11 r12
  refine r_ifc (tgt := 30) (pc' := 23) D55_20 rfl rfl (by unfold inR; omega) (fun (c13 : z10 ≠ 0) => ?_) (fun (c13 : ¬ (z10 ≠ 0)) => ?_)
  · refine s_blx (lv' := [(5, vL w4), (0, vR 55), (1, vI place), (2, vI said), (3, vI done), (4, vI depth)]) (st' := [vR 55]) B55_30_31 rfl ?_
    refine r_gfix (r := 57) (pc' := 34) D55_31 rfl gf_7_19_55 H.1 ?_
    refine s_blx (lv' := [(5, vL w4), (0, vR 55), (1, vI place), (2, vI said), (3, vI done), (4, vI depth)]) (st' := [vI ((place * 4) + done), vR 57]) B55_34_39 rfl ?_
    refine r_iald (pc' := 40) D55_39 rfl sc_57 H.1 (by omega) ?_
    intro w14 e15 r16
    unfold inR at r16
    refine r_i2l (pc' := 41) D55_40 rfl (by unfold inR; omega) ?_
    refine s_blx (lv' := [(7, vL w14), (5, vL w4), (0, vR 55), (1, vI place), (2, vI said), (3, vI done), (4, vI depth)]) (st' := [vR 55]) B55_41_44 rfl ?_
    refine r_gfix (r := 39) (pc' := 47) D55_44 rfl gf_7_31_55 H.1 ?_
    refine r_gfix (r := 44) (pc' := 50) D55_47 rfl gf_7_84_39 H.1 ?_
    refine s_blx (lv' := [(7, vL w14), (5, vL w4), (0, vR 55), (1, vI place), (2, vI said), (3, vI done), (4, vI depth)]) (st' := [vI place, vR 44]) B55_50_51 rfl ?_
    refine r_bald (pc' := 52) D55_51 rfl sc_44 (by decide) H.1 (by omega) ?_
    intro w17 e18 r19
    have b_w17 := H.2 44 (place) 0 1 rfl
    rw [← e18] at b_w17; clear r19
    refine r_ifc (tgt := 76) (pc' := 55) D55_52 rfl rfl (by unfold inR; omega) (fun (c20 : w17 = 0) => ?_) (fun (c20 : ¬ (w17 = 0)) => ?_)
    · refine s_blx (lv' := [(7, vL w14), (5, vL w4), (0, vR 55), (1, vI place), (2, vI said), (3, vI done), (4, vI depth)]) (st' := [vI depth, vI done, vI said, vI place, vR 55, vL w14]) B55_76_84 rfl ?_
      refine r_vL (c := 55) (args := [vI place, vI said, vI done, vI depth]) (rest := [vL w14]) (pc' := 87) D55_84 rfl ck_7_virtual_46 TE56 rfl (Nat.le_of_ble_eq_true rfl) ⟨Nat.le_of_ble_eq_true rfl, Nat.le_of_ble_eq_true rfl⟩ sc_55 ⟨rfl, by decide⟩ H.1 (by omega) (k56_55 E ihr (by omega) H place said done depth n (h0) (h1) (by omega) (by omega) (by omega) (by omega) (by omega)) ?_
      intro v21 M22 q25
      obtain ⟨H23, f24⟩ := q25
      have f26 := f0.tr (f24.up rfl)
      refine s_blx (lv' := [(7, vL (w14 + v21)), (5, vL w4), (0, vR 55), (1, vI place), (2, vI said), (3, vI done), (4, vI depth)]) (st' := [vR 55]) B55_87_91 rfl ?_
      refine r_gfix (r := 56) (pc' := 94) D55_91 rfl gf_7_13_55 H23.1 ?_
      refine s_blx (lv' := [(7, vL (w14 + v21)), (5, vL w4), (0, vR 55), (1, vI place), (2, vI said), (3, vI done), (4, vI depth)]) (st' := [vI place, vR 56]) B55_94_95 rfl ?_
      obtain ⟨r27, a28, a29⟩ := (h0.fq f26 rfl) (place) (by omega) (by omega)
      refine r_aald (v := vR r27) (pc' := 96) D55_95 rfl sc_56 (by decide) H23.1 (by omega) a28 ?_
      refine s_blx (lv' := [(7, vL (w14 + v21)), (5, vL w4), (0, vR 55), (1, vI place), (2, vI said), (3, vI done), (4, vI depth)]) (st' := [vR 55, vI said, vR (r27)]) B55_96_98 rfl ?_
      refine r_glong (ki := 3) (pc' := 101) D55_98 rfl gf_7_23_55 rfl H23.1 ?_
      intro w30 e31 r32
      clear r32
      refine s_blx (lv' := [(7, vL (w14 + v21)), (5, vL w4), (0, vR 55), (1, vI place), (2, vI said), (3, vI done), (4, vI depth)]) (st' := [vI 32, vL w30, vI said, vR (r27)]) B55_101_103 rfl ?_
      refine r_binLI (pc' := 104) D55_103 rfl rfl ?_
      intro z33 _ _
      refine s_blx (lv' := [(7, vL (w14 + v21)), (5, vL w4), (0, vR 55), (1, vI place), (2, vI said), (3, vI done), (4, vI depth)]) (st' := [vL (w14 + v21), vL z33, vI said, vR (r27)]) B55_104_106 rfl ?_
      refine r_binL (pc' := 107) D55_106 rfl rfl ?_
      intro z35 _ _
      refine r_normL ?_
      intro z37 r38 _; unfold inJ at r38
      refine r_lastD (pc' := 108) D55_107 rfl H23 a29 (by omega) ?_
      intro M39 u40 H41
      have f42 := f26.row u40 a29
      refine s_blx (lv' := [(7, vL (w14 + v21)), (5, vL w4), (0, vR 55), (1, vI place), (2, vI said), (3, vI done), (4, vI depth)]) (st' := [vL (w14 + v21)]) B55_108_110 rfl ?_
      exact r_lretL D55_110 rfl (⟨H41, f42⟩)
    · refine s_blx (lv' := [(7, vL w14), (5, vL w4), (0, vR 55), (1, vI place), (2, vI said), (3, vI done), (4, vI depth)]) (st' := [vI (depth + 1), vI done, vI said, vI place, vR 55, vL w14]) B55_55_65 rfl ?_
      refine r_vL (c := 55) (args := [vI place, vI said, vI done, vI (depth + 1)]) (rest := [vL w14]) (pc' := 68) D55_65 rfl ck_7_virtual_67 TE52 rfl (Nat.le_of_ble_eq_true rfl) ⟨Nat.le_of_ble_eq_true rfl, Nat.le_of_ble_eq_true rfl⟩ sc_55 ⟨rfl, by decide⟩ H.1 (by omega) (ihr (by omega) H place said done (depth + 1) n (h0) (h1) (by omega) (by omega) (by omega) (by omega) (by omega) (by omega)) ?_
      intro v43 M44 q47
      obtain ⟨H45, f46⟩ := q47
      have f48 := f0.tr (f46.up rfl)
      refine s_blx (lv' := [(7, vL w14), (5, vL w4), (0, vR 55), (1, vI place), (2, vI said), (3, vI done), (4, vI depth)]) (st' := [vI 5, vL v43, vL w14]) B55_68_69 rfl ?_
      refine r_binLI (pc' := 70) D55_69 rfl rfl ?_
      intro z49 _ _
      refine s_blx (lv' := [(7, vL (w14 + z49)), (5, vL w4), (0, vR 55), (1, vI place), (2, vI said), (3, vI done), (4, vI depth)]) (st' := []) B55_70_73 rfl ?_
      refine r_goto (tgt := 90) D55_73 rfl ?_
      refine s_blx (lv' := [(7, vL (w14 + z49)), (5, vL w4), (0, vR 55), (1, vI place), (2, vI said), (3, vI done), (4, vI depth)]) (st' := [vR 55]) B55_90_91 rfl ?_
      refine r_gfix (r := 56) (pc' := 94) D55_91 rfl gf_7_13_55 H45.1 ?_
      refine s_blx (lv' := [(7, vL (w14 + z49)), (5, vL w4), (0, vR 55), (1, vI place), (2, vI said), (3, vI done), (4, vI depth)]) (st' := [vI place, vR 56]) B55_94_95 rfl ?_
      obtain ⟨r51, a52, a53⟩ := (h0.fq f48 rfl) (place) (by omega) (by omega)
      refine r_aald (v := vR r51) (pc' := 96) D55_95 rfl sc_56 (by decide) H45.1 (by omega) a52 ?_
      refine s_blx (lv' := [(7, vL (w14 + z49)), (5, vL w4), (0, vR 55), (1, vI place), (2, vI said), (3, vI done), (4, vI depth)]) (st' := [vR 55, vI said, vR (r51)]) B55_96_98 rfl ?_
      refine r_glong (ki := 3) (pc' := 101) D55_98 rfl gf_7_23_55 rfl H45.1 ?_
      intro w54 e55 r56
      clear r56
      refine s_blx (lv' := [(7, vL (w14 + z49)), (5, vL w4), (0, vR 55), (1, vI place), (2, vI said), (3, vI done), (4, vI depth)]) (st' := [vI 32, vL w54, vI said, vR (r51)]) B55_101_103 rfl ?_
      refine r_binLI (pc' := 104) D55_103 rfl rfl ?_
      intro z57 _ _
      refine s_blx (lv' := [(7, vL (w14 + z49)), (5, vL w4), (0, vR 55), (1, vI place), (2, vI said), (3, vI done), (4, vI depth)]) (st' := [vL (w14 + z49), vL z57, vI said, vR (r51)]) B55_104_106 rfl ?_
      refine r_binL (pc' := 107) D55_106 rfl rfl ?_
      intro z59 _ _
      refine r_normL ?_
      intro z61 r62 _; unfold inJ at r62
      refine r_lastD (pc' := 108) D55_107 rfl H45 a53 (by omega) ?_
      intro M63 u64 H65
      have f66 := f48.row u64 a53
      refine s_blx (lv' := [(7, vL (w14 + z49)), (5, vL w4), (0, vR 55), (1, vI place), (2, vI said), (3, vI done), (4, vI depth)]) (st' := [vL (w14 + z49)]) B55_108_110 rfl ?_
      exact r_lretL D55_110 rfl (⟨H65, f66⟩)
  · refine s_blx (lv' := [(5, vL w4), (0, vR 55), (1, vI place), (2, vI said), (3, vI done), (4, vI depth)]) (st' := [vL w4]) B55_23_25 rfl ?_
    refine r_ldc2 (e := 4294967295) (pc' := 28) D55_25 rfl cl_7_119 (by decide) ?_
    refine r_binL (pc' := 29) D55_28 rfl rfl ?_
    intro z67 _ _
    exact r_lretL D55_29 rfl (⟨H, f0⟩)
set_option maxRecDepth 4000 in
theorem L_k53_55 {base : Nat} {X : Nat → Option mC} {G : Nat → Value} (E : EnvOK base X G) {rr : Nat} (ihr : ∀ {d : Nat} (_ : 8 + 4 * rr ≤ d) {M : mH} (_ : HI base M) (place : Int) (said : Int) (done : Int) (depth : Int) (n : Int), (RW base 56 n M) → (TR 40 n M) → (1 ≤ n ∧ n ≤ 145) → (0 ≤ done ∧ done ≤ 3 ∧ 0 ≤ said ∧ said ≤ 1110) → (1 ≤ place ∧ place < n) → ((done = 0 ∧ said = 0) ∨ (done = 1 ∧ 1 ≤ said ∧ said ≤ 10) ∨ (done = 2 ∧ 11 ≤ said ∧ said ≤ 110) ∨ (done = 3 ∧ 111 ≤ said ∧ said ≤ 1110)) → (0 ≤ depth ∧ depth ≤ 41) → 41 - depth < ((rr : Nat) : Int) → sOk base X G d T52 [vR 55, vI place, vI said, vI done, vI depth] M (pL (fun v M' => HI base M' ∧ Fq [(57, 0)] M M'))) {d : Nat} (hd : 11 + 4 * rr ≤ d) {M : mH} (H : HI base M) (place : Int) (said : Int) (done : Int) (depth : Int) (n : Int) (h0 : RW base 56 n M) (h1 : TR 40 n M) (h2 : 1 ≤ n ∧ n ≤ 145) (h3 : 0 ≤ done ∧ done ≤ 3 ∧ 0 ≤ said ∧ said ≤ 1110) (h4 : 1 ≤ place ∧ place < n) (h5 : (done = 0 ∧ said = 0) ∨ (done = 1 ∧ 1 ≤ said ∧ said ≤ 10) ∨ (done = 2 ∧ 11 ≤ said ∧ said ≤ 110) ∨ (done = 3 ∧ 111 ≤ said ∧ said ≤ 1110)) (h6 : done ≤ 2) (h7 : 0 ≤ depth ∧ depth ≤ 40 ∧ 40 - depth < (rr : Int)) : ∀ mz : Nat, (∀ (x10 x12 x13 : Int) (N : mH), HI base N → Fq [(57, 0)] M N → ((-2147483648) ≤ x12) → (x12 ≤ 2147483647) → (0 ≤ x13) → (x13 ≤ 8) → (8 - x13) * 1 + 0 < (mz : Int) → sRn base X G d T53 172 [(0, vR 55), (1, vI place), (2, vI said), (3, vI done), (4, vI depth), (10, vL x10), (12, vI x12), (13, vI x13)] [] N (s_Q base (pL (fun v M' => HI base M' ∧ Fq [(57, 0)] M M')))) := by
  have f0 : Fq [(57, 0)] M M := Fq.rf
  intro mz
  induction mz with
  | zero => exact fun x10 x12 x13 N _ _ z0 z1 z2 z3 z4 => by omega
  | succ mz ih =>
    intro x10 x12 x13 N HN fN i0 i1 i2 i3 hmu
    refine s_blx (lv' := [(0, vR 55), (1, vI place), (2, vI said), (3, vI done), (4, vI depth), (10, vL x10), (12, vI x12), (13, vI x13)]) (st' := [vI 8, vI x13]) B53_172_176 rfl ?_
    refine r_icmp (tgt := 231) (pc' := 179) D53_176 rfl rfl (by unfold inR; omega) (fun (c61 : 8 ≤ x13) => ?_) (fun (c61 : ¬ (8 ≤ x13)) => ?_)
    · refine s_blx (lv' := [(0, vR 55), (1, vI place), (2, vI said), (3, vI done), (4, vI depth), (10, vL x10), (12, vI x12), (13, vI x13)]) (st' := [vL x10]) B53_231_233 rfl ?_
      exact r_lretL D53_233 rfl (⟨HN, fN⟩)
    · refine s_blx (lv' := [(0, vR 55), (1, vI place), (2, vI said), (3, vI done), (4, vI depth), (10, vL x10), (12, vI x12), (13, vI x13)]) (st' := [vI x13, vI x12]) B53_179_183 rfl ?_
      refine r_bin (pc' := 184) D53_183 rfl rfl ?_
      intro z62 r63 _; unfold inR at r63
      refine s_blx (lv' := [(0, vR 55), (1, vI place), (2, vI said), (3, vI done), (4, vI depth), (10, vL x10), (12, vI x12), (13, vI x13)]) (st' := [vI 1, vI z62]) B53_184_185 rfl ?_
      refine r_and1 (pc' := 186) D53_185 rfl ?_
      refine s_blx (lv' := [(0, vR 55), (1, vI place), (2, vI said), (3, vI done), (4, vI depth), (10, vL x10), (12, vI x12), (13, vI x13)]) (st' := [vI 1, vI (z62 % 2)]) B53_186_187 rfl ?_
      refine r_icmp (tgt := 225) (pc' := 190) D53_187 rfl rfl (by unfold inR; omega) (fun (c64 : (z62 % 2) ≠ 1) => ?_) (fun (c64 : ¬ ((z62 % 2) ≠ 1)) => ?_)
      · refine s_blx (lv' := [(13, vI (x13 + 1)), (0, vR 55), (1, vI place), (2, vI said), (3, vI done), (4, vI depth), (10, vL x10), (12, vI x12)]) (st' := []) B53_225_228 rfl ?_
        refine r_goto (tgt := 172) D53_228 rfl ?_
        refine r_loc (lv' := [(0, vR 55), (1, vI place), (2, vI said), (3, vI done), (4, vI depth), (10, vL x10), (12, vI x12), (13, vI (x13 + 1))]) ⟨rfl, rfl, rfl, rfl, rfl, rfl, rfl, rfl, trivial⟩ rfl rfl ?_
        exact ih x10 x12 (x13 + 1) N HN fN (by omega) (by omega) (by omega) (by omega) (by omega)
      · refine s_blx (lv' := [(0, vR 55), (1, vI place), (2, vI said), (3, vI done), (4, vI depth), (10, vL x10), (12, vI x12), (13, vI x13)]) (st' := [vI x13, vI said, vI place, vR 55]) B53_190_195 rfl ?_
        refine r_sIp (args := [vI said, vI x13]) (rest := [vI place, vR 55]) (pc' := 198) D53_195 rfl ck_7_static_113 TE43 rfl (Nat.le_of_ble_eq_true rfl) ⟨Nat.le_of_ble_eq_true rfl, Nat.le_of_ble_eq_true rfl⟩ (by decide) (by omega) (k43 E (by omega) HN said x13 (by omega) (by omega)) ?_
        intro v65 q68
        have q67 := q68; clear q68
        refine s_blx (lv' := [(0, vR 55), (1, vI place), (2, vI said), (3, vI done), (4, vI depth), (10, vL x10), (12, vI x12), (13, vI x13)]) (st' := [vI depth, vI (done + 1), vI v65, vI place, vR 55]) B53_198_203 rfl ?_
        refine r_vL (c := 55) (args := [vI place, vI v65, vI (done + 1), vI depth]) (rest := []) (pc' := 206) D53_203 rfl ck_7_virtual_90 TE55 rfl (Nat.le_of_ble_eq_true rfl) ⟨Nat.le_of_ble_eq_true rfl, Nat.le_of_ble_eq_true rfl⟩ sc_55 ⟨rfl, by decide⟩ HN.1 (by omega) (k55_55 E ihr (by omega) HN place v65 (done + 1) depth n ((h0.fq fN rfl)) ((h1.fq fN rfl)) (by omega) (by omega) (by omega) (by omega) (by omega)) ?_
        intro v69 M70 q73
        obtain ⟨H71, f72⟩ := q73
        have f74 := fN.tr (f72.up rfl)
        refine s_blx (lv' := [(14, vL v69), (0, vR 55), (1, vI place), (2, vI said), (3, vI done), (4, vI depth), (10, vL x10), (12, vI x12), (13, vI x13)]) (st' := [vI (10 + x13), vL v69, vL x10]) B53_206_217 rfl ?_
        refine r_sLp (args := [vL v69, vI (10 + x13)]) (rest := [vL x10]) (pc' := 220) D53_217 rfl ck_7_static_93 TE51 rfl (Nat.le_of_ble_eq_true rfl) ⟨Nat.le_of_ble_eq_true rfl, Nat.le_of_ble_eq_true rfl⟩ (by decide) (by omega) (k51 E (by omega) H71 v69 (10 + x13) (by omega)) ?_
        intro v75 q77
        refine r_minX (pc' := 223) D53_220 rfl mc_7_static_100 sp_7_100 (Nat.le_of_ble_eq_true rfl) ?_
        intro z78
        refine s_blx (lv' := [(13, vI (x13 + 1)), (10, vL z78), (14, vL v69), (0, vR 55), (1, vI place), (2, vI said), (3, vI done), (4, vI depth), (12, vI x12)]) (st' := []) B53_223_228 rfl ?_
        refine r_goto (tgt := 172) D53_228 rfl ?_
        refine r_loc (lv' := [(0, vR 55), (1, vI place), (2, vI said), (3, vI done), (4, vI depth), (10, vL z78), (12, vI x12), (13, vI (x13 + 1))]) ⟨rfl, rfl, rfl, rfl, rfl, rfl, rfl, rfl, trivial⟩ rfl rfl ?_
        exact ih z78 x12 (x13 + 1) M70 H71 f74 (by omega) (by omega) (by omega) (by omega) (by omega)
set_option maxRecDepth 4000 in
theorem k53_55 {base : Nat} {X : Nat → Option mC} {G : Nat → Value} (E : EnvOK base X G) {rr : Nat} (ihr : ∀ {d : Nat} (_ : 8 + 4 * rr ≤ d) {M : mH} (_ : HI base M) (place : Int) (said : Int) (done : Int) (depth : Int) (n : Int), (RW base 56 n M) → (TR 40 n M) → (1 ≤ n ∧ n ≤ 145) → (0 ≤ done ∧ done ≤ 3 ∧ 0 ≤ said ∧ said ≤ 1110) → (1 ≤ place ∧ place < n) → ((done = 0 ∧ said = 0) ∨ (done = 1 ∧ 1 ≤ said ∧ said ≤ 10) ∨ (done = 2 ∧ 11 ≤ said ∧ said ≤ 110) ∨ (done = 3 ∧ 111 ≤ said ∧ said ≤ 1110)) → (0 ≤ depth ∧ depth ≤ 41) → 41 - depth < ((rr : Nat) : Int) → sOk base X G d T52 [vR 55, vI place, vI said, vI done, vI depth] M (pL (fun v M' => HI base M' ∧ Fq [(57, 0)] M M'))) {d : Nat} (hd : 11 + 4 * rr ≤ d) {M : mH} (H : HI base M) (place : Int) (said : Int) (done : Int) (depth : Int) (n : Int) (h0 : RW base 56 n M) (h1 : TR 40 n M) (h2 : 1 ≤ n ∧ n ≤ 145) (h3 : 0 ≤ done ∧ done ≤ 3 ∧ 0 ≤ said ∧ said ≤ 1110) (h4 : 1 ≤ place ∧ place < n) (h5 : (done = 0 ∧ said = 0) ∨ (done = 1 ∧ 1 ≤ said ∧ said ≤ 10) ∨ (done = 2 ∧ 11 ≤ said ∧ said ≤ 110) ∨ (done = 3 ∧ 111 ≤ said ∧ said ≤ 1110)) (h6 : done ≤ 2) (h7 : 0 ≤ depth ∧ depth ≤ 40 ∧ 40 - depth < (rr : Int)) : sOk base X G d T53 [vR 55, vI place, vI said, vI done, vI depth] M (pL (fun v M' => HI base M' ∧ Fq [(57, 0)] M M')) := by
  have f0 : Fq [(57, 0)] M M := Fq.rf
  refine sOk.of (show sRn base X G d T53 0 [(0, vR 55), (1, vI place), (2, vI said), (3, vI done), (4, vI depth)] [] M _ from ?_)
  refine s_blx (lv' := [(0, vR 55), (1, vI place), (2, vI said), (3, vI done), (4, vI depth)]) (st' := [vR 55]) B53_0_1 rfl ?_
  refine r_gfix (r := 39) (pc' := 4) D53_1 rfl gf_7_31_55 H.1 ?_
  refine s_blx (lv' := [(0, vR 55), (1, vI place), (2, vI said), (3, vI done), (4, vI depth)]) (st' := [vI done, vI place, vR 39]) B53_4_6 rfl ?_
  refine r_vIp (c := 39) (args := [vI place, vI done]) (rest := []) (pc' := 9) D53_6 rfl ck_7_virtual_72 TE85 rfl (Nat.le_of_ble_eq_true rfl) ⟨Nat.le_of_ble_eq_true rfl, Nat.le_of_ble_eq_true rfl⟩ sc_39 ⟨rfl, by decide⟩ H.1 (by omega) (k85_39 E (by omega) H place done (by omega) (by omega)) ?_
  intro v1 q4
  have q3 := q4; clear q4
  refine s_blx (lv' := [(5, vI v1), (0, vR 55), (1, vI place), (2, vI said), (3, vI done), (4, vI depth)]) (st' := [vR 55]) B53_9_12 rfl ?_
  refine r_gfix (r := 39) (pc' := 15) D53_12 rfl gf_7_31_55 H.1 ?_
  refine r_gfix (r := 42) (pc' := 18) D53_15 rfl gf_7_39_39 H.1 ?_
  refine s_blx (lv' := [(5, vI v1), (0, vR 55), (1, vI place), (2, vI said), (3, vI done), (4, vI depth)]) (st' := [vI place, vR 42]) B53_18_19 rfl ?_
  refine r_iald (pc' := 20) D53_19 rfl sc_42 H.1 (by omega) ?_
  intro w5 e6 r7
  unfold inR at r7
  refine r_i2l (pc' := 21) D53_20 rfl (by unfold inR; omega) ?_
  refine s_blx (lv' := [(6, vL w5), (5, vI v1), (0, vR 55), (1, vI place), (2, vI said), (3, vI done), (4, vI depth)]) (st' := [vI 8, vI said, vI place, vR 55]) B53_21_28 rfl ?_
  refine r_sIp (args := [vI said, vI 8]) (rest := [vI place, vR 55]) (pc' := 31) D53_28 rfl ck_7_static_113 TE43 rfl (Nat.le_of_ble_eq_true rfl) ⟨Nat.le_of_ble_eq_true rfl, Nat.le_of_ble_eq_true rfl⟩ (by decide) (by omega) (k43 E (by omega) H said 8 (by omega) (by omega)) ?_
  intro v8 q11
  have q10 := q11; clear q11
  refine s_blx (lv' := [(6, vL w5), (5, vI v1), (0, vR 55), (1, vI place), (2, vI said), (3, vI done), (4, vI depth)]) (st' := [vI depth, vI (done + 1), vI v8, vI place, vR 55]) B53_31_36 rfl ?_
  refine r_vL (c := 55) (args := [vI place, vI v8, vI (done + 1), vI depth]) (rest := []) (pc' := 39) D53_36 rfl ck_7_virtual_90 TE55 rfl (Nat.le_of_ble_eq_true rfl) ⟨Nat.le_of_ble_eq_true rfl, Nat.le_of_ble_eq_true rfl⟩ sc_55 ⟨rfl, by decide⟩ H.1 (by omega) (k55_55 E ihr (by omega) H place v8 (done + 1) depth n (h0) (h1) (by omega) (by omega) (by omega) (by omega) (by omega)) ?_
  intro v12 M13 q16
  obtain ⟨H14, f15⟩ := q16
  have f17 := f0.tr (f15.up rfl)
  refine s_blx (lv' := [(8, vL v12), (6, vL w5), (5, vI v1), (0, vR 55), (1, vI place), (2, vI said), (3, vI done), (4, vI depth)]) (st' := [vR 55, vL w5, vL v12]) B53_39_46 rfl ?_
  refine r_gfix (r := 39) (pc' := 49) D53_46 rfl gf_7_31_55 H14.1 ?_
  refine r_gfix (r := 53) (pc' := 52) D53_49 rfl gf_7_110_39 H14.1 ?_
  refine s_blx (lv' := [(8, vL v12), (6, vL w5), (5, vI v1), (0, vR 55), (1, vI place), (2, vI said), (3, vI done), (4, vI depth)]) (st' := [vI 5, vR 53, vL w5, vL v12]) B53_52_53 rfl ?_
  refine r_iald (pc' := 54) D53_53 rfl sc_53 H14.1 (by omega) ?_
  intro w18 e19 r20
  have b_w18 := H14.2 53 (5) 0 1000 rfl
  rw [← e19] at b_w18; clear r20
  refine r_i2l (pc' := 55) D53_54 rfl (by unfold inR; omega) ?_
  refine s_blx (lv' := [(8, vL v12), (6, vL w5), (5, vI v1), (0, vR 55), (1, vI place), (2, vI said), (3, vI done), (4, vI depth)]) (st' := [vI 3, vL (v12 + (w5 * w18))]) B53_55_58 rfl ?_
  refine r_sLp (args := [vL (v12 + (w5 * w18)), vI 3]) (rest := []) (pc' := 61) D53_58 rfl ck_7_static_93 TE51 rfl (Nat.le_of_ble_eq_true rfl) ⟨Nat.le_of_ble_eq_true rfl, Nat.le_of_ble_eq_true rfl⟩ (by decide) (by omega) (k51 E (by omega) H14 (v12 + (w5 * w18)) 3 (by omega)) ?_
  intro v21 q23
  refine s_blx (lv' := [(10, vL v21), (8, vL v12), (6, vL w5), (5, vI v1), (0, vR 55), (1, vI place), (2, vI said), (3, vI done), (4, vI depth)]) (st' := [vR 55]) B53_61_64 rfl ?_
  refine r_gfix (r := 39) (pc' := 67) D53_64 rfl gf_7_31_55 H14.1 ?_
  refine r_gfix (r := 47) (pc' := 70) D53_67 rfl gf_7_81_39 H14.1 ?_
  refine s_blx (lv' := [(10, vL v21), (8, vL v12), (6, vL w5), (5, vI v1), (0, vR 55), (1, vI place), (2, vI said), (3, vI done), (4, vI depth)]) (st' := [vI v1, vR 47]) B53_70_72 rfl ?_
  refine r_iald (pc' := 73) D53_72 rfl sc_47 H14.1 (by omega) ?_
  intro w24 e25 r26
  have b_w24 := H14.2 47 (v1) (-1) 7 rfl
  rw [← e25] at b_w24; clear r26
  refine s_blx (lv' := [(10, vL v21), (8, vL v12), (6, vL w5), (5, vI v1), (0, vR 55), (1, vI place), (2, vI said), (3, vI done), (4, vI depth)]) (st' := [vI (-1), vI w24]) B53_73_74 rfl ?_
  refine r_icmp (tgt := 89) (pc' := 77) D53_74 rfl rfl (by unfold inR; omega) (fun (c27 : w24 = (-1)) => ?_) (fun (c27 : ¬ (w24 = (-1))) => ?_)
  · refine s_blx (lv' := [(10, vL v21), (8, vL v12), (6, vL w5), (5, vI v1), (0, vR 55), (1, vI place), (2, vI said), (3, vI done), (4, vI depth)]) (st' := [vR 55]) B53_89_90 rfl ?_
    refine r_gfix (r := 39) (pc' := 93) D53_90 rfl gf_7_31_55 H14.1 ?_
    refine r_gfix (r := 50) (pc' := 96) D53_93 rfl gf_7_116_39 H14.1 ?_
    refine s_blx (lv' := [(10, vL v21), (8, vL v12), (6, vL w5), (5, vI v1), (0, vR 55), (1, vI place), (2, vI said), (3, vI done), (4, vI depth)]) (st' := [vI v1, vR 50]) B53_96_98 rfl ?_
    refine r_iald (pc' := 99) D53_98 rfl sc_50 H14.1 (by omega) ?_
    intro w28 e29 r30
    unfold inR at r30
    refine r_ifc (tgt := 146) (pc' := 102) D53_99 rfl rfl (by unfold inR; omega) (fun (c31 : w28 ≤ 0) => ?_) (fun (c31 : ¬ (w28 ≤ 0)) => ?_)
    · refine s_blx (lv' := [(10, vL v21), (8, vL v12), (6, vL w5), (5, vI v1), (0, vR 55), (1, vI place), (2, vI said), (3, vI done), (4, vI depth)]) (st' := [vR 55]) B53_146_147 rfl ?_
      refine r_gint (ki := 4) (pc' := 150) D53_147 rfl gf_7_27_55 rfl H14.1 ?_
      intro w32 e33 r34
      have b_w32 := H14.2 55 (4) 0 1 rfl
      rw [← e33] at b_w32; clear r34
      refine r_ifc (tgt := 166) (pc' := 153) D53_150 rfl rfl (by unfold inR; omega) (fun (c35 : w32 = 0) => ?_) (fun (c35 : ¬ (w32 = 0)) => ?_)
      · refine s_blx (lv' := [(13, vI 0), (12, vI 0), (10, vL v21), (8, vL v12), (6, vL w5), (5, vI v1), (0, vR 55), (1, vI place), (2, vI said), (3, vI done), (4, vI depth)]) (st' := []) B53_166_172 rfl ?_
        refine r_loc (lv' := [(0, vR 55), (1, vI place), (2, vI said), (3, vI done), (4, vI depth), (10, vL v21), (12, vI 0), (13, vI 0)]) ⟨rfl, rfl, rfl, rfl, rfl, rfl, rfl, rfl, trivial⟩ rfl rfl ?_
        exact (L_k53_55 E ihr hd H place said done depth n h0 h1 h2 h3 h4 h5 h6 h7 (((8 - 0) * 1 + 0 : Int) + 1).toNat) v21 0 0 M13 H14 f17 (by omega) (by omega) (by omega) (by omega) (by omega)
      · refine s_blx (lv' := [(10, vL v21), (8, vL v12), (6, vL w5), (5, vI v1), (0, vR 55), (1, vI place), (2, vI said), (3, vI done), (4, vI depth)]) (st' := [vR 55]) B53_153_154 rfl ?_
        refine r_gfix (r := 39) (pc' := 157) D53_154 rfl gf_7_31_55 H14.1 ?_
        refine r_gfix (r := 46) (pc' := 160) D53_157 rfl gf_7_78_39 H14.1 ?_
        refine s_blx (lv' := [(10, vL v21), (8, vL v12), (6, vL w5), (5, vI v1), (0, vR 55), (1, vI place), (2, vI said), (3, vI done), (4, vI depth)]) (st' := [vI v1, vR 46]) B53_160_162 rfl ?_
        refine r_iald (pc' := 163) D53_162 rfl sc_46 H14.1 (by omega) ?_
        intro w36 e37 r38
        unfold inR at r38
        refine r_goto (tgt := 167) D53_163 rfl ?_
        refine s_blx (lv' := [(13, vI 0), (12, vI w36), (10, vL v21), (8, vL v12), (6, vL w5), (5, vI v1), (0, vR 55), (1, vI place), (2, vI said), (3, vI done), (4, vI depth)]) (st' := []) B53_167_172 rfl ?_
        refine r_loc (lv' := [(0, vR 55), (1, vI place), (2, vI said), (3, vI done), (4, vI depth), (10, vL v21), (12, vI w36), (13, vI 0)]) ⟨rfl, rfl, rfl, rfl, rfl, rfl, rfl, rfl, trivial⟩ rfl rfl ?_
        exact (L_k53_55 E ihr hd H place said done depth n h0 h1 h2 h3 h4 h5 h6 h7 (((8 - 0) * 1 + 0 : Int) + 1).toNat) v21 w36 0 M13 H14 f17 (by omega) (by omega) (by omega) (by omega) (by omega)
    · refine s_blx (lv' := [(10, vL v21), (8, vL v12), (6, vL w5), (5, vI v1), (0, vR 55), (1, vI place), (2, vI said), (3, vI done), (4, vI depth)]) (st' := [vR 55, vL w5, vL v12]) B53_102_107 rfl ?_
      refine r_gfix (r := 39) (pc' := 110) D53_107 rfl gf_7_31_55 H14.1 ?_
      refine r_gfix (r := 53) (pc' := 113) D53_110 rfl gf_7_110_39 H14.1 ?_
      refine s_blx (lv' := [(10, vL v21), (8, vL v12), (6, vL w5), (5, vI v1), (0, vR 55), (1, vI place), (2, vI said), (3, vI done), (4, vI depth)]) (st' := [vI 7, vR 53, vL w5, vL v12]) B53_113_115 rfl ?_
      refine r_iald (pc' := 116) D53_115 rfl sc_53 H14.1 (by omega) ?_
      intro w39 e40 r41
      have b_w39 := H14.2 53 (7) 0 1000 rfl
      rw [← e40] at b_w39; clear r41
      refine r_i2l (pc' := 117) D53_116 rfl (by unfold inR; omega) ?_
      refine s_blx (lv' := [(10, vL v21), (8, vL v12), (6, vL w5), (5, vI v1), (0, vR 55), (1, vI place), (2, vI said), (3, vI done), (4, vI depth)]) (st' := [vR 55, vL (w5 * w39), vL v12]) B53_117_119 rfl ?_
      refine r_gfix (r := 39) (pc' := 122) D53_119 rfl gf_7_31_55 H14.1 ?_
      refine r_gfix (r := 50) (pc' := 125) D53_122 rfl gf_7_116_39 H14.1 ?_
      refine s_blx (lv' := [(10, vL v21), (8, vL v12), (6, vL w5), (5, vI v1), (0, vR 55), (1, vI place), (2, vI said), (3, vI done), (4, vI depth)]) (st' := [vI v1, vR 50, vL (w5 * w39), vL v12]) B53_125_127 rfl ?_
      refine r_iald (pc' := 128) D53_127 rfl sc_50 H14.1 (by omega) ?_
      intro w42 e43 r44
      have e45 : w28 = w42 := (e43.trans (e29.symm)).symm
      subst e45
      refine r_i2l (pc' := 129) D53_128 rfl (by unfold inR; omega) ?_
      refine s_blx (lv' := [(12, vL (v12 + ((w5 * w39) * w28))), (10, vL v21), (8, vL v12), (6, vL w5), (5, vI v1), (0, vR 55), (1, vI place), (2, vI said), (3, vI done), (4, vI depth)]) (st' := [vI 2, vL (v12 + ((w5 * w39) * w28)), vL v21]) B53_129_138 rfl ?_
      refine r_sLp (args := [vL (v12 + ((w5 * w39) * w28)), vI 2]) (rest := [vL v21]) (pc' := 141) D53_138 rfl ck_7_static_93 TE51 rfl (Nat.le_of_ble_eq_true rfl) ⟨Nat.le_of_ble_eq_true rfl, Nat.le_of_ble_eq_true rfl⟩ (by decide) (by omega) (k51 E (by omega) H14 (v12 + ((w5 * w39) * w28)) 2 (by omega)) ?_
      intro v46 q48
      refine r_minX (pc' := 144) D53_141 rfl mc_7_static_100 sp_7_100 (Nat.le_of_ble_eq_true rfl) ?_
      intro z49
      refine s_blx (lv' := [(10, vL z49), (12, vL (v12 + ((w5 * w39) * w28))), (8, vL v12), (6, vL w5), (5, vI v1), (0, vR 55), (1, vI place), (2, vI said), (3, vI done), (4, vI depth)]) (st' := [vR 55]) B53_144_147 rfl ?_
      refine r_gint (ki := 4) (pc' := 150) D53_147 rfl gf_7_27_55 rfl H14.1 ?_
      intro w50 e51 r52
      have b_w50 := H14.2 55 (4) 0 1 rfl
      rw [← e51] at b_w50; clear r52
      refine r_ifc (tgt := 166) (pc' := 153) D53_150 rfl rfl (by unfold inR; omega) (fun (c53 : w50 = 0) => ?_) (fun (c53 : ¬ (w50 = 0)) => ?_)
      · refine s_blx (lv' := [(13, vI 0), (12, vI 0), (10, vL z49), (8, vL v12), (6, vL w5), (5, vI v1), (0, vR 55), (1, vI place), (2, vI said), (3, vI done), (4, vI depth)]) (st' := []) B53_166_172 rfl ?_
        refine r_loc (lv' := [(0, vR 55), (1, vI place), (2, vI said), (3, vI done), (4, vI depth), (10, vL z49), (12, vI 0), (13, vI 0)]) ⟨rfl, rfl, rfl, rfl, rfl, rfl, rfl, rfl, trivial⟩ rfl rfl ?_
        exact (L_k53_55 E ihr hd H place said done depth n h0 h1 h2 h3 h4 h5 h6 h7 (((8 - 0) * 1 + 0 : Int) + 1).toNat) z49 0 0 M13 H14 f17 (by omega) (by omega) (by omega) (by omega) (by omega)
      · refine s_blx (lv' := [(10, vL z49), (12, vL (v12 + ((w5 * w39) * w28))), (8, vL v12), (6, vL w5), (5, vI v1), (0, vR 55), (1, vI place), (2, vI said), (3, vI done), (4, vI depth)]) (st' := [vR 55]) B53_153_154 rfl ?_
        refine r_gfix (r := 39) (pc' := 157) D53_154 rfl gf_7_31_55 H14.1 ?_
        refine r_gfix (r := 46) (pc' := 160) D53_157 rfl gf_7_78_39 H14.1 ?_
        refine s_blx (lv' := [(10, vL z49), (12, vL (v12 + ((w5 * w39) * w28))), (8, vL v12), (6, vL w5), (5, vI v1), (0, vR 55), (1, vI place), (2, vI said), (3, vI done), (4, vI depth)]) (st' := [vI v1, vR 46]) B53_160_162 rfl ?_
        refine r_iald (pc' := 163) D53_162 rfl sc_46 H14.1 (by omega) ?_
        intro w54 e55 r56
        unfold inR at r56
        refine r_goto (tgt := 167) D53_163 rfl ?_
        refine s_blx (lv' := [(13, vI 0), (12, vI w54), (10, vL z49), (8, vL v12), (6, vL w5), (5, vI v1), (0, vR 55), (1, vI place), (2, vI said), (3, vI done), (4, vI depth)]) (st' := []) B53_167_172 rfl ?_
        refine r_loc (lv' := [(0, vR 55), (1, vI place), (2, vI said), (3, vI done), (4, vI depth), (10, vL z49), (12, vI w54), (13, vI 0)]) ⟨rfl, rfl, rfl, rfl, rfl, rfl, rfl, rfl, trivial⟩ rfl rfl ?_
        exact (L_k53_55 E ihr hd H place said done depth n h0 h1 h2 h3 h4 h5 h6 h7 (((8 - 0) * 1 + 0 : Int) + 1).toNat) z49 w54 0 M13 H14 f17 (by omega) (by omega) (by omega) (by omega) (by omega)
  · refine s_blx (lv' := [(10, vL v21), (8, vL v12), (6, vL w5), (5, vI v1), (0, vR 55), (1, vI place), (2, vI said), (3, vI done), (4, vI depth)]) (st' := [vI 1, vL v12, vL v21]) B53_77_82 rfl ?_
    refine r_sLp (args := [vL v12, vI 1]) (rest := [vL v21]) (pc' := 85) D53_82 rfl ck_7_static_93 TE51 rfl (Nat.le_of_ble_eq_true rfl) ⟨Nat.le_of_ble_eq_true rfl, Nat.le_of_ble_eq_true rfl⟩ (by decide) (by omega) (k51 E (by omega) H14 v12 1 (by omega)) ?_
    intro v57 q59
    refine r_minX (pc' := 88) D53_85 rfl mc_7_static_100 sp_7_100 (Nat.le_of_ble_eq_true rfl) ?_
    intro z60
    exact r_lretL D53_88 rfl (⟨H14, f17⟩)
set_option maxRecDepth 4000 in
theorem k54_55 {base : Nat} {X : Nat → Option mC} {G : Nat → Value} (E : EnvOK base X G) {rr : Nat} (ihr : ∀ {d : Nat} (_ : 8 + 4 * rr ≤ d) {M : mH} (_ : HI base M) (place : Int) (said : Int) (done : Int) (depth : Int) (n : Int), (RW base 56 n M) → (TR 40 n M) → (1 ≤ n ∧ n ≤ 145) → (0 ≤ done ∧ done ≤ 3 ∧ 0 ≤ said ∧ said ≤ 1110) → (1 ≤ place ∧ place < n) → ((done = 0 ∧ said = 0) ∨ (done = 1 ∧ 1 ≤ said ∧ said ≤ 10) ∨ (done = 2 ∧ 11 ≤ said ∧ said ≤ 110) ∨ (done = 3 ∧ 111 ≤ said ∧ said ≤ 1110)) → (0 ≤ depth ∧ depth ≤ 41) → 41 - depth < ((rr : Nat) : Int) → sOk base X G d T52 [vR 55, vI place, vI said, vI done, vI depth] M (pL (fun v M' => HI base M' ∧ Fq [(57, 0)] M M'))) {d : Nat} (hd : 11 + 4 * rr ≤ d) {M : mH} (H : HI base M) (place : Int) (mended : Int) (done : Int) (at_ : Int) (depth : Int) (n : Int) (h0 : RW base 56 n M) (h1 : TR 40 n M) (h2 : 1 ≤ n ∧ n ≤ 145) (h3 : 0 ≤ done ∧ done ≤ 3 ∧ 0 ≤ mended ∧ mended ≤ 1110) (h4 : 1 ≤ place ∧ place < n) (h5 : (done = 0 ∧ mended = 0) ∨ (done = 1 ∧ 1 ≤ mended ∧ mended ≤ 10) ∨ (done = 2 ∧ 11 ≤ mended ∧ mended ≤ 110) ∨ (done = 3 ∧ 111 ≤ mended ∧ mended ≤ 1110)) (h6 : 0 ≤ at_ ∧ at_ ≤ 2) (h7 : 0 ≤ depth ∧ depth ≤ 40 ∧ 40 - depth < (rr : Int)) : sOk base X G d T54 [vR 55, vI place, vI mended, vI done, vI at_, vI depth] M (pL (fun v M' => HI base M' ∧ Fq [(57, 0)] M M')) := by
  have f0 : Fq [(57, 0)] M M := Fq.rf
  refine sOk.of (show sRn base X G d T54 0 [(0, vR 55), (1, vI place), (2, vI mended), (3, vI done), (4, vI at_), (5, vI depth)] [] M _ from ?_)
  refine s_blx (lv' := [(0, vR 55), (1, vI place), (2, vI mended), (3, vI done), (4, vI at_), (5, vI depth)]) (st' := [vR 55]) B54_0_1 rfl ?_
  refine r_gfix (r := 39) (pc' := 4) D54_1 rfl gf_7_31_55 H.1 ?_
  refine s_blx (lv' := [(0, vR 55), (1, vI place), (2, vI mended), (3, vI done), (4, vI at_), (5, vI depth)]) (st' := [vI at_, vI place, vR 39]) B54_4_7 rfl ?_
  refine r_vIp (c := 39) (args := [vI place, vI at_]) (rest := []) (pc' := 10) D54_7 rfl ck_7_virtual_72 TE85 rfl (Nat.le_of_ble_eq_true rfl) ⟨Nat.le_of_ble_eq_true rfl, Nat.le_of_ble_eq_true rfl⟩ sc_39 ⟨rfl, by decide⟩ H.1 (by omega) (k85_39 E (by omega) H place at_ (by omega) (by omega)) ?_
  intro v1 q4
  have q3 := q4; clear q4
  refine s_blx (lv' := [(6, vI v1), (0, vR 55), (1, vI place), (2, vI mended), (3, vI done), (4, vI at_), (5, vI depth)]) (st' := [vR 55]) B54_10_13 rfl ?_
  refine r_gfix (r := 39) (pc' := 16) D54_13 rfl gf_7_31_55 H.1 ?_
  refine r_gfix (r := 47) (pc' := 19) D54_16 rfl gf_7_81_39 H.1 ?_
  refine s_blx (lv' := [(6, vI v1), (0, vR 55), (1, vI place), (2, vI mended), (3, vI done), (4, vI at_), (5, vI depth)]) (st' := [vI v1, vR 47]) B54_19_21 rfl ?_
  refine r_iald (pc' := 22) D54_21 rfl sc_47 H.1 (by omega) ?_
  intro w5 e6 r7
  have b_w5 := H.2 47 (v1) (-1) 7 rfl
  rw [← e6] at b_w5; clear r7
  refine s_blx (lv' := [(6, vI v1), (0, vR 55), (1, vI place), (2, vI mended), (3, vI done), (4, vI at_), (5, vI depth)]) (st' := [vI (-1), vI w5]) B54_22_23 rfl ?_
  refine r_icmp (tgt := 30) (pc' := 26) D54_23 rfl rfl (by unfold inR; omega) (fun (c8 : w5 ≠ (-1)) => ?_) (fun (c8 : ¬ (w5 ≠ (-1))) => ?_)
  · refine s_blx (lv' := [(6, vI v1), (0, vR 55), (1, vI place), (2, vI mended), (3, vI done), (4, vI at_), (5, vI depth)]) (st' := [vR 55]) B54_30_31 rfl ?_
    refine r_gfix (r := 39) (pc' := 34) D54_31 rfl gf_7_31_55 H.1 ?_
    refine r_gfix (r := 42) (pc' := 37) D54_34 rfl gf_7_39_39 H.1 ?_
    refine s_blx (lv' := [(6, vI v1), (0, vR 55), (1, vI place), (2, vI mended), (3, vI done), (4, vI at_), (5, vI depth)]) (st' := [vI place, vR 42]) B54_37_38 rfl ?_
    refine r_iald (pc' := 39) D54_38 rfl sc_42 H.1 (by omega) ?_
    intro w9 e10 r11
    unfold inR at r11
    refine r_i2l (pc' := 40) D54_39 rfl (by unfold inR; omega) ?_
    refine s_blx (lv' := [(6, vI v1), (0, vR 55), (1, vI place), (2, vI mended), (3, vI done), (4, vI at_), (5, vI depth)]) (st' := [vR 55, vL w9]) B54_40_41 rfl ?_
    refine r_gfix (r := 39) (pc' := 44) D54_41 rfl gf_7_31_55 H.1 ?_
    refine r_gfix (r := 53) (pc' := 47) D54_44 rfl gf_7_110_39 H.1 ?_
    refine s_blx (lv' := [(6, vI v1), (0, vR 55), (1, vI place), (2, vI mended), (3, vI done), (4, vI at_), (5, vI depth)]) (st' := [vI 6, vR 53, vL w9]) B54_47_49 rfl ?_
    refine r_iald (pc' := 50) D54_49 rfl sc_53 H.1 (by omega) ?_
    intro w12 e13 r14
    have b_w12 := H.2 53 (6) 0 1000 rfl
    rw [← e13] at b_w12; clear r14
    refine r_i2l (pc' := 51) D54_50 rfl (by unfold inR; omega) ?_
    refine s_blx (lv' := [(6, vI v1), (0, vR 55), (1, vI place), (2, vI mended), (3, vI done), (4, vI at_), (5, vI depth)]) (st' := [vI depth, vI done, vI mended, vI place, vR 55, vL (w9 * w12)]) B54_51_58 rfl ?_
    refine r_vL (c := 55) (args := [vI place, vI mended, vI done, vI depth]) (rest := [vL (w9 * w12)]) (pc' := 61) D54_58 rfl ck_7_virtual_90 TE55 rfl (Nat.le_of_ble_eq_true rfl) ⟨Nat.le_of_ble_eq_true rfl, Nat.le_of_ble_eq_true rfl⟩ sc_55 ⟨rfl, by decide⟩ H.1 (by omega) (k55_55 E ihr (by omega) H place mended done depth n (h0) (h1) (by omega) (by omega) (by omega) (by omega) (by omega)) ?_
    intro v15 M16 q19
    obtain ⟨H17, f18⟩ := q19
    have f20 := f0.tr (f18.up rfl)
    refine s_blx (lv' := [(7, vL ((w9 * w12) + v15)), (6, vI v1), (0, vR 55), (1, vI place), (2, vI mended), (3, vI done), (4, vI at_), (5, vI depth)]) (st' := [vI ((20 + v1) - (place * 3)), vL ((w9 * w12) + v15)]) B54_61_75 rfl ?_
    refine r_sLp (args := [vL ((w9 * w12) + v15), vI ((20 + v1) - (place * 3))]) (rest := []) (pc' := 78) D54_75 rfl ck_7_static_93 TE51 rfl (Nat.le_of_ble_eq_true rfl) ⟨Nat.le_of_ble_eq_true rfl, Nat.le_of_ble_eq_true rfl⟩ (by decide) (by omega) (k51 E (by omega) H17 ((w9 * w12) + v15) ((20 + v1) - (place * 3)) (by omega)) ?_
    intro v21 q23
    exact r_lretL D54_78 rfl (⟨H17, f20⟩)
  · refine r_ldc2 (e := 4611686018427387904) (pc' := 29) D54_26 rfl cl_7_88 (by decide) ?_
    exact r_lretL D54_29 rfl (⟨H, f0⟩)
set_option maxRecDepth 4000 in
theorem L_k52_55 {base : Nat} {X : Nat → Option mC} {G : Nat → Value} (E : EnvOK base X G) {rr : Nat} (ihr : ∀ {d : Nat} (_ : 8 + 4 * rr ≤ d) {M : mH} (_ : HI base M) (place : Int) (said : Int) (done : Int) (depth : Int) (n : Int), (RW base 56 n M) → (TR 40 n M) → (1 ≤ n ∧ n ≤ 145) → (0 ≤ done ∧ done ≤ 3 ∧ 0 ≤ said ∧ said ≤ 1110) → (1 ≤ place ∧ place < n) → ((done = 0 ∧ said = 0) ∨ (done = 1 ∧ 1 ≤ said ∧ said ≤ 10) ∨ (done = 2 ∧ 11 ≤ said ∧ said ≤ 110) ∨ (done = 3 ∧ 111 ≤ said ∧ said ≤ 1110)) → (0 ≤ depth ∧ depth ≤ 41) → 41 - depth < ((rr : Nat) : Int) → sOk base X G d T52 [vR 55, vI place, vI said, vI done, vI depth] M (pL (fun v M' => HI base M' ∧ Fq [(57, 0)] M M'))) {d : Nat} (hd : 8 + 4 * (rr + 1) ≤ d) {M : mH} (H : HI base M) (place : Int) (said : Int) (done : Int) (depth : Int) (n : Int) (h0 : RW base 56 n M) (h1 : TR 40 n M) (h2 : 1 ≤ n ∧ n ≤ 145) (h3 : 0 ≤ done ∧ done ≤ 3 ∧ 0 ≤ said ∧ said ≤ 1110) (h4 : 1 ≤ place ∧ place < n) (h5 : (done = 0 ∧ said = 0) ∨ (done = 1 ∧ 1 ≤ said ∧ said ≤ 10) ∨ (done = 2 ∧ 11 ≤ said ∧ said ≤ 110) ∨ (done = 3 ∧ 111 ≤ said ∧ said ≤ 1110)) (h6 : 0 ≤ depth ∧ depth ≤ 41) (hrr : 41 - depth < ((rr + 1 : Nat) : Int)) : ∀ mz : Nat, (∀ (x5 x7 x8 x9 x10 : Int) (N : mH), HI base N → Fq [(57, 0)] M N → ((done - 1 - x10 = 0 ∧ x9 = 1 ∧ said = x8) ∨ (done - 1 - x10 = 1 ∧ x9 = 10 ∧ 1 ≤ said - 10 * x8 ∧ said - 10 * x8 ≤ 10) ∨ (done - 1 - x10 = 2 ∧ x9 = 100 ∧ 11 ≤ said - 100 * x8 ∧ said - 100 * x8 ≤ 110) ∨ (done - 1 - x10 = 3 ∧ x9 = 1000 ∧ 111 ≤ said - 1000 * x8 ∧ said - 1000 * x8 ≤ 1110)) → (((x10 + 1) = 0 ∧ x8 = 0) ∨ ((x10 + 1) = 1 ∧ 1 ≤ x8 ∧ x8 ≤ 10) ∨ ((x10 + 1) = 2 ∧ 11 ≤ x8 ∧ x8 ≤ 110) ∨ ((x10 + 1) = 3 ∧ 111 ≤ x8 ∧ x8 ≤ 1110)) → (0 ≤ x8 ∧ x8 ≤ 1110) → (1 ≤ x9 ∧ x9 ≤ 1000) → (-1 ≤ x10 ∧ x10 ≤ 2) → (0 ≤ x7) → ((-1) ≤ x8) → (x8 ≤ 1110) → (1 ≤ x9) → (x9 ≤ 10000) → ((-1) ≤ x10) → (x10 ≤ 2) → (0 ≤ depth) → (depth ≤ 40) → (x10 + 1) * 1 + 0 < (mz : Int) → sRn base X G d T52 77 [(0, vR 55), (1, vI place), (2, vI said), (3, vI done), (4, vI depth), (5, vL x5), (7, vI x7), (8, vI x8), (9, vI x9), (10, vI x10)] [] N (s_Q base (pL (fun v M' => HI base M' ∧ Fq [(57, 0)] M M')))) := by
  have f0 : Fq [(57, 0)] M M := Fq.rf
  intro mz
  induction mz with
  | zero => exact fun x5 x7 x8 x9 x10 N _ _ z0 z1 z2 z3 z4 z5 z6 z7 z8 z9 z10 z11 z12 z13 z14 => by omega
  | succ mz ih =>
    intro x5 x7 x8 x9 x10 N HN fN i0 i1 i2 i3 i4 i5 i6 i7 i8 i9 i10 i11 i12 i13 hmu
    refine s_blx (lv' := [(0, vR 55), (1, vI place), (2, vI said), (3, vI done), (4, vI depth), (5, vL x5), (7, vI x7), (8, vI x8), (9, vI x9), (10, vI x10)]) (st' := [vI x10]) B52_77_79 rfl ?_
    refine r_ifc (tgt := 140) (pc' := 82) D52_79 rfl rfl (by unfold inR; omega) (fun (c31 : x10 < 0) => ?_) (fun (c31 : ¬ (x10 < 0)) => ?_)
    · refine s_blx (lv' := [(0, vR 55), (1, vI place), (2, vI said), (3, vI done), (4, vI depth), (5, vL x5), (7, vI x7), (8, vI x8), (9, vI x9), (10, vI x10)]) (st' := [vI 3, vI done]) B52_140_142 rfl ?_
      refine r_icmp (tgt := 197) (pc' := 145) D52_142 rfl rfl (by unfold inR; omega) (fun (c32 : done ≠ 3) => ?_) (fun (c32 : ¬ (done ≠ 3)) => ?_)
      · refine s_blx (lv' := [(0, vR 55), (1, vI place), (2, vI said), (3, vI done), (4, vI depth), (5, vL x5), (7, vI x7), (8, vI x8), (9, vI x9), (10, vI x10)]) (st' := [vL x5]) B52_197_199 rfl ?_
        exact r_lretL D52_199 rfl (⟨HN, fN⟩)
      · refine s_blx (lv' := [(0, vR 55), (1, vI place), (2, vI said), (3, vI done), (4, vI depth), (5, vL x5), (7, vI x7), (8, vI x8), (9, vI x9), (10, vI x10)]) (st' := [vR 55]) B52_145_146 rfl ?_
        refine r_gfix (r := 39) (pc' := 149) D52_146 rfl gf_7_31_55 HN.1 ?_
        refine r_gfix (r := 44) (pc' := 152) D52_149 rfl gf_7_84_39 HN.1 ?_
        refine s_blx (lv' := [(0, vR 55), (1, vI place), (2, vI said), (3, vI done), (4, vI depth), (5, vL x5), (7, vI x7), (8, vI x8), (9, vI x9), (10, vI x10)]) (st' := [vI place, vR 44]) B52_152_153 rfl ?_
        refine r_bald (pc' := 154) D52_153 rfl sc_44 (by decide) HN.1 (by omega) ?_
        intro w33 e34 r35
        have b_w33 := HN.2 44 (place) 0 1 rfl
        rw [← e34] at b_w33; clear r35
        refine r_ifc (tgt := 197) (pc' := 157) D52_154 rfl rfl (by unfold inR; omega) (fun (c36 : w33 = 0) => ?_) (fun (c36 : ¬ (w33 = 0)) => ?_)
        · refine s_blx (lv' := [(0, vR 55), (1, vI place), (2, vI said), (3, vI done), (4, vI depth), (5, vL x5), (7, vI x7), (8, vI x8), (9, vI x9), (10, vI x10)]) (st' := [vL x5]) B52_197_199 rfl ?_
          exact r_lretL D52_199 rfl (⟨HN, fN⟩)
        · refine s_blx (lv' := [(0, vR 55), (1, vI place), (2, vI said), (3, vI done), (4, vI depth), (5, vL x5), (7, vI x7), (8, vI x8), (9, vI x9), (10, vI x10)]) (st' := [vR 55]) B52_157_158 rfl ?_
          refine r_gfix (r := 39) (pc' := 161) D52_158 rfl gf_7_31_55 HN.1 ?_
          refine r_gfix (r := 42) (pc' := 164) D52_161 rfl gf_7_39_39 HN.1 ?_
          refine s_blx (lv' := [(0, vR 55), (1, vI place), (2, vI said), (3, vI done), (4, vI depth), (5, vL x5), (7, vI x7), (8, vI x8), (9, vI x9), (10, vI x10)]) (st' := [vI place, vR 42]) B52_164_165 rfl ?_
          refine r_iald (pc' := 166) D52_165 rfl sc_42 HN.1 (by omega) ?_
          intro w37 e38 r39
          unfold inR at r39
          refine r_i2l (pc' := 167) D52_166 rfl (by unfold inR; omega) ?_
          refine s_blx (lv' := [(0, vR 55), (1, vI place), (2, vI said), (3, vI done), (4, vI depth), (5, vL x5), (7, vI x7), (8, vI x8), (9, vI x9), (10, vI x10)]) (st' := [vR 55, vL w37]) B52_167_168 rfl ?_
          refine r_gfix (r := 39) (pc' := 171) D52_168 rfl gf_7_31_55 HN.1 ?_
          refine r_gfix (r := 53) (pc' := 174) D52_171 rfl gf_7_110_39 HN.1 ?_
          refine s_blx (lv' := [(0, vR 55), (1, vI place), (2, vI said), (3, vI done), (4, vI depth), (5, vL x5), (7, vI x7), (8, vI x8), (9, vI x9), (10, vI x10)]) (st' := [vI 4, vR 53, vL w37]) B52_174_175 rfl ?_
          refine r_iald (pc' := 176) D52_175 rfl sc_53 HN.1 (by omega) ?_
          intro w40 e41 r42
          have b_w40 := HN.2 53 (4) 0 1000 rfl
          rw [← e41] at b_w40; clear r42
          refine r_i2l (pc' := 177) D52_176 rfl (by unfold inR; omega) ?_
          refine s_blx (lv' := [(0, vR 55), (1, vI place), (2, vI said), (3, vI done), (4, vI depth), (5, vL x5), (7, vI x7), (8, vI x8), (9, vI x9), (10, vI x10)]) (st' := [vI x7, vL (w37 * w40)]) B52_177_180 rfl ?_
          refine r_norm ?_
          intro z43 r44 _; unfold inR at r44
          refine r_i2l (pc' := 181) D52_180 rfl (by unfold inR; omega) ?_
          refine s_blx (lv' := [(10, vL ((w37 * w40) * z43)), (0, vR 55), (1, vI place), (2, vI said), (3, vI done), (4, vI depth), (5, vL x5), (7, vI x7), (8, vI x8), (9, vI x9)]) (st' := [vI 4, vL ((w37 * w40) * z43), vL x5]) B52_181_189 rfl ?_
          refine r_sLp (args := [vL ((w37 * w40) * z43), vI 4]) (rest := [vL x5]) (pc' := 192) D52_189 rfl ck_7_static_93 TE51 rfl (Nat.le_of_ble_eq_true rfl) ⟨Nat.le_of_ble_eq_true rfl, Nat.le_of_ble_eq_true rfl⟩ (by decide) (by omega) (k51 E (by omega) HN ((w37 * w40) * z43) 4 (by omega)) ?_
          intro v45 q47
          refine r_minX (pc' := 195) D52_192 rfl mc_7_static_100 sp_7_100 (Nat.le_of_ble_eq_true rfl) ?_
          intro z48
          refine s_blx (lv' := [(5, vL z48), (10, vL ((w37 * w40) * z43)), (0, vR 55), (1, vI place), (2, vI said), (3, vI done), (4, vI depth), (7, vI x7), (8, vI x8), (9, vI x9)]) (st' := [vL z48]) B52_195_199 rfl ?_
          exact r_lretL D52_199 rfl (⟨HN, fN⟩)
    · refine s_blx (lv' := [(0, vR 55), (1, vI place), (2, vI said), (3, vI done), (4, vI depth), (5, vL x5), (7, vI x7), (8, vI x8), (9, vI x9), (10, vI x10)]) (st' := [vI 10, vI (x8 - 1)]) B52_82_88 rfl ?_
      refine r_irem (pc' := 89) D52_88 rfl (by omega) ?_
      refine s_blx (lv' := [(0, vR 55), (1, vI place), (2, vI said), (3, vI done), (4, vI depth), (5, vL x5), (7, vI x7), (8, vI x8), (9, vI x9), (10, vI x10)]) (st' := [vI 9, vI ((x8 - 1) % 10)]) B52_89_91 rfl ?_
      refine r_icmp (tgt := 118) (pc' := 94) D52_91 rfl rfl (by unfold inR; omega) (fun (c49 : ((x8 - 1) % 10) ≠ 9) => ?_) (fun (c49 : ¬ (((x8 - 1) % 10) ≠ 9)) => ?_)
      · refine s_blx (lv' := [(0, vR 55), (1, vI place), (2, vI said), (3, vI done), (4, vI depth), (5, vL x5), (7, vI x7), (8, vI x8), (9, vI x9), (10, vI x10)]) (st' := [vI 10, vI (x8 - 1)]) B52_118_124 rfl ?_
        refine r_idiv (pc' := 125) D52_124 rfl (by omega) ?_
        refine s_blx (lv' := [(10, vI (x10 + (-1))), (9, vI (x9 * 10)), (8, vI ((x8 - 1) / 10)), (0, vR 55), (1, vI place), (2, vI said), (3, vI done), (4, vI depth), (5, vL x5), (7, vI x7)]) (st' := []) B52_125_137 rfl ?_
        refine r_goto (tgt := 77) D52_137 rfl ?_
        refine r_loc (lv' := [(0, vR 55), (1, vI place), (2, vI said), (3, vI done), (4, vI depth), (5, vL x5), (7, vI x7), (8, vI ((x8 - 1) / 10)), (9, vI (x9 * 10)), (10, vI (x10 + (-1)))]) ⟨rfl, rfl, rfl, rfl, rfl, rfl, rfl, rfl, rfl, rfl, trivial⟩ rfl rfl ?_
        exact ih x5 x7 ((x8 - 1) / 10) (x9 * 10) (x10 + (-1)) N HN fN (by rcases i0 with ⟨z1, rfl, z2⟩ | ⟨z1, rfl, z2⟩ | ⟨z1, rfl, z2⟩ | ⟨z1, rfl, z2⟩ <;> omega) (by omega) (by omega) (by omega) (by omega) (by omega) (by omega) (by omega) (by omega) (by omega) (by omega) (by omega) (by omega) (by omega) (by omega)
      · refine s_blx (lv' := [(7, vI (x7 + 1)), (0, vR 55), (1, vI place), (2, vI said), (3, vI done), (4, vI depth), (5, vL x5), (8, vI x8), (9, vI x9), (10, vI x10)]) (st' := [vI depth, vI x10, vI done, vI (said - x9), vI place, vR 55, vL x5]) B52_94_110 rfl ?_
        refine r_vL (c := 55) (args := [vI place, vI (said - x9), vI done, vI x10, vI depth]) (rest := [vL x5]) (pc' := 113) D52_110 rfl ck_7_virtual_106 TE54 rfl (Nat.le_of_ble_eq_true rfl) ⟨Nat.le_of_ble_eq_true rfl, Nat.le_of_ble_eq_true rfl⟩ sc_55 ⟨rfl, by decide⟩ HN.1 (by omega) (k54_55 E ihr (by omega) HN place (said - x9) done x10 depth n ((h0.fq fN rfl)) ((h1.fq fN rfl)) (by omega) (by rcases i0 with ⟨z1, rfl, z2⟩ | ⟨z1, rfl, z2⟩ | ⟨z1, rfl, z2⟩ | ⟨z1, rfl, z2⟩ <;> omega) (by omega) (by rcases i0 with ⟨z1, rfl, z2⟩ | ⟨z1, rfl, z2⟩ | ⟨z1, rfl, z2⟩ | ⟨z1, rfl, z2⟩ <;> omega) (by omega) (by omega)) ?_
        intro v50 M51 q54
        obtain ⟨H52, f53⟩ := q54
        have f55 := fN.tr (f53.up rfl)
        refine r_minX (pc' := 116) D52_113 rfl mc_7_static_100 sp_7_100 (Nat.le_of_ble_eq_true rfl) ?_
        intro z56
        refine s_blx (lv' := [(5, vL z56), (7, vI (x7 + 1)), (0, vR 55), (1, vI place), (2, vI said), (3, vI done), (4, vI depth), (8, vI x8), (9, vI x9), (10, vI x10)]) (st' := [vI 10, vI (x8 - 1)]) B52_116_124 rfl ?_
        refine r_idiv (pc' := 125) D52_124 rfl (by omega) ?_
        refine s_blx (lv' := [(10, vI (x10 + (-1))), (9, vI (x9 * 10)), (8, vI ((x8 - 1) / 10)), (5, vL z56), (7, vI (x7 + 1)), (0, vR 55), (1, vI place), (2, vI said), (3, vI done), (4, vI depth)]) (st' := []) B52_125_137 rfl ?_
        refine r_goto (tgt := 77) D52_137 rfl ?_
        refine r_loc (lv' := [(0, vR 55), (1, vI place), (2, vI said), (3, vI done), (4, vI depth), (5, vL z56), (7, vI (x7 + 1)), (8, vI ((x8 - 1) / 10)), (9, vI (x9 * 10)), (10, vI (x10 + (-1)))]) ⟨rfl, rfl, rfl, rfl, rfl, rfl, rfl, rfl, rfl, rfl, trivial⟩ rfl rfl ?_
        exact ih z56 (x7 + 1) ((x8 - 1) / 10) (x9 * 10) (x10 + (-1)) M51 H52 f55 (by rcases i0 with ⟨z1, rfl, z2⟩ | ⟨z1, rfl, z2⟩ | ⟨z1, rfl, z2⟩ | ⟨z1, rfl, z2⟩ <;> omega) (by omega) (by omega) (by omega) (by omega) (by omega) (by omega) (by omega) (by omega) (by omega) (by omega) (by omega) (by omega) (by omega) (by omega)
set_option maxRecDepth 4000 in
theorem k52_55r {base : Nat} {X : Nat → Option mC} {G : Nat → Value} (E : EnvOK base X G) : ∀ rr : Nat, ∀ {d : Nat} (_ : 8 + 4 * rr ≤ d) {M : mH} (_ : HI base M) (place : Int) (said : Int) (done : Int) (depth : Int) (n : Int), (RW base 56 n M) → (TR 40 n M) → (1 ≤ n ∧ n ≤ 145) → (0 ≤ done ∧ done ≤ 3 ∧ 0 ≤ said ∧ said ≤ 1110) → (1 ≤ place ∧ place < n) → ((done = 0 ∧ said = 0) ∨ (done = 1 ∧ 1 ≤ said ∧ said ≤ 10) ∨ (done = 2 ∧ 11 ≤ said ∧ said ≤ 110) ∨ (done = 3 ∧ 111 ≤ said ∧ said ≤ 1110)) → (0 ≤ depth ∧ depth ≤ 41) → 41 - depth < ((rr : Nat) : Int) → sOk base X G d T52 [vR 55, vI place, vI said, vI done, vI depth] M (pL (fun v M' => HI base M' ∧ Fq [(57, 0)] M M')) := by
  intro rr
  induction rr with
  | zero => intro d hd M H place said done depth n h0 h1 h2 h3 h4 h5 h6 hrr; exfalso; omega
  | succ rr ihr =>
  intro d hd M H place said done depth n h0 h1 h2 h3 h4 h5 h6 hrr
  have f0 : Fq [(57, 0)] M M := Fq.rf
  refine sOk.of (show sRn base X G d T52 0 [(0, vR 55), (1, vI place), (2, vI said), (3, vI done), (4, vI depth)] [] M _ from ?_)
  refine s_blx (lv' := [(0, vR 55), (1, vI place), (2, vI said), (3, vI done), (4, vI depth)]) (st' := [vI 40, vI depth]) B52_0_4 rfl ?_
  refine r_icmp (tgt := 9) (pc' := 7) D52_4 rfl rfl (by unfold inR; omega) (fun (c1 : depth ≤ 40) => ?_) (fun (c1 : ¬ (depth ≤ 40)) => ?_)
  · refine s_blx (lv' := [(0, vR 55), (1, vI place), (2, vI said), (3, vI done), (4, vI depth)]) (st' := [vR 55]) B52_9_10 rfl ?_
    refine r_gfix (r := 39) (pc' := 13) D52_10 rfl gf_7_31_55 H.1 ?_
    refine r_gfix (r := 44) (pc' := 16) D52_13 rfl gf_7_84_39 H.1 ?_
    refine s_blx (lv' := [(0, vR 55), (1, vI place), (2, vI said), (3, vI done), (4, vI depth)]) (st' := [vI place, vR 44]) B52_16_17 rfl ?_
    refine r_bald (pc' := 18) D52_17 rfl sc_44 (by decide) H.1 (by omega) ?_
    intro w2 e3 r4
    have b_w2 := H.2 44 (place) 0 1 rfl
    rw [← e3] at b_w2; clear r4
    refine r_ifc (tgt := 27) (pc' := 21) D52_18 rfl rfl (by unfold inR; omega) (fun (c5 : w2 = 0) => ?_) (fun (c5 : ¬ (w2 = 0)) => ?_)
    · refine s_blx (lv' := [(0, vR 55), (1, vI place), (2, vI said), (3, vI done), (4, vI depth)]) (st' := [vI depth, vI done, vI said, vI place, vR 55]) B52_27_33 rfl ?_
      refine r_vL (c := 55) (args := [vI place, vI said, vI done, vI depth]) (rest := []) (pc' := 36) D52_33 rfl ck_7_virtual_90 TE55 rfl (Nat.le_of_ble_eq_true rfl) ⟨Nat.le_of_ble_eq_true rfl, Nat.le_of_ble_eq_true rfl⟩ sc_55 ⟨rfl, by decide⟩ H.1 (by omega) (k55_55 E ihr (by omega) H place said done depth n (h0) (h1) (by omega) (by omega) (by omega) (by omega) (by omega)) ?_
      intro v6 M7 q10
      obtain ⟨H8, f9⟩ := q10
      have f11 := f0.tr (f9.up rfl)
      refine s_blx (lv' := [(0, vR 55), (1, vI place), (2, vI said), (3, vI done), (4, vI depth)]) (st' := [vI 0, vL v6]) B52_36_37 rfl ?_
      refine r_sLp (args := [vL v6, vI 0]) (rest := []) (pc' := 40) D52_37 rfl ck_7_static_93 TE51 rfl (Nat.le_of_ble_eq_true rfl) ⟨Nat.le_of_ble_eq_true rfl, Nat.le_of_ble_eq_true rfl⟩ (by decide) (by omega) (k51 E (by omega) H8 v6 0 (by omega)) ?_
      intro v12 q14
      refine s_blx (lv' := [(5, vL v12), (0, vR 55), (1, vI place), (2, vI said), (3, vI done), (4, vI depth)]) (st' := [vI 3, vI done]) B52_40_44 rfl ?_
      refine r_icmp (tgt := 63) (pc' := 47) D52_44 rfl rfl (by unfold inR; omega) (fun (c15 : 3 ≤ done) => ?_) (fun (c15 : ¬ (3 ≤ done)) => ?_)
      · refine s_blx (lv' := [(10, vI (done - 1)), (9, vI 1), (8, vI said), (7, vI 0), (5, vL v12), (0, vR 55), (1, vI place), (2, vI said), (3, vI done), (4, vI depth)]) (st' := []) B52_63_77 rfl ?_
        refine r_loc (lv' := [(0, vR 55), (1, vI place), (2, vI said), (3, vI done), (4, vI depth), (5, vL v12), (7, vI 0), (8, vI said), (9, vI 1), (10, vI (done - 1))]) ⟨rfl, rfl, rfl, rfl, rfl, rfl, rfl, rfl, rfl, rfl, trivial⟩ rfl rfl ?_
        exact (L_k52_55 E ihr hd H place said done depth n h0 h1 h2 h3 h4 h5 h6 hrr ((((done - 1) + 1) * 1 + 0 : Int) + 1).toNat) v12 0 said 1 (done - 1) M7 H8 f11 (by omega) (by omega) (by omega) (by omega) (by omega) (by omega) (by omega) (by omega) (by omega) (by omega) (by omega) (by omega) (by omega) (by omega) (by omega)
      · refine s_blx (lv' := [(5, vL v12), (0, vR 55), (1, vI place), (2, vI said), (3, vI done), (4, vI depth)]) (st' := [vI depth, vI done, vI said, vI place, vR 55, vL v12]) B52_47_55 rfl ?_
        refine r_vL (c := 55) (args := [vI place, vI said, vI done, vI depth]) (rest := [vL v12]) (pc' := 58) D52_55 rfl ck_7_virtual_97 TE53 rfl (Nat.le_of_ble_eq_true rfl) ⟨Nat.le_of_ble_eq_true rfl, Nat.le_of_ble_eq_true rfl⟩ sc_55 ⟨rfl, by decide⟩ H8.1 (by omega) (k53_55 E ihr (by omega) H8 place said done depth n ((h0.fq f11 rfl)) ((h1.fq f11 rfl)) (by omega) (by omega) (by omega) (by omega) (by omega) (by omega)) ?_
        intro v16 M17 q20
        obtain ⟨H18, f19⟩ := q20
        have f21 := f11.tr (f19.up rfl)
        refine r_minX (pc' := 61) D52_58 rfl mc_7_static_100 sp_7_100 (Nat.le_of_ble_eq_true rfl) ?_
        intro z22
        refine s_blx (lv' := [(10, vI (done - 1)), (9, vI 1), (8, vI said), (7, vI 0), (5, vL z22), (0, vR 55), (1, vI place), (2, vI said), (3, vI done), (4, vI depth)]) (st' := []) B52_61_77 rfl ?_
        refine r_loc (lv' := [(0, vR 55), (1, vI place), (2, vI said), (3, vI done), (4, vI depth), (5, vL z22), (7, vI 0), (8, vI said), (9, vI 1), (10, vI (done - 1))]) ⟨rfl, rfl, rfl, rfl, rfl, rfl, rfl, rfl, rfl, rfl, trivial⟩ rfl rfl ?_
        exact (L_k52_55 E ihr hd H place said done depth n h0 h1 h2 h3 h4 h5 h6 hrr ((((done - 1) + 1) * 1 + 0 : Int) + 1).toNat) z22 0 said 1 (done - 1) M17 H18 f21 (by omega) (by omega) (by omega) (by omega) (by omega) (by omega) (by omega) (by omega) (by omega) (by omega) (by omega) (by omega) (by omega) (by omega) (by omega)
    · refine r_ldc2 (e := 4611686018427387904) (pc' := 24) D52_21 rfl cl_7_88 (by decide) ?_
      refine r_goto (tgt := 40) D52_24 rfl ?_
      refine s_blx (lv' := [(5, vL 4611686018427387904), (0, vR 55), (1, vI place), (2, vI said), (3, vI done), (4, vI depth)]) (st' := [vI 3, vI done]) B52_40_44 rfl ?_
      refine r_icmp (tgt := 63) (pc' := 47) D52_44 rfl rfl (by unfold inR; omega) (fun (c23 : 3 ≤ done) => ?_) (fun (c23 : ¬ (3 ≤ done)) => ?_)
      · refine s_blx (lv' := [(10, vI (done - 1)), (9, vI 1), (8, vI said), (7, vI 0), (5, vL 4611686018427387904), (0, vR 55), (1, vI place), (2, vI said), (3, vI done), (4, vI depth)]) (st' := []) B52_63_77 rfl ?_
        refine r_loc (lv' := [(0, vR 55), (1, vI place), (2, vI said), (3, vI done), (4, vI depth), (5, vL 4611686018427387904), (7, vI 0), (8, vI said), (9, vI 1), (10, vI (done - 1))]) ⟨rfl, rfl, rfl, rfl, rfl, rfl, rfl, rfl, rfl, rfl, trivial⟩ rfl rfl ?_
        exact (L_k52_55 E ihr hd H place said done depth n h0 h1 h2 h3 h4 h5 h6 hrr ((((done - 1) + 1) * 1 + 0 : Int) + 1).toNat) 4611686018427387904 0 said 1 (done - 1) M H f0 (by omega) (by omega) (by omega) (by omega) (by omega) (by omega) (by omega) (by omega) (by omega) (by omega) (by omega) (by omega) (by omega) (by omega) (by omega)
      · refine s_blx (lv' := [(5, vL 4611686018427387904), (0, vR 55), (1, vI place), (2, vI said), (3, vI done), (4, vI depth)]) (st' := [vI depth, vI done, vI said, vI place, vR 55, vL 4611686018427387904]) B52_47_55 rfl ?_
        refine r_vL (c := 55) (args := [vI place, vI said, vI done, vI depth]) (rest := [vL 4611686018427387904]) (pc' := 58) D52_55 rfl ck_7_virtual_97 TE53 rfl (Nat.le_of_ble_eq_true rfl) ⟨Nat.le_of_ble_eq_true rfl, Nat.le_of_ble_eq_true rfl⟩ sc_55 ⟨rfl, by decide⟩ H.1 (by omega) (k53_55 E ihr (by omega) H place said done depth n (h0) (h1) (by omega) (by omega) (by omega) (by omega) (by omega) (by omega)) ?_
        intro v24 M25 q28
        obtain ⟨H26, f27⟩ := q28
        have f29 := f0.tr (f27.up rfl)
        refine r_minX (pc' := 61) D52_58 rfl mc_7_static_100 sp_7_100 (Nat.le_of_ble_eq_true rfl) ?_
        intro z30
        refine s_blx (lv' := [(10, vI (done - 1)), (9, vI 1), (8, vI said), (7, vI 0), (5, vL z30), (0, vR 55), (1, vI place), (2, vI said), (3, vI done), (4, vI depth)]) (st' := []) B52_61_77 rfl ?_
        refine r_loc (lv' := [(0, vR 55), (1, vI place), (2, vI said), (3, vI done), (4, vI depth), (5, vL z30), (7, vI 0), (8, vI said), (9, vI 1), (10, vI (done - 1))]) ⟨rfl, rfl, rfl, rfl, rfl, rfl, rfl, rfl, rfl, rfl, trivial⟩ rfl rfl ?_
        exact (L_k52_55 E ihr hd H place said done depth n h0 h1 h2 h3 h4 h5 h6 hrr ((((done - 1) + 1) * 1 + 0 : Int) + 1).toNat) z30 0 said 1 (done - 1) M25 H26 f29 (by omega) (by omega) (by omega) (by omega) (by omega) (by omega) (by omega) (by omega) (by omega) (by omega) (by omega) (by omega) (by omega) (by omega) (by omega)
  · refine s_blx (lv' := [(0, vR 55), (1, vI place), (2, vI said), (3, vI done), (4, vI depth)]) (st' := [vL 0]) B52_7_8 rfl ?_
    exact r_lretL D52_8 rfl (⟨H, f0⟩)
theorem k52_55 {base : Nat} {X : Nat → Option mC} {G : Nat → Value} (E : EnvOK base X G) {d : Nat} (hd : 176 ≤ d) {M : mH} (H : HI base M) (place : Int) (said : Int) (done : Int) (depth : Int) (n : Int) (h0 : RW base 56 n M) (h1 : TR 40 n M) (h2 : 1 ≤ n ∧ n ≤ 145) (h3 : 0 ≤ done ∧ done ≤ 3 ∧ 0 ≤ said ∧ said ≤ 1110) (h4 : 1 ≤ place ∧ place < n) (h5 : (done = 0 ∧ said = 0) ∨ (done = 1 ∧ 1 ≤ said ∧ said ≤ 10) ∨ (done = 2 ∧ 11 ≤ said ∧ said ≤ 110) ∨ (done = 3 ∧ 111 ≤ said ∧ said ≤ 1110)) (h6 : 0 ≤ depth ∧ depth ≤ 41) : sOk base X G d T52 [vR 55, vI place, vI said, vI done, vI depth] M (pL (fun v M' => HI base M' ∧ Fq [(57, 0)] M M')) := k52_55r E 42 (by omega) H place said done depth n h0 h1 h2 h3 h4 h5 h6 (by omega)
