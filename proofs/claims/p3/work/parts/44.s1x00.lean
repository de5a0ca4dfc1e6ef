def T51 : mT := (7, yX7_packed, cX7_packed, 3, (some .long))
set_option maxRecDepth 10000 in
theorem TE51 : sy_m[51]? = some T51 := rfl
theorem B51_0_2 : s_dk T51.2.2.1 0 [.lload_n 0, .iconst 5] 2 = true := by decide +kernel
theorem D51_2 : decode T51.2.2.1 2 = .ok (.lshl, 1) := by decide +kernel
theorem B51_3_4 : s_dk T51.2.2.1 3 [.iload_n 2] 4 = true := by decide +kernel
theorem D51_4 : decode T51.2.2.1 4 = .ok (.i2l, 1) := by decide +kernel
theorem D51_5 : decode T51.2.2.1 5 = .ok (.lor, 1) := by decide +kernel
theorem D51_6 : decode T51.2.2.1 6 = .ok (.lreturn, 1) := by decide +kernel
def T50 : mT := (7, yX7_fateOf, cX7_fateOf, 3, (some .int))
set_option maxRecDepth 10000 in
theorem TE50 : sy_m[50]? = some T50 := rfl
theorem B50_0_1 : s_dk T50.2.2.1 0 [.aload_n 0] 1 = true := by decide +kernel
theorem gf_7_31_36 : s_gf 7 31 36 = some (0, 23) := by decide +kernel
theorem D50_1 : decode T50.2.2.1 1 = .ok (.getfield 31, 3) := by decide +kernel
theorem gf_7_78_20 : s_gf 7 78 20 = some (6, 30) := by decide +kernel
theorem D50_4 : decode T50.2.2.1 4 = .ok (.getfield 78, 3) := by decide +kernel
theorem B50_7_8 : s_dk T50.2.2.1 7 [.iload_n 1] 8 = true := by decide +kernel
theorem D50_8 : decode T50.2.2.1 8 = .ok (.iaload, 1) := by decide +kernel
theorem B50_9_10 : s_dk T50.2.2.1 9 [.iload_n 2] 10 = true := by decide +kernel
theorem D50_10 : decode T50.2.2.1 10 = .ok (.ishr, 1) := by decide +kernel
theorem B50_11_12 : s_dk T50.2.2.1 11 [.iconst 1] 12 = true := by decide +kernel
theorem D50_12 : decode T50.2.2.1 12 = .ok (.iand, 1) := by decide +kernel
theorem D50_13 : decode T50.2.2.1 13 = .ok (.ifCond .ne 6, 3) := by decide +kernel
theorem B50_19_20 : s_dk T50.2.2.1 19 [.aload_n 0] 20 = true := by decide +kernel
theorem D50_20 : decode T50.2.2.1 20 = .ok (.getfield 31, 3) := by decide +kernel
theorem gf_7_81_20 : s_gf 7 81 20 = some (7, 31) := by decide +kernel
theorem D50_23 : decode T50.2.2.1 23 = .ok (.getfield 81, 3) := by decide +kernel
theorem B50_26_27 : s_dk T50.2.2.1 26 [.iload_n 1] 27 = true := by decide +kernel
theorem D50_27 : decode T50.2.2.1 27 = .ok (.iaload, 1) := by decide +kernel
theorem B50_28_29 : s_dk T50.2.2.1 28 [.iconst (-1)] 29 = true := by decide +kernel
theorem D50_29 : decode T50.2.2.1 29 = .ok (.if_icmp .ne 7, 3) := by decide +kernel
theorem B50_36_38 : s_dk T50.2.2.1 36 [.bipush 8] 38 = true := by decide +kernel
theorem D50_38 : decode T50.2.2.1 38 = .ok (.ireturn, 1) := by decide +kernel
theorem B50_32_33 : s_dk T50.2.2.1 32 [.iload_n 2] 33 = true := by decide +kernel
theorem D50_33 : decode T50.2.2.1 33 = .ok (.goto 5, 3) := by decide +kernel
theorem B50_16_18 : s_dk T50.2.2.1 16 [.bipush 9] 18 = true := by decide +kernel
theorem D50_18 : decode T50.2.2.1 18 = .ok (.ireturn, 1) := by decide +kernel
def T49 : mT := (7, yX7_seenFrom, cX7_seenFrom, 9, (some .int))
set_option maxRecDepth 10000 in
theorem TE49 : sy_m[49]? = some T49 := rfl
theorem B49_0_14 : s_dk T49.2.2.1 0 [.iload_n 2, .istore 4, .iload_n 2, .istore 5, .iconst 1, .istore 6, .iload_n 3, .iconst 1, .isub, .istore 7] 14 = true := by decide +kernel
theorem B49_14_16 : s_dk T49.2.2.1 14 [.iload 7] 16 = true := by decide +kernel
theorem D49_16 : decode T49.2.2.1 16 = .ok (.ifCond .lt 68, 3) := by decide +kernel
theorem B49_84_86 : s_dk T49.2.2.1 84 [.iload 4] 86 = true := by decide +kernel
theorem D49_86 : decode T49.2.2.1 86 = .ok (.ireturn, 1) := by decide +kernel
theorem B49_19_25 : s_dk T49.2.2.1 19 [.iload 5, .iconst 1, .isub, .bipush 10] 25 = true := by decide +kernel
theorem D49_25 : decode T49.2.2.1 25 = .ok (.irem, 1) := by decide +kernel
theorem B49_26_34 : s_dk T49.2.2.1 26 [.istore 8, .iload 5, .iconst 1, .isub, .bipush 10] 34 = true := by decide +kernel
theorem D49_34 : decode T49.2.2.1 34 = .ok (.idiv, 1) := by decide +kernel
theorem B49_35_41 : s_dk T49.2.2.1 35 [.istore 5, .iload 8, .bipush 8] 41 = true := by decide +kernel
theorem D49_41 : decode T49.2.2.1 41 = .ok (.if_icmp .ge 30, 3) := by decide +kernel
theorem B49_71_81 : s_dk T49.2.2.1 71 [.iload 6, .bipush 10, .imul, .istore 6, .iinc 7 (-1)] 81 = true := by decide +kernel
theorem D49_81 : decode T49.2.2.1 81 = .ok (.goto (-67), 3) := by decide +kernel
theorem B49_44_48 : s_dk T49.2.2.1 44 [.iload 4, .aload_n 0, .aload_n 0] 48 = true := by decide +kernel
theorem D49_48 : decode T49.2.2.1 48 = .ok (.getfield 31, 3) := by decide +kernel
theorem B49_51_54 : s_dk T49.2.2.1 51 [.iload_n 1, .iload 7] 54 = true := by decide +kernel
theorem D49_54 : decode T49.2.2.1 54 = .ok (.invokevirtual 72, 3) := by decide +kernel
theorem ck_7_virtual_72 : m_call 7 (.invokevirtual 72) = some (0, 85, 2) := by decide +kernel
theorem B49_57_59 : s_dk T49.2.2.1 57 [.iload 8] 59 = true := by decide +kernel
theorem D49_59 : decode T49.2.2.1 59 = .ok (.invokevirtual 75, 3) := by decide +kernel
theorem ck_7_virtual_75 : m_call 7 (.invokevirtual 75) = some (0, 50, 2) := by decide +kernel
theorem B49_62_81 : s_dk T49.2.2.1 62 [.iload 8, .isub, .iload 6, .imul, .iadd, .istore 4, .iload 6, .bipush 10, .imul, .istore 6, .iinc 7 (-1)] 81 = true := by decide +kernel
theorem gf_7_31_55 : s_gf 7 31 55 = some (0, 42) := by decide +kernel
theorem gf_7_78_39 : s_gf 7 78 39 = some (6, 49) := by decide +kernel
theorem gf_7_81_39 : s_gf 7 81 39 = some (7, 50) := by decide +kernel
def T56 : mT := (7, yX7_lossFrom, cX7_lossFrom, 10, (some .long))
set_option maxRecDepth 10000 in
theorem TE56 : sy_m[56]? = some T56 := rfl
theorem B56_0_4 : s_dk T56.2.2.1 0 [.lconst 0, .lstore 5, .aload_n 0] 4 = true := by decide +kernel
theorem D56_4 : decode T56.2.2.1 4 = .ok (.getfield 31, 3) := by decide +kernel
theorem gf_7_121_20 : s_gf 7 121 20 = some (0, 24) := by decide +kernel
theorem D56_7 : decode T56.2.2.1 7 = .ok (.getfield 121, 3) := by decide +kernel
theorem B56_10_11 : s_dk T56.2.2.1 10 [.iload_n 1] 11 = true := by decide +kernel
theorem D56_11 : decode T56.2.2.1 11 = .ok (.iaload, 1) := by decide +kernel
theorem B56_12_17 : s_dk T56.2.2.1 12 [.istore 7, .iconst 0, .istore 8] 17 = true := by decide +kernel
theorem B56_17_22 : s_dk T56.2.2.1 17 [.iload 8, .sipush 145] 22 = true := by decide +kernel
theorem D56_22 : decode T56.2.2.1 22 = .ok (.if_icmp .ge 74, 3) := by decide +kernel
theorem B56_25_28 : s_dk T56.2.2.1 25 [.iload 7, .iconst (-1)] 28 = true := by decide +kernel
theorem D56_28 : decode T56.2.2.1 28 = .ok (.if_icmp .eq 68, 3) := by decide +kernel
theorem B56_96_98 : s_dk T56.2.2.1 96 [.lload 5] 98 = true := by decide +kernel
theorem D56_98 : decode T56.2.2.1 98 = .ok (.lreturn, 1) := by decide +kernel
theorem B56_31_32 : s_dk T56.2.2.1 31 [.aload_n 0] 32 = true := by decide +kernel
theorem D56_32 : decode T56.2.2.1 32 = .ok (.getfield 31, 3) := by decide +kernel
theorem gf_7_124_20 : s_gf 7 124 20 = some (5, 29) := by decide +kernel
theorem D56_35 : decode T56.2.2.1 35 = .ok (.getfield 124, 3) := by decide +kernel
theorem B56_38_40 : s_dk T56.2.2.1 38 [.iload 7] 40 = true := by decide +kernel
theorem D56_40 : decode T56.2.2.1 40 = .ok (.baload, 1) := by decide +kernel
theorem D56_41 : decode T56.2.2.1 41 = .ok (.ifCond .eq 14, 3) := by decide +kernel
theorem B56_55_70 : s_dk T56.2.2.1 55 [.iload_n 2, .istore 9, .lload 5, .aload_n 0, .iload 7, .iload 9, .iload_n 3, .iload 4, .iconst 1, .iadd] 70 = true := by decide +kernel
theorem D56_70 : decode T56.2.2.1 70 = .ok (.invokevirtual 67, 3) := by decide +kernel
theorem ck_7_virtual_67 : m_call 7 (.invokevirtual 67) = some (0, 52, 4) := by decide +kernel
def T52 : mT := (7, yX7_choose, cX7_choose, 12, (some .long))
set_option maxRecDepth 10000 in
theorem TE52 : sy_m[52]? = some T52 := rfl
theorem B56_73_74 : s_dk T56.2.2.1 73 [.iconst 5] 74 = true := by decide +kernel
theorem D56_74 : decode T56.2.2.1 74 = .ok (.lshr, 1) := by decide +kernel
theorem B56_75_79 : s_dk T56.2.2.1 75 [.ladd, .lstore 5, .aload_n 0] 79 = true := by decide +kernel
theorem D56_79 : decode T56.2.2.1 79 = .ok (.getfield 31, 3) := by decide +kernel
theorem gf_7_127_20 : s_gf 7 127 20 = some (1, 25) := by decide +kernel
theorem D56_82 : decode T56.2.2.1 82 = .ok (.getfield 127, 3) := by decide +kernel
theorem B56_85_87 : s_dk T56.2.2.1 85 [.iload 7] 87 = true := by decide +kernel
theorem D56_87 : decode T56.2.2.1 87 = .ok (.iaload, 1) := by decide +kernel
theorem B56_88_93 : s_dk T56.2.2.1 88 [.istore 7, .iinc 8 1] 93 = true := by decide +kernel
theorem D56_93 : decode T56.2.2.1 93 = .ok (.goto (-76), 3) := by decide +kernel
theorem B56_44_49 : s_dk T56.2.2.1 44 [.aload_n 0, .iload 7, .iload_n 2, .iload_n 3] 49 = true := by decide +kernel
theorem D56_49 : decode T56.2.2.1 49 = .ok (.invokevirtual 64, 3) := by decide +kernel
theorem ck_7_virtual_64 : m_call 7 (.invokevirtual 64) = some (0, 49, 3) := by decide +kernel
theorem D56_52 : decode T56.2.2.1 52 = .ok (.goto 4, 3) := by decide +kernel
theorem B56_56_70 : s_dk T56.2.2.1 56 [.istore 9, .lload 5, .aload_n 0, .iload 7, .iload 9, .iload_n 3, .iload 4, .iconst 1, .iadd] 70 = true := by decide +kernel
def T55 : mT := (7, yX7_lossAfter, cX7_lossAfter, 9, (some .long))
set_option maxRecDepth 10000 in
theorem TE55 : sy_m[55]? = some T55 := rfl
theorem B55_0_1 : s_dk T55.2.2.1 0 [.aload_n 0] 1 = true := by decide +kernel
theorem gf_7_13_36 : s_gf 7 13 36 = some (1, 40) := by decide +kernel
theorem D55_1 : decode T55.2.2.1 1 = .ok (.getfield 13, 3) := by decide +kernel
theorem B55_4_5 : s_dk T55.2.2.1 4 [.iload_n 1] 5 = true := by decide +kernel
theorem D55_5 : decode T55.2.2.1 5 = .ok (.aaload, 1) := by decide +kernel
theorem B55_6_7 : s_dk T55.2.2.1 6 [.iload_n 2] 7 = true := by decide +kernel
theorem D55_7 : decode T55.2.2.1 7 = .ok (.laload, 1) := by decide +kernel
theorem B55_8_14 : s_dk T55.2.2.1 8 [.lstore 5, .lload 5, .bipush 32] 14 = true := by decide +kernel
theorem D55_14 : decode T55.2.2.1 14 = .ok (.lushr, 1) := by decide +kernel
theorem B55_15_16 : s_dk T55.2.2.1 15 [.aload_n 0] 16 = true := by decide +kernel
theorem gf_7_23_36 : s_gf 7 23 36 = some (3, 2) := by decide +kernel
theorem D55_16 : decode T55.2.2.1 16 = .ok (.getfield 23, 3) := by decide +kernel
theorem D55_19 : decode T55.2.2.1 19 = .ok (.lcmp, 1) := by decide +kernel
theorem D55_20 : decode T55.2.2.1 20 = .ok (.ifCond .ne 10, 3) := by decide +kernel
theorem B55_30_31 : s_dk T55.2.2.1 30 [.aload_n 0] 31 = true := by decide +kernel
theorem gf_7_19_36 : s_gf 7 19 36 = some (2, 41) := by decide +kernel
theorem D55_31 : decode T55.2.2.1 31 = .ok (.getfield 19, 3) := by decide +kernel
theorem B55_34_39 : s_dk T55.2.2.1 34 [.iload_n 1, .iconst 4, .imul, .iload_n 3, .iadd] 39 = true := by decide +kernel
theorem D55_39 : decode T55.2.2.1 39 = .ok (.iaload, 1) := by decide +kernel
theorem D55_40 : decode T55.2.2.1 40 = .ok (.i2l, 1) := by decide +kernel
theorem B55_41_44 : s_dk T55.2.2.1 41 [.lstore 7, .aload_n 0] 44 = true := by decide +kernel
theorem D55_44 : decode T55.2.2.1 44 = .ok (.getfield 31, 3) := by decide +kernel
theorem gf_7_84_20 : s_gf 7 84 20 = some (4, 28) := by decide +kernel
theorem D55_47 : decode T55.2.2.1 47 = .ok (.getfield 84, 3) := by decide +kernel
theorem B55_50_51 : s_dk T55.2.2.1 50 [.iload_n 1] 51 = true := by decide +kernel
theorem D55_51 : decode T55.2.2.1 51 = .ok (.baload, 1) := by decide +kernel
theorem D55_52 : decode T55.2.2.1 52 = .ok (.ifCond .eq 24, 3) := by decide +kernel
theorem B55_76_84 : s_dk T55.2.2.1 76 [.lload 7, .aload_n 0, .iload_n 1, .iload_n 2, .iload_n 3, .iload 4] 84 = true := by decide +kernel
theorem D55_84 : decode T55.2.2.1 84 = .ok (.invokevirtual 46, 3) := by decide +kernel
theorem ck_7_virtual_46 : m_call 7 (.invokevirtual 46) = some (0, 56, 4) := by decide +kernel
theorem B55_87_91 : s_dk T55.2.2.1 87 [.ladd, .lstore 7, .aload_n 0] 91 = true := by decide +kernel
theorem D55_91 : decode T55.2.2.1 91 = .ok (.getfield 13, 3) := by decide +kernel
theorem B55_94_95 : s_dk T55.2.2.1 94 [.iload_n 1] 95 = true := by decide +kernel
theorem D55_95 : decode T55.2.2.1 95 = .ok (.aaload, 1) := by decide +kernel
theorem B55_96_98 : s_dk T55.2.2.1 96 [.iload_n 2, .aload_n 0] 98 = true := by decide +kernel
theorem D55_98 : decode T55.2.2.1 98 = .ok (.getfield 23, 3) := by decide +kernel
theorem B55_101_103 : s_dk T55.2.2.1 101 [.bipush 32] 103 = true := by decide +kernel
theorem D55_103 : decode T55.2.2.1 103 = .ok (.lshl, 1) := by decide +kernel
theorem B55_104_106 : s_dk T55.2.2.1 104 [.lload 7] 106 = true := by decide +kernel
theorem D55_106 : decode T55.2.2.1 106 = .ok (.lor, 1) := by decide +kernel
theorem D55_107 : decode T55.2.2.1 107 = .ok (.lastore, 1) := by decide +kernel
theorem B55_108_110 : s_dk T55.2.2.1 108 [.lload 7] 110 = true := by decide +kernel
theorem D55_110 : decode T55.2.2.1 110 = .ok (.lreturn, 1) := by decide +kernel
theorem B55_55_65 : s_dk T55.2.2.1 55 [.lload 7, .aload_n 0, .iload_n 1, .iload_n 2, .iload_n 3, .iload 4, .iconst 1, .iadd] 65 = true := by decide +kernel
theorem D55_65 : decode T55.2.2.1 65 = .ok (.invokevirtual 67, 3) := by decide +kernel
theorem B55_68_69 : s_dk T55.2.2.1 68 [.iconst 5] 69 = true := by decide +kernel
theorem D55_69 : decode T55.2.2.1 69 = .ok (.lshr, 1) := by decide +kernel
theorem B55_70_73 : s_dk T55.2.2.1 70 [.ladd, .lstore 7] 73 = true := by decide +kernel
theorem D55_73 : decode T55.2.2.1 73 = .ok (.goto 17, 3) := by decide +kernel
theorem B55_90_91 : s_dk T55.2.2.1 90 [.aload_n 0] 91 = true := by decide +kernel
theorem B55_23_25 : s_dk T55.2.2.1 23 [.lload 5] 25 = true := by decide +kernel
theorem cl_7_119 : m_cl 7 119 = some (4294967295) := by decide +kernel
theorem D55_25 : decode T55.2.2.1 25 = .ok (.ldc2_w 119, 3) := by decide +kernel
theorem D55_28 : decode T55.2.2.1 28 = .ok (.land, 1) := by decide +kernel
theorem D55_29 : decode T55.2.2.1 29 = .ok (.lreturn, 1) := by decide +kernel
def T53 : mT := (7, yX7_chooseNext, cX7_chooseNext, 16, (some .long))
set_option maxRecDepth 10000 in
theorem TE53 : sy_m[53]? = some T53 := rfl
theorem B53_0_1 : s_dk T53.2.2.1 0 [.aload_n 0] 1 = true := by decide +kernel
theorem D53_1 : decode T53.2.2.1 1 = .ok (.getfield 31, 3) := by decide +kernel
theorem B53_4_6 : s_dk T53.2.2.1 4 [.iload_n 1, .iload_n 3] 6 = true := by decide +kernel
theorem D53_6 : decode T53.2.2.1 6 = .ok (.invokevirtual 72, 3) := by decide +kernel
theorem B53_9_12 : s_dk T53.2.2.1 9 [.istore 5, .aload_n 0] 12 = true := by decide +kernel
theorem D53_12 : decode T53.2.2.1 12 = .ok (.getfield 31, 3) := by decide +kernel
theorem gf_7_39_20 : s_gf 7 39 20 = some (2, 26) := by decide +kernel
theorem D53_15 : decode T53.2.2.1 15 = .ok (.getfield 39, 3) := by decide +kernel
theorem B53_18_19 : s_dk T53.2.2.1 18 [.iload_n 1] 19 = true := by decide +kernel
theorem D53_19 : decode T53.2.2.1 19 = .ok (.iaload, 1) := by decide +kernel
theorem D53_20 : decode T53.2.2.1 20 = .ok (.i2l, 1) := by decide +kernel
theorem B53_21_28 : s_dk T53.2.2.1 21 [.lstore 6, .aload_n 0, .iload_n 1, .iload_n 2, .bipush 8] 28 = true := by decide +kernel
theorem D53_28 : decode T53.2.2.1 28 = .ok (.invokestatic 113, 3) := by decide +kernel
theorem ck_7_static_113 : m_call 7 (.invokestatic 113) = some (1, 43, 2) := by decide +kernel
theorem B53_31_36 : s_dk T53.2.2.1 31 [.iload_n 3, .iconst 1, .iadd, .iload 4] 36 = true := by decide +kernel
theorem D53_36 : decode T53.2.2.1 36 = .ok (.invokevirtual 90, 3) := by decide +kernel
theorem ck_7_virtual_90 : m_call 7 (.invokevirtual 90) = some (0, 55, 4) := by decide +kernel
theorem B53_39_46 : s_dk T53.2.2.1 39 [.lstore 8, .lload 8, .lload 6, .aload_n 0] 46 = true := by decide +kernel
theorem D53_46 : decode T53.2.2.1 46 = .ok (.getfield 31, 3) := by decide +kernel
theorem gf_7_110_20 : s_gf 7 110 20 = some (13, 37) := by decide +kernel
theorem D53_49 : decode T53.2.2.1 49 = .ok (.getfield 110, 3) := by decide +kernel
theorem B53_52_53 : s_dk T53.2.2.1 52 [.iconst 5] 53 = true := by decide +kernel
theorem D53_53 : decode T53.2.2.1 53 = .ok (.iaload, 1) := by decide +kernel
theorem D53_54 : decode T53.2.2.1 54 = .ok (.i2l, 1) := by decide +kernel
theorem B53_55_58 : s_dk T53.2.2.1 55 [.lmul, .ladd, .iconst 3] 58 = true := by decide +kernel
theorem D53_58 : decode T53.2.2.1 58 = .ok (.invokestatic 93, 3) := by decide +kernel
theorem ck_7_static_93 : m_call 7 (.invokestatic 93) = some (1, 51, 2) := by decide +kernel
theorem B53_61_64 : s_dk T53.2.2.1 61 [.lstore 10, .aload_n 0] 64 = true := by decide +kernel
theorem D53_64 : decode T53.2.2.1 64 = .ok (.getfield 31, 3) := by decide +kernel
theorem D53_67 : decode T53.2.2.1 67 = .ok (.getfield 81, 3) := by decide +kernel
theorem B53_70_72 : s_dk T53.2.2.1 70 [.iload 5] 72 = true := by decide +kernel
theorem D53_72 : decode T53.2.2.1 72 = .ok (.iaload, 1) := by decide +kernel
theorem B53_73_74 : s_dk T53.2.2.1 73 [.iconst (-1)] 74 = true := by decide +kernel
theorem D53_74 : decode T53.2.2.1 74 = .ok (.if_icmp .eq 15, 3) := by decide +kernel
theorem B53_89_90 : s_dk T53.2.2.1 89 [.aload_n 0] 90 = true := by decide +kernel
theorem D53_90 : decode T53.2.2.1 90 = .ok (.getfield 31, 3) := by decide +kernel
theorem gf_7_116_20 : s_gf 7 116 20 = some (10, 34) := by decide +kernel
theorem D53_93 : decode T53.2.2.1 93 = .ok (.getfield 116, 3) := by decide +kernel
theorem B53_96_98 : s_dk T53.2.2.1 96 [.iload 5] 98 = true := by decide +kernel
theorem D53_98 : decode T53.2.2.1 98 = .ok (.iaload, 1) := by decide +kernel
theorem D53_99 : decode T53.2.2.1 99 = .ok (.ifCond .le 47, 3) := by decide +kernel
theorem B53_146_147 : s_dk T53.2.2.1 146 [.aload_n 0] 147 = true := by decide +kernel
theorem gf_7_27_36 : s_gf 7 27 36 = some (4, 1) := by decide +kernel
theorem D53_147 : decode T53.2.2.1 147 = .ok (.getfield 27, 3) := by decide +kernel
theorem D53_150 : decode T53.2.2.1 150 = .ok (.ifCond .eq 16, 3) := by decide +kernel
theorem B53_166_172 : s_dk T53.2.2.1 166 [.iconst 0, .istore 12, .iconst 0, .istore 13] 172 = true := by decide +kernel
theorem B53_153_154 : s_dk T53.2.2.1 153 [.aload_n 0] 154 = true := by decide +kernel
theorem D53_154 : decode T53.2.2.1 154 = .ok (.getfield 31, 3) := by decide +kernel
theorem D53_157 : decode T53.2.2.1 157 = .ok (.getfield 78, 3) := by decide +kernel
theorem B53_160_162 : s_dk T53.2.2.1 160 [.iload 5] 162 = true := by decide +kernel
theorem D53_162 : decode T53.2.2.1 162 = .ok (.iaload, 1) := by decide +kernel
theorem D53_163 : decode T53.2.2.1 163 = .ok (.goto 4, 3) := by decide +kernel
theorem B53_167_172 : s_dk T53.2.2.1 167 [.istore 12, .iconst 0, .istore 13] 172 = true := by decide +kernel
theorem B53_102_107 : s_dk T53.2.2.1 102 [.lload 8, .lload 6, .aload_n 0] 107 = true := by decide +kernel
theorem D53_107 : decode T53.2.2.1 107 = .ok (.getfield 31, 3) := by decide +kernel
theorem D53_110 : decode T53.2.2.1 110 = .ok (.getfield 110, 3) := by decide +kernel
theorem B53_113_115 : s_dk T53.2.2.1 113 [.bipush 7] 115 = true := by decide +kernel
theorem D53_115 : decode T53.2.2.1 115 = .ok (.iaload, 1) := by decide +kernel
theorem D53_116 : decode T53.2.2.1 116 = .ok (.i2l, 1) := by decide +kernel
theorem B53_117_119 : s_dk T53.2.2.1 117 [.lmul, .aload_n 0] 119 = true := by decide +kernel
theorem D53_119 : decode T53.2.2.1 119 = .ok (.getfield 31, 3) := by decide +kernel
theorem D53_122 : decode T53.2.2.1 122 = .ok (.getfield 116, 3) := by decide +kernel
theorem B53_125_127 : s_dk T53.2.2.1 125 [.iload 5] 127 = true := by decide +kernel
theorem D53_127 : decode T53.2.2.1 127 = .ok (.iaload, 1) := by decide +kernel
theorem D53_128 : decode T53.2.2.1 128 = .ok (.i2l, 1) := by decide +kernel
theorem B53_129_138 : s_dk T53.2.2.1 129 [.lmul, .ladd, .lstore 12, .lload 10, .lload 12, .iconst 2] 138 = true := by decide +kernel
theorem D53_138 : decode T53.2.2.1 138 = .ok (.invokestatic 93, 3) := by decide +kernel
theorem D53_141 : decode T53.2.2.1 141 = .ok (.invokestatic 100, 3) := by decide +kernel
theorem mc_7_static_100 : m_call 7 (.invokestatic 100) = none := by decide +kernel
theorem sp_7_100 : m_sp 7 100 = some 4 := by decide +kernel
theorem B53_144_147 : s_dk T53.2.2.1 144 [.lstore 10, .aload_n 0] 147 = true := by decide +kernel
theorem B53_77_82 : s_dk T53.2.2.1 77 [.lload 10, .lload 8, .iconst 1] 82 = true := by decide +kernel
theorem D53_82 : decode T53.2.2.1 82 = .ok (.invokestatic 93, 3) := by decide +kernel
theorem D53_85 : decode T53.2.2.1 85 = .ok (.invokestatic 100, 3) := by decide +kernel
theorem D53_88 : decode T53.2.2.1 88 = .ok (.lreturn, 1) := by decide +kernel
theorem B53_172_176 : s_dk T53.2.2.1 172 [.iload 13, .bipush 8] 176 = true := by decide +kernel
theorem D53_176 : decode T53.2.2.1 176 = .ok (.if_icmp .ge 55, 3) := by decide +kernel
theorem B53_179_183 : s_dk T53.2.2.1 179 [.iload 12, .iload 13] 183 = true := by decide +kernel
theorem D53_183 : decode T53.2.2.1 183 = .ok (.ishr, 1) := by decide +kernel
theorem B53_184_185 : s_dk T53.2.2.1 184 [.iconst 1] 185 = true := by decide +kernel
theorem D53_185 : decode T53.2.2.1 185 = .ok (.iand, 1) := by decide +kernel
theorem B53_186_187 : s_dk T53.2.2.1 186 [.iconst 1] 187 = true := by decide +kernel
theorem D53_187 : decode T53.2.2.1 187 = .ok (.if_icmp .ne 38, 3) := by decide +kernel
theorem B53_225_228 : s_dk T53.2.2.1 225 [.iinc 13 1] 228 = true := by decide +kernel
theorem D53_228 : decode T53.2.2.1 228 = .ok (.goto (-56), 3) := by decide +kernel
theorem B53_190_195 : s_dk T53.2.2.1 190 [.aload_n 0, .iload_n 1, .iload_n 2, .iload 13] 195 = true := by decide +kernel
theorem D53_195 : decode T53.2.2.1 195 = .ok (.invokestatic 113, 3) := by decide +kernel
theorem B53_198_203 : s_dk T53.2.2.1 198 [.iload_n 3, .iconst 1, .iadd, .iload 4] 203 = true := by decide +kernel
theorem D53_203 : decode T53.2.2.1 203 = .ok (.invokevirtual 90, 3) := by decide +kernel
theorem B53_206_217 : s_dk T53.2.2.1 206 [.lstore 14, .lload 10, .lload 14, .bipush 10, .iload 13, .iadd] 217 = true := by decide +kernel
theorem D53_217 : decode T53.2.2.1 217 = .ok (.invokestatic 93, 3) := by decide +kernel
theorem D53_220 : decode T53.2.2.1 220 = .ok (.invokestatic 100, 3) := by decide +kernel
theorem B53_223_228 : s_dk T53.2.2.1 223 [.lstore 10, .iinc 13 1] 228 = true := by decide +kernel
theorem B53_231_233 : s_dk T53.2.2.1 231 [.lload 10] 233 = true := by decide +kernel
theorem D53_233 : decode T53.2.2.1 233 = .ok (.lreturn, 1) := by decide +kernel
def T54 : mT := (7, yX7_chooseMend, cX7_chooseMend, 9, (some .long))
set_option maxRecDepth 10000 in
theorem TE54 : sy_m[54]? = some T54 := rfl
theorem B54_0_1 : s_dk T54.2.2.1 0 [.aload_n 0] 1 = true := by decide +kernel
theorem D54_1 : decode T54.2.2.1 1 = .ok (.getfield 31, 3) := by decide +kernel
theorem B54_4_7 : s_dk T54.2.2.1 4 [.iload_n 1, .iload 4] 7 = true := by decide +kernel
theorem D54_7 : decode T54.2.2.1 7 = .ok (.invokevirtual 72, 3) := by decide +kernel
theorem B54_10_13 : s_dk T54.2.2.1 10 [.istore 6, .aload_n 0] 13 = true := by decide +kernel
theorem D54_13 : decode T54.2.2.1 13 = .ok (.getfield 31, 3) := by decide +kernel
theorem D54_16 : decode T54.2.2.1 16 = .ok (.getfield 81, 3) := by decide +kernel
theorem B54_19_21 : s_dk T54.2.2.1 19 [.iload 6] 21 = true := by decide +kernel
theorem D54_21 : decode T54.2.2.1 21 = .ok (.iaload, 1) := by decide +kernel
theorem B54_22_23 : s_dk T54.2.2.1 22 [.iconst (-1)] 23 = true := by decide +kernel
theorem D54_23 : decode T54.2.2.1 23 = .ok (.if_icmp .ne 7, 3) := by decide +kernel
theorem B54_30_31 : s_dk T54.2.2.1 30 [.aload_n 0] 31 = true := by decide +kernel
theorem D54_31 : decode T54.2.2.1 31 = .ok (.getfield 31, 3) := by decide +kernel
theorem D54_34 : decode T54.2.2.1 34 = .ok (.getfield 39, 3) := by decide +kernel
theorem B54_37_38 : s_dk T54.2.2.1 37 [.iload_n 1] 38 = true := by decide +kernel
theorem D54_38 : decode T54.2.2.1 38 = .ok (.iaload, 1) := by decide +kernel
theorem D54_39 : decode T54.2.2.1 39 = .ok (.i2l, 1) := by decide +kernel
theorem B54_40_41 : s_dk T54.2.2.1 40 [.aload_n 0] 41 = true := by decide +kernel
theorem D54_41 : decode T54.2.2.1 41 = .ok (.getfield 31, 3) := by decide +kernel
theorem D54_44 : decode T54.2.2.1 44 = .ok (.getfield 110, 3) := by decide +kernel
theorem B54_47_49 : s_dk T54.2.2.1 47 [.bipush 6] 49 = true := by decide +kernel
theorem D54_49 : decode T54.2.2.1 49 = .ok (.iaload, 1) := by decide +kernel
theorem D54_50 : decode T54.2.2.1 50 = .ok (.i2l, 1) := by decide +kernel
theorem B54_51_58 : s_dk T54.2.2.1 51 [.lmul, .aload_n 0, .iload_n 1, .iload_n 2, .iload_n 3, .iload 5] 58 = true := by decide +kernel
theorem D54_58 : decode T54.2.2.1 58 = .ok (.invokevirtual 90, 3) := by decide +kernel
theorem B54_61_75 : s_dk T54.2.2.1 61 [.ladd, .lstore 7, .lload 7, .bipush 20, .iload 6, .iadd, .iload_n 1, .iconst 3, .imul, .isub] 75 = true := by decide +kernel
theorem D54_75 : decode T54.2.2.1 75 = .ok (.invokestatic 93, 3) := by decide +kernel
theorem D54_78 : decode T54.2.2.1 78 = .ok (.lreturn, 1) := by decide +kernel
theorem cl_7_88 : m_cl 7 88 = some (4611686018427387904) := by decide +kernel
theorem D54_26 : decode T54.2.2.1 26 = .ok (.ldc2_w 88, 3) := by decide +kernel
theorem D54_29 : decode T54.2.2.1 29 = .ok (.lreturn, 1) := by decide +kernel
theorem B52_0_4 : s_dk T52.2.2.1 0 [.iload 4, .bipush 40] 4 = true := by decide +kernel
theorem D52_4 : decode T52.2.2.1 4 = .ok (.if_icmp .le 5, 3) := by decide +kernel
theorem B52_9_10 : s_dk T52.2.2.1 9 [.aload_n 0] 10 = true := by decide +kernel
theorem D52_10 : decode T52.2.2.1 10 = .ok (.getfield 31, 3) := by decide +kernel
theorem D52_13 : decode T52.2.2.1 13 = .ok (.getfield 84, 3) := by decide +kernel
theorem B52_16_17 : s_dk T52.2.2.1 16 [.iload_n 1] 17 = true := by decide +kernel
theorem D52_17 : decode T52.2.2.1 17 = .ok (.baload, 1) := by decide +kernel
theorem D52_18 : decode T52.2.2.1 18 = .ok (.ifCond .eq 9, 3) := by decide +kernel
theorem B52_27_33 : s_dk T52.2.2.1 27 [.aload_n 0, .iload_n 1, .iload_n 2, .iload_n 3, .iload 4] 33 = true := by decide +kernel
theorem D52_33 : decode T52.2.2.1 33 = .ok (.invokevirtual 90, 3) := by decide +kernel
theorem B52_36_37 : s_dk T52.2.2.1 36 [.iconst 0] 37 = true := by decide +kernel
theorem D52_37 : decode T52.2.2.1 37 = .ok (.invokestatic 93, 3) := by decide +kernel
theorem B52_40_44 : s_dk T52.2.2.1 40 [.lstore 5, .iload_n 3, .iconst 3] 44 = true := by decide +kernel
theorem D52_44 : decode T52.2.2.1 44 = .ok (.if_icmp .ge 19, 3) := by decide +kernel
theorem B52_63_77 : s_dk T52.2.2.1 63 [.iconst 0, .istore 7, .iload_n 2, .istore 8, .iconst 1, .istore 9, .iload_n 3, .iconst 1, .isub, .istore 10] 77 = true := by decide +kernel
theorem B52_47_55 : s_dk T52.2.2.1 47 [.lload 5, .aload_n 0, .iload_n 1, .iload_n 2, .iload_n 3, .iload 4] 55 = true := by decide +kernel
theorem D52_55 : decode T52.2.2.1 55 = .ok (.invokevirtual 97, 3) := by decide +kernel
theorem ck_7_virtual_97 : m_call 7 (.invokevirtual 97) = some (0, 53, 4) := by decide +kernel
theorem D52_58 : decode T52.2.2.1 58 = .ok (.invokestatic 100, 3) := by decide +kernel
theorem B52_61_77 : s_dk T52.2.2.1 61 [.lstore 5, .iconst 0, .istore 7, .iload_n 2, .istore 8, .iconst 1, .istore 9, .iload_n 3, .iconst 1, .isub, .istore 10] 77 = true := by decide +kernel
theorem D52_21 : decode T52.2.2.1 21 = .ok (.ldc2_w 88, 3) := by decide +kernel
theorem D52_24 : decode T52.2.2.1 24 = .ok (.goto 16, 3) := by decide +kernel
theorem B52_7_8 : s_dk T52.2.2.1 7 [.lconst 0] 8 = true := by decide +kernel
theorem D52_8 : decode T52.2.2.1 8 = .ok (.lreturn, 1) := by decide +kernel
theorem B52_77_79 : s_dk T52.2.2.1 77 [.iload 10] 79 = true := by decide +kernel
theorem D52_79 : decode T52.2.2.1 79 = .ok (.ifCond .lt 61, 3) := by decide +kernel
theorem B52_82_88 : s_dk T52.2.2.1 82 [.iload 8, .iconst 1, .isub, .bipush 10] 88 = true := by decide +kernel
theorem D52_88 : decode T52.2.2.1 88 = .ok (.irem, 1) := by decide +kernel
theorem B52_89_91 : s_dk T52.2.2.1 89 [.bipush 9] 91 = true := by decide +kernel
theorem D52_91 : decode T52.2.2.1 91 = .ok (.if_icmp .ne 27, 3) := by decide +kernel
theorem B52_118_124 : s_dk T52.2.2.1 118 [.iload 8, .iconst 1, .isub, .bipush 10] 124 = true := by decide +kernel
theorem D52_124 : decode T52.2.2.1 124 = .ok (.idiv, 1) := by decide +kernel
theorem B52_125_137 : s_dk T52.2.2.1 125 [.istore 8, .iload 9, .bipush 10, .imul, .istore 9, .iinc 10 (-1)] 137 = true := by decide +kernel
theorem D52_137 : decode T52.2.2.1 137 = .ok (.goto (-60), 3) := by decide +kernel
theorem B52_94_110 : s_dk T52.2.2.1 94 [.iinc 7 1, .lload 5, .aload_n 0, .iload_n 1, .iload_n 2, .iload 9, .isub, .iload_n 3, .iload 10, .iload 4] 110 = true := by decide +kernel
theorem D52_110 : decode T52.2.2.1 110 = .ok (.invokevirtual 106, 3) := by decide +kernel
theorem ck_7_virtual_106 : m_call 7 (.invokevirtual 106) = some (0, 54, 5) := by decide +kernel
theorem D52_113 : decode T52.2.2.1 113 = .ok (.invokestatic 100, 3) := by decide +kernel
theorem B52_116_124 : s_dk T52.2.2.1 116 [.lstore 5, .iload 8, .iconst 1, .isub, .bipush 10] 124 = true := by decide +kernel
theorem B52_140_142 : s_dk T52.2.2.1 140 [.iload_n 3, .iconst 3] 142 = true := by decide +kernel
theorem D52_142 : decode T52.2.2.1 142 = .ok (.if_icmp .ne 55, 3) := by decide +kernel
theorem B52_197_199 : s_dk T52.2.2.1 197 [.lload 5] 199 = true := by decide +kernel
theorem D52_199 : decode T52.2.2.1 199 = .ok (.lreturn, 1) := by decide +kernel
theorem B52_145_146 : s_dk T52.2.2.1 145 [.aload_n 0] 146 = true := by decide +kernel
theorem D52_146 : decode T52.2.2.1 146 = .ok (.getfield 31, 3) := by decide +kernel
theorem D52_149 : decode T52.2.2.1 149 = .ok (.getfield 84, 3) := by decide +kernel
theorem B52_152_153 : s_dk T52.2.2.1 152 [.iload_n 1] 153 = true := by decide +kernel
theorem D52_153 : decode T52.2.2.1 153 = .ok (.baload, 1) := by decide +kernel
theorem D52_154 : decode T52.2.2.1 154 = .ok (.ifCond .eq 43, 3) := by decide +kernel
theorem B52_157_158 : s_dk T52.2.2.1 157 [.aload_n 0] 158 = true := by decide +kernel
theorem D52_158 : decode T52.2.2.1 158 = .ok (.getfield 31, 3) := by decide +kernel
theorem D52_161 : decode T52.2.2.1 161 = .ok (.getfield 39, 3) := by decide +kernel
theorem B52_164_165 : s_dk T52.2.2.1 164 [.iload_n 1] 165 = true := by decide +kernel
theorem D52_165 : decode T52.2.2.1 165 = .ok (.iaload, 1) := by decide +kernel
theorem D52_166 : decode T52.2.2.1 166 = .ok (.i2l, 1) := by decide +kernel
theorem B52_167_168 : s_dk T52.2.2.1 167 [.aload_n 0] 168 = true := by decide +kernel
theorem D52_168 : decode T52.2.2.1 168 = .ok (.getfield 31, 3) := by decide +kernel
theorem D52_171 : decode T52.2.2.1 171 = .ok (.getfield 110, 3) := by decide +kernel
theorem B52_174_175 : s_dk T52.2.2.1 174 [.iconst 4] 175 = true := by decide +kernel
theorem D52_175 : decode T52.2.2.1 175 = .ok (.iaload, 1) := by decide +kernel
theorem D52_176 : decode T52.2.2.1 176 = .ok (.i2l, 1) := by decide +kernel
theorem B52_177_180 : s_dk T52.2.2.1 177 [.lmul, .iload 7] 180 = true := by decide +kernel
theorem D52_180 : decode T52.2.2.1 180 = .ok (.i2l, 1) := by decide +kernel
theorem B52_181_189 : s_dk T52.2.2.1 181 [.lmul, .lstore 10, .lload 5, .lload 10, .iconst 4] 189 = true := by decide +kernel
theorem D52_189 : decode T52.2.2.1 189 = .ok (.invokestatic 93, 3) := by decide +kernel
theorem D52_192 : decode T52.2.2.1 192 = .ok (.invokestatic 100, 3) := by decide +kernel
theorem B52_195_199 : s_dk T52.2.2.1 195 [.lstore 5, .lload 5] 199 = true := by decide +kernel
theorem gf_7_121_39 : s_gf 7 121 39 = some (0, 43) := by decide +kernel
theorem gf_7_124_39 : s_gf 7 124 39 = some (5, 48) := by decide +kernel
theorem gf_7_127_39 : s_gf 7 127 39 = some (1, 44) := by decide +kernel
theorem gf_7_13_55 : s_gf 7 13 55 = some (1, 59) := by decide +kernel
theorem gf_7_23_55 : s_gf 7 23 55 = some (3, 2) := by decide +kernel
theorem gf_7_19_55 : s_gf 7 19 55 = some (2, 60) := by decide +kernel
theorem gf_7_84_39 : s_gf 7 84 39 = some (4, 47) := by decide +kernel
theorem gf_7_39_39 : s_gf 7 39 39 = some (2, 45) := by decide +kernel
theorem gf_7_110_39 : s_gf 7 110 39 = some (13, 56) := by decide +kernel
theorem gf_7_116_39 : s_gf 7 116 39 = some (10, 53) := by decide +kernel
theorem gf_7_27_55 : s_gf 7 27 55 = some (4, 1) := by decide +kernel
