noncomputable def T147 : mT := (11, yX11_in, cX11_in, 3, (some .boolean))
set_option maxRecDepth 10000 in
theorem TE147 : sy_m[147]? = some T147 := rfl
theorem B147_0_2 : s_dk T147.2.2.1 0 [.iload_n 0, .iload_n 1] 2 = true := by decide +kernel
theorem D147_2 : decode T147.2.2.1 2 = .ok (.if_icmp .lt 12, 3) := by decide +kernel
theorem B147_14_15 : s_dk T147.2.2.1 14 [.iconst 0] 15 = true := by decide +kernel
theorem D147_15 : decode T147.2.2.1 15 = .ok (.ireturn, 1) := by decide +kernel
theorem B147_5_7 : s_dk T147.2.2.1 5 [.iload_n 0, .iload_n 2] 7 = true := by decide +kernel
theorem D147_7 : decode T147.2.2.1 7 = .ok (.if_icmp .gt 7, 3) := by decide +kernel
theorem B147_10_11 : s_dk T147.2.2.1 10 [.iconst 1] 11 = true := by decide +kernel
theorem D147_11 : decode T147.2.2.1 11 = .ok (.goto 4, 3) := by decide +kernel
noncomputable def T148 : mT := (11, yX11_refuses, cX11_refuses, 2, (some .int))
set_option maxRecDepth 10000 in
theorem TE148 : sy_m[148]? = some T148 := rfl
theorem B148_0_2 : s_dk T148.2.2.1 0 [.aload_n 0, .iload_n 1] 2 = true := by decide +kernel
theorem pf_11_3_77 : s_pf 11 3 77 = some (0, 1) := by decide +kernel
theorem D148_2 : decode T148.2.2.1 2 = .ok (.putfield 3, 3) := by decide +kernel
theorem B148_5_6 : s_dk T148.2.2.1 5 [.iload_n 1] 6 = true := by decide +kernel
theorem D148_6 : decode T148.2.2.1 6 = .ok (.ireturn, 1) := by decide +kernel
noncomputable def T149 : mT := (11, yX11_good, cX11_good, 2, (some .int))
set_option maxRecDepth 10000 in
theorem TE149 : sy_m[149]? = some T149 := rfl
theorem B149_0_2 : s_dk T149.2.2.1 0 [.aload_n 0, .iconst 0] 2 = true := by decide +kernel
theorem D149_2 : decode T149.2.2.1 2 = .ok (.putfield 3, 3) := by decide +kernel
theorem B149_5_6 : s_dk T149.2.2.1 5 [.iload_n 1] 6 = true := by decide +kernel
theorem D149_6 : decode T149.2.2.1 6 = .ok (.ireturn, 1) := by decide +kernel
noncomputable def T153 : mT := (11, yX11_term, cX11_term, 2, (some .int))
set_option maxRecDepth 10000 in
theorem TE153 : sy_m[153]? = some T153 := rfl
theorem B153_0_1 : s_dk T153.2.2.1 0 [.aload_n 0] 1 = true := by decide +kernel
theorem gf_11_13_77 : s_gf 11 13 77 = some (1, 81) := by decide +kernel
theorem D153_1 : decode T153.2.2.1 1 = .ok (.getfield 13, 3) := by decide +kernel
theorem B153_4_8 : s_dk T153.2.2.1 4 [.bipush 90, .iload_n 1, .iadd] 8 = true := by decide +kernel
theorem D153_8 : decode T153.2.2.1 8 = .ok (.iaload, 1) := by decide +kernel
theorem D153_9 : decode T153.2.2.1 9 = .ok (.ireturn, 1) := by decide +kernel
noncomputable def T154 : mT := (11, yX11_isSentence, cX11_isSentence, 2, (some .boolean))
set_option maxRecDepth 10000 in
theorem TE154 : sy_m[154]? = some T154 := rfl
theorem B154_0_3 : s_dk T154.2.2.1 0 [.iload_n 1, .iconst 0, .aload_n 0] 3 = true := by decide +kernel
theorem D154_3 : decode T154.2.2.1 3 = .ok (.getfield 13, 3) := by decide +kernel
theorem B154_6_9 : s_dk T154.2.2.1 6 [.sipush 469] 9 = true := by decide +kernel
theorem D154_9 : decode T154.2.2.1 9 = .ok (.iaload, 1) := by decide +kernel
theorem B154_10_12 : s_dk T154.2.2.1 10 [.iconst 1, .isub] 12 = true := by decide +kernel
theorem D154_12 : decode T154.2.2.1 12 = .ok (.invokestatic 123, 3) := by decide +kernel
theorem ck_11_static_123 : m_call 11 (.invokestatic 123) = some (1, 147, 3) := by decide +kernel
theorem D154_15 : decode T154.2.2.1 15 = .ok (.ireturn, 1) := by decide +kernel
noncomputable def T155 : mT := (11, yX11_isText, cX11_isText, 2, (some .boolean))
set_option maxRecDepth 10000 in
theorem TE155 : sy_m[155]? = some T155 := rfl
theorem B155_0_3 : s_dk T155.2.2.1 0 [.iload_n 1, .iconst 0, .aload_n 0] 3 = true := by decide +kernel
theorem D155_3 : decode T155.2.2.1 3 = .ok (.getfield 13, 3) := by decide +kernel
theorem B155_6_9 : s_dk T155.2.2.1 6 [.sipush 471] 9 = true := by decide +kernel
theorem D155_9 : decode T155.2.2.1 9 = .ok (.iaload, 1) := by decide +kernel
theorem B155_10_12 : s_dk T155.2.2.1 10 [.iconst 1, .isub] 12 = true := by decide +kernel
theorem D155_12 : decode T155.2.2.1 12 = .ok (.invokestatic 123, 3) := by decide +kernel
theorem D155_15 : decode T155.2.2.1 15 = .ok (.ireturn, 1) := by decide +kernel
noncomputable def T156 : mT := (11, yX11_lengthOf, cX11_lengthOf, 2, (some .int))
set_option maxRecDepth 10000 in
theorem TE156 : sy_m[156]? = some T156 := rfl
theorem B156_0_1 : s_dk T156.2.2.1 0 [.aload_n 0] 1 = true := by decide +kernel
theorem D156_1 : decode T156.2.2.1 1 = .ok (.getfield 13, 3) := by decide +kernel
theorem B156_4_12 : s_dk T156.2.2.1 4 [.sipush 135, .bipush 16, .iload_n 1, .imul, .iadd] 12 = true := by decide +kernel
theorem D156_12 : decode T156.2.2.1 12 = .ok (.iaload, 1) := by decide +kernel
theorem D156_13 : decode T156.2.2.1 13 = .ok (.ireturn, 1) := by decide +kernel
noncomputable def T157 : mT := (11, yX11_wordOfRow, cX11_wordOfRow, 3, (some .int))
set_option maxRecDepth 10000 in
theorem TE157 : sy_m[157]? = some T157 := rfl
theorem B157_0_1 : s_dk T157.2.2.1 0 [.aload_n 0] 1 = true := by decide +kernel
theorem D157_1 : decode T157.2.2.1 1 = .ok (.getfield 13, 3) := by decide +kernel
theorem B157_4_16 : s_dk T157.2.2.1 4 [.sipush 135, .bipush 16, .iload_n 1, .imul, .iadd, .iconst 1, .iadd, .iload_n 2, .iadd] 16 = true := by decide +kernel
theorem D157_16 : decode T157.2.2.1 16 = .ok (.iaload, 1) := by decide +kernel
theorem D157_17 : decode T157.2.2.1 17 = .ok (.ireturn, 1) := by decide +kernel
noncomputable def T158 : mT := (11, yX11_valueOf, cX11_valueOf, 3, (some .int))
set_option maxRecDepth 10000 in
theorem TE158 : sy_m[158]? = some T158 := rfl
theorem B158_0_1 : s_dk T158.2.2.1 0 [.aload_n 0] 1 = true := by decide +kernel
theorem D158_1 : decode T158.2.2.1 1 = .ok (.getfield 13, 3) := by decide +kernel
theorem B158_4_17 : s_dk T158.2.2.1 4 [.sipush 135, .bipush 16, .iload_n 1, .imul, .iadd, .bipush 9, .iadd, .iload_n 2, .iadd] 17 = true := by decide +kernel
theorem D158_17 : decode T158.2.2.1 17 = .ok (.iaload, 1) := by decide +kernel
theorem D158_18 : decode T158.2.2.1 18 = .ok (.ireturn, 1) := by decide +kernel
noncomputable def T159 : mT := (11, yX11_weightOf, cX11_weightOf, 2, (some .int))
set_option maxRecDepth 10000 in
theorem TE159 : sy_m[159]? = some T159 := rfl
theorem B159_0_1 : s_dk T159.2.2.1 0 [.aload_n 0] 1 = true := by decide +kernel
theorem D159_1 : decode T159.2.2.1 1 = .ok (.getfield 13, 3) := by decide +kernel
theorem B159_4_16 : s_dk T159.2.2.1 4 [.sipush 135, .bipush 16, .iload_n 1, .imul, .iadd, .bipush 12, .iadd, .aload_n 0] 16 = true := by decide +kernel
theorem D159_16 : decode T159.2.2.1 16 = .ok (.getfield 13, 3) := by decide +kernel
theorem B159_19_22 : s_dk T159.2.2.1 19 [.sipush 474] 22 = true := by decide +kernel
theorem D159_22 : decode T159.2.2.1 22 = .ok (.iaload, 1) := by decide +kernel
theorem B159_23_24 : s_dk T159.2.2.1 23 [.iadd] 24 = true := by decide +kernel
theorem D159_24 : decode T159.2.2.1 24 = .ok (.iaload, 1) := by decide +kernel
theorem D159_25 : decode T159.2.2.1 25 = .ok (.ireturn, 1) := by decide +kernel
noncomputable def T160 : mT := (11, yX11_isSpoken, cX11_isSpoken, 2, (some .boolean))
set_option maxRecDepth 10000 in
theorem TE160 : sy_m[160]? = some T160 := rfl
theorem B160_0_2 : s_dk T160.2.2.1 0 [.aload_n 0, .iload_n 1] 2 = true := by decide +kernel
theorem D160_2 : decode T160.2.2.1 2 = .ok (.invokevirtual 134, 3) := by decide +kernel
theorem ck_11_virtual_134 : m_call 11 (.invokevirtual 134) = some (0, 154, 1) := by decide +kernel
theorem D160_5 : decode T160.2.2.1 5 = .ok (.ifCond .eq 15, 3) := by decide +kernel
theorem B160_20_21 : s_dk T160.2.2.1 20 [.iconst 0] 21 = true := by decide +kernel
theorem D160_21 : decode T160.2.2.1 21 = .ok (.ireturn, 1) := by decide +kernel
theorem B160_8_10 : s_dk T160.2.2.1 8 [.aload_n 0, .iload_n 1] 10 = true := by decide +kernel
theorem D160_10 : decode T160.2.2.1 10 = .ok (.invokevirtual 138, 3) := by decide +kernel
theorem ck_11_virtual_138 : m_call 11 (.invokevirtual 138) = some (0, 159, 1) := by decide +kernel
theorem D160_13 : decode T160.2.2.1 13 = .ok (.ifCond .le 7, 3) := by decide +kernel
theorem B160_16_17 : s_dk T160.2.2.1 16 [.iconst 1] 17 = true := by decide +kernel
theorem D160_17 : decode T160.2.2.1 17 = .ok (.goto 4, 3) := by decide +kernel
noncomputable def T161 : mT := (11, yX11_word, cX11_word, 6, (some .int))
set_option maxRecDepth 10000 in
theorem TE161 : sy_m[161]? = some T161 := rfl
theorem B161_0_4 : s_dk T161.2.2.1 0 [.iload_n 1, .iconst 0, .bipush 29] 4 = true := by decide +kernel
theorem D161_4 : decode T161.2.2.1 4 = .ok (.invokestatic 123, 3) := by decide +kernel
theorem D161_7 : decode T161.2.2.1 7 = .ok (.ifCond .eq 41, 3) := by decide +kernel
theorem B161_48_50 : s_dk T161.2.2.1 48 [.aload_n 0, .iconst (-1)] 50 = true := by decide +kernel
theorem D161_50 : decode T161.2.2.1 50 = .ok (.invokevirtual 127, 3) := by decide +kernel
theorem ck_11_virtual_127 : m_call 11 (.invokevirtual 127) = some (0, 148, 1) := by decide +kernel
theorem D161_53 : decode T161.2.2.1 53 = .ok (.ireturn, 1) := by decide +kernel
theorem B161_10_13 : s_dk T161.2.2.1 10 [.iload_n 2, .iconst 0, .iconst 2] 13 = true := by decide +kernel
theorem D161_13 : decode T161.2.2.1 13 = .ok (.invokestatic 123, 3) := by decide +kernel
theorem D161_16 : decode T161.2.2.1 16 = .ok (.ifCond .eq 32, 3) := by decide +kernel
theorem B161_19_22 : s_dk T161.2.2.1 19 [.iload_n 3, .iload_n 2, .iconst 1] 22 = true := by decide +kernel
theorem D161_22 : decode T161.2.2.1 22 = .ok (.if_icmp .ne 7, 3) := by decide +kernel
theorem B161_29_32 : s_dk T161.2.2.1 29 [.iconst 0, .iload_n 2, .iconst 1] 32 = true := by decide +kernel
theorem D161_32 : decode T161.2.2.1 32 = .ok (.if_icmp .ne 8, 3) := by decide +kernel
theorem B161_40_42 : s_dk T161.2.2.1 40 [.bipush 9] 42 = true := by decide +kernel
theorem D161_42 : decode T161.2.2.1 42 = .ok (.invokestatic 123, 3) := by decide +kernel
theorem D161_45 : decode T161.2.2.1 45 = .ok (.ifCond .ne 9, 3) := by decide +kernel
theorem B161_54_55 : s_dk T161.2.2.1 54 [.iload_n 2] 55 = true := by decide +kernel
theorem D161_55 : decode T161.2.2.1 55 = .ok (.ifCond .ne 7, 3) := by decide +kernel
theorem B161_62_64 : s_dk T161.2.2.1 62 [.iload_n 2, .iconst 1] 64 = true := by decide +kernel
theorem D161_64 : decode T161.2.2.1 64 = .ok (.if_icmp .ne 8, 3) := by decide +kernel
theorem B161_72_79 : s_dk T161.2.2.1 72 [.bipush 60, .iload_n 1, .iadd, .istore 4, .aload_n 0] 79 = true := by decide +kernel
theorem D161_79 : decode T161.2.2.1 79 = .ok (.getfield 13, 3) := by decide +kernel
theorem B161_82_84 : s_dk T161.2.2.1 82 [.iload 4] 84 = true := by decide +kernel
theorem D161_84 : decode T161.2.2.1 84 = .ok (.iaload, 1) := by decide +kernel
theorem B161_85_88 : s_dk T161.2.2.1 85 [.istore 5, .aload_n 0] 88 = true := by decide +kernel
theorem D161_88 : decode T161.2.2.1 88 = .ok (.getfield 13, 3) := by decide +kernel
theorem B161_91_94 : s_dk T161.2.2.1 91 [.iload 4, .iload_n 3] 94 = true := by decide +kernel
theorem D161_94 : decode T161.2.2.1 94 = .ok (.iastore, 1) := by decide +kernel
theorem B161_95_98 : s_dk T161.2.2.1 95 [.aload_n 0, .iload 5] 98 = true := by decide +kernel
theorem D161_98 : decode T161.2.2.1 98 = .ok (.invokevirtual 131, 3) := by decide +kernel
theorem ck_11_virtual_131 : m_call 11 (.invokevirtual 131) = some (0, 149, 1) := by decide +kernel
theorem D161_101 : decode T161.2.2.1 101 = .ok (.ireturn, 1) := by decide +kernel
theorem B161_67_69 : s_dk T161.2.2.1 67 [.bipush 30] 69 = true := by decide +kernel
theorem D161_69 : decode T161.2.2.1 69 = .ok (.goto 5, 3) := by decide +kernel
theorem B161_74_79 : s_dk T161.2.2.1 74 [.iload_n 1, .iadd, .istore 4, .aload_n 0] 79 = true := by decide +kernel
theorem B161_58_59 : s_dk T161.2.2.1 58 [.iconst 0] 59 = true := by decide +kernel
theorem D161_59 : decode T161.2.2.1 59 = .ok (.goto 15, 3) := by decide +kernel
theorem B161_35_37 : s_dk T161.2.2.1 35 [.bipush 60] 37 = true := by decide +kernel
theorem D161_37 : decode T161.2.2.1 37 = .ok (.goto 5, 3) := by decide +kernel
theorem B161_25_26 : s_dk T161.2.2.1 25 [.iconst 1] 26 = true := by decide +kernel
theorem D161_26 : decode T161.2.2.1 26 = .ok (.goto 4, 3) := by decide +kernel
theorem B161_30_32 : s_dk T161.2.2.1 30 [.iload_n 2, .iconst 1] 32 = true := by decide +kernel
noncomputable def T162 : mT := (11, yX11_terms, cX11_terms, 5, (some .int))
set_option maxRecDepth 10000 in
theorem TE162 : sy_m[162]? = some T162 := rfl
theorem B162_0_4 : s_dk T162.2.2.1 0 [.iload_n 1, .iconst 0, .bipush 8] 4 = true := by decide +kernel
theorem D162_4 : decode T162.2.2.1 4 = .ok (.invokestatic 123, 3) := by decide +kernel
theorem D162_7 : decode T162.2.2.1 7 = .ok (.ifCond .ne 9, 3) := by decide +kernel
theorem B162_16_18 : s_dk T162.2.2.1 16 [.iload_n 1, .iconst 2] 18 = true := by decide +kernel
theorem D162_18 : decode T162.2.2.1 18 = .ok (.if_icmp .ge 8, 3) := by decide +kernel
theorem B162_26_28 : s_dk T162.2.2.1 26 [.iload_n 1, .iconst 4] 28 = true := by decide +kernel
theorem D162_28 : decode T162.2.2.1 28 = .ok (.if_icmp .lt 9, 3) := by decide +kernel
theorem B162_37_39 : s_dk T162.2.2.1 37 [.bipush 100] 39 = true := by decide +kernel
theorem D162_39 : decode T162.2.2.1 39 = .ok (.goto 6, 3) := by decide +kernel
theorem B162_45_49 : s_dk T162.2.2.1 45 [.istore_n 3, .iload_n 2, .iconst 0, .iload_n 3] 49 = true := by decide +kernel
theorem D162_49 : decode T162.2.2.1 49 = .ok (.invokestatic 123, 3) := by decide +kernel
theorem D162_52 : decode T162.2.2.1 52 = .ok (.ifCond .ne 9, 3) := by decide +kernel
theorem B162_61_63 : s_dk T162.2.2.1 61 [.aload_n 0, .iload_n 1] 63 = true := by decide +kernel
theorem D162_63 : decode T162.2.2.1 63 = .ok (.invokevirtual 141, 3) := by decide +kernel
theorem ck_11_virtual_141 : m_call 11 (.invokevirtual 141) = some (0, 153, 1) := by decide +kernel
theorem B162_66_69 : s_dk T162.2.2.1 66 [.istore 4, .aload_n 0] 69 = true := by decide +kernel
theorem D162_69 : decode T162.2.2.1 69 = .ok (.getfield 13, 3) := by decide +kernel
theorem B162_72_77 : s_dk T162.2.2.1 72 [.bipush 90, .iload_n 1, .iadd, .iload_n 2] 77 = true := by decide +kernel
theorem D162_77 : decode T162.2.2.1 77 = .ok (.iastore, 1) := by decide +kernel
theorem B162_78_81 : s_dk T162.2.2.1 78 [.aload_n 0, .iload 4] 81 = true := by decide +kernel
theorem D162_81 : decode T162.2.2.1 81 = .ok (.invokevirtual 131, 3) := by decide +kernel
theorem D162_84 : decode T162.2.2.1 84 = .ok (.ireturn, 1) := by decide +kernel
theorem B162_55_57 : s_dk T162.2.2.1 55 [.aload_n 0, .iconst (-1)] 57 = true := by decide +kernel
theorem D162_57 : decode T162.2.2.1 57 = .ok (.invokevirtual 127, 3) := by decide +kernel
theorem D162_60 : decode T162.2.2.1 60 = .ok (.ireturn, 1) := by decide +kernel
theorem B162_31_34 : s_dk T162.2.2.1 31 [.iload_n 1, .bipush 7] 34 = true := by decide +kernel
theorem D162_34 : decode T162.2.2.1 34 = .ok (.if_icmp .ne 8, 3) := by decide +kernel
theorem B162_42_49 : s_dk T162.2.2.1 42 [.sipush 1000, .istore_n 3, .iload_n 2, .iconst 0, .iload_n 3] 49 = true := by decide +kernel
theorem B162_21_23 : s_dk T162.2.2.1 21 [.bipush 60] 23 = true := by decide +kernel
theorem D162_23 : decode T162.2.2.1 23 = .ok (.goto 22, 3) := by decide +kernel
theorem B162_10_12 : s_dk T162.2.2.1 10 [.aload_n 0, .iconst (-1)] 12 = true := by decide +kernel
theorem D162_12 : decode T162.2.2.1 12 = .ok (.invokevirtual 127, 3) := by decide +kernel
theorem D162_15 : decode T162.2.2.1 15 = .ok (.ireturn, 1) := by decide +kernel
noncomputable def T163 : mT := (11, yX11_order, cX11_order, 3, (some .int))
set_option maxRecDepth 10000 in
theorem TE163 : sy_m[163]? = some T163 := rfl
theorem B163_0_3 : s_dk T163.2.2.1 0 [.iload_n 1, .iconst 0, .iconst 5] 3 = true := by decide +kernel
theorem D163_3 : decode T163.2.2.1 3 = .ok (.invokestatic 123, 3) := by decide +kernel
theorem D163_6 : decode T163.2.2.1 6 = .ok (.ifCond .ne 9, 3) := by decide +kernel
theorem B163_15_16 : s_dk T163.2.2.1 15 [.aload_n 0] 16 = true := by decide +kernel
theorem D163_16 : decode T163.2.2.1 16 = .ok (.getfield 13, 3) := by decide +kernel
theorem B163_19_22 : s_dk T163.2.2.1 19 [.sipush 473] 22 = true := by decide +kernel
theorem D163_22 : decode T163.2.2.1 22 = .ok (.iaload, 1) := by decide +kernel
theorem B163_23_25 : s_dk T163.2.2.1 23 [.istore_n 2, .aload_n 0] 25 = true := by decide +kernel
theorem D163_25 : decode T163.2.2.1 25 = .ok (.getfield 13, 3) := by decide +kernel
theorem B163_28_32 : s_dk T163.2.2.1 28 [.sipush 473, .iload_n 1] 32 = true := by decide +kernel
theorem D163_32 : decode T163.2.2.1 32 = .ok (.iastore, 1) := by decide +kernel
theorem B163_33_35 : s_dk T163.2.2.1 33 [.aload_n 0, .iload_n 2] 35 = true := by decide +kernel
theorem D163_35 : decode T163.2.2.1 35 = .ok (.invokevirtual 131, 3) := by decide +kernel
theorem D163_38 : decode T163.2.2.1 38 = .ok (.ireturn, 1) := by decide +kernel
theorem B163_9_11 : s_dk T163.2.2.1 9 [.aload_n 0, .iconst (-1)] 11 = true := by decide +kernel
theorem D163_11 : decode T163.2.2.1 11 = .ok (.invokevirtual 127, 3) := by decide +kernel
theorem D163_14 : decode T163.2.2.1 14 = .ok (.ireturn, 1) := by decide +kernel
noncomputable def T164 : mT := (11, yX11_opening, cX11_opening, 5, (some .int))
set_option maxRecDepth 10000 in
theorem TE164 : sy_m[164]? = some T164 := rfl
theorem B164_0_3 : s_dk T164.2.2.1 0 [.iload_n 1, .iconst 0, .iconst 2] 3 = true := by decide +kernel
theorem D164_3 : decode T164.2.2.1 3 = .ok (.invokestatic 123, 3) := by decide +kernel
theorem D164_6 : decode T164.2.2.1 6 = .ok (.ifCond .eq 24, 3) := by decide +kernel
theorem B164_30_32 : s_dk T164.2.2.1 30 [.aload_n 0, .iconst (-1)] 32 = true := by decide +kernel
theorem D164_32 : decode T164.2.2.1 32 = .ok (.invokevirtual 127, 3) := by decide +kernel
theorem D164_35 : decode T164.2.2.1 35 = .ok (.ireturn, 1) := by decide +kernel
theorem B164_9_14 : s_dk T164.2.2.1 9 [.iload_n 2, .iconst 1, .sipush 255] 14 = true := by decide +kernel
theorem D164_14 : decode T164.2.2.1 14 = .ok (.invokestatic 123, 3) := by decide +kernel
theorem D164_17 : decode T164.2.2.1 17 = .ok (.ifCond .eq 13, 3) := by decide +kernel
theorem B164_20_24 : s_dk T164.2.2.1 20 [.iload_n 3, .iconst 1, .bipush 9] 24 = true := by decide +kernel
theorem D164_24 : decode T164.2.2.1 24 = .ok (.invokestatic 123, 3) := by decide +kernel
theorem D164_27 : decode T164.2.2.1 27 = .ok (.ifCond .ne 9, 3) := by decide +kernel
theorem B164_36_37 : s_dk T164.2.2.1 36 [.aload_n 0] 37 = true := by decide +kernel
theorem D164_37 : decode T164.2.2.1 37 = .ok (.getfield 13, 3) := by decide +kernel
theorem B164_40_43 : s_dk T164.2.2.1 40 [.sipush 470] 43 = true := by decide +kernel
theorem D164_43 : decode T164.2.2.1 43 = .ok (.iaload, 1) := by decide +kernel
theorem B164_44_50 : s_dk T164.2.2.1 44 [.istore 4, .iload 4, .bipush 12] 50 = true := by decide +kernel
theorem D164_50 : decode T164.2.2.1 50 = .ok (.if_icmp .ne 10, 3) := by decide +kernel
theorem B164_60_61 : s_dk T164.2.2.1 60 [.aload_n 0] 61 = true := by decide +kernel
theorem D164_61 : decode T164.2.2.1 61 = .ok (.getfield 13, 3) := by decide +kernel
theorem B164_64_72 : s_dk T164.2.2.1 64 [.bipush 99, .iconst 3, .iload 4, .imul, .iadd, .iload_n 1] 72 = true := by decide +kernel
theorem D164_72 : decode T164.2.2.1 72 = .ok (.iastore, 1) := by decide +kernel
theorem B164_73_74 : s_dk T164.2.2.1 73 [.aload_n 0] 74 = true := by decide +kernel
theorem D164_74 : decode T164.2.2.1 74 = .ok (.getfield 13, 3) := by decide +kernel
theorem B164_77_87 : s_dk T164.2.2.1 77 [.bipush 99, .iconst 3, .iload 4, .imul, .iadd, .iconst 1, .iadd, .iload_n 2] 87 = true := by decide +kernel
theorem D164_87 : decode T164.2.2.1 87 = .ok (.iastore, 1) := by decide +kernel
theorem B164_88_89 : s_dk T164.2.2.1 88 [.aload_n 0] 89 = true := by decide +kernel
theorem D164_89 : decode T164.2.2.1 89 = .ok (.getfield 13, 3) := by decide +kernel
theorem B164_92_102 : s_dk T164.2.2.1 92 [.bipush 99, .iconst 3, .iload 4, .imul, .iadd, .iconst 2, .iadd, .iload_n 3] 102 = true := by decide +kernel
theorem D164_102 : decode T164.2.2.1 102 = .ok (.iastore, 1) := by decide +kernel
theorem B164_103_104 : s_dk T164.2.2.1 103 [.aload_n 0] 104 = true := by decide +kernel
theorem D164_104 : decode T164.2.2.1 104 = .ok (.getfield 13, 3) := by decide +kernel
theorem B164_107_111 : s_dk T164.2.2.1 107 [.sipush 470, .dup2] 111 = true := by decide +kernel
theorem D164_111 : decode T164.2.2.1 111 = .ok (.iaload, 1) := by decide +kernel
theorem B164_112_114 : s_dk T164.2.2.1 112 [.iconst 1, .iadd] 114 = true := by decide +kernel
theorem D164_114 : decode T164.2.2.1 114 = .ok (.iastore, 1) := by decide +kernel
theorem B164_115_118 : s_dk T164.2.2.1 115 [.aload_n 0, .iload 4] 118 = true := by decide +kernel
theorem D164_118 : decode T164.2.2.1 118 = .ok (.invokevirtual 131, 3) := by decide +kernel
theorem D164_121 : decode T164.2.2.1 121 = .ok (.ireturn, 1) := by decide +kernel
theorem B164_53_56 : s_dk T164.2.2.1 53 [.aload_n 0, .bipush (-5)] 56 = true := by decide +kernel
theorem D164_56 : decode T164.2.2.1 56 = .ok (.invokevirtual 127, 3) := by decide +kernel
theorem D164_59 : decode T164.2.2.1 59 = .ok (.ireturn, 1) := by decide +kernel
noncomputable def T165 : mT := (11, yX11_who, cX11_who, 3, (some .int))
set_option maxRecDepth 10000 in
theorem TE165 : sy_m[165]? = some T165 := rfl
theorem B165_0_3 : s_dk T165.2.2.1 0 [.iload_n 1, .iconst 0, .iconst 3] 3 = true := by decide +kernel
theorem D165_3 : decode T165.2.2.1 3 = .ok (.invokestatic 123, 3) := by decide +kernel
theorem D165_6 : decode T165.2.2.1 6 = .ok (.ifCond .ne 9, 3) := by decide +kernel
theorem B165_15_16 : s_dk T165.2.2.1 15 [.aload_n 0] 16 = true := by decide +kernel
theorem D165_16 : decode T165.2.2.1 16 = .ok (.getfield 13, 3) := by decide +kernel
theorem B165_19_22 : s_dk T165.2.2.1 19 [.sipush 474] 22 = true := by decide +kernel
theorem D165_22 : decode T165.2.2.1 22 = .ok (.iaload, 1) := by decide +kernel
theorem B165_23_25 : s_dk T165.2.2.1 23 [.istore_n 2, .aload_n 0] 25 = true := by decide +kernel
theorem D165_25 : decode T165.2.2.1 25 = .ok (.getfield 13, 3) := by decide +kernel
theorem B165_28_32 : s_dk T165.2.2.1 28 [.sipush 474, .iload_n 1] 32 = true := by decide +kernel
theorem D165_32 : decode T165.2.2.1 32 = .ok (.iastore, 1) := by decide +kernel
theorem B165_33_35 : s_dk T165.2.2.1 33 [.aload_n 0, .iload_n 2] 35 = true := by decide +kernel
theorem D165_35 : decode T165.2.2.1 35 = .ok (.invokevirtual 131, 3) := by decide +kernel
theorem D165_38 : decode T165.2.2.1 38 = .ok (.ireturn, 1) := by decide +kernel
theorem B165_9_11 : s_dk T165.2.2.1 9 [.aload_n 0, .iconst (-1)] 11 = true := by decide +kernel
theorem D165_11 : decode T165.2.2.1 11 = .ok (.invokevirtual 127, 3) := by decide +kernel
theorem D165_14 : decode T165.2.2.1 14 = .ok (.ireturn, 1) := by decide +kernel
noncomputable def T166 : mT := (11, yX11_isTapeRow, cX11_isTapeRow, 5, (some .boolean))
set_option maxRecDepth 10000 in
theorem TE166 : sy_m[166]? = some T166 := rfl
theorem B166_0_2 : s_dk T166.2.2.1 0 [.aload_n 0, .iload_n 1] 2 = true := by decide +kernel
theorem D166_2 : decode T166.2.2.1 2 = .ok (.invokevirtual 144, 3) := by decide +kernel
theorem ck_11_virtual_144 : m_call 11 (.invokevirtual 144) = some (0, 156, 1) := by decide +kernel
theorem B166_5_6 : s_dk T166.2.2.1 5 [.iload_n 2] 6 = true := by decide +kernel
theorem D166_6 : decode T166.2.2.1 6 = .ok (.if_icmp .ne 7, 3) := by decide +kernel
theorem B166_13_18 : s_dk T166.2.2.1 13 [.iconst 0, .istore_n 3, .iconst 0, .istore 4] 18 = true := by decide +kernel
theorem B166_9_10 : s_dk T166.2.2.1 9 [.iconst 1] 10 = true := by decide +kernel
theorem D166_10 : decode T166.2.2.1 10 = .ok (.goto 4, 3) := by decide +kernel
theorem B166_14_18 : s_dk T166.2.2.1 14 [.istore_n 3, .iconst 0, .istore 4] 18 = true := by decide +kernel
theorem B166_18_21 : s_dk T166.2.2.1 18 [.iload 4, .iload_n 2] 21 = true := by decide +kernel
theorem D166_21 : decode T166.2.2.1 21 = .ok (.if_icmp .ge 36, 3) := by decide +kernel
theorem B166_57_58 : s_dk T166.2.2.1 57 [.iload_n 3] 58 = true := by decide +kernel
theorem D166_58 : decode T166.2.2.1 58 = .ok (.ireturn, 1) := by decide +kernel
theorem B166_24_25 : s_dk T166.2.2.1 24 [.iload_n 3] 25 = true := by decide +kernel
theorem D166_25 : decode T166.2.2.1 25 = .ok (.ifCond .eq 32, 3) := by decide +kernel
theorem B166_28_32 : s_dk T166.2.2.1 28 [.aload_n 0, .iload_n 1, .iload 4] 32 = true := by decide +kernel
theorem D166_32 : decode T166.2.2.1 32 = .ok (.invokevirtual 147, 3) := by decide +kernel
theorem ck_11_virtual_147 : m_call 11 (.invokevirtual 147) = some (0, 157, 2) := by decide +kernel
theorem B166_35_36 : s_dk T166.2.2.1 35 [.aload_n 0] 36 = true := by decide +kernel
theorem gf_11_69_77 : s_gf 11 69 77 = some (29, 98) := by decide +kernel
theorem D166_36 : decode T166.2.2.1 36 = .ok (.getfield 69, 3) := by decide +kernel
theorem B166_39_41 : s_dk T166.2.2.1 39 [.iload 4] 41 = true := by decide +kernel
theorem D166_41 : decode T166.2.2.1 41 = .ok (.baload, 1) := by decide +kernel
theorem D166_42 : decode T166.2.2.1 42 = .ok (.if_icmp .ne 7, 3) := by decide +kernel
theorem B166_49_54 : s_dk T166.2.2.1 49 [.iconst 0, .istore_n 3, .iinc 4 1] 54 = true := by decide +kernel
theorem D166_54 : decode T166.2.2.1 54 = .ok (.goto (-36), 3) := by decide +kernel
theorem B166_45_46 : s_dk T166.2.2.1 45 [.iconst 1] 46 = true := by decide +kernel
theorem D166_46 : decode T166.2.2.1 46 = .ok (.goto 4, 3) := by decide +kernel
theorem B166_50_54 : s_dk T166.2.2.1 50 [.istore_n 3, .iinc 4 1] 54 = true := by decide +kernel
noncomputable def T168 : mT := (11, yX11_weigh, cX11_weigh, 6, (some .int))
set_option maxRecDepth 10000 in
theorem TE168 : sy_m[168]? = some T168 := rfl
theorem B168_0_3 : s_dk T168.2.2.1 0 [.iload_n 2, .iconst 0, .iconst 3] 3 = true := by decide +kernel
theorem D168_3 : decode T168.2.2.1 3 = .ok (.invokestatic 123, 3) := by decide +kernel
theorem D168_6 : decode T168.2.2.1 6 = .ok (.ifCond .eq 13, 3) := by decide +kernel
theorem B168_19_21 : s_dk T168.2.2.1 19 [.aload_n 0, .iconst (-1)] 21 = true := by decide +kernel
theorem D168_21 : decode T168.2.2.1 21 = .ok (.invokevirtual 127, 3) := by decide +kernel
theorem D168_24 : decode T168.2.2.1 24 = .ok (.ireturn, 1) := by decide +kernel
theorem B168_9_13 : s_dk T168.2.2.1 9 [.iload_n 3, .iconst 0, .bipush 100] 13 = true := by decide +kernel
theorem D168_13 : decode T168.2.2.1 13 = .ok (.invokestatic 123, 3) := by decide +kernel
theorem D168_16 : decode T168.2.2.1 16 = .ok (.ifCond .ne 9, 3) := by decide +kernel
theorem B168_25_27 : s_dk T168.2.2.1 25 [.aload_n 0, .iload_n 1] 27 = true := by decide +kernel
theorem D168_27 : decode T168.2.2.1 27 = .ok (.invokevirtual 134, 3) := by decide +kernel
theorem D168_30 : decode T168.2.2.1 30 = .ok (.ifCond .ne 10, 3) := by decide +kernel
theorem B168_40_56 : s_dk T168.2.2.1 40 [.sipush 135, .bipush 16, .iload_n 1, .imul, .iadd, .bipush 12, .iadd, .iload_n 2, .iadd, .istore 4, .aload_n 0] 56 = true := by decide +kernel
theorem D168_56 : decode T168.2.2.1 56 = .ok (.getfield 13, 3) := by decide +kernel
theorem B168_59_61 : s_dk T168.2.2.1 59 [.iload 4] 61 = true := by decide +kernel
theorem D168_61 : decode T168.2.2.1 61 = .ok (.iaload, 1) := by decide +kernel
theorem B168_62_65 : s_dk T168.2.2.1 62 [.istore 5, .aload_n 0] 65 = true := by decide +kernel
theorem D168_65 : decode T168.2.2.1 65 = .ok (.getfield 13, 3) := by decide +kernel
theorem B168_68_71 : s_dk T168.2.2.1 68 [.iload 4, .iload_n 3] 71 = true := by decide +kernel
theorem D168_71 : decode T168.2.2.1 71 = .ok (.iastore, 1) := by decide +kernel
theorem B168_72_75 : s_dk T168.2.2.1 72 [.aload_n 0, .iload 5] 75 = true := by decide +kernel
theorem D168_75 : decode T168.2.2.1 75 = .ok (.invokevirtual 131, 3) := by decide +kernel
theorem D168_78 : decode T168.2.2.1 78 = .ok (.ireturn, 1) := by decide +kernel
theorem B168_33_36 : s_dk T168.2.2.1 33 [.aload_n 0, .bipush (-2)] 36 = true := by decide +kernel
theorem D168_36 : decode T168.2.2.1 36 = .ok (.invokevirtual 127, 3) := by decide +kernel
theorem D168_39 : decode T168.2.2.1 39 = .ok (.ireturn, 1) := by decide +kernel
noncomputable def T169 : mT := (11, yX11_row, cX11_row, 3, (some .int))
set_option maxRecDepth 10000 in
theorem TE169 : sy_m[169]? = some T169 := rfl
theorem B169_0_2 : s_dk T169.2.2.1 0 [.aload_n 0, .iload_n 1] 2 = true := by decide +kernel
theorem D169_2 : decode T169.2.2.1 2 = .ok (.invokevirtual 134, 3) := by decide +kernel
theorem D169_5 : decode T169.2.2.1 5 = .ok (.ifCond .eq 18, 3) := by decide +kernel
theorem B169_23_24 : s_dk T169.2.2.1 23 [.iconst (-1)] 24 = true := by decide +kernel
theorem D169_24 : decode T169.2.2.1 24 = .ok (.ireturn, 1) := by decide +kernel
theorem B169_8_12 : s_dk T169.2.2.1 8 [.iload_n 2, .iconst (-1), .aload_n 0, .iload_n 1] 12 = true := by decide +kernel
theorem D169_12 : decode T169.2.2.1 12 = .ok (.invokevirtual 144, 3) := by decide +kernel
theorem B169_15_17 : s_dk T169.2.2.1 15 [.iconst 1, .isub] 17 = true := by decide +kernel
theorem D169_17 : decode T169.2.2.1 17 = .ok (.invokestatic 123, 3) := by decide +kernel
theorem D169_20 : decode T169.2.2.1 20 = .ok (.ifCond .ne 5, 3) := by decide +kernel
theorem B169_25_27 : s_dk T169.2.2.1 25 [.iload_n 2, .iconst (-1)] 27 = true := by decide +kernel
theorem D169_27 : decode T169.2.2.1 27 = .ok (.if_icmp .ne 11, 3) := by decide +kernel
theorem B169_38_41 : s_dk T169.2.2.1 38 [.aload_n 0, .iload_n 1, .iload_n 2] 41 = true := by decide +kernel
theorem D169_41 : decode T169.2.2.1 41 = .ok (.invokevirtual 147, 3) := by decide +kernel
theorem D169_44 : decode T169.2.2.1 44 = .ok (.ireturn, 1) := by decide +kernel
theorem B169_30_32 : s_dk T169.2.2.1 30 [.aload_n 0, .iload_n 1] 32 = true := by decide +kernel
theorem D169_32 : decode T169.2.2.1 32 = .ok (.invokevirtual 144, 3) := by decide +kernel
theorem D169_35 : decode T169.2.2.1 35 = .ok (.goto 9, 3) := by decide +kernel
noncomputable def T170 : mT := (11, yX11_begins, cX11_begins, 6, (some .boolean))
set_option maxRecDepth 10000 in
theorem TE170 : sy_m[170]? = some T170 := rfl
theorem B170_0_2 : s_dk T170.2.2.1 0 [.aload_n 0, .iload_n 1] 2 = true := by decide +kernel
theorem D170_2 : decode T170.2.2.1 2 = .ok (.invokevirtual 144, 3) := by decide +kernel
theorem B170_5_6 : s_dk T170.2.2.1 5 [.iload_n 3] 6 = true := by decide +kernel
theorem D170_6 : decode T170.2.2.1 6 = .ok (.if_icmp .lt 7, 3) := by decide +kernel
theorem B170_13_19 : s_dk T170.2.2.1 13 [.iconst 0, .istore 4, .iconst 0, .istore 5] 19 = true := by decide +kernel
theorem B170_9_10 : s_dk T170.2.2.1 9 [.iconst 1] 10 = true := by decide +kernel
theorem D170_10 : decode T170.2.2.1 10 = .ok (.goto 4, 3) := by decide +kernel
theorem B170_14_19 : s_dk T170.2.2.1 14 [.istore 4, .iconst 0, .istore 5] 19 = true := by decide +kernel
theorem B170_19_22 : s_dk T170.2.2.1 19 [.iload 5, .iload_n 3] 22 = true := by decide +kernel
theorem D170_22 : decode T170.2.2.1 22 = .ok (.if_icmp .ge 38, 3) := by decide +kernel
theorem B170_60_62 : s_dk T170.2.2.1 60 [.iload 4] 62 = true := by decide +kernel
theorem D170_62 : decode T170.2.2.1 62 = .ok (.ireturn, 1) := by decide +kernel
theorem B170_25_27 : s_dk T170.2.2.1 25 [.iload 4] 27 = true := by decide +kernel
theorem D170_27 : decode T170.2.2.1 27 = .ok (.ifCond .eq 33, 3) := by decide +kernel
theorem B170_30_34 : s_dk T170.2.2.1 30 [.aload_n 0, .iload_n 1, .iload 5] 34 = true := by decide +kernel
theorem D170_34 : decode T170.2.2.1 34 = .ok (.invokevirtual 147, 3) := by decide +kernel
theorem B170_37_41 : s_dk T170.2.2.1 37 [.aload_n 0, .iload_n 2, .iload 5] 41 = true := by decide +kernel
theorem D170_41 : decode T170.2.2.1 41 = .ok (.invokevirtual 147, 3) := by decide +kernel
theorem D170_44 : decode T170.2.2.1 44 = .ok (.if_icmp .ne 7, 3) := by decide +kernel
theorem B170_51_57 : s_dk T170.2.2.1 51 [.iconst 0, .istore 4, .iinc 5 1] 57 = true := by decide +kernel
theorem D170_57 : decode T170.2.2.1 57 = .ok (.goto (-38), 3) := by decide +kernel
theorem B170_47_48 : s_dk T170.2.2.1 47 [.iconst 1] 48 = true := by decide +kernel
theorem D170_48 : decode T170.2.2.1 48 = .ok (.goto 4, 3) := by decide +kernel
theorem B170_52_57 : s_dk T170.2.2.1 52 [.istore 4, .iinc 5 1] 57 = true := by decide +kernel
noncomputable def T171 : mT := (11, yX11_setOf, cX11_setOf, 6, (some .int))
set_option maxRecDepth 10000 in
theorem TE171 : sy_m[171]? = some T171 := rfl
theorem B171_0_6 : s_dk T171.2.2.1 0 [.iconst 0, .istore 4, .iconst 0, .istore 5] 6 = true := by decide +kernel
theorem B171_6_9 : s_dk T171.2.2.1 6 [.iload 5, .aload_n 0] 9 = true := by decide +kernel
theorem D171_9 : decode T171.2.2.1 9 = .ok (.getfield 13, 3) := by decide +kernel
theorem B171_12_15 : s_dk T171.2.2.1 12 [.sipush 469] 15 = true := by decide +kernel
theorem D171_15 : decode T171.2.2.1 15 = .ok (.iaload, 1) := by decide +kernel
theorem D171_16 : decode T171.2.2.1 16 = .ok (.if_icmp .ge 52, 3) := by decide +kernel
theorem B171_68_70 : s_dk T171.2.2.1 68 [.iload 4] 70 = true := by decide +kernel
theorem D171_70 : decode T171.2.2.1 70 = .ok (.ireturn, 1) := by decide +kernel
theorem B171_19_22 : s_dk T171.2.2.1 19 [.aload_n 0, .iload 5] 22 = true := by decide +kernel
theorem D171_22 : decode T171.2.2.1 22 = .ok (.invokevirtual 138, 3) := by decide +kernel
theorem D171_25 : decode T171.2.2.1 25 = .ok (.ifCond .le 37, 3) := by decide +kernel
theorem B171_62_65 : s_dk T171.2.2.1 62 [.iinc 5 1] 65 = true := by decide +kernel
theorem D171_65 : decode T171.2.2.1 65 = .ok (.goto (-59), 3) := by decide +kernel
theorem B171_28_33 : s_dk T171.2.2.1 28 [.aload_n 0, .iload 5, .iload_n 1, .iload_n 2] 33 = true := by decide +kernel
theorem D171_33 : decode T171.2.2.1 33 = .ok (.invokevirtual 158, 3) := by decide +kernel
theorem ck_11_virtual_158 : m_call 11 (.invokevirtual 158) = some (0, 170, 3) := by decide +kernel
theorem D171_36 : decode T171.2.2.1 36 = .ok (.ifCond .eq 26, 3) := by decide +kernel
theorem B171_39_40 : s_dk T171.2.2.1 39 [.iload_n 3] 40 = true := by decide +kernel
theorem D171_40 : decode T171.2.2.1 40 = .ok (.ifCond .eq 13, 3) := by decide +kernel
theorem B171_53_58 : s_dk T171.2.2.1 53 [.iload 4, .iconst 1, .iload 5] 58 = true := by decide +kernel
theorem D171_58 : decode T171.2.2.1 58 = .ok (.ishl, 1) := by decide +kernel
theorem D171_59 : decode T171.2.2.1 59 = .ok (.ior, 1) := by decide +kernel
theorem B171_60_65 : s_dk T171.2.2.1 60 [.istore 4, .iinc 5 1] 65 = true := by decide +kernel
theorem B171_43_46 : s_dk T171.2.2.1 43 [.aload_n 0, .iload 5] 46 = true := by decide +kernel
theorem D171_46 : decode T171.2.2.1 46 = .ok (.invokevirtual 144, 3) := by decide +kernel
theorem B171_49_50 : s_dk T171.2.2.1 49 [.iload_n 2] 50 = true := by decide +kernel
theorem D171_50 : decode T171.2.2.1 50 = .ok (.if_icmp .gt 12, 3) := by decide +kernel
noncomputable def T172 : mT := (11, yX11_valuesOf, cX11_valuesOf, 5, (some .int))
set_option maxRecDepth 10000 in
theorem TE172 : sy_m[172]? = some T172 := rfl
theorem B172_0_5 : s_dk T172.2.2.1 0 [.iconst 0, .istore_n 3, .iconst 0, .istore 4] 5 = true := by decide +kernel
theorem B172_5_8 : s_dk T172.2.2.1 5 [.iload 4, .aload_n 0] 8 = true := by decide +kernel
theorem D172_8 : decode T172.2.2.1 8 = .ok (.getfield 13, 3) := by decide +kernel
theorem B172_11_14 : s_dk T172.2.2.1 11 [.sipush 469] 14 = true := by decide +kernel
theorem D172_14 : decode T172.2.2.1 14 = .ok (.iaload, 1) := by decide +kernel
theorem D172_15 : decode T172.2.2.1 15 = .ok (.if_icmp .ge 31, 3) := by decide +kernel
theorem B172_46_47 : s_dk T172.2.2.1 46 [.iload_n 3] 47 = true := by decide +kernel
theorem D172_47 : decode T172.2.2.1 47 = .ok (.ireturn, 1) := by decide +kernel
theorem B172_18_21 : s_dk T172.2.2.1 18 [.iload_n 1, .iload 4] 21 = true := by decide +kernel
theorem D172_21 : decode T172.2.2.1 21 = .ok (.ishr, 1) := by decide +kernel
theorem B172_22_23 : s_dk T172.2.2.1 22 [.iconst 1] 23 = true := by decide +kernel
theorem D172_23 : decode T172.2.2.1 23 = .ok (.iand, 1) := by decide +kernel
theorem B172_24_25 : s_dk T172.2.2.1 24 [.iconst 1] 25 = true := by decide +kernel
theorem D172_25 : decode T172.2.2.1 25 = .ok (.if_icmp .ne 15, 3) := by decide +kernel
theorem B172_40_43 : s_dk T172.2.2.1 40 [.iinc 4 1] 43 = true := by decide +kernel
theorem D172_43 : decode T172.2.2.1 43 = .ok (.goto (-38), 3) := by decide +kernel
theorem B172_28_34 : s_dk T172.2.2.1 28 [.iload_n 3, .iconst 1, .aload_n 0, .iload 4, .iload_n 2] 34 = true := by decide +kernel
theorem D172_34 : decode T172.2.2.1 34 = .ok (.invokevirtual 161, 3) := by decide +kernel
theorem ck_11_virtual_161 : m_call 11 (.invokevirtual 161) = some (0, 158, 2) := by decide +kernel
theorem D172_37 : decode T172.2.2.1 37 = .ok (.ishl, 1) := by decide +kernel
theorem D172_38 : decode T172.2.2.1 38 = .ok (.ior, 1) := by decide +kernel
theorem B172_39_43 : s_dk T172.2.2.1 39 [.istore_n 3, .iinc 4 1] 43 = true := by decide +kernel
noncomputable def T173 : mT := (11, yX11_weightOfAll, cX11_weightOfAll, 4, (some .int))
set_option maxRecDepth 10000 in
theorem TE173 : sy_m[173]? = some T173 := rfl
theorem B173_0_4 : s_dk T173.2.2.1 0 [.iconst 0, .istore_n 2, .iconst 0, .istore_n 3] 4 = true := by decide +kernel
theorem B173_4_6 : s_dk T173.2.2.1 4 [.iload_n 3, .aload_n 0] 6 = true := by decide +kernel
theorem D173_6 : decode T173.2.2.1 6 = .ok (.getfield 13, 3) := by decide +kernel
theorem B173_9_12 : s_dk T173.2.2.1 9 [.sipush 469] 12 = true := by decide +kernel
theorem D173_12 : decode T173.2.2.1 12 = .ok (.iaload, 1) := by decide +kernel
theorem D173_13 : decode T173.2.2.1 13 = .ok (.if_icmp .ge 30, 3) := by decide +kernel
theorem B173_43_44 : s_dk T173.2.2.1 43 [.iload_n 2] 44 = true := by decide +kernel
theorem D173_44 : decode T173.2.2.1 44 = .ok (.ireturn, 1) := by decide +kernel
theorem B173_16_19 : s_dk T173.2.2.1 16 [.iload_n 2, .iload_n 1, .iload_n 3] 19 = true := by decide +kernel
theorem D173_19 : decode T173.2.2.1 19 = .ok (.ishr, 1) := by decide +kernel
theorem B173_20_21 : s_dk T173.2.2.1 20 [.iconst 1] 21 = true := by decide +kernel
theorem D173_21 : decode T173.2.2.1 21 = .ok (.iand, 1) := by decide +kernel
theorem B173_22_23 : s_dk T173.2.2.1 22 [.iconst 1] 23 = true := by decide +kernel
theorem D173_23 : decode T173.2.2.1 23 = .ok (.if_icmp .ne 11, 3) := by decide +kernel
theorem B173_34_40 : s_dk T173.2.2.1 34 [.iconst 0, .iadd, .istore_n 2, .iinc 3 1] 40 = true := by decide +kernel
theorem D173_40 : decode T173.2.2.1 40 = .ok (.goto (-36), 3) := by decide +kernel
theorem B173_26_28 : s_dk T173.2.2.1 26 [.aload_n 0, .iload_n 3] 28 = true := by decide +kernel
theorem D173_28 : decode T173.2.2.1 28 = .ok (.invokevirtual 138, 3) := by decide +kernel
theorem D173_31 : decode T173.2.2.1 31 = .ok (.goto 4, 3) := by decide +kernel
theorem B173_35_40 : s_dk T173.2.2.1 35 [.iadd, .istore_n 2, .iinc 3 1] 40 = true := by decide +kernel
noncomputable def T174 : mT := (11, yX11_weightOfValue, cX11_weightOfValue, 6, (some .int))
set_option maxRecDepth 10000 in
theorem TE174 : sy_m[174]? = some T174 := rfl
theorem B174_0_6 : s_dk T174.2.2.1 0 [.iconst 0, .istore 4, .iconst 0, .istore 5] 6 = true := by decide +kernel
theorem B174_6_9 : s_dk T174.2.2.1 6 [.iload 5, .aload_n 0] 9 = true := by decide +kernel
theorem D174_9 : decode T174.2.2.1 9 = .ok (.getfield 13, 3) := by decide +kernel
theorem B174_12_15 : s_dk T174.2.2.1 12 [.sipush 469] 15 = true := by decide +kernel
theorem D174_15 : decode T174.2.2.1 15 = .ok (.iaload, 1) := by decide +kernel
theorem D174_16 : decode T174.2.2.1 16 = .ok (.if_icmp .ge 45, 3) := by decide +kernel
theorem B174_61_63 : s_dk T174.2.2.1 61 [.iload 4] 63 = true := by decide +kernel
theorem D174_63 : decode T174.2.2.1 63 = .ok (.ireturn, 1) := by decide +kernel
theorem B174_19_24 : s_dk T174.2.2.1 19 [.iload 4, .iload_n 1, .iload 5] 24 = true := by decide +kernel
theorem D174_24 : decode T174.2.2.1 24 = .ok (.ishr, 1) := by decide +kernel
theorem B174_25_26 : s_dk T174.2.2.1 25 [.iconst 1] 26 = true := by decide +kernel
theorem D174_26 : decode T174.2.2.1 26 = .ok (.iand, 1) := by decide +kernel
theorem B174_27_28 : s_dk T174.2.2.1 27 [.iconst 1] 28 = true := by decide +kernel
theorem D174_28 : decode T174.2.2.1 28 = .ok (.if_icmp .ne 23, 3) := by decide +kernel
theorem B174_51_58 : s_dk T174.2.2.1 51 [.iconst 0, .iadd, .istore 4, .iinc 5 1] 58 = true := by decide +kernel
theorem D174_58 : decode T174.2.2.1 58 = .ok (.goto (-52), 3) := by decide +kernel
theorem B174_31_35 : s_dk T174.2.2.1 31 [.aload_n 0, .iload 5, .iload_n 2] 35 = true := by decide +kernel
theorem D174_35 : decode T174.2.2.1 35 = .ok (.invokevirtual 161, 3) := by decide +kernel
theorem B174_38_39 : s_dk T174.2.2.1 38 [.iload_n 3] 39 = true := by decide +kernel
theorem D174_39 : decode T174.2.2.1 39 = .ok (.if_icmp .ne 12, 3) := by decide +kernel
theorem B174_42_45 : s_dk T174.2.2.1 42 [.aload_n 0, .iload 5] 45 = true := by decide +kernel
theorem D174_45 : decode T174.2.2.1 45 = .ok (.invokevirtual 138, 3) := by decide +kernel
theorem D174_48 : decode T174.2.2.1 48 = .ok (.goto 4, 3) := by decide +kernel
theorem B174_52_58 : s_dk T174.2.2.1 52 [.iadd, .istore 4, .iinc 5 1] 58 = true := by decide +kernel
noncomputable def T175 : mT := (11, yX11_ones, cX11_ones, 3, (some .int))
set_option maxRecDepth 10000 in
theorem TE175 : sy_m[175]? = some T175 := rfl
theorem B175_0_4 : s_dk T175.2.2.1 0 [.iconst 0, .istore_n 1, .iconst 0, .istore_n 2] 4 = true := by decide +kernel
theorem B175_4_7 : s_dk T175.2.2.1 4 [.iload_n 2, .bipush 16] 7 = true := by decide +kernel
theorem D175_7 : decode T175.2.2.1 7 = .ok (.if_icmp .ge 17, 3) := by decide +kernel
theorem B175_10_13 : s_dk T175.2.2.1 10 [.iload_n 1, .iload_n 0, .iload_n 2] 13 = true := by decide +kernel
theorem D175_13 : decode T175.2.2.1 13 = .ok (.ishr, 1) := by decide +kernel
theorem B175_14_15 : s_dk T175.2.2.1 14 [.iconst 1] 15 = true := by decide +kernel
theorem D175_15 : decode T175.2.2.1 15 = .ok (.iand, 1) := by decide +kernel
theorem B175_16_21 : s_dk T175.2.2.1 16 [.iadd, .istore_n 1, .iinc 2 1] 21 = true := by decide +kernel
theorem D175_21 : decode T175.2.2.1 21 = .ok (.goto (-17), 3) := by decide +kernel
theorem B175_24_25 : s_dk T175.2.2.1 24 [.iload_n 1] 25 = true := by decide +kernel
theorem D175_25 : decode T175.2.2.1 25 = .ok (.ireturn, 1) := by decide +kernel
noncomputable def T176 : mT := (11, yX11_alone, cX11_alone, 3, (some .int))
set_option maxRecDepth 10000 in
theorem TE176 : sy_m[176]? = some T176 := rfl
theorem B176_0_4 : s_dk T176.2.2.1 0 [.iconst (-1), .istore_n 1, .iconst 0, .istore_n 2] 4 = true := by decide +kernel
theorem B176_4_7 : s_dk T176.2.2.1 4 [.iload_n 2, .bipush 8] 7 = true := by decide +kernel
theorem D176_7 : decode T176.2.2.1 7 = .ok (.if_icmp .ge 18, 3) := by decide +kernel
theorem B176_10_13 : s_dk T176.2.2.1 10 [.iload_n 0, .iconst 1, .iload_n 2] 13 = true := by decide +kernel
theorem D176_13 : decode T176.2.2.1 13 = .ok (.ishl, 1) := by decide +kernel
theorem D176_14 : decode T176.2.2.1 14 = .ok (.if_icmp .ne 5, 3) := by decide +kernel
theorem B176_19_22 : s_dk T176.2.2.1 19 [.iinc 2 1] 22 = true := by decide +kernel
theorem D176_22 : decode T176.2.2.1 22 = .ok (.goto (-18), 3) := by decide +kernel
theorem B176_17_22 : s_dk T176.2.2.1 17 [.iload_n 2, .istore_n 1, .iinc 2 1] 22 = true := by decide +kernel
theorem B176_25_26 : s_dk T176.2.2.1 25 [.iload_n 1] 26 = true := by decide +kernel
theorem D176_26 : decode T176.2.2.1 26 = .ok (.ireturn, 1) := by decide +kernel
noncomputable def T180 : mT := (11, yX11_openingFor, cX11_openingFor, 6, (some .int))
set_option maxRecDepth 10000 in
theorem TE180 : sy_m[180]? = some T180 := rfl
theorem B180_0_5 : s_dk T180.2.2.1 0 [.iconst (-1), .istore_n 3, .iconst 0, .istore 4] 5 = true := by decide +kernel
theorem B180_5_8 : s_dk T180.2.2.1 5 [.iload 4, .aload_n 0] 8 = true := by decide +kernel
theorem D180_8 : decode T180.2.2.1 8 = .ok (.getfield 13, 3) := by decide +kernel
theorem B180_11_14 : s_dk T180.2.2.1 11 [.sipush 470] 14 = true := by decide +kernel
theorem D180_14 : decode T180.2.2.1 14 = .ok (.iaload, 1) := by decide +kernel
theorem D180_15 : decode T180.2.2.1 15 = .ok (.if_icmp .ge 81, 3) := by decide +kernel
theorem B180_96_97 : s_dk T180.2.2.1 96 [.iload_n 3] 97 = true := by decide +kernel
theorem D180_97 : decode T180.2.2.1 97 = .ok (.ireturn, 1) := by decide +kernel
theorem B180_18_28 : s_dk T180.2.2.1 18 [.bipush 99, .iconst 3, .iload 4, .imul, .iadd, .istore 5, .aload_n 0] 28 = true := by decide +kernel
theorem D180_28 : decode T180.2.2.1 28 = .ok (.getfield 13, 3) := by decide +kernel
theorem B180_31_33 : s_dk T180.2.2.1 31 [.iload 5] 33 = true := by decide +kernel
theorem D180_33 : decode T180.2.2.1 33 = .ok (.iaload, 1) := by decide +kernel
theorem B180_34_35 : s_dk T180.2.2.1 34 [.iload_n 1] 35 = true := by decide +kernel
theorem D180_35 : decode T180.2.2.1 35 = .ok (.if_icmp .ne 55, 3) := by decide +kernel
theorem B180_90_93 : s_dk T180.2.2.1 90 [.iinc 4 1] 93 = true := by decide +kernel
theorem D180_93 : decode T180.2.2.1 93 = .ok (.goto (-88), 3) := by decide +kernel
theorem B180_38_40 : s_dk T180.2.2.1 38 [.iload_n 2, .aload_n 0] 40 = true := by decide +kernel
theorem D180_40 : decode T180.2.2.1 40 = .ok (.getfield 13, 3) := by decide +kernel
theorem B180_43_47 : s_dk T180.2.2.1 43 [.iload 5, .iconst 1, .iadd] 47 = true := by decide +kernel
theorem D180_47 : decode T180.2.2.1 47 = .ok (.iaload, 1) := by decide +kernel
theorem B180_48_49 : s_dk T180.2.2.1 48 [.iconst (-1)] 49 = true := by decide +kernel
theorem D180_49 : decode T180.2.2.1 49 = .ok (.ixor, 1) := by decide +kernel
theorem D180_50 : decode T180.2.2.1 50 = .ok (.iand, 1) := by decide +kernel
theorem D180_51 : decode T180.2.2.1 51 = .ok (.ifCond .eq 6, 3) := by decide +kernel
theorem B180_57_59 : s_dk T180.2.2.1 57 [.iload_n 3, .iconst (-1)] 59 = true := by decide +kernel
theorem D180_59 : decode T180.2.2.1 59 = .ok (.if_icmp .eq 28, 3) := by decide +kernel
theorem B180_87_93 : s_dk T180.2.2.1 87 [.iload 4, .istore_n 3, .iinc 4 1] 93 = true := by decide +kernel
theorem D180_54 : decode T180.2.2.1 54 = .ok (.goto 36, 3) := by decide +kernel
theorem B180_62_63 : s_dk T180.2.2.1 62 [.aload_n 0] 63 = true := by decide +kernel
theorem D180_63 : decode T180.2.2.1 63 = .ok (.getfield 13, 3) := by decide +kernel
theorem B180_66_70 : s_dk T180.2.2.1 66 [.iload 5, .iconst 2, .iadd] 70 = true := by decide +kernel
theorem D180_70 : decode T180.2.2.1 70 = .ok (.iaload, 1) := by decide +kernel
theorem B180_71_72 : s_dk T180.2.2.1 71 [.aload_n 0] 72 = true := by decide +kernel
theorem D180_72 : decode T180.2.2.1 72 = .ok (.getfield 13, 3) := by decide +kernel
theorem B180_75_83 : s_dk T180.2.2.1 75 [.bipush 99, .iconst 3, .iload_n 3, .imul, .iadd, .iconst 2, .iadd] 83 = true := by decide +kernel
theorem D180_83 : decode T180.2.2.1 83 = .ok (.iaload, 1) := by decide +kernel
theorem D180_84 : decode T180.2.2.1 84 = .ok (.if_icmp .ge 6, 3) := by decide +kernel
noncomputable def T177 : mT := (11, yX11_fixed, cX11_fixed, 4, (some .int))
set_option maxRecDepth 10000 in
theorem TE177 : sy_m[177]? = some T177 := rfl
theorem B177_0_2 : s_dk T177.2.2.1 0 [.aload_n 0, .iload_n 1] 2 = true := by decide +kernel
theorem D177_2 : decode T177.2.2.1 2 = .ok (.invokevirtual 164, 3) := by decide +kernel
theorem ck_11_virtual_164 : m_call 11 (.invokevirtual 164) = some (0, 160, 1) := by decide +kernel
theorem D177_5 : decode T177.2.2.1 5 = .ok (.ifCond .eq 12, 3) := by decide +kernel
theorem B177_17_18 : s_dk T177.2.2.1 17 [.iconst (-1)] 18 = true := by decide +kernel
theorem D177_18 : decode T177.2.2.1 18 = .ok (.ireturn, 1) := by decide +kernel
theorem B177_8_11 : s_dk T177.2.2.1 8 [.iload_n 2, .iconst 0, .iconst 2] 11 = true := by decide +kernel
theorem D177_11 : decode T177.2.2.1 11 = .ok (.invokestatic 123, 3) := by decide +kernel
theorem D177_14 : decode T177.2.2.1 14 = .ok (.ifCond .ne 5, 3) := by decide +kernel
theorem B177_19_21 : s_dk T177.2.2.1 19 [.iconst 0, .istore_n 3] 21 = true := by decide +kernel
theorem B177_21_24 : s_dk T177.2.2.1 21 [.iload_n 3, .aload_n 0, .iload_n 1] 24 = true := by decide +kernel
theorem D177_24 : decode T177.2.2.1 24 = .ok (.invokevirtual 144, 3) := by decide +kernel
theorem D177_27 : decode T177.2.2.1 27 = .ok (.if_icmp .ge 32, 3) := by decide +kernel
theorem B177_59_61 : s_dk T177.2.2.1 59 [.aload_n 0, .iload_n 1] 61 = true := by decide +kernel
theorem D177_61 : decode T177.2.2.1 61 = .ok (.invokevirtual 144, 3) := by decide +kernel
theorem D177_64 : decode T177.2.2.1 64 = .ok (.ireturn, 1) := by decide +kernel
theorem B177_30_37 : s_dk T177.2.2.1 30 [.aload_n 0, .aload_n 0, .iload_n 1, .iload_n 3, .iconst 1, .iadd, .iconst 0] 37 = true := by decide +kernel
theorem D177_37 : decode T177.2.2.1 37 = .ok (.invokevirtual 167, 3) := by decide +kernel
theorem ck_11_virtual_167 : m_call 11 (.invokevirtual 167) = some (0, 171, 3) := by decide +kernel
theorem B177_40_41 : s_dk T177.2.2.1 40 [.iload_n 2] 41 = true := by decide +kernel
theorem D177_41 : decode T177.2.2.1 41 = .ok (.invokevirtual 171, 3) := by decide +kernel
theorem ck_11_virtual_171 : m_call 11 (.invokevirtual 171) = some (0, 172, 2) := by decide +kernel
theorem D177_44 : decode T177.2.2.1 44 = .ok (.invokestatic 174, 3) := by decide +kernel
theorem ck_11_static_174 : m_call 11 (.invokestatic 174) = some (1, 175, 1) := by decide +kernel
theorem B177_47_48 : s_dk T177.2.2.1 47 [.iconst 1] 48 = true := by decide +kernel
theorem D177_48 : decode T177.2.2.1 48 = .ok (.if_icmp .ne 5, 3) := by decide +kernel
theorem B177_53_56 : s_dk T177.2.2.1 53 [.iinc 3 1] 56 = true := by decide +kernel
theorem D177_56 : decode T177.2.2.1 56 = .ok (.goto (-35), 3) := by decide +kernel
theorem B177_51_52 : s_dk T177.2.2.1 51 [.iload_n 3] 52 = true := by decide +kernel
theorem D177_52 : decode T177.2.2.1 52 = .ok (.ireturn, 1) := by decide +kernel
noncomputable def T181 : mT := (11, yX11_fits, cX11_fits, 5, (some .int))
set_option maxRecDepth 10000 in
theorem TE181 : sy_m[181]? = some T181 := rfl
theorem B181_0_2 : s_dk T181.2.2.1 0 [.aload_n 0, .iload_n 1] 2 = true := by decide +kernel
theorem D181_2 : decode T181.2.2.1 2 = .ok (.invokevirtual 134, 3) := by decide +kernel
theorem D181_5 : decode T181.2.2.1 5 = .ok (.ifCond .eq 25, 3) := by decide +kernel
theorem B181_30_31 : s_dk T181.2.2.1 30 [.iconst (-1)] 31 = true := by decide +kernel
theorem D181_31 : decode T181.2.2.1 31 = .ok (.ireturn, 1) := by decide +kernel
theorem B181_8_12 : s_dk T181.2.2.1 8 [.iload_n 2, .iconst 1, .aload_n 0, .iload_n 1] 12 = true := by decide +kernel
theorem D181_12 : decode T181.2.2.1 12 = .ok (.invokevirtual 144, 3) := by decide +kernel
theorem D181_15 : decode T181.2.2.1 15 = .ok (.invokestatic 123, 3) := by decide +kernel
theorem D181_18 : decode T181.2.2.1 18 = .ok (.ifCond .eq 12, 3) := by decide +kernel
theorem B181_21_24 : s_dk T181.2.2.1 21 [.iload_n 3, .iconst 0, .iconst 2] 24 = true := by decide +kernel
theorem D181_24 : decode T181.2.2.1 24 = .ok (.invokestatic 123, 3) := by decide +kernel
theorem D181_27 : decode T181.2.2.1 27 = .ok (.ifCond .ne 5, 3) := by decide +kernel
theorem B181_32_36 : s_dk T181.2.2.1 32 [.aload_n 0, .iload_n 1, .iload_n 2, .iconst 0] 36 = true := by decide +kernel
theorem D181_36 : decode T181.2.2.1 36 = .ok (.invokevirtual 167, 3) := by decide +kernel
theorem B181_39_43 : s_dk T181.2.2.1 39 [.istore 4, .iload 4] 43 = true := by decide +kernel
theorem D181_43 : decode T181.2.2.1 43 = .ok (.ifCond .ne 7, 3) := by decide +kernel
theorem B181_50_56 : s_dk T181.2.2.1 50 [.aload_n 0, .iload_n 3, .aload_n 0, .iload 4, .iload_n 3] 56 = true := by decide +kernel
theorem D181_56 : decode T181.2.2.1 56 = .ok (.invokevirtual 171, 3) := by decide +kernel
theorem D181_59 : decode T181.2.2.1 59 = .ok (.invokevirtual 187, 3) := by decide +kernel
theorem ck_11_virtual_187 : m_call 11 (.invokevirtual 187) = some (0, 180, 2) := by decide +kernel
theorem D181_62 : decode T181.2.2.1 62 = .ok (.ireturn, 1) := by decide +kernel
theorem B181_46_47 : s_dk T181.2.2.1 46 [.iconst (-1)] 47 = true := by decide +kernel
theorem D181_47 : decode T181.2.2.1 47 = .ok (.goto 15, 3) := by decide +kernel
set_option maxRecDepth 4000 in
theorem k147 {base : Nat} {X : Nat → Option mC} {G : Nat → Value} (E : EnvOK base X G) {d : Nat} (hd : 0 ≤ d) {M : mH} (H : HI base M) (v_ : Int) (low : Int) (high : Int) (h0 : -2147483648 ≤ v_ ∧ v_ ≤ 2147483647) (h1 : -2147483648 ≤ low ∧ low ≤ 2147483647) (h2 : -2147483648 ≤ high ∧ high ≤ 2147483647) : sOk base X G d T147 [vI v_, vI low, vI high] M (pI (fun v M' => M' = M ∧ (v = 0 ∨ v = 1) ∧ (v = 1 → low ≤ v_ ∧ v_ ≤ high) ∧ (v = 0 → v_ < low ∨ high < v_))) := by
  refine sOk.of (show sRn base X G d T147 0 [(0, vI v_), (1, vI low), (2, vI high)] [] M _ from ?_)
  refine s_blx (lv' := [(0, vI v_), (1, vI low), (2, vI high)]) (st' := [vI low, vI v_]) B147_0_2 rfl ?_
  refine r_icmp (tgt := 14) (pc' := 5) D147_2 rfl rfl (by unfold inR; omega) (fun (c1 : v_ < low) => ?_) (fun (c1 : ¬ (v_ < low)) => ?_)
  · refine s_blx (lv' := [(0, vI v_), (1, vI low), (2, vI high)]) (st' := [vI 0]) B147_14_15 rfl ?_
    exact r_zretI D147_15 rfl (by omega) (⟨rfl, by omega, by omega, by omega⟩)
  · refine s_blx (lv' := [(0, vI v_), (1, vI low), (2, vI high)]) (st' := [vI high, vI v_]) B147_5_7 rfl ?_
    refine r_icmp (tgt := 14) (pc' := 10) D147_7 rfl rfl (by unfold inR; omega) (fun (c2 : high < v_) => ?_) (fun (c2 : ¬ (high < v_)) => ?_)
    · refine s_blx (lv' := [(0, vI v_), (1, vI low), (2, vI high)]) (st' := [vI 0]) B147_14_15 rfl ?_
      exact r_zretI D147_15 rfl (by omega) (⟨rfl, by omega, by omega, by omega⟩)
    · refine s_blx (lv' := [(0, vI v_), (1, vI low), (2, vI high)]) (st' := [vI 1]) B147_10_11 rfl ?_
      refine r_goto (tgt := 15) D147_11 rfl ?_
      exact r_zretI D147_15 rfl (by omega) (⟨rfl, by omega, by omega, by omega⟩)
set_option maxRecDepth 4000 in
theorem k148 {base : Nat} {X : Nat → Option mC} {G : Nat → Value} (E : EnvOK base X G) {d : Nat} (hd : 0 ≤ d) {M : mH} (H : HI base M) (k : Int) (h0 : -2147483648 ≤ k ∧ k ≤ 2147483647) : sOk base X G d T148 [vR 77, vI k] M (pI (fun v M' => HI base M' ∧ Fr [(77, 1)] M M' ∧ (v = k))) := by
  have f0 : Fr [(77, 1)] M M := Fr.rf
  refine sOk.of (show sRn base X G d T148 0 [(0, vR 77), (1, vI k)] [] M _ from ?_)
  refine s_blx (lv' := [(0, vR 77), (1, vI k)]) (st' := [vI k, vR 77]) B148_0_2 rfl ?_
  refine r_pint (ki := 0) (pc' := 5) D148_2 rfl pf_11_3_77 rfl H (by unfold inR; omega) trivial ?_
  intro M1 u2 H3 p4
  have f5 := f0.wr u2 rfl
  refine s_blx (lv' := [(0, vR 77), (1, vI k)]) (st' := [vI k]) B148_5_6 rfl ?_
  exact r_iretI D148_6 rfl (⟨H3, f5, by omega⟩)
set_option maxRecDepth 4000 in
theorem k149 {base : Nat} {X : Nat → Option mC} {G : Nat → Value} (E : EnvOK base X G) {d : Nat} (hd : 0 ≤ d) {M : mH} (H : HI base M) (v_ : Int) (h0 : -2147483648 ≤ v_ ∧ v_ ≤ 2147483647) : sOk base X G d T149 [vR 77, vI v_] M (pI (fun v M' => HI base M' ∧ Fr [(77, 1)] M M' ∧ (v = v_))) := by
  have f0 : Fr [(77, 1)] M M := Fr.rf
  refine sOk.of (show sRn base X G d T149 0 [(0, vR 77), (1, vI v_)] [] M _ from ?_)
  refine s_blx (lv' := [(0, vR 77), (1, vI v_)]) (st' := [vI 0, vR 77]) B149_0_2 rfl ?_
  refine r_pint (ki := 0) (pc' := 5) D149_2 rfl pf_11_3_77 rfl H (by unfold inR; omega) trivial ?_
  intro M1 u2 H3 p4
  have f5 := f0.wr u2 rfl
  refine s_blx (lv' := [(0, vR 77), (1, vI v_)]) (st' := [vI v_]) B149_5_6 rfl ?_
  exact r_iretI D149_6 rfl (⟨H3, f5, by omega⟩)
set_option maxRecDepth 4000 in
theorem k153 {base : Nat} {X : Nat → Option mC} {G : Nat → Value} (E : EnvOK base X G) {d : Nat} (hd : 0 ≤ d) {M : mH} (H : HI base M) (what : Int) (h0 : 0 ≤ what ∧ what ≤ 8) : sOk base X G d T153 [vR 77, vI what] M (pI (fun v M' => M' = M ∧ (0 ≤ v ∧ v ≤ 1000))) := by
  refine sOk.of (show sRn base X G d T153 0 [(0, vR 77), (1, vI what)] [] M _ from ?_)
  refine s_blx (lv' := [(0, vR 77), (1, vI what)]) (st' := [vR 77]) B153_0_1 rfl ?_
  refine r_gfix (r := 78) (pc' := 4) D153_1 rfl gf_11_13_77 H.1 ?_
  refine s_blx (lv' := [(0, vR 77), (1, vI what)]) (st' := [vI (90 + what), vR 78]) B153_4_8 rfl ?_
  refine r_iald (pc' := 9) D153_8 rfl sc_78 H.1 (by omega) ?_
  intro w1 e2 r3
  have b_w1 := H.2 78 (90 + what) 0 1000 (rk_term (by omega))
  rw [← e2] at b_w1; clear r3
  exact r_iretI D153_9 rfl (⟨rfl, by omega⟩)
set_option maxRecDepth 4000 in
theorem k154 {base : Nat} {X : Nat → Option mC} {G : Nat → Value} (E : EnvOK base X G) {d : Nat} (hd : 1 ≤ d) {M : mH} (H : HI base M) (s : Int) (h0 : -2147483648 ≤ s ∧ s ≤ 2147483647) : sOk base X G d T154 [vR 77, vI s] M (pI (fun v M' => M' = M ∧ (v = 0 ∨ v = 1) ∧ (v = 1 → 0 ≤ s ∧ s ≤ 15))) := by
  refine sOk.of (show sRn base X G d T154 0 [(0, vR 77), (1, vI s)] [] M _ from ?_)
  refine s_blx (lv' := [(0, vR 77), (1, vI s)]) (st' := [vR 77, vI 0, vI s]) B154_0_3 rfl ?_
  refine r_gfix (r := 78) (pc' := 6) D154_3 rfl gf_11_13_77 H.1 ?_
  refine s_blx (lv' := [(0, vR 77), (1, vI s)]) (st' := [vI 469, vR 78, vI 0, vI s]) B154_6_9 rfl ?_
  refine r_iald (pc' := 10) D154_9 rfl sc_78 H.1 (by omega) ?_
  intro w1 e2 r3
  have b_w1 := H.2 78 (469) 0 16 (rk_many (by omega))
  rw [← e2] at b_w1; clear r3
  refine s_blx (lv' := [(0, vR 77), (1, vI s)]) (st' := [vI (w1 - 1), vI 0, vI s]) B154_10_12 rfl ?_
  refine r_sIp (args := [vI s, vI 0, vI (w1 - 1)]) (rest := []) (pc' := 15) D154_12 rfl ck_11_static_123 TE147 rfl (Nat.le_of_ble_eq_true rfl) ⟨Nat.le_of_ble_eq_true rfl, Nat.le_of_ble_eq_true rfl⟩ (by decide) (dp_0 hd rfl) (k147 E (dp_n hd rfl) H s 0 (w1 - 1) (by omega) (by omega) (by omega)) ?_
  intro v4 q9
  obtain ⟨q6, q7, q8⟩ := q9
  exact r_zretI D154_15 rfl (by omega) (⟨rfl, by omega, by omega⟩)
set_option maxRecDepth 4000 in
theorem k155 {base : Nat} {X : Nat → Option mC} {G : Nat → Value} (E : EnvOK base X G) {d : Nat} (hd : 1 ≤ d) {M : mH} (H : HI base M) (t : Int) (h0 : -2147483648 ≤ t ∧ t ≤ 2147483647) : sOk base X G d T155 [vR 77, vI t] M (pI (fun v M' => M' = M ∧ (v = 0 ∨ v = 1) ∧ (v = 1 → 0 ≤ t ∧ t ≤ 7))) := by
  refine sOk.of (show sRn base X G d T155 0 [(0, vR 77), (1, vI t)] [] M _ from ?_)
  refine s_blx (lv' := [(0, vR 77), (1, vI t)]) (st' := [vR 77, vI 0, vI t]) B155_0_3 rfl ?_
  refine r_gfix (r := 78) (pc' := 6) D155_3 rfl gf_11_13_77 H.1 ?_
  refine s_blx (lv' := [(0, vR 77), (1, vI t)]) (st' := [vI 471, vR 78, vI 0, vI t]) B155_6_9 rfl ?_
  refine r_iald (pc' := 10) D155_9 rfl sc_78 H.1 (by omega) ?_
  intro w1 e2 r3
  have b_w1 := H.2 78 (471) 0 8 (rk_told (by omega))
  rw [← e2] at b_w1; clear r3
  refine s_blx (lv' := [(0, vR 77), (1, vI t)]) (st' := [vI (w1 - 1), vI 0, vI t]) B155_10_12 rfl ?_
  refine r_sIp (args := [vI t, vI 0, vI (w1 - 1)]) (rest := []) (pc' := 15) D155_12 rfl ck_11_static_123 TE147 rfl (Nat.le_of_ble_eq_true rfl) ⟨Nat.le_of_ble_eq_true rfl, Nat.le_of_ble_eq_true rfl⟩ (by decide) (dp_0 hd rfl) (k147 E (dp_n hd rfl) H t 0 (w1 - 1) (by omega) (by omega) (by omega)) ?_
  intro v4 q9
  obtain ⟨q6, q7, q8⟩ := q9
  exact r_zretI D155_15 rfl (by omega) (⟨rfl, by omega, by omega⟩)
set_option maxRecDepth 4000 in
theorem k156 {base : Nat} {X : Nat → Option mC} {G : Nat → Value} (E : EnvOK base X G) {d : Nat} (hd : 0 ≤ d) {M : mH} (H : HI base M) (s : Int) (h0 : 0 ≤ s ∧ s ≤ 15) : sOk base X G d T156 [vR 77, vI s] M (pI (fun v M' => M' = M ∧ (0 ≤ v ∧ v ≤ 8))) := by
  refine sOk.of (show sRn base X G d T156 0 [(0, vR 77), (1, vI s)] [] M _ from ?_)
  refine s_blx (lv' := [(0, vR 77), (1, vI s)]) (st' := [vR 77]) B156_0_1 rfl ?_
  refine r_gfix (r := 78) (pc' := 4) D156_1 rfl gf_11_13_77 H.1 ?_
  refine s_blx (lv' := [(0, vR 77), (1, vI s)]) (st' := [vI (135 + (16 * s)), vR 78]) B156_4_12 rfl ?_
  refine r_iald (pc' := 13) D156_12 rfl sc_78 H.1 (by omega) ?_
  intro w1 e2 r3
  have b_w1 := H.2 78 (135 + (16 * s)) 0 8 (rk_len (by omega))
  rw [← e2] at b_w1; clear r3
  exact r_iretI D156_13 rfl (⟨rfl, by omega⟩)
set_option maxRecDepth 4000 in
theorem k157 {base : Nat} {X : Nat → Option mC} {G : Nat → Value} (E : EnvOK base X G) {d : Nat} (hd : 0 ≤ d) {M : mH} (H : HI base M) (s : Int) (i : Int) (h0 : 0 ≤ s ∧ s ≤ 15) (h1 : 0 ≤ i ∧ i ≤ 7) : sOk base X G d T157 [vR 77, vI s, vI i] M (pI (fun v M' => M' = M ∧ (0 ≤ v ∧ v ≤ 29))) := by
  refine sOk.of (show sRn base X G d T157 0 [(0, vR 77), (1, vI s), (2, vI i)] [] M _ from ?_)
  refine s_blx (lv' := [(0, vR 77), (1, vI s), (2, vI i)]) (st' := [vR 77]) B157_0_1 rfl ?_
  refine r_gfix (r := 78) (pc' := 4) D157_1 rfl gf_11_13_77 H.1 ?_
  refine s_blx (lv' := [(0, vR 77), (1, vI s), (2, vI i)]) (st' := [vI (((135 + (16 * s)) + 1) + i), vR 78]) B157_4_16 rfl ?_
  refine r_iald (pc' := 17) D157_16 rfl sc_78 H.1 (by omega) ?_
  intro w1 e2 r3
  have b_w1 := H.2 78 (((135 + (16 * s)) + 1) + i) 0 29 (rk_word (by omega))
  rw [← e2] at b_w1; clear r3
  exact r_iretI D157_17 rfl (⟨rfl, by omega⟩)
set_option maxRecDepth 4000 in
theorem k158 {base : Nat} {X : Nat → Option mC} {G : Nat → Value} (E : EnvOK base X G) {d : Nat} (hd : 0 ≤ d) {M : mH} (H : HI base M) (s : Int) (slot : Int) (h0 : 0 ≤ s ∧ s ≤ 15) (h1 : 0 ≤ slot ∧ slot ≤ 2) : sOk base X G d T158 [vR 77, vI s, vI slot] M (pI (fun v M' => M' = M ∧ (0 ≤ v ∧ v ≤ 7))) := by
  refine sOk.of (show sRn base X G d T158 0 [(0, vR 77), (1, vI s), (2, vI slot)] [] M _ from ?_)
  refine s_blx (lv' := [(0, vR 77), (1, vI s), (2, vI slot)]) (st' := [vR 77]) B158_0_1 rfl ?_
  refine r_gfix (r := 78) (pc' := 4) D158_1 rfl gf_11_13_77 H.1 ?_
  refine s_blx (lv' := [(0, vR 77), (1, vI s), (2, vI slot)]) (st' := [vI (((135 + (16 * s)) + 9) + slot), vR 78]) B158_4_17 rfl ?_
  refine r_iald (pc' := 18) D158_17 rfl sc_78 H.1 (by omega) ?_
  intro w1 e2 r3
  have b_w1 := H.2 78 (((135 + (16 * s)) + 9) + slot) 0 7 (rk_val (by omega))
  rw [← e2] at b_w1; clear r3
  exact r_iretI D158_18 rfl (⟨rfl, by omega⟩)
set_option maxRecDepth 4000 in
theorem k159 {base : Nat} {X : Nat → Option mC} {G : Nat → Value} (E : EnvOK base X G) {d : Nat} (hd : 0 ≤ d) {M : mH} (H : HI base M) (s : Int) (h0 : 0 ≤ s ∧ s ≤ 15) : sOk base X G d T159 [vR 77, vI s] M (pI (fun v M' => M' = M ∧ (0 ≤ v ∧ v ≤ 100))) := by
  refine sOk.of (show sRn base X G d T159 0 [(0, vR 77), (1, vI s)] [] M _ from ?_)
  refine s_blx (lv' := [(0, vR 77), (1, vI s)]) (st' := [vR 77]) B159_0_1 rfl ?_
  refine r_gfix (r := 78) (pc' := 4) D159_1 rfl gf_11_13_77 H.1 ?_
  refine s_blx (lv' := [(0, vR 77), (1, vI s)]) (st' := [vR 77, vI ((135 + (16 * s)) + 12), vR 78]) B159_4_16 rfl ?_
  refine r_gfix (r := 78) (pc' := 19) D159_16 rfl gf_11_13_77 H.1 ?_
  refine s_blx (lv' := [(0, vR 77), (1, vI s)]) (st' := [vI 474, vR 78, vI ((135 + (16 * s)) + 12), vR 78]) B159_19_22 rfl ?_
  refine r_iald (pc' := 23) D159_22 rfl sc_78 H.1 (by omega) ?_
  intro w1 e2 r3
  have b_w1 := H.2 78 (474) 0 3 (rk_who (by omega))
  rw [← e2] at b_w1; clear r3
  refine s_blx (lv' := [(0, vR 77), (1, vI s)]) (st' := [vI (((135 + (16 * s)) + 12) + w1), vR 78]) B159_23_24 rfl ?_
  refine r_iald (pc' := 25) D159_24 rfl sc_78 H.1 (by omega) ?_
  intro w4 e5 r6
  have b_w4 := H.2 78 (((135 + (16 * s)) + 12) + w1) 0 100 (rk_wgt (by omega))
  rw [← e5] at b_w4; clear r6
  exact r_iretI D159_25 rfl (⟨rfl, by omega⟩)
set_option maxRecDepth 4000 in
theorem k160 {base : Nat} {X : Nat → Option mC} {G : Nat → Value} (E : EnvOK base X G) {d : Nat} (hd : 2 ≤ d) {M : mH} (H : HI base M) (s : Int) (h0 : -2147483648 ≤ s ∧ s ≤ 2147483647) : sOk base X G d T160 [vR 77, vI s] M (pI (fun v M' => M' = M ∧ (v = 0 ∨ v = 1) ∧ (v = 1 → 0 ≤ s ∧ s ≤ 15))) := by
  refine sOk.of (show sRn base X G d T160 0 [(0, vR 77), (1, vI s)] [] M _ from ?_)
  refine s_blx (lv' := [(0, vR 77), (1, vI s)]) (st' := [vI s, vR 77]) B160_0_2 rfl ?_
  refine r_vIp (c := 77) (args := [vI s]) (rest := []) (pc' := 5) D160_2 rfl ck_11_virtual_134 TE154 rfl (Nat.le_of_ble_eq_true rfl) ⟨Nat.le_of_ble_eq_true rfl, Nat.le_of_ble_eq_true rfl⟩ sc_77 ⟨rfl, by decide⟩ H.1 (dp_0 hd rfl) (k154 E (dp_n hd rfl) H s (by omega)) ?_
  intro v1 q5
  obtain ⟨q3, q4⟩ := q5
  refine r_ifc (tgt := 20) (pc' := 8) D160_5 rfl rfl (by unfold inR; omega) (fun (c6 : v1 = 0) => ?_) (fun (c6 : ¬ (v1 = 0)) => ?_)
  · refine s_blx (lv' := [(0, vR 77), (1, vI s)]) (st' := [vI 0]) B160_20_21 rfl ?_
    exact r_zretI D160_21 rfl (by omega) (⟨rfl, by omega, by omega⟩)
  · refine s_blx (lv' := [(0, vR 77), (1, vI s)]) (st' := [vI s, vR 77]) B160_8_10 rfl ?_
    refine r_vIp (c := 77) (args := [vI s]) (rest := []) (pc' := 13) D160_10 rfl ck_11_virtual_138 TE159 rfl (Nat.le_of_ble_eq_true rfl) ⟨Nat.le_of_ble_eq_true rfl, Nat.le_of_ble_eq_true rfl⟩ sc_77 ⟨rfl, by decide⟩ H.1 (dp_0 hd rfl) (k159 E (dp_n hd rfl) H s (by omega)) ?_
    intro v7 q10
    have q9 := q10; clear q10
    refine r_ifc (tgt := 20) (pc' := 16) D160_13 rfl rfl (by unfold inR; omega) (fun (c11 : v7 ≤ 0) => ?_) (fun (c11 : ¬ (v7 ≤ 0)) => ?_)
    · refine s_blx (lv' := [(0, vR 77), (1, vI s)]) (st' := [vI 0]) B160_20_21 rfl ?_
      exact r_zretI D160_21 rfl (by omega) (⟨rfl, by omega, by omega⟩)
    · refine s_blx (lv' := [(0, vR 77), (1, vI s)]) (st' := [vI 1]) B160_16_17 rfl ?_
      refine r_goto (tgt := 21) D160_17 rfl ?_
      exact r_zretI D160_21 rfl (by omega) (⟨rfl, by omega, by omega⟩)
set_option maxRecDepth 4000 in
theorem k161 {base : Nat} {X : Nat → Option mC} {G : Nat → Value} (E : EnvOK base X G) {d : Nat} (hd : 1 ≤ d) {M : mH} (H : HI base M) (w : Int) (what : Int) (value : Int) (h0 : -2147483648 ≤ w ∧ w ≤ 2147483647) (h1 : -2147483648 ≤ what ∧ what ≤ 2147483647) (h2 : -2147483648 ≤ value ∧ value ≤ 2147483647) : sOk base X G d T161 [vR 77, vI w, vI what, vI value] M (pI (fun v M' => HI base M' ∧ Fr [(77, 1), (78, 0)] M M')) := by
  have f0 : Fr [(77, 1), (78, 0)] M M := Fr.rf
  refine sOk.of (show sRn base X G d T161 0 [(0, vR 77), (1, vI w), (2, vI what), (3, vI value)] [] M _ from ?_)
  refine s_blx (lv' := [(0, vR 77), (1, vI w), (2, vI what), (3, vI value)]) (st' := [vI 29, vI 0, vI w]) B161_0_4 rfl ?_
  refine r_sIp (args := [vI w, vI 0, vI 29]) (rest := []) (pc' := 7) D161_4 rfl ck_11_static_123 TE147 rfl (Nat.le_of_ble_eq_true rfl) ⟨Nat.le_of_ble_eq_true rfl, Nat.le_of_ble_eq_true rfl⟩ (by decide) (dp_0 hd rfl) (k147 E (dp_n hd rfl) H w 0 29 (by omega) (by omega) (by omega)) ?_
  intro v1 q6
  obtain ⟨q3, q4, q5⟩ := q6
  refine r_ifc (tgt := 48) (pc' := 10) D161_7 rfl rfl (by unfold inR; omega) (fun (c7 : v1 = 0) => ?_) (fun (c7 : ¬ (v1 = 0)) => ?_)
  · refine s_blx (lv' := [(0, vR 77), (1, vI w), (2, vI what), (3, vI value)]) (st' := [vI (-1), vR 77]) B161_48_50 rfl ?_
    refine r_vI (c := 77) (args := [vI (-1)]) (rest := []) (pc' := 53) D161_50 rfl ck_11_virtual_127 TE148 rfl (Nat.le_of_ble_eq_true rfl) ⟨Nat.le_of_ble_eq_true rfl, Nat.le_of_ble_eq_true rfl⟩ sc_77 ⟨rfl, by decide⟩ H.1 (dp_0 hd rfl) (k148 E (dp_n hd rfl) H (-1) (by omega)) ?_
    intro v8 M9 q13
    obtain ⟨H10, f11, q12⟩ := q13
    have f14 := f0.tr (f11.up rfl)
    exact r_iretI D161_53 rfl (⟨H10, f14⟩)
  · refine s_blx (lv' := [(0, vR 77), (1, vI w), (2, vI what), (3, vI value)]) (st' := [vI 2, vI 0, vI what]) B161_10_13 rfl ?_
    refine r_sIp (args := [vI what, vI 0, vI 2]) (rest := []) (pc' := 16) D161_13 rfl ck_11_static_123 TE147 rfl (Nat.le_of_ble_eq_true rfl) ⟨Nat.le_of_ble_eq_true rfl, Nat.le_of_ble_eq_true rfl⟩ (by decide) (dp_0 hd rfl) (k147 E (dp_n hd rfl) H what 0 2 (by omega) (by omega) (by omega)) ?_
    intro v15 q20
    obtain ⟨q17, q18, q19⟩ := q20
    refine r_ifc (tgt := 48) (pc' := 19) D161_16 rfl rfl (by unfold inR; omega) (fun (c21 : v15 = 0) => ?_) (fun (c21 : ¬ (v15 = 0)) => ?_)
    · refine s_blx (lv' := [(0, vR 77), (1, vI w), (2, vI what), (3, vI value)]) (st' := [vI (-1), vR 77]) B161_48_50 rfl ?_
      refine r_vI (c := 77) (args := [vI (-1)]) (rest := []) (pc' := 53) D161_50 rfl ck_11_virtual_127 TE148 rfl (Nat.le_of_ble_eq_true rfl) ⟨Nat.le_of_ble_eq_true rfl, Nat.le_of_ble_eq_true rfl⟩ sc_77 ⟨rfl, by decide⟩ H.1 (dp_0 hd rfl) (k148 E (dp_n hd rfl) H (-1) (by omega)) ?_
      intro v22 M23 q27
      obtain ⟨H24, f25, q26⟩ := q27
      have f28 := f0.tr (f25.up rfl)
      exact r_iretI D161_53 rfl (⟨H24, f28⟩)
    · refine s_blx (lv' := [(0, vR 77), (1, vI w), (2, vI what), (3, vI value)]) (st' := [vI 1, vI what, vI value]) B161_19_22 rfl ?_
      refine r_icmp (tgt := 29) (pc' := 25) D161_22 rfl rfl (by unfold inR; omega) (fun (c29 : what ≠ 1) => ?_) (fun (c29 : ¬ (what ≠ 1)) => ?_)
      · refine s_blx (lv' := [(0, vR 77), (1, vI w), (2, vI what), (3, vI value)]) (st' := [vI 1, vI what, vI 0, vI value]) B161_29_32 rfl ?_
        refine r_icmp (tgt := 40) (pc' := 35) D161_32 rfl rfl (by unfold inR; omega) (fun (c30 : what ≠ 1) => ?_) (fun (c30 : ¬ (what ≠ 1)) => ?_)
        · refine s_blx (lv' := [(0, vR 77), (1, vI w), (2, vI what), (3, vI value)]) (st' := [vI 9, vI 0, vI value]) B161_40_42 rfl ?_
          refine r_sIp (args := [vI value, vI 0, vI 9]) (rest := []) (pc' := 45) D161_42 rfl ck_11_static_123 TE147 rfl (Nat.le_of_ble_eq_true rfl) ⟨Nat.le_of_ble_eq_true rfl, Nat.le_of_ble_eq_true rfl⟩ (by decide) (dp_0 hd rfl) (k147 E (dp_n hd rfl) H value 0 9 (by omega) (by omega) (by omega)) ?_
          intro v31 q36
          obtain ⟨q33, q34, q35⟩ := q36
          refine r_ifc (tgt := 54) (pc' := 48) D161_45 rfl rfl (by unfold inR; omega) (fun (c37 : v31 ≠ 0) => ?_) (fun (c37 : ¬ (v31 ≠ 0)) => ?_)
          · refine s_blx (lv' := [(0, vR 77), (1, vI w), (2, vI what), (3, vI value)]) (st' := [vI what]) B161_54_55 rfl ?_
            refine r_ifc (tgt := 62) (pc' := 58) D161_55 rfl rfl (by unfold inR; omega) (fun (c38 : what ≠ 0) => ?_) (fun (c38 : ¬ (what ≠ 0)) => ?_)
            · refine s_blx (lv' := [(0, vR 77), (1, vI w), (2, vI what), (3, vI value)]) (st' := [vI 1, vI what]) B161_62_64 rfl ?_
              refine r_icmp (tgt := 72) (pc' := 67) D161_64 rfl rfl (by unfold inR; omega) (fun (c39 : what ≠ 1) => ?_) (fun (c39 : ¬ (what ≠ 1)) => ?_)
              · refine s_blx (lv' := [(4, vI (60 + w)), (0, vR 77), (1, vI w), (2, vI what), (3, vI value)]) (st' := [vR 77]) B161_72_79 rfl ?_
                refine r_gfix (r := 78) (pc' := 82) D161_79 rfl gf_11_13_77 H.1 ?_
                refine s_blx (lv' := [(4, vI (60 + w)), (0, vR 77), (1, vI w), (2, vI what), (3, vI value)]) (st' := [vI (60 + w), vR 78]) B161_82_84 rfl ?_
                refine r_iald (pc' := 85) D161_84 rfl sc_78 H.1 (by omega) ?_
                intro w40 e41 r42
                have b_w40 := H.2 78 (60 + w) 0 9 (rk_spare (by omega))
                rw [← e41] at b_w40; clear r42
                refine s_blx (lv' := [(5, vI w40), (4, vI (60 + w)), (0, vR 77), (1, vI w), (2, vI what), (3, vI value)]) (st' := [vR 77]) B161_85_88 rfl ?_
                refine r_gfix (r := 78) (pc' := 91) D161_88 rfl gf_11_13_77 H.1 ?_
                refine s_blx (lv' := [(5, vI w40), (4, vI (60 + w)), (0, vR 77), (1, vI w), (2, vI what), (3, vI value)]) (st' := [vI value, vI (60 + w), vR 78]) B161_91_94 rfl ?_
                refine r_iast (pc' := 95) D161_94 rfl sc_78 H (by omega) (by unfold inR; omega) (by show s_in (rgK _) _; rw [rk_spare (by omega)]; show 0 ≤ value ∧ value ≤ 9; omega) ?_
                intro M43 u44 H45 p46
                have f47 := f0.wr u44 rfl
                refine s_blx (lv' := [(5, vI w40), (4, vI (60 + w)), (0, vR 77), (1, vI w), (2, vI what), (3, vI value)]) (st' := [vI w40, vR 77]) B161_95_98 rfl ?_
                refine r_vI (c := 77) (args := [vI w40]) (rest := []) (pc' := 101) D161_98 rfl ck_11_virtual_131 TE149 rfl (Nat.le_of_ble_eq_true rfl) ⟨Nat.le_of_ble_eq_true rfl, Nat.le_of_ble_eq_true rfl⟩ sc_77 ⟨rfl, by decide⟩ H45.1 (dp_0 hd rfl) (k149 E (dp_n hd rfl) H45 w40 (by omega)) ?_
                intro v48 M49 q53
                obtain ⟨H50, f51, q52⟩ := q53
                have f54 := f47.tr (f51.up rfl)
                exact r_iretI D161_101 rfl (⟨H50, f54⟩)
              · refine s_blx (lv' := [(0, vR 77), (1, vI w), (2, vI what), (3, vI value)]) (st' := [vI 30]) B161_67_69 rfl ?_
                refine r_goto (tgt := 74) D161_69 rfl ?_
                refine s_blx (lv' := [(4, vI (30 + w)), (0, vR 77), (1, vI w), (2, vI what), (3, vI value)]) (st' := [vR 77]) B161_74_79 rfl ?_
                refine r_gfix (r := 78) (pc' := 82) D161_79 rfl gf_11_13_77 H.1 ?_
                refine s_blx (lv' := [(4, vI (30 + w)), (0, vR 77), (1, vI w), (2, vI what), (3, vI value)]) (st' := [vI (30 + w), vR 78]) B161_82_84 rfl ?_
                refine r_iald (pc' := 85) D161_84 rfl sc_78 H.1 (by omega) ?_
                intro w55 e56 r57
                have b_w55 := H.2 78 (30 + w) 0 60 (rk_look (by omega))
                rw [← e56] at b_w55; clear r57
                refine s_blx (lv' := [(5, vI w55), (4, vI (30 + w)), (0, vR 77), (1, vI w), (2, vI what), (3, vI value)]) (st' := [vR 77]) B161_85_88 rfl ?_
                refine r_gfix (r := 78) (pc' := 91) D161_88 rfl gf_11_13_77 H.1 ?_
                refine s_blx (lv' := [(5, vI w55), (4, vI (30 + w)), (0, vR 77), (1, vI w), (2, vI what), (3, vI value)]) (st' := [vI value, vI (30 + w), vR 78]) B161_91_94 rfl ?_
                refine r_iast (pc' := 95) D161_94 rfl sc_78 H (by omega) (by unfold inR; omega) (by show s_in (rgK _) _; rw [rk_look (by omega)]; show 0 ≤ value ∧ value ≤ 60; omega) ?_
                intro M58 u59 H60 p61
                have f62 := f0.wr u59 rfl
                refine s_blx (lv' := [(5, vI w55), (4, vI (30 + w)), (0, vR 77), (1, vI w), (2, vI what), (3, vI value)]) (st' := [vI w55, vR 77]) B161_95_98 rfl ?_
                refine r_vI (c := 77) (args := [vI w55]) (rest := []) (pc' := 101) D161_98 rfl ck_11_virtual_131 TE149 rfl (Nat.le_of_ble_eq_true rfl) ⟨Nat.le_of_ble_eq_true rfl, Nat.le_of_ble_eq_true rfl⟩ sc_77 ⟨rfl, by decide⟩ H60.1 (dp_0 hd rfl) (k149 E (dp_n hd rfl) H60 w55 (by omega)) ?_
                intro v63 M64 q68
                obtain ⟨H65, f66, q67⟩ := q68
                have f69 := f62.tr (f66.up rfl)
                exact r_iretI D161_101 rfl (⟨H65, f69⟩)
            · refine s_blx (lv' := [(0, vR 77), (1, vI w), (2, vI what), (3, vI value)]) (st' := [vI 0]) B161_58_59 rfl ?_
              refine r_goto (tgt := 74) D161_59 rfl ?_
              refine s_blx (lv' := [(4, vI (0 + w)), (0, vR 77), (1, vI w), (2, vI what), (3, vI value)]) (st' := [vR 77]) B161_74_79 rfl ?_
              refine r_gfix (r := 78) (pc' := 82) D161_79 rfl gf_11_13_77 H.1 ?_
              refine s_blx (lv' := [(4, vI (0 + w)), (0, vR 77), (1, vI w), (2, vI what), (3, vI value)]) (st' := [vI (0 + w), vR 78]) B161_82_84 rfl ?_
              refine r_iald (pc' := 85) D161_84 rfl sc_78 H.1 (by omega) ?_
              intro w70 e71 r72
              have b_w70 := H.2 78 (0 + w) 0 9 (rk_load (by omega))
              rw [← e71] at b_w70; clear r72
              refine s_blx (lv' := [(5, vI w70), (4, vI (0 + w)), (0, vR 77), (1, vI w), (2, vI what), (3, vI value)]) (st' := [vR 77]) B161_85_88 rfl ?_
              refine r_gfix (r := 78) (pc' := 91) D161_88 rfl gf_11_13_77 H.1 ?_
              refine s_blx (lv' := [(5, vI w70), (4, vI (0 + w)), (0, vR 77), (1, vI w), (2, vI what), (3, vI value)]) (st' := [vI value, vI (0 + w), vR 78]) B161_91_94 rfl ?_
              refine r_iast (pc' := 95) D161_94 rfl sc_78 H (by omega) (by unfold inR; omega) (by show s_in (rgK _) _; rw [rk_load (by omega)]; show 0 ≤ value ∧ value ≤ 9; omega) ?_
              intro M73 u74 H75 p76
              have f77 := f0.wr u74 rfl
              refine s_blx (lv' := [(5, vI w70), (4, vI (0 + w)), (0, vR 77), (1, vI w), (2, vI what), (3, vI value)]) (st' := [vI w70, vR 77]) B161_95_98 rfl ?_
              refine r_vI (c := 77) (args := [vI w70]) (rest := []) (pc' := 101) D161_98 rfl ck_11_virtual_131 TE149 rfl (Nat.le_of_ble_eq_true rfl) ⟨Nat.le_of_ble_eq_true rfl, Nat.le_of_ble_eq_true rfl⟩ sc_77 ⟨rfl, by decide⟩ H75.1 (dp_0 hd rfl) (k149 E (dp_n hd rfl) H75 w70 (by omega)) ?_
              intro v78 M79 q83
              obtain ⟨H80, f81, q82⟩ := q83
              have f84 := f77.tr (f81.up rfl)
              exact r_iretI D161_101 rfl (⟨H80, f84⟩)
          · refine s_blx (lv' := [(0, vR 77), (1, vI w), (2, vI what), (3, vI value)]) (st' := [vI (-1), vR 77]) B161_48_50 rfl ?_
            refine r_vI (c := 77) (args := [vI (-1)]) (rest := []) (pc' := 53) D161_50 rfl ck_11_virtual_127 TE148 rfl (Nat.le_of_ble_eq_true rfl) ⟨Nat.le_of_ble_eq_true rfl, Nat.le_of_ble_eq_true rfl⟩ sc_77 ⟨rfl, by decide⟩ H.1 (dp_0 hd rfl) (k148 E (dp_n hd rfl) H (-1) (by omega)) ?_
            intro v85 M86 q90
            obtain ⟨H87, f88, q89⟩ := q90
            have f91 := f0.tr (f88.up rfl)
            exact r_iretI D161_53 rfl (⟨H87, f91⟩)
        · refine s_blx (lv' := [(0, vR 77), (1, vI w), (2, vI what), (3, vI value)]) (st' := [vI 60, vI 0, vI value]) B161_35_37 rfl ?_
          refine r_goto (tgt := 42) D161_37 rfl ?_
          refine r_sIp (args := [vI value, vI 0, vI 60]) (rest := []) (pc' := 45) D161_42 rfl ck_11_static_123 TE147 rfl (Nat.le_of_ble_eq_true rfl) ⟨Nat.le_of_ble_eq_true rfl, Nat.le_of_ble_eq_true rfl⟩ (by decide) (dp_0 hd rfl) (k147 E (dp_n hd rfl) H value 0 60 (by omega) (by omega) (by omega)) ?_
          intro v92 q97
          obtain ⟨q94, q95, q96⟩ := q97
          refine r_ifc (tgt := 54) (pc' := 48) D161_45 rfl rfl (by unfold inR; omega) (fun (c98 : v92 ≠ 0) => ?_) (fun (c98 : ¬ (v92 ≠ 0)) => ?_)
          · refine s_blx (lv' := [(0, vR 77), (1, vI w), (2, vI what), (3, vI value)]) (st' := [vI what]) B161_54_55 rfl ?_
            refine r_ifc (tgt := 62) (pc' := 58) D161_55 rfl rfl (by unfold inR; omega) (fun (c99 : what ≠ 0) => ?_) (fun (c99 : ¬ (what ≠ 0)) => ?_)
            · refine s_blx (lv' := [(0, vR 77), (1, vI w), (2, vI what), (3, vI value)]) (st' := [vI 1, vI what]) B161_62_64 rfl ?_
              refine r_icmp (tgt := 72) (pc' := 67) D161_64 rfl rfl (by unfold inR; omega) (fun (c100 : what ≠ 1) => ?_) (fun (c100 : ¬ (what ≠ 1)) => ?_)
              · exfalso; omega
              · refine s_blx (lv' := [(0, vR 77), (1, vI w), (2, vI what), (3, vI value)]) (st' := [vI 30]) B161_67_69 rfl ?_
                refine r_goto (tgt := 74) D161_69 rfl ?_
                refine s_blx (lv' := [(4, vI (30 + w)), (0, vR 77), (1, vI w), (2, vI what), (3, vI value)]) (st' := [vR 77]) B161_74_79 rfl ?_
                refine r_gfix (r := 78) (pc' := 82) D161_79 rfl gf_11_13_77 H.1 ?_
                refine s_blx (lv' := [(4, vI (30 + w)), (0, vR 77), (1, vI w), (2, vI what), (3, vI value)]) (st' := [vI (30 + w), vR 78]) B161_82_84 rfl ?_
                refine r_iald (pc' := 85) D161_84 rfl sc_78 H.1 (by omega) ?_
                intro w101 e102 r103
                have b_w101 := H.2 78 (30 + w) 0 60 (rk_look (by omega))
                rw [← e102] at b_w101; clear r103
                refine s_blx (lv' := [(5, vI w101), (4, vI (30 + w)), (0, vR 77), (1, vI w), (2, vI what), (3, vI value)]) (st' := [vR 77]) B161_85_88 rfl ?_
                refine r_gfix (r := 78) (pc' := 91) D161_88 rfl gf_11_13_77 H.1 ?_
                refine s_blx (lv' := [(5, vI w101), (4, vI (30 + w)), (0, vR 77), (1, vI w), (2, vI what), (3, vI value)]) (st' := [vI value, vI (30 + w), vR 78]) B161_91_94 rfl ?_
                refine r_iast (pc' := 95) D161_94 rfl sc_78 H (by omega) (by unfold inR; omega) (by show s_in (rgK _) _; rw [rk_look (by omega)]; show 0 ≤ value ∧ value ≤ 60; omega) ?_
                intro M104 u105 H106 p107
                have f108 := f0.wr u105 rfl
                refine s_blx (lv' := [(5, vI w101), (4, vI (30 + w)), (0, vR 77), (1, vI w), (2, vI what), (3, vI value)]) (st' := [vI w101, vR 77]) B161_95_98 rfl ?_
                refine r_vI (c := 77) (args := [vI w101]) (rest := []) (pc' := 101) D161_98 rfl ck_11_virtual_131 TE149 rfl (Nat.le_of_ble_eq_true rfl) ⟨Nat.le_of_ble_eq_true rfl, Nat.le_of_ble_eq_true rfl⟩ sc_77 ⟨rfl, by decide⟩ H106.1 (dp_0 hd rfl) (k149 E (dp_n hd rfl) H106 w101 (by omega)) ?_
                intro v109 M110 q114
                obtain ⟨H111, f112, q113⟩ := q114
                have f115 := f108.tr (f112.up rfl)
                exact r_iretI D161_101 rfl (⟨H111, f115⟩)
            · exfalso; omega
          · refine s_blx (lv' := [(0, vR 77), (1, vI w), (2, vI what), (3, vI value)]) (st' := [vI (-1), vR 77]) B161_48_50 rfl ?_
            refine r_vI (c := 77) (args := [vI (-1)]) (rest := []) (pc' := 53) D161_50 rfl ck_11_virtual_127 TE148 rfl (Nat.le_of_ble_eq_true rfl) ⟨Nat.le_of_ble_eq_true rfl, Nat.le_of_ble_eq_true rfl⟩ sc_77 ⟨rfl, by decide⟩ H.1 (dp_0 hd rfl) (k148 E (dp_n hd rfl) H (-1) (by omega)) ?_
            intro v116 M117 q121
            obtain ⟨H118, f119, q120⟩ := q121
            have f122 := f0.tr (f119.up rfl)
            exact r_iretI D161_53 rfl (⟨H118, f122⟩)
      · refine s_blx (lv' := [(0, vR 77), (1, vI w), (2, vI what), (3, vI value)]) (st' := [vI 1, vI value]) B161_25_26 rfl ?_
        refine r_goto (tgt := 30) D161_26 rfl ?_
        refine s_blx (lv' := [(0, vR 77), (1, vI w), (2, vI what), (3, vI value)]) (st' := [vI 1, vI what, vI 1, vI value]) B161_30_32 rfl ?_
        refine r_icmp (tgt := 40) (pc' := 35) D161_32 rfl rfl (by unfold inR; omega) (fun (c123 : what ≠ 1) => ?_) (fun (c123 : ¬ (what ≠ 1)) => ?_)
        · exfalso; omega
        · refine s_blx (lv' := [(0, vR 77), (1, vI w), (2, vI what), (3, vI value)]) (st' := [vI 60, vI 1, vI value]) B161_35_37 rfl ?_
          refine r_goto (tgt := 42) D161_37 rfl ?_
          refine r_sIp (args := [vI value, vI 1, vI 60]) (rest := []) (pc' := 45) D161_42 rfl ck_11_static_123 TE147 rfl (Nat.le_of_ble_eq_true rfl) ⟨Nat.le_of_ble_eq_true rfl, Nat.le_of_ble_eq_true rfl⟩ (by decide) (dp_0 hd rfl) (k147 E (dp_n hd rfl) H value 1 60 (by omega) (by omega) (by omega)) ?_
          intro v124 q129
          obtain ⟨q126, q127, q128⟩ := q129
          refine r_ifc (tgt := 54) (pc' := 48) D161_45 rfl rfl (by unfold inR; omega) (fun (c130 : v124 ≠ 0) => ?_) (fun (c130 : ¬ (v124 ≠ 0)) => ?_)
          · refine s_blx (lv' := [(0, vR 77), (1, vI w), (2, vI what), (3, vI value)]) (st' := [vI what]) B161_54_55 rfl ?_
            refine r_ifc (tgt := 62) (pc' := 58) D161_55 rfl rfl (by unfold inR; omega) (fun (c131 : what ≠ 0) => ?_) (fun (c131 : ¬ (what ≠ 0)) => ?_)
            · refine s_blx (lv' := [(0, vR 77), (1, vI w), (2, vI what), (3, vI value)]) (st' := [vI 1, vI what]) B161_62_64 rfl ?_
              refine r_icmp (tgt := 72) (pc' := 67) D161_64 rfl rfl (by unfold inR; omega) (fun (c132 : what ≠ 1) => ?_) (fun (c132 : ¬ (what ≠ 1)) => ?_)
              · exfalso; omega
              · refine s_blx (lv' := [(0, vR 77), (1, vI w), (2, vI what), (3, vI value)]) (st' := [vI 30]) B161_67_69 rfl ?_
                refine r_goto (tgt := 74) D161_69 rfl ?_
                refine s_blx (lv' := [(4, vI (30 + w)), (0, vR 77), (1, vI w), (2, vI what), (3, vI value)]) (st' := [vR 77]) B161_74_79 rfl ?_
                refine r_gfix (r := 78) (pc' := 82) D161_79 rfl gf_11_13_77 H.1 ?_
                refine s_blx (lv' := [(4, vI (30 + w)), (0, vR 77), (1, vI w), (2, vI what), (3, vI value)]) (st' := [vI (30 + w), vR 78]) B161_82_84 rfl ?_
                refine r_iald (pc' := 85) D161_84 rfl sc_78 H.1 (by omega) ?_
                intro w133 e134 r135
                have b_w133 := H.2 78 (30 + w) 0 60 (rk_look (by omega))
                rw [← e134] at b_w133; clear r135
                refine s_blx (lv' := [(5, vI w133), (4, vI (30 + w)), (0, vR 77), (1, vI w), (2, vI what), (3, vI value)]) (st' := [vR 77]) B161_85_88 rfl ?_
                refine r_gfix (r := 78) (pc' := 91) D161_88 rfl gf_11_13_77 H.1 ?_
                refine s_blx (lv' := [(5, vI w133), (4, vI (30 + w)), (0, vR 77), (1, vI w), (2, vI what), (3, vI value)]) (st' := [vI value, vI (30 + w), vR 78]) B161_91_94 rfl ?_
                refine r_iast (pc' := 95) D161_94 rfl sc_78 H (by omega) (by unfold inR; omega) (by show s_in (rgK _) _; rw [rk_look (by omega)]; show 0 ≤ value ∧ value ≤ 60; omega) ?_
                intro M136 u137 H138 p139
                have f140 := f0.wr u137 rfl
                refine s_blx (lv' := [(5, vI w133), (4, vI (30 + w)), (0, vR 77), (1, vI w), (2, vI what), (3, vI value)]) (st' := [vI w133, vR 77]) B161_95_98 rfl ?_
                refine r_vI (c := 77) (args := [vI w133]) (rest := []) (pc' := 101) D161_98 rfl ck_11_virtual_131 TE149 rfl (Nat.le_of_ble_eq_true rfl) ⟨Nat.le_of_ble_eq_true rfl, Nat.le_of_ble_eq_true rfl⟩ sc_77 ⟨rfl, by decide⟩ H138.1 (dp_0 hd rfl) (k149 E (dp_n hd rfl) H138 w133 (by omega)) ?_
                intro v141 M142 q146
                obtain ⟨H143, f144, q145⟩ := q146
                have f147 := f140.tr (f144.up rfl)
                exact r_iretI D161_101 rfl (⟨H143, f147⟩)
            · exfalso; omega
          · refine s_blx (lv' := [(0, vR 77), (1, vI w), (2, vI what), (3, vI value)]) (st' := [vI (-1), vR 77]) B161_48_50 rfl ?_
            refine r_vI (c := 77) (args := [vI (-1)]) (rest := []) (pc' := 53) D161_50 rfl ck_11_virtual_127 TE148 rfl (Nat.le_of_ble_eq_true rfl) ⟨Nat.le_of_ble_eq_true rfl, Nat.le_of_ble_eq_true rfl⟩ sc_77 ⟨rfl, by decide⟩ H.1 (dp_0 hd rfl) (k148 E (dp_n hd rfl) H (-1) (by omega)) ?_
            intro v148 M149 q153
            obtain ⟨H150, f151, q152⟩ := q153
            have f154 := f0.tr (f151.up rfl)
            exact r_iretI D161_53 rfl (⟨H150, f154⟩)
set_option maxRecDepth 4000 in
theorem k162 {base : Nat} {X : Nat → Option mC} {G : Nat → Value} (E : EnvOK base X G) {d : Nat} (hd : 1 ≤ d) {M : mH} (H : HI base M) (what : Int) (value : Int) (h0 : -2147483648 ≤ what ∧ what ≤ 2147483647) (h1 : -2147483648 ≤ value ∧ value ≤ 2147483647) : sOk base X G d T162 [vR 77, vI what, vI value] M (pI (fun v M' => HI base M' ∧ Fr [(77, 1), (78, 0)] M M')) := by
  have f0 : Fr [(77, 1), (78, 0)] M M := Fr.rf
  refine sOk.of (show sRn base X G d T162 0 [(0, vR 77), (1, vI what), (2, vI value)] [] M _ from ?_)
  refine s_blx (lv' := [(0, vR 77), (1, vI what), (2, vI value)]) (st' := [vI 8, vI 0, vI what]) B162_0_4 rfl ?_
  refine r_sIp (args := [vI what, vI 0, vI 8]) (rest := []) (pc' := 7) D162_4 rfl ck_11_static_123 TE147 rfl (Nat.le_of_ble_eq_true rfl) ⟨Nat.le_of_ble_eq_true rfl, Nat.le_of_ble_eq_true rfl⟩ (by decide) (dp_0 hd rfl) (k147 E (dp_n hd rfl) H what 0 8 (by omega) (by omega) (by omega)) ?_
  intro v1 q6
  obtain ⟨q3, q4, q5⟩ := q6
  refine r_ifc (tgt := 16) (pc' := 10) D162_7 rfl rfl (by unfold inR; omega) (fun (c7 : v1 ≠ 0) => ?_) (fun (c7 : ¬ (v1 ≠ 0)) => ?_)
  · refine s_blx (lv' := [(0, vR 77), (1, vI what), (2, vI value)]) (st' := [vI 2, vI what]) B162_16_18 rfl ?_
    refine r_icmp (tgt := 26) (pc' := 21) D162_18 rfl rfl (by unfold inR; omega) (fun (c8 : 2 ≤ what) => ?_) (fun (c8 : ¬ (2 ≤ what)) => ?_)
    · refine s_blx (lv' := [(0, vR 77), (1, vI what), (2, vI value)]) (st' := [vI 4, vI what]) B162_26_28 rfl ?_
      refine r_icmp (tgt := 37) (pc' := 31) D162_28 rfl rfl (by unfold inR; omega) (fun (c9 : what < 4) => ?_) (fun (c9 : ¬ (what < 4)) => ?_)
      · refine s_blx (lv' := [(0, vR 77), (1, vI what), (2, vI value)]) (st' := [vI 100]) B162_37_39 rfl ?_
        refine r_goto (tgt := 45) D162_39 rfl ?_
        refine s_blx (lv' := [(3, vI 100), (0, vR 77), (1, vI what), (2, vI value)]) (st' := [vI 100, vI 0, vI value]) B162_45_49 rfl ?_
        refine r_sIp (args := [vI value, vI 0, vI 100]) (rest := []) (pc' := 52) D162_49 rfl ck_11_static_123 TE147 rfl (Nat.le_of_ble_eq_true rfl) ⟨Nat.le_of_ble_eq_true rfl, Nat.le_of_ble_eq_true rfl⟩ (by decide) (dp_0 hd rfl) (k147 E (dp_n hd rfl) H value 0 100 (by omega) (by omega) (by omega)) ?_
        intro v10 q15
        obtain ⟨q12, q13, q14⟩ := q15
        refine r_ifc (tgt := 61) (pc' := 55) D162_52 rfl rfl (by unfold inR; omega) (fun (c16 : v10 ≠ 0) => ?_) (fun (c16 : ¬ (v10 ≠ 0)) => ?_)
        · refine s_blx (lv' := [(3, vI 100), (0, vR 77), (1, vI what), (2, vI value)]) (st' := [vI what, vR 77]) B162_61_63 rfl ?_
          refine r_vIp (c := 77) (args := [vI what]) (rest := []) (pc' := 66) D162_63 rfl ck_11_virtual_141 TE153 rfl (Nat.le_of_ble_eq_true rfl) ⟨Nat.le_of_ble_eq_true rfl, Nat.le_of_ble_eq_true rfl⟩ sc_77 ⟨rfl, by decide⟩ H.1 (dp_0 hd rfl) (k153 E (dp_n hd rfl) H what (by omega)) ?_
          intro v17 q20
          have q19 := q20; clear q20
          refine s_blx (lv' := [(4, vI v17), (3, vI 100), (0, vR 77), (1, vI what), (2, vI value)]) (st' := [vR 77]) B162_66_69 rfl ?_
          refine r_gfix (r := 78) (pc' := 72) D162_69 rfl gf_11_13_77 H.1 ?_
          refine s_blx (lv' := [(4, vI v17), (3, vI 100), (0, vR 77), (1, vI what), (2, vI value)]) (st' := [vI value, vI (90 + what), vR 78]) B162_72_77 rfl ?_
          refine r_iast (pc' := 78) D162_77 rfl sc_78 H (by omega) (by unfold inR; omega) (by show s_in (rgK _) _; rw [rk_term (by omega)]; show 0 ≤ value ∧ value ≤ 1000; omega) ?_
          intro M21 u22 H23 p24
          have f25 := f0.wr u22 rfl
          refine s_blx (lv' := [(4, vI v17), (3, vI 100), (0, vR 77), (1, vI what), (2, vI value)]) (st' := [vI v17, vR 77]) B162_78_81 rfl ?_
          refine r_vI (c := 77) (args := [vI v17]) (rest := []) (pc' := 84) D162_81 rfl ck_11_virtual_131 TE149 rfl (Nat.le_of_ble_eq_true rfl) ⟨Nat.le_of_ble_eq_true rfl, Nat.le_of_ble_eq_true rfl⟩ sc_77 ⟨rfl, by decide⟩ H23.1 (dp_0 hd rfl) (k149 E (dp_n hd rfl) H23 v17 (by omega)) ?_
          intro v26 M27 q31
          obtain ⟨H28, f29, q30⟩ := q31
          have f32 := f25.tr (f29.up rfl)
          exact r_iretI D162_84 rfl (⟨H28, f32⟩)
        · refine s_blx (lv' := [(3, vI 100), (0, vR 77), (1, vI what), (2, vI value)]) (st' := [vI (-1), vR 77]) B162_55_57 rfl ?_
          refine r_vI (c := 77) (args := [vI (-1)]) (rest := []) (pc' := 60) D162_57 rfl ck_11_virtual_127 TE148 rfl (Nat.le_of_ble_eq_true rfl) ⟨Nat.le_of_ble_eq_true rfl, Nat.le_of_ble_eq_true rfl⟩ sc_77 ⟨rfl, by decide⟩ H.1 (dp_0 hd rfl) (k148 E (dp_n hd rfl) H (-1) (by omega)) ?_
          intro v33 M34 q38
          obtain ⟨H35, f36, q37⟩ := q38
          have f39 := f0.tr (f36.up rfl)
          exact r_iretI D162_60 rfl (⟨H35, f39⟩)
      · refine s_blx (lv' := [(0, vR 77), (1, vI what), (2, vI value)]) (st' := [vI 7, vI what]) B162_31_34 rfl ?_
        refine r_icmp (tgt := 42) (pc' := 37) D162_34 rfl rfl (by unfold inR; omega) (fun (c40 : what ≠ 7) => ?_) (fun (c40 : ¬ (what ≠ 7)) => ?_)
        · refine s_blx (lv' := [(3, vI 1000), (0, vR 77), (1, vI what), (2, vI value)]) (st' := [vI 1000, vI 0, vI value]) B162_42_49 rfl ?_
          refine r_sIp (args := [vI value, vI 0, vI 1000]) (rest := []) (pc' := 52) D162_49 rfl ck_11_static_123 TE147 rfl (Nat.le_of_ble_eq_true rfl) ⟨Nat.le_of_ble_eq_true rfl, Nat.le_of_ble_eq_true rfl⟩ (by decide) (dp_0 hd rfl) (k147 E (dp_n hd rfl) H value 0 1000 (by omega) (by omega) (by omega)) ?_
          intro v41 q46
          obtain ⟨q43, q44, q45⟩ := q46
          refine r_ifc (tgt := 61) (pc' := 55) D162_52 rfl rfl (by unfold inR; omega) (fun (c47 : v41 ≠ 0) => ?_) (fun (c47 : ¬ (v41 ≠ 0)) => ?_)
          · refine s_blx (lv' := [(3, vI 1000), (0, vR 77), (1, vI what), (2, vI value)]) (st' := [vI what, vR 77]) B162_61_63 rfl ?_
            refine r_vIp (c := 77) (args := [vI what]) (rest := []) (pc' := 66) D162_63 rfl ck_11_virtual_141 TE153 rfl (Nat.le_of_ble_eq_true rfl) ⟨Nat.le_of_ble_eq_true rfl, Nat.le_of_ble_eq_true rfl⟩ sc_77 ⟨rfl, by decide⟩ H.1 (dp_0 hd rfl) (k153 E (dp_n hd rfl) H what (by omega)) ?_
            intro v48 q51
            have q50 := q51; clear q51
            refine s_blx (lv' := [(4, vI v48), (3, vI 1000), (0, vR 77), (1, vI what), (2, vI value)]) (st' := [vR 77]) B162_66_69 rfl ?_
            refine r_gfix (r := 78) (pc' := 72) D162_69 rfl gf_11_13_77 H.1 ?_
            refine s_blx (lv' := [(4, vI v48), (3, vI 1000), (0, vR 77), (1, vI what), (2, vI value)]) (st' := [vI value, vI (90 + what), vR 78]) B162_72_77 rfl ?_
            refine r_iast (pc' := 78) D162_77 rfl sc_78 H (by omega) (by unfold inR; omega) (by show s_in (rgK _) _; rw [rk_term (by omega)]; show 0 ≤ value ∧ value ≤ 1000; omega) ?_
            intro M52 u53 H54 p55
            have f56 := f0.wr u53 rfl
            refine s_blx (lv' := [(4, vI v48), (3, vI 1000), (0, vR 77), (1, vI what), (2, vI value)]) (st' := [vI v48, vR 77]) B162_78_81 rfl ?_
            refine r_vI (c := 77) (args := [vI v48]) (rest := []) (pc' := 84) D162_81 rfl ck_11_virtual_131 TE149 rfl (Nat.le_of_ble_eq_true rfl) ⟨Nat.le_of_ble_eq_true rfl, Nat.le_of_ble_eq_true rfl⟩ sc_77 ⟨rfl, by decide⟩ H54.1 (dp_0 hd rfl) (k149 E (dp_n hd rfl) H54 v48 (by omega)) ?_
            intro v57 M58 q62
            obtain ⟨H59, f60, q61⟩ := q62
            have f63 := f56.tr (f60.up rfl)
            exact r_iretI D162_84 rfl (⟨H59, f63⟩)
          · refine s_blx (lv' := [(3, vI 1000), (0, vR 77), (1, vI what), (2, vI value)]) (st' := [vI (-1), vR 77]) B162_55_57 rfl ?_
            refine r_vI (c := 77) (args := [vI (-1)]) (rest := []) (pc' := 60) D162_57 rfl ck_11_virtual_127 TE148 rfl (Nat.le_of_ble_eq_true rfl) ⟨Nat.le_of_ble_eq_true rfl, Nat.le_of_ble_eq_true rfl⟩ sc_77 ⟨rfl, by decide⟩ H.1 (dp_0 hd rfl) (k148 E (dp_n hd rfl) H (-1) (by omega)) ?_
            intro v64 M65 q69
            obtain ⟨H66, f67, q68⟩ := q69
            have f70 := f0.tr (f67.up rfl)
            exact r_iretI D162_60 rfl (⟨H66, f70⟩)
        · refine s_blx (lv' := [(0, vR 77), (1, vI what), (2, vI value)]) (st' := [vI 100]) B162_37_39 rfl ?_
          refine r_goto (tgt := 45) D162_39 rfl ?_
          refine s_blx (lv' := [(3, vI 100), (0, vR 77), (1, vI what), (2, vI value)]) (st' := [vI 100, vI 0, vI value]) B162_45_49 rfl ?_
          refine r_sIp (args := [vI value, vI 0, vI 100]) (rest := []) (pc' := 52) D162_49 rfl ck_11_static_123 TE147 rfl (Nat.le_of_ble_eq_true rfl) ⟨Nat.le_of_ble_eq_true rfl, Nat.le_of_ble_eq_true rfl⟩ (by decide) (dp_0 hd rfl) (k147 E (dp_n hd rfl) H value 0 100 (by omega) (by omega) (by omega)) ?_
          intro v71 q76
          obtain ⟨q73, q74, q75⟩ := q76
          refine r_ifc (tgt := 61) (pc' := 55) D162_52 rfl rfl (by unfold inR; omega) (fun (c77 : v71 ≠ 0) => ?_) (fun (c77 : ¬ (v71 ≠ 0)) => ?_)
          · refine s_blx (lv' := [(3, vI 100), (0, vR 77), (1, vI what), (2, vI value)]) (st' := [vI what, vR 77]) B162_61_63 rfl ?_
            refine r_vIp (c := 77) (args := [vI what]) (rest := []) (pc' := 66) D162_63 rfl ck_11_virtual_141 TE153 rfl (Nat.le_of_ble_eq_true rfl) ⟨Nat.le_of_ble_eq_true rfl, Nat.le_of_ble_eq_true rfl⟩ sc_77 ⟨rfl, by decide⟩ H.1 (dp_0 hd rfl) (k153 E (dp_n hd rfl) H what (by omega)) ?_
            intro v78 q81
            have q80 := q81; clear q81
            refine s_blx (lv' := [(4, vI v78), (3, vI 100), (0, vR 77), (1, vI what), (2, vI value)]) (st' := [vR 77]) B162_66_69 rfl ?_
            refine r_gfix (r := 78) (pc' := 72) D162_69 rfl gf_11_13_77 H.1 ?_
            refine s_blx (lv' := [(4, vI v78), (3, vI 100), (0, vR 77), (1, vI what), (2, vI value)]) (st' := [vI value, vI (90 + what), vR 78]) B162_72_77 rfl ?_
            refine r_iast (pc' := 78) D162_77 rfl sc_78 H (by omega) (by unfold inR; omega) (by show s_in (rgK _) _; rw [rk_term (by omega)]; show 0 ≤ value ∧ value ≤ 1000; omega) ?_
            intro M82 u83 H84 p85
            have f86 := f0.wr u83 rfl
            refine s_blx (lv' := [(4, vI v78), (3, vI 100), (0, vR 77), (1, vI what), (2, vI value)]) (st' := [vI v78, vR 77]) B162_78_81 rfl ?_
            refine r_vI (c := 77) (args := [vI v78]) (rest := []) (pc' := 84) D162_81 rfl ck_11_virtual_131 TE149 rfl (Nat.le_of_ble_eq_true rfl) ⟨Nat.le_of_ble_eq_true rfl, Nat.le_of_ble_eq_true rfl⟩ sc_77 ⟨rfl, by decide⟩ H84.1 (dp_0 hd rfl) (k149 E (dp_n hd rfl) H84 v78 (by omega)) ?_
            intro v87 M88 q92
            obtain ⟨H89, f90, q91⟩ := q92
            have f93 := f86.tr (f90.up rfl)
            exact r_iretI D162_84 rfl (⟨H89, f93⟩)
          · refine s_blx (lv' := [(3, vI 100), (0, vR 77), (1, vI what), (2, vI value)]) (st' := [vI (-1), vR 77]) B162_55_57 rfl ?_
            refine r_vI (c := 77) (args := [vI (-1)]) (rest := []) (pc' := 60) D162_57 rfl ck_11_virtual_127 TE148 rfl (Nat.le_of_ble_eq_true rfl) ⟨Nat.le_of_ble_eq_true rfl, Nat.le_of_ble_eq_true rfl⟩ sc_77 ⟨rfl, by decide⟩ H.1 (dp_0 hd rfl) (k148 E (dp_n hd rfl) H (-1) (by omega)) ?_
            intro v94 M95 q99
            obtain ⟨H96, f97, q98⟩ := q99
            have f100 := f0.tr (f97.up rfl)
            exact r_iretI D162_60 rfl (⟨H96, f100⟩)
    · refine s_blx (lv' := [(0, vR 77), (1, vI what), (2, vI value)]) (st' := [vI 60]) B162_21_23 rfl ?_
      refine r_goto (tgt := 45) D162_23 rfl ?_
      refine s_blx (lv' := [(3, vI 60), (0, vR 77), (1, vI what), (2, vI value)]) (st' := [vI 60, vI 0, vI value]) B162_45_49 rfl ?_
      refine r_sIp (args := [vI value, vI 0, vI 60]) (rest := []) (pc' := 52) D162_49 rfl ck_11_static_123 TE147 rfl (Nat.le_of_ble_eq_true rfl) ⟨Nat.le_of_ble_eq_true rfl, Nat.le_of_ble_eq_true rfl⟩ (by decide) (dp_0 hd rfl) (k147 E (dp_n hd rfl) H value 0 60 (by omega) (by omega) (by omega)) ?_
      intro v101 q106
      obtain ⟨q103, q104, q105⟩ := q106
      refine r_ifc (tgt := 61) (pc' := 55) D162_52 rfl rfl (by unfold inR; omega) (fun (c107 : v101 ≠ 0) => ?_) (fun (c107 : ¬ (v101 ≠ 0)) => ?_)
      · refine s_blx (lv' := [(3, vI 60), (0, vR 77), (1, vI what), (2, vI value)]) (st' := [vI what, vR 77]) B162_61_63 rfl ?_
        refine r_vIp (c := 77) (args := [vI what]) (rest := []) (pc' := 66) D162_63 rfl ck_11_virtual_141 TE153 rfl (Nat.le_of_ble_eq_true rfl) ⟨Nat.le_of_ble_eq_true rfl, Nat.le_of_ble_eq_true rfl⟩ sc_77 ⟨rfl, by decide⟩ H.1 (dp_0 hd rfl) (k153 E (dp_n hd rfl) H what (by omega)) ?_
        intro v108 q111
        have q110 := q111; clear q111
        refine s_blx (lv' := [(4, vI v108), (3, vI 60), (0, vR 77), (1, vI what), (2, vI value)]) (st' := [vR 77]) B162_66_69 rfl ?_
        refine r_gfix (r := 78) (pc' := 72) D162_69 rfl gf_11_13_77 H.1 ?_
        refine s_blx (lv' := [(4, vI v108), (3, vI 60), (0, vR 77), (1, vI what), (2, vI value)]) (st' := [vI value, vI (90 + what), vR 78]) B162_72_77 rfl ?_
        refine r_iast (pc' := 78) D162_77 rfl sc_78 H (by omega) (by unfold inR; omega) (by show s_in (rgK _) _; rw [rk_term (by omega)]; show 0 ≤ value ∧ value ≤ 1000; omega) ?_
        intro M112 u113 H114 p115
        have f116 := f0.wr u113 rfl
        refine s_blx (lv' := [(4, vI v108), (3, vI 60), (0, vR 77), (1, vI what), (2, vI value)]) (st' := [vI v108, vR 77]) B162_78_81 rfl ?_
        refine r_vI (c := 77) (args := [vI v108]) (rest := []) (pc' := 84) D162_81 rfl ck_11_virtual_131 TE149 rfl (Nat.le_of_ble_eq_true rfl) ⟨Nat.le_of_ble_eq_true rfl, Nat.le_of_ble_eq_true rfl⟩ sc_77 ⟨rfl, by decide⟩ H114.1 (dp_0 hd rfl) (k149 E (dp_n hd rfl) H114 v108 (by omega)) ?_
        intro v117 M118 q122
        obtain ⟨H119, f120, q121⟩ := q122
        have f123 := f116.tr (f120.up rfl)
        exact r_iretI D162_84 rfl (⟨H119, f123⟩)
      · refine s_blx (lv' := [(3, vI 60), (0, vR 77), (1, vI what), (2, vI value)]) (st' := [vI (-1), vR 77]) B162_55_57 rfl ?_
        refine r_vI (c := 77) (args := [vI (-1)]) (rest := []) (pc' := 60) D162_57 rfl ck_11_virtual_127 TE148 rfl (Nat.le_of_ble_eq_true rfl) ⟨Nat.le_of_ble_eq_true rfl, Nat.le_of_ble_eq_true rfl⟩ sc_77 ⟨rfl, by decide⟩ H.1 (dp_0 hd rfl) (k148 E (dp_n hd rfl) H (-1) (by omega)) ?_
        intro v124 M125 q129
        obtain ⟨H126, f127, q128⟩ := q129
        have f130 := f0.tr (f127.up rfl)
        exact r_iretI D162_60 rfl (⟨H126, f130⟩)
  · refine s_blx (lv' := [(0, vR 77), (1, vI what), (2, vI value)]) (st' := [vI (-1), vR 77]) B162_10_12 rfl ?_
    refine r_vI (c := 77) (args := [vI (-1)]) (rest := []) (pc' := 15) D162_12 rfl ck_11_virtual_127 TE148 rfl (Nat.le_of_ble_eq_true rfl) ⟨Nat.le_of_ble_eq_true rfl, Nat.le_of_ble_eq_true rfl⟩ sc_77 ⟨rfl, by decide⟩ H.1 (dp_0 hd rfl) (k148 E (dp_n hd rfl) H (-1) (by omega)) ?_
    intro v131 M132 q136
    obtain ⟨H133, f134, q135⟩ := q136
    have f137 := f0.tr (f134.up rfl)
    exact r_iretI D162_15 rfl (⟨H133, f137⟩)
set_option maxRecDepth 4000 in
theorem k163 {base : Nat} {X : Nat → Option mC} {G : Nat → Value} (E : EnvOK base X G) {d : Nat} (hd : 1 ≤ d) {M : mH} (H : HI base M) (order : Int) (h0 : -2147483648 ≤ order ∧ order ≤ 2147483647) : sOk base X G d T163 [vR 77, vI order] M (pI (fun v M' => HI base M' ∧ Fr [(77, 1), (78, 0)] M M')) := by
  have f0 : Fr [(77, 1), (78, 0)] M M := Fr.rf
  refine sOk.of (show sRn base X G d T163 0 [(0, vR 77), (1, vI order)] [] M _ from ?_)
  refine s_blx (lv' := [(0, vR 77), (1, vI order)]) (st' := [vI 5, vI 0, vI order]) B163_0_3 rfl ?_
  refine r_sIp (args := [vI order, vI 0, vI 5]) (rest := []) (pc' := 6) D163_3 rfl ck_11_static_123 TE147 rfl (Nat.le_of_ble_eq_true rfl) ⟨Nat.le_of_ble_eq_true rfl, Nat.le_of_ble_eq_true rfl⟩ (by decide) (dp_0 hd rfl) (k147 E (dp_n hd rfl) H order 0 5 (by omega) (by omega) (by omega)) ?_
  intro v1 q6
  obtain ⟨q3, q4, q5⟩ := q6
  refine r_ifc (tgt := 15) (pc' := 9) D163_6 rfl rfl (by unfold inR; omega) (fun (c7 : v1 ≠ 0) => ?_) (fun (c7 : ¬ (v1 ≠ 0)) => ?_)
  · refine s_blx (lv' := [(0, vR 77), (1, vI order)]) (st' := [vR 77]) B163_15_16 rfl ?_
    refine r_gfix (r := 78) (pc' := 19) D163_16 rfl gf_11_13_77 H.1 ?_
    refine s_blx (lv' := [(0, vR 77), (1, vI order)]) (st' := [vI 473, vR 78]) B163_19_22 rfl ?_
    refine r_iald (pc' := 23) D163_22 rfl sc_78 H.1 (by omega) ?_
    intro w8 e9 r10
    have b_w8 := H.2 78 (473) 0 5 (rk_order (by omega))
    rw [← e9] at b_w8; clear r10
    refine s_blx (lv' := [(2, vI w8), (0, vR 77), (1, vI order)]) (st' := [vR 77]) B163_23_25 rfl ?_
    refine r_gfix (r := 78) (pc' := 28) D163_25 rfl gf_11_13_77 H.1 ?_
    refine s_blx (lv' := [(2, vI w8), (0, vR 77), (1, vI order)]) (st' := [vI order, vI 473, vR 78]) B163_28_32 rfl ?_
    refine r_iast (pc' := 33) D163_32 rfl sc_78 H (by omega) (by unfold inR; omega) (by show s_in (rgK _) _; rw [rk_order (by omega)]; show 0 ≤ order ∧ order ≤ 5; omega) ?_
    intro M11 u12 H13 p14
    have f15 := f0.wr u12 rfl
    refine s_blx (lv' := [(2, vI w8), (0, vR 77), (1, vI order)]) (st' := [vI w8, vR 77]) B163_33_35 rfl ?_
    refine r_vI (c := 77) (args := [vI w8]) (rest := []) (pc' := 38) D163_35 rfl ck_11_virtual_131 TE149 rfl (Nat.le_of_ble_eq_true rfl) ⟨Nat.le_of_ble_eq_true rfl, Nat.le_of_ble_eq_true rfl⟩ sc_77 ⟨rfl, by decide⟩ H13.1 (dp_0 hd rfl) (k149 E (dp_n hd rfl) H13 w8 (by omega)) ?_
    intro v16 M17 q21
    obtain ⟨H18, f19, q20⟩ := q21
    have f22 := f15.tr (f19.up rfl)
    exact r_iretI D163_38 rfl (⟨H18, f22⟩)
  · refine s_blx (lv' := [(0, vR 77), (1, vI order)]) (st' := [vI (-1), vR 77]) B163_9_11 rfl ?_
    refine r_vI (c := 77) (args := [vI (-1)]) (rest := []) (pc' := 14) D163_11 rfl ck_11_virtual_127 TE148 rfl (Nat.le_of_ble_eq_true rfl) ⟨Nat.le_of_ble_eq_true rfl, Nat.le_of_ble_eq_true rfl⟩ sc_77 ⟨rfl, by decide⟩ H.1 (dp_0 hd rfl) (k148 E (dp_n hd rfl) H (-1) (by omega)) ?_
    intro v23 M24 q28
    obtain ⟨H25, f26, q27⟩ := q28
    have f29 := f0.tr (f26.up rfl)
    exact r_iretI D163_14 rfl (⟨H25, f29⟩)
set_option maxRecDepth 4000 in
theorem k164 {base : Nat} {X : Nat → Option mC} {G : Nat → Value} (E : EnvOK base X G) {d : Nat} (hd : 1 ≤ d) {M : mH} (H : HI base M) (slot : Int) (values : Int) (length : Int) (h0 : -2147483648 ≤ slot ∧ slot ≤ 2147483647) (h1 : -2147483648 ≤ values ∧ values ≤ 2147483647) (h2 : -2147483648 ≤ length ∧ length ≤ 2147483647) : sOk base X G d T164 [vR 77, vI slot, vI values, vI length] M (pI (fun v M' => HI base M' ∧ Fr [(77, 1), (78, 0)] M M')) := by
  have f0 : Fr [(77, 1), (78, 0)] M M := Fr.rf
  refine sOk.of (show sRn base X G d T164 0 [(0, vR 77), (1, vI slot), (2, vI values), (3, vI length)] [] M _ from ?_)
  refine s_blx (lv' := [(0, vR 77), (1, vI slot), (2, vI values), (3, vI length)]) (st' := [vI 2, vI 0, vI slot]) B164_0_3 rfl ?_
  refine r_sIp (args := [vI slot, vI 0, vI 2]) (rest := []) (pc' := 6) D164_3 rfl ck_11_static_123 TE147 rfl (Nat.le_of_ble_eq_true rfl) ⟨Nat.le_of_ble_eq_true rfl, Nat.le_of_ble_eq_true rfl⟩ (by decide) (dp_0 hd rfl) (k147 E (dp_n hd rfl) H slot 0 2 (by omega) (by omega) (by omega)) ?_
  intro v1 q6
  obtain ⟨q3, q4, q5⟩ := q6
  refine r_ifc (tgt := 30) (pc' := 9) D164_6 rfl rfl (by unfold inR; omega) (fun (c7 : v1 = 0) => ?_) (fun (c7 : ¬ (v1 = 0)) => ?_)
  · refine s_blx (lv' := [(0, vR 77), (1, vI slot), (2, vI values), (3, vI length)]) (st' := [vI (-1), vR 77]) B164_30_32 rfl ?_
    refine r_vI (c := 77) (args := [vI (-1)]) (rest := []) (pc' := 35) D164_32 rfl ck_11_virtual_127 TE148 rfl (Nat.le_of_ble_eq_true rfl) ⟨Nat.le_of_ble_eq_true rfl, Nat.le_of_ble_eq_true rfl⟩ sc_77 ⟨rfl, by decide⟩ H.1 (dp_0 hd rfl) (k148 E (dp_n hd rfl) H (-1) (by omega)) ?_
    intro v8 M9 q13
    obtain ⟨H10, f11, q12⟩ := q13
    have f14 := f0.tr (f11.up rfl)
    exact r_iretI D164_35 rfl (⟨H10, f14⟩)
  · refine s_blx (lv' := [(0, vR 77), (1, vI slot), (2, vI values), (3, vI length)]) (st' := [vI 255, vI 1, vI values]) B164_9_14 rfl ?_
    refine r_sIp (args := [vI values, vI 1, vI 255]) (rest := []) (pc' := 17) D164_14 rfl ck_11_static_123 TE147 rfl (Nat.le_of_ble_eq_true rfl) ⟨Nat.le_of_ble_eq_true rfl, Nat.le_of_ble_eq_true rfl⟩ (by decide) (dp_0 hd rfl) (k147 E (dp_n hd rfl) H values 1 255 (by omega) (by omega) (by omega)) ?_
    intro v15 q20
    obtain ⟨q17, q18, q19⟩ := q20
    refine r_ifc (tgt := 30) (pc' := 20) D164_17 rfl rfl (by unfold inR; omega) (fun (c21 : v15 = 0) => ?_) (fun (c21 : ¬ (v15 = 0)) => ?_)
    · refine s_blx (lv' := [(0, vR 77), (1, vI slot), (2, vI values), (3, vI length)]) (st' := [vI (-1), vR 77]) B164_30_32 rfl ?_
      refine r_vI (c := 77) (args := [vI (-1)]) (rest := []) (pc' := 35) D164_32 rfl ck_11_virtual_127 TE148 rfl (Nat.le_of_ble_eq_true rfl) ⟨Nat.le_of_ble_eq_true rfl, Nat.le_of_ble_eq_true rfl⟩ sc_77 ⟨rfl, by decide⟩ H.1 (dp_0 hd rfl) (k148 E (dp_n hd rfl) H (-1) (by omega)) ?_
      intro v22 M23 q27
      obtain ⟨H24, f25, q26⟩ := q27
      have f28 := f0.tr (f25.up rfl)
      exact r_iretI D164_35 rfl (⟨H24, f28⟩)
    · refine s_blx (lv' := [(0, vR 77), (1, vI slot), (2, vI values), (3, vI length)]) (st' := [vI 9, vI 1, vI length]) B164_20_24 rfl ?_
      refine r_sIp (args := [vI length, vI 1, vI 9]) (rest := []) (pc' := 27) D164_24 rfl ck_11_static_123 TE147 rfl (Nat.le_of_ble_eq_true rfl) ⟨Nat.le_of_ble_eq_true rfl, Nat.le_of_ble_eq_true rfl⟩ (by decide) (dp_0 hd rfl) (k147 E (dp_n hd rfl) H length 1 9 (by omega) (by omega) (by omega)) ?_
      intro v29 q34
      obtain ⟨q31, q32, q33⟩ := q34
      refine r_ifc (tgt := 36) (pc' := 30) D164_27 rfl rfl (by unfold inR; omega) (fun (c35 : v29 ≠ 0) => ?_) (fun (c35 : ¬ (v29 ≠ 0)) => ?_)
      · refine s_blx (lv' := [(0, vR 77), (1, vI slot), (2, vI values), (3, vI length)]) (st' := [vR 77]) B164_36_37 rfl ?_
        refine r_gfix (r := 78) (pc' := 40) D164_37 rfl gf_11_13_77 H.1 ?_
        refine s_blx (lv' := [(0, vR 77), (1, vI slot), (2, vI values), (3, vI length)]) (st' := [vI 470, vR 78]) B164_40_43 rfl ?_
        refine r_iald (pc' := 44) D164_43 rfl sc_78 H.1 (by omega) ?_
        intro w36 e37 r38
        have b_w36 := H.2 78 (470) 0 12 (rk_openmany (by omega))
        rw [← e37] at b_w36; clear r38
        refine s_blx (lv' := [(4, vI w36), (0, vR 77), (1, vI slot), (2, vI values), (3, vI length)]) (st' := [vI 12, vI w36]) B164_44_50 rfl ?_
        refine r_icmp (tgt := 60) (pc' := 53) D164_50 rfl rfl (by unfold inR; omega) (fun (c39 : w36 ≠ 12) => ?_) (fun (c39 : ¬ (w36 ≠ 12)) => ?_)
        · refine s_blx (lv' := [(4, vI w36), (0, vR 77), (1, vI slot), (2, vI values), (3, vI length)]) (st' := [vR 77]) B164_60_61 rfl ?_
          refine r_gfix (r := 78) (pc' := 64) D164_61 rfl gf_11_13_77 H.1 ?_
          refine s_blx (lv' := [(4, vI w36), (0, vR 77), (1, vI slot), (2, vI values), (3, vI length)]) (st' := [vI slot, vI (99 + (3 * w36)), vR 78]) B164_64_72 rfl ?_
          refine r_iast (pc' := 73) D164_72 rfl sc_78 H (by omega) (by unfold inR; omega) (by show s_in (rgK _) _; rw [rk_opening (by omega)]; show 0 ≤ slot ∧ slot ≤ 255; omega) ?_
          intro M40 u41 H42 p43
          have f44 := f0.wr u41 rfl
          refine s_blx (lv' := [(4, vI w36), (0, vR 77), (1, vI slot), (2, vI values), (3, vI length)]) (st' := [vR 77]) B164_73_74 rfl ?_
          refine r_gfix (r := 78) (pc' := 77) D164_74 rfl gf_11_13_77 H42.1 ?_
          refine s_blx (lv' := [(4, vI w36), (0, vR 77), (1, vI slot), (2, vI values), (3, vI length)]) (st' := [vI values, vI ((99 + (3 * w36)) + 1), vR 78]) B164_77_87 rfl ?_
          refine r_iast (pc' := 88) D164_87 rfl sc_78 H42 (by omega) (by unfold inR; omega) (by show s_in (rgK _) _; rw [rk_opening (by omega)]; show 0 ≤ values ∧ values ≤ 255; omega) ?_
          intro M45 u46 H47 p48
          have f49 := f44.wr u46 rfl
          refine s_blx (lv' := [(4, vI w36), (0, vR 77), (1, vI slot), (2, vI values), (3, vI length)]) (st' := [vR 77]) B164_88_89 rfl ?_
          refine r_gfix (r := 78) (pc' := 92) D164_89 rfl gf_11_13_77 H47.1 ?_
          refine s_blx (lv' := [(4, vI w36), (0, vR 77), (1, vI slot), (2, vI values), (3, vI length)]) (st' := [vI length, vI ((99 + (3 * w36)) + 2), vR 78]) B164_92_102 rfl ?_
          refine r_iast (pc' := 103) D164_102 rfl sc_78 H47 (by omega) (by unfold inR; omega) (by show s_in (rgK _) _; rw [rk_opening (by omega)]; show 0 ≤ length ∧ length ≤ 255; omega) ?_
          intro M50 u51 H52 p53
          have f54 := f49.wr u51 rfl
          refine s_blx (lv' := [(4, vI w36), (0, vR 77), (1, vI slot), (2, vI values), (3, vI length)]) (st' := [vR 77]) B164_103_104 rfl ?_
          refine r_gfix (r := 78) (pc' := 107) D164_104 rfl gf_11_13_77 H52.1 ?_
          refine s_blx (lv' := [(4, vI w36), (0, vR 77), (1, vI slot), (2, vI values), (3, vI length)]) (st' := [vI 470, vR 78, vI 470, vR 78]) B164_107_111 rfl ?_
          refine r_iald (pc' := 112) D164_111 rfl sc_78 H52.1 (by omega) ?_
          intro w55 e56 r57
          have e58 : w36 = w55 := (e56.trans ((u51.gi_ne (by omega) (Or.inr (by omega))).trans ((u46.gi_ne (by omega) (Or.inr (by omega))).trans ((u41.gi_ne (by omega) (Or.inr (by omega))).trans (e37.symm))))).symm
          subst e58
          refine s_blx (lv' := [(4, vI w36), (0, vR 77), (1, vI slot), (2, vI values), (3, vI length)]) (st' := [vI (w36 + 1), vI 470, vR 78]) B164_112_114 rfl ?_
          refine r_iast (pc' := 115) D164_114 rfl sc_78 H52 (by omega) (by unfold inR; omega) (by show s_in (rgK _) _; rw [rk_openmany (by omega)]; show 0 ≤ (w36 + 1) ∧ (w36 + 1) ≤ 12; omega) ?_
          intro M59 u60 H61 p62
          have f63 := f54.wr u60 rfl
          refine s_blx (lv' := [(4, vI w36), (0, vR 77), (1, vI slot), (2, vI values), (3, vI length)]) (st' := [vI w36, vR 77]) B164_115_118 rfl ?_
          refine r_vI (c := 77) (args := [vI w36]) (rest := []) (pc' := 121) D164_118 rfl ck_11_virtual_131 TE149 rfl (Nat.le_of_ble_eq_true rfl) ⟨Nat.le_of_ble_eq_true rfl, Nat.le_of_ble_eq_true rfl⟩ sc_77 ⟨rfl, by decide⟩ H61.1 (dp_0 hd rfl) (k149 E (dp_n hd rfl) H61 w36 (by omega)) ?_
          intro v64 M65 q69
          obtain ⟨H66, f67, q68⟩ := q69
          have f70 := f63.tr (f67.up rfl)
          exact r_iretI D164_121 rfl (⟨H66, f70⟩)
        · refine s_blx (lv' := [(4, vI w36), (0, vR 77), (1, vI slot), (2, vI values), (3, vI length)]) (st' := [vI (-5), vR 77]) B164_53_56 rfl ?_
          refine r_vI (c := 77) (args := [vI (-5)]) (rest := []) (pc' := 59) D164_56 rfl ck_11_virtual_127 TE148 rfl (Nat.le_of_ble_eq_true rfl) ⟨Nat.le_of_ble_eq_true rfl, Nat.le_of_ble_eq_true rfl⟩ sc_77 ⟨rfl, by decide⟩ H.1 (dp_0 hd rfl) (k148 E (dp_n hd rfl) H (-5) (by omega)) ?_
          intro v71 M72 q76
          obtain ⟨H73, f74, q75⟩ := q76
          have f77 := f0.tr (f74.up rfl)
          exact r_iretI D164_59 rfl (⟨H73, f77⟩)
      · refine s_blx (lv' := [(0, vR 77), (1, vI slot), (2, vI values), (3, vI length)]) (st' := [vI (-1), vR 77]) B164_30_32 rfl ?_
        refine r_vI (c := 77) (args := [vI (-1)]) (rest := []) (pc' := 35) D164_32 rfl ck_11_virtual_127 TE148 rfl (Nat.le_of_ble_eq_true rfl) ⟨Nat.le_of_ble_eq_true rfl, Nat.le_of_ble_eq_true rfl⟩ sc_77 ⟨rfl, by decide⟩ H.1 (dp_0 hd rfl) (k148 E (dp_n hd rfl) H (-1) (by omega)) ?_
        intro v78 M79 q83
        obtain ⟨H80, f81, q82⟩ := q83
        have f84 := f0.tr (f81.up rfl)
        exact r_iretI D164_35 rfl (⟨H80, f84⟩)
set_option maxRecDepth 4000 in
theorem k165 {base : Nat} {X : Nat → Option mC} {G : Nat → Value} (E : EnvOK base X G) {d : Nat} (hd : 1 ≤ d) {M : mH} (H : HI base M) (speaker : Int) (h0 : -2147483648 ≤ speaker ∧ speaker ≤ 2147483647) : sOk base X G d T165 [vR 77, vI speaker] M (pI (fun v M' => HI base M' ∧ Fr [(77, 1), (78, 0)] M M')) := by
  have f0 : Fr [(77, 1), (78, 0)] M M := Fr.rf
  refine sOk.of (show sRn base X G d T165 0 [(0, vR 77), (1, vI speaker)] [] M _ from ?_)
  refine s_blx (lv' := [(0, vR 77), (1, vI speaker)]) (st' := [vI 3, vI 0, vI speaker]) B165_0_3 rfl ?_
  refine r_sIp (args := [vI speaker, vI 0, vI 3]) (rest := []) (pc' := 6) D165_3 rfl ck_11_static_123 TE147 rfl (Nat.le_of_ble_eq_true rfl) ⟨Nat.le_of_ble_eq_true rfl, Nat.le_of_ble_eq_true rfl⟩ (by decide) (dp_0 hd rfl) (k147 E (dp_n hd rfl) H speaker 0 3 (by omega) (by omega) (by omega)) ?_
  intro v1 q6
  obtain ⟨q3, q4, q5⟩ := q6
  refine r_ifc (tgt := 15) (pc' := 9) D165_6 rfl rfl (by unfold inR; omega) (fun (c7 : v1 ≠ 0) => ?_) (fun (c7 : ¬ (v1 ≠ 0)) => ?_)
  · refine s_blx (lv' := [(0, vR 77), (1, vI speaker)]) (st' := [vR 77]) B165_15_16 rfl ?_
    refine r_gfix (r := 78) (pc' := 19) D165_16 rfl gf_11_13_77 H.1 ?_
    refine s_blx (lv' := [(0, vR 77), (1, vI speaker)]) (st' := [vI 474, vR 78]) B165_19_22 rfl ?_
    refine r_iald (pc' := 23) D165_22 rfl sc_78 H.1 (by omega) ?_
    intro w8 e9 r10
    have b_w8 := H.2 78 (474) 0 3 (rk_who (by omega))
    rw [← e9] at b_w8; clear r10
    refine s_blx (lv' := [(2, vI w8), (0, vR 77), (1, vI speaker)]) (st' := [vR 77]) B165_23_25 rfl ?_
    refine r_gfix (r := 78) (pc' := 28) D165_25 rfl gf_11_13_77 H.1 ?_
    refine s_blx (lv' := [(2, vI w8), (0, vR 77), (1, vI speaker)]) (st' := [vI speaker, vI 474, vR 78]) B165_28_32 rfl ?_
    refine r_iast (pc' := 33) D165_32 rfl sc_78 H (by omega) (by unfold inR; omega) (by show s_in (rgK _) _; rw [rk_who (by omega)]; show 0 ≤ speaker ∧ speaker ≤ 3; omega) ?_
    intro M11 u12 H13 p14
    have f15 := f0.wr u12 rfl
    refine s_blx (lv' := [(2, vI w8), (0, vR 77), (1, vI speaker)]) (st' := [vI w8, vR 77]) B165_33_35 rfl ?_
    refine r_vI (c := 77) (args := [vI w8]) (rest := []) (pc' := 38) D165_35 rfl ck_11_virtual_131 TE149 rfl (Nat.le_of_ble_eq_true rfl) ⟨Nat.le_of_ble_eq_true rfl, Nat.le_of_ble_eq_true rfl⟩ sc_77 ⟨rfl, by decide⟩ H13.1 (dp_0 hd rfl) (k149 E (dp_n hd rfl) H13 w8 (by omega)) ?_
    intro v16 M17 q21
    obtain ⟨H18, f19, q20⟩ := q21
    have f22 := f15.tr (f19.up rfl)
    exact r_iretI D165_38 rfl (⟨H18, f22⟩)
  · refine s_blx (lv' := [(0, vR 77), (1, vI speaker)]) (st' := [vI (-1), vR 77]) B165_9_11 rfl ?_
    refine r_vI (c := 77) (args := [vI (-1)]) (rest := []) (pc' := 14) D165_11 rfl ck_11_virtual_127 TE148 rfl (Nat.le_of_ble_eq_true rfl) ⟨Nat.le_of_ble_eq_true rfl, Nat.le_of_ble_eq_true rfl⟩ sc_77 ⟨rfl, by decide⟩ H.1 (dp_0 hd rfl) (k148 E (dp_n hd rfl) H (-1) (by omega)) ?_
    intro v23 M24 q28
    obtain ⟨H25, f26, q27⟩ := q28
    have f29 := f0.tr (f26.up rfl)
    exact r_iretI D165_14 rfl (⟨H25, f29⟩)
set_option maxRecDepth 4000 in
theorem L_k166 {base : Nat} {X : Nat → Option mC} {G : Nat → Value} (E : EnvOK base X G) {d : Nat} (hd : 1 ≤ d) {M : mH} (H : HI base M) (s : Int) (size : Int) (h0 : 0 ≤ s ∧ s ≤ 15) (h1 : 0 ≤ size ∧ size ≤ 8) : ∀ mz : Nat, (∀ (x3 x4 : Int), (0 ≤ x3) → (x3 ≤ 1) → (0 ≤ x4) → (x4 ≤ 8) → (8 - x4) * 1 + 0 < (mz : Int) → sRn base X G d T166 18 [(0, vR 77), (1, vI s), (2, vI size), (3, vI x3), (4, vI x4)] [] M (s_Q base (pI (fun v M' => M' = M ∧ (v = 0 ∨ v = 1))))) := by
  intro mz
  induction mz with
  | zero => exact fun x3 x4 z0 z1 z2 z3 z4 => by omega
  | succ mz ih =>
    intro x3 x4 i0 i1 i2 i3 hmu
    refine s_blx (lv' := [(0, vR 77), (1, vI s), (2, vI size), (3, vI x3), (4, vI x4)]) (st' := [vI size, vI x4]) B166_18_21 rfl ?_
    refine r_icmp (tgt := 57) (pc' := 24) D166_21 rfl rfl (by unfold inR; omega) (fun (c6 : size ≤ x4) => ?_) (fun (c6 : ¬ (size ≤ x4)) => ?_)
    · refine s_blx (lv' := [(0, vR 77), (1, vI s), (2, vI size), (3, vI x3), (4, vI x4)]) (st' := [vI x3]) B166_57_58 rfl ?_
      exact r_zretI D166_58 rfl (by omega) (⟨rfl, by omega⟩)
    · refine s_blx (lv' := [(0, vR 77), (1, vI s), (2, vI size), (3, vI x3), (4, vI x4)]) (st' := [vI x3]) B166_24_25 rfl ?_
      refine r_ifc (tgt := 57) (pc' := 28) D166_25 rfl rfl (by unfold inR; omega) (fun (c7 : x3 = 0) => ?_) (fun (c7 : ¬ (x3 = 0)) => ?_)
      · refine s_blx (lv' := [(0, vR 77), (1, vI s), (2, vI size), (3, vI x3), (4, vI x4)]) (st' := [vI x3]) B166_57_58 rfl ?_
        exact r_zretI D166_58 rfl (by omega) (⟨rfl, by omega⟩)
      · refine s_blx (lv' := [(0, vR 77), (1, vI s), (2, vI size), (3, vI x3), (4, vI x4)]) (st' := [vI x4, vI s, vR 77]) B166_28_32 rfl ?_
        refine r_vIp (c := 77) (args := [vI s, vI x4]) (rest := []) (pc' := 35) D166_32 rfl ck_11_virtual_147 TE157 rfl (Nat.le_of_ble_eq_true rfl) ⟨Nat.le_of_ble_eq_true rfl, Nat.le_of_ble_eq_true rfl⟩ sc_77 ⟨rfl, by decide⟩ H.1 (dp_0 hd rfl) (k157 E (dp_n hd rfl) H s x4 (by omega) (by omega)) ?_
        intro v8 q11
        have q10 := q11; clear q11
        refine s_blx (lv' := [(0, vR 77), (1, vI s), (2, vI size), (3, vI x3), (4, vI x4)]) (st' := [vR 77, vI v8]) B166_35_36 rfl ?_
        refine r_gfix (r := 95) (pc' := 39) D166_36 rfl gf_11_69_77 H.1 ?_
        refine s_blx (lv' := [(0, vR 77), (1, vI s), (2, vI size), (3, vI x3), (4, vI x4)]) (st' := [vI x4, vR 95, vI v8]) B166_39_41 rfl ?_
        refine r_bald (pc' := 42) D166_41 rfl sc_95 (by decide) H.1 (by omega) ?_
        intro w12 e13 r14
        have b_w12 := H.2 95 (x4) (-128) 127 rfl
        rw [← e13] at b_w12; clear r14
        refine r_icmp (tgt := 49) (pc' := 45) D166_42 rfl rfl (by unfold inR; omega) (fun (c15 : v8 ≠ w12) => ?_) (fun (c15 : ¬ (v8 ≠ w12)) => ?_)
        · refine s_blx (lv' := [(4, vI (x4 + 1)), (3, vI 0), (0, vR 77), (1, vI s), (2, vI size)]) (st' := []) B166_49_54 rfl ?_
          refine r_goto (tgt := 18) D166_54 rfl ?_
          refine r_loc (lv' := [(0, vR 77), (1, vI s), (2, vI size), (3, vI 0), (4, vI (x4 + 1))]) ⟨rfl, rfl, rfl, rfl, rfl, trivial⟩ rfl rfl ?_
          exact ih 0 (x4 + 1) (by omega) (by omega) (by omega) (by omega) (by omega)
        · refine s_blx (lv' := [(0, vR 77), (1, vI s), (2, vI size), (3, vI x3), (4, vI x4)]) (st' := [vI 1]) B166_45_46 rfl ?_
          refine r_goto (tgt := 50) D166_46 rfl ?_
          refine s_blx (lv' := [(4, vI (x4 + 1)), (3, vI 1), (0, vR 77), (1, vI s), (2, vI size)]) (st' := []) B166_50_54 rfl ?_
          refine r_goto (tgt := 18) D166_54 rfl ?_
          refine r_loc (lv' := [(0, vR 77), (1, vI s), (2, vI size), (3, vI 1), (4, vI (x4 + 1))]) ⟨rfl, rfl, rfl, rfl, rfl, trivial⟩ rfl rfl ?_
          exact ih 1 (x4 + 1) (by omega) (by omega) (by omega) (by omega) (by omega)
set_option maxRecDepth 4000 in
theorem k166 {base : Nat} {X : Nat → Option mC} {G : Nat → Value} (E : EnvOK base X G) {d : Nat} (hd : 1 ≤ d) {M : mH} (H : HI base M) (s : Int) (size : Int) (h0 : 0 ≤ s ∧ s ≤ 15) (h1 : 0 ≤ size ∧ size ≤ 8) : sOk base X G d T166 [vR 77, vI s, vI size] M (pI (fun v M' => M' = M ∧ (v = 0 ∨ v = 1))) := by
  refine sOk.of (show sRn base X G d T166 0 [(0, vR 77), (1, vI s), (2, vI size)] [] M _ from ?_)
  refine s_blx (lv' := [(0, vR 77), (1, vI s), (2, vI size)]) (st' := [vI s, vR 77]) B166_0_2 rfl ?_
  refine r_vIp (c := 77) (args := [vI s]) (rest := []) (pc' := 5) D166_2 rfl ck_11_virtual_144 TE156 rfl (Nat.le_of_ble_eq_true rfl) ⟨Nat.le_of_ble_eq_true rfl, Nat.le_of_ble_eq_true rfl⟩ sc_77 ⟨rfl, by decide⟩ H.1 (dp_0 hd rfl) (k156 E (dp_n hd rfl) H s (by omega)) ?_
  intro v1 q4
  have q3 := q4; clear q4
  refine s_blx (lv' := [(0, vR 77), (1, vI s), (2, vI size)]) (st' := [vI size, vI v1]) B166_5_6 rfl ?_
  refine r_icmp (tgt := 13) (pc' := 9) D166_6 rfl rfl (by unfold inR; omega) (fun (c5 : v1 ≠ size) => ?_) (fun (c5 : ¬ (v1 ≠ size)) => ?_)
  · refine s_blx (lv' := [(4, vI 0), (3, vI 0), (0, vR 77), (1, vI s), (2, vI size)]) (st' := []) B166_13_18 rfl ?_
    refine r_loc (lv' := [(0, vR 77), (1, vI s), (2, vI size), (3, vI 0), (4, vI 0)]) ⟨rfl, rfl, rfl, rfl, rfl, trivial⟩ rfl rfl ?_
    exact (L_k166 E hd H s size h0 h1 (((8 - 0) * 1 + 0 : Int) + 1).toNat) 0 0 (by omega) (by omega) (by omega) (by omega) (by omega)
  · refine s_blx (lv' := [(0, vR 77), (1, vI s), (2, vI size)]) (st' := [vI 1]) B166_9_10 rfl ?_
    refine r_goto (tgt := 14) D166_10 rfl ?_
    refine s_blx (lv' := [(4, vI 0), (3, vI 1), (0, vR 77), (1, vI s), (2, vI size)]) (st' := []) B166_14_18 rfl ?_
    refine r_loc (lv' := [(0, vR 77), (1, vI s), (2, vI size), (3, vI 1), (4, vI 0)]) ⟨rfl, rfl, rfl, rfl, rfl, trivial⟩ rfl rfl ?_
    exact (L_k166 E hd H s size h0 h1 (((8 - 0) * 1 + 0 : Int) + 1).toNat) 1 0 (by omega) (by omega) (by omega) (by omega) (by omega)
set_option maxRecDepth 4000 in
theorem k168 {base : Nat} {X : Nat → Option mC} {G : Nat → Value} (E : EnvOK base X G) {d : Nat} (hd : 2 ≤ d) {M : mH} (H : HI base M) (s : Int) (speaker : Int) (weight : Int) (h0 : -2147483648 ≤ s ∧ s ≤ 2147483647) (h1 : -2147483648 ≤ speaker ∧ speaker ≤ 2147483647) (h2 : -2147483648 ≤ weight ∧ weight ≤ 2147483647) : sOk base X G d T168 [vR 77, vI s, vI speaker, vI weight] M (pI (fun v M' => HI base M' ∧ Fr [(77, 1), (78, 0)] M M')) := by
  have f0 : Fr [(77, 1), (78, 0)] M M := Fr.rf
  refine sOk.of (show sRn base X G d T168 0 [(0, vR 77), (1, vI s), (2, vI speaker), (3, vI weight)] [] M _ from ?_)
  refine s_blx (lv' := [(0, vR 77), (1, vI s), (2, vI speaker), (3, vI weight)]) (st' := [vI 3, vI 0, vI speaker]) B168_0_3 rfl ?_
  refine r_sIp (args := [vI speaker, vI 0, vI 3]) (rest := []) (pc' := 6) D168_3 rfl ck_11_static_123 TE147 rfl (Nat.le_of_ble_eq_true rfl) ⟨Nat.le_of_ble_eq_true rfl, Nat.le_of_ble_eq_true rfl⟩ (by decide) (dp_0 hd rfl) (k147 E (dp_n hd rfl) H speaker 0 3 (by omega) (by omega) (by omega)) ?_
  intro v1 q6
  obtain ⟨q3, q4, q5⟩ := q6
  refine r_ifc (tgt := 19) (pc' := 9) D168_6 rfl rfl (by unfold inR; omega) (fun (c7 : v1 = 0) => ?_) (fun (c7 : ¬ (v1 = 0)) => ?_)
  · refine s_blx (lv' := [(0, vR 77), (1, vI s), (2, vI speaker), (3, vI weight)]) (st' := [vI (-1), vR 77]) B168_19_21 rfl ?_
    refine r_vI (c := 77) (args := [vI (-1)]) (rest := []) (pc' := 24) D168_21 rfl ck_11_virtual_127 TE148 rfl (Nat.le_of_ble_eq_true rfl) ⟨Nat.le_of_ble_eq_true rfl, Nat.le_of_ble_eq_true rfl⟩ sc_77 ⟨rfl, by decide⟩ H.1 (dp_0 hd rfl) (k148 E (dp_n hd rfl) H (-1) (by omega)) ?_
    intro v8 M9 q13
    obtain ⟨H10, f11, q12⟩ := q13
    have f14 := f0.tr (f11.up rfl)
    exact r_iretI D168_24 rfl (⟨H10, f14⟩)
  · refine s_blx (lv' := [(0, vR 77), (1, vI s), (2, vI speaker), (3, vI weight)]) (st' := [vI 100, vI 0, vI weight]) B168_9_13 rfl ?_
    refine r_sIp (args := [vI weight, vI 0, vI 100]) (rest := []) (pc' := 16) D168_13 rfl ck_11_static_123 TE147 rfl (Nat.le_of_ble_eq_true rfl) ⟨Nat.le_of_ble_eq_true rfl, Nat.le_of_ble_eq_true rfl⟩ (by decide) (dp_0 hd rfl) (k147 E (dp_n hd rfl) H weight 0 100 (by omega) (by omega) (by omega)) ?_
    intro v15 q20
    obtain ⟨q17, q18, q19⟩ := q20
    refine r_ifc (tgt := 25) (pc' := 19) D168_16 rfl rfl (by unfold inR; omega) (fun (c21 : v15 ≠ 0) => ?_) (fun (c21 : ¬ (v15 ≠ 0)) => ?_)
    · refine s_blx (lv' := [(0, vR 77), (1, vI s), (2, vI speaker), (3, vI weight)]) (st' := [vI s, vR 77]) B168_25_27 rfl ?_
      refine r_vIp (c := 77) (args := [vI s]) (rest := []) (pc' := 30) D168_27 rfl ck_11_virtual_134 TE154 rfl (Nat.le_of_ble_eq_true rfl) ⟨Nat.le_of_ble_eq_true rfl, Nat.le_of_ble_eq_true rfl⟩ sc_77 ⟨rfl, by decide⟩ H.1 (dp_0 hd rfl) (k154 E (dp_n hd rfl) H s (by omega)) ?_
      intro v22 q26
      obtain ⟨q24, q25⟩ := q26
      refine r_ifc (tgt := 40) (pc' := 33) D168_30 rfl rfl (by unfold inR; omega) (fun (c27 : v22 ≠ 0) => ?_) (fun (c27 : ¬ (v22 ≠ 0)) => ?_)
      · refine s_blx (lv' := [(4, vI (((135 + (16 * s)) + 12) + speaker)), (0, vR 77), (1, vI s), (2, vI speaker), (3, vI weight)]) (st' := [vR 77]) B168_40_56 rfl ?_
        refine r_gfix (r := 78) (pc' := 59) D168_56 rfl gf_11_13_77 H.1 ?_
        refine s_blx (lv' := [(4, vI (((135 + (16 * s)) + 12) + speaker)), (0, vR 77), (1, vI s), (2, vI speaker), (3, vI weight)]) (st' := [vI (((135 + (16 * s)) + 12) + speaker), vR 78]) B168_59_61 rfl ?_
        refine r_iald (pc' := 62) D168_61 rfl sc_78 H.1 (by omega) ?_
        intro w28 e29 r30
        have b_w28 := H.2 78 (((135 + (16 * s)) + 12) + speaker) 0 100 (rk_wgt (by omega))
        rw [← e29] at b_w28; clear r30
        refine s_blx (lv' := [(5, vI w28), (4, vI (((135 + (16 * s)) + 12) + speaker)), (0, vR 77), (1, vI s), (2, vI speaker), (3, vI weight)]) (st' := [vR 77]) B168_62_65 rfl ?_
        refine r_gfix (r := 78) (pc' := 68) D168_65 rfl gf_11_13_77 H.1 ?_
        refine s_blx (lv' := [(5, vI w28), (4, vI (((135 + (16 * s)) + 12) + speaker)), (0, vR 77), (1, vI s), (2, vI speaker), (3, vI weight)]) (st' := [vI weight, vI (((135 + (16 * s)) + 12) + speaker), vR 78]) B168_68_71 rfl ?_
        refine r_iast (pc' := 72) D168_71 rfl sc_78 H (by omega) (by unfold inR; omega) (by show s_in (rgK _) _; rw [rk_wgt (by omega)]; show 0 ≤ weight ∧ weight ≤ 100; omega) ?_
        intro M31 u32 H33 p34
        have f35 := f0.wr u32 rfl
        refine s_blx (lv' := [(5, vI w28), (4, vI (((135 + (16 * s)) + 12) + speaker)), (0, vR 77), (1, vI s), (2, vI speaker), (3, vI weight)]) (st' := [vI w28, vR 77]) B168_72_75 rfl ?_
        refine r_vI (c := 77) (args := [vI w28]) (rest := []) (pc' := 78) D168_75 rfl ck_11_virtual_131 TE149 rfl (Nat.le_of_ble_eq_true rfl) ⟨Nat.le_of_ble_eq_true rfl, Nat.le_of_ble_eq_true rfl⟩ sc_77 ⟨rfl, by decide⟩ H33.1 (dp_0 hd rfl) (k149 E (dp_n hd rfl) H33 w28 (by omega)) ?_
        intro v36 M37 q41
        obtain ⟨H38, f39, q40⟩ := q41
        have f42 := f35.tr (f39.up rfl)
        exact r_iretI D168_78 rfl (⟨H38, f42⟩)
      · refine s_blx (lv' := [(0, vR 77), (1, vI s), (2, vI speaker), (3, vI weight)]) (st' := [vI (-2), vR 77]) B168_33_36 rfl ?_
        refine r_vI (c := 77) (args := [vI (-2)]) (rest := []) (pc' := 39) D168_36 rfl ck_11_virtual_127 TE148 rfl (Nat.le_of_ble_eq_true rfl) ⟨Nat.le_of_ble_eq_true rfl, Nat.le_of_ble_eq_true rfl⟩ sc_77 ⟨rfl, by decide⟩ H.1 (dp_0 hd rfl) (k148 E (dp_n hd rfl) H (-2) (by omega)) ?_
        intro v43 M44 q48
        obtain ⟨H45, f46, q47⟩ := q48
        have f49 := f0.tr (f46.up rfl)
        exact r_iretI D168_39 rfl (⟨H45, f49⟩)
    · refine s_blx (lv' := [(0, vR 77), (1, vI s), (2, vI speaker), (3, vI weight)]) (st' := [vI (-1), vR 77]) B168_19_21 rfl ?_
      refine r_vI (c := 77) (args := [vI (-1)]) (rest := []) (pc' := 24) D168_21 rfl ck_11_virtual_127 TE148 rfl (Nat.le_of_ble_eq_true rfl) ⟨Nat.le_of_ble_eq_true rfl, Nat.le_of_ble_eq_true rfl⟩ sc_77 ⟨rfl, by decide⟩ H.1 (dp_0 hd rfl) (k148 E (dp_n hd rfl) H (-1) (by omega)) ?_
      intro v50 M51 q55
      obtain ⟨H52, f53, q54⟩ := q55
      have f56 := f0.tr (f53.up rfl)
      exact r_iretI D168_24 rfl (⟨H52, f56⟩)
set_option maxRecDepth 4000 in
theorem k169 {base : Nat} {X : Nat → Option mC} {G : Nat → Value} (E : EnvOK base X G) {d : Nat} (hd : 2 ≤ d) {M : mH} (H : HI base M) (s : Int) (i : Int) (h0 : -2147483648 ≤ s ∧ s ≤ 2147483647) (h1 : -2147483648 ≤ i ∧ i ≤ 2147483647) : sOk base X G d T169 [vR 77, vI s, vI i] M (pI (fun v M' => M' = M ∧ True)) := by
  refine sOk.of (show sRn base X G d T169 0 [(0, vR 77), (1, vI s), (2, vI i)] [] M _ from ?_)
  refine s_blx (lv' := [(0, vR 77), (1, vI s), (2, vI i)]) (st' := [vI s, vR 77]) B169_0_2 rfl ?_
  refine r_vIp (c := 77) (args := [vI s]) (rest := []) (pc' := 5) D169_2 rfl ck_11_virtual_134 TE154 rfl (Nat.le_of_ble_eq_true rfl) ⟨Nat.le_of_ble_eq_true rfl, Nat.le_of_ble_eq_true rfl⟩ sc_77 ⟨rfl, by decide⟩ H.1 (dp_0 hd rfl) (k154 E (dp_n hd rfl) H s (by omega)) ?_
  intro v1 q5
  obtain ⟨q3, q4⟩ := q5
  refine r_ifc (tgt := 23) (pc' := 8) D169_5 rfl rfl (by unfold inR; omega) (fun (c6 : v1 = 0) => ?_) (fun (c6 : ¬ (v1 = 0)) => ?_)
  · refine s_blx (lv' := [(0, vR 77), (1, vI s), (2, vI i)]) (st' := [vI (-1)]) B169_23_24 rfl ?_
    exact r_iretI D169_24 rfl (⟨rfl, trivial⟩)
  · refine s_blx (lv' := [(0, vR 77), (1, vI s), (2, vI i)]) (st' := [vI s, vR 77, vI (-1), vI i]) B169_8_12 rfl ?_
    refine r_vIp (c := 77) (args := [vI s]) (rest := [vI (-1), vI i]) (pc' := 15) D169_12 rfl ck_11_virtual_144 TE156 rfl (Nat.le_of_ble_eq_true rfl) ⟨Nat.le_of_ble_eq_true rfl, Nat.le_of_ble_eq_true rfl⟩ sc_77 ⟨rfl, by decide⟩ H.1 (dp_0 hd rfl) (k156 E (dp_n hd rfl) H s (by omega)) ?_
    intro v7 q10
    have q9 := q10; clear q10
    refine s_blx (lv' := [(0, vR 77), (1, vI s), (2, vI i)]) (st' := [vI (v7 - 1), vI (-1), vI i]) B169_15_17 rfl ?_
    refine r_sIp (args := [vI i, vI (-1), vI (v7 - 1)]) (rest := []) (pc' := 20) D169_17 rfl ck_11_static_123 TE147 rfl (Nat.le_of_ble_eq_true rfl) ⟨Nat.le_of_ble_eq_true rfl, Nat.le_of_ble_eq_true rfl⟩ (by decide) (dp_0 hd rfl) (k147 E (dp_n hd rfl) H i (-1) (v7 - 1) (by omega) (by omega) (by omega)) ?_
    intro v11 q16
    obtain ⟨q13, q14, q15⟩ := q16
    refine r_ifc (tgt := 25) (pc' := 23) D169_20 rfl rfl (by unfold inR; omega) (fun (c17 : v11 ≠ 0) => ?_) (fun (c17 : ¬ (v11 ≠ 0)) => ?_)
    · refine s_blx (lv' := [(0, vR 77), (1, vI s), (2, vI i)]) (st' := [vI (-1), vI i]) B169_25_27 rfl ?_
      refine r_icmp (tgt := 38) (pc' := 30) D169_27 rfl rfl (by unfold inR; omega) (fun (c18 : i ≠ (-1)) => ?_) (fun (c18 : ¬ (i ≠ (-1))) => ?_)
      · refine s_blx (lv' := [(0, vR 77), (1, vI s), (2, vI i)]) (st' := [vI i, vI s, vR 77]) B169_38_41 rfl ?_
        refine r_vIp (c := 77) (args := [vI s, vI i]) (rest := []) (pc' := 44) D169_41 rfl ck_11_virtual_147 TE157 rfl (Nat.le_of_ble_eq_true rfl) ⟨Nat.le_of_ble_eq_true rfl, Nat.le_of_ble_eq_true rfl⟩ sc_77 ⟨rfl, by decide⟩ H.1 (dp_0 hd rfl) (k157 E (dp_n hd rfl) H s i (by omega) (by omega)) ?_
        intro v19 q22
        have q21 := q22; clear q22
        exact r_iretI D169_44 rfl (⟨rfl, trivial⟩)
      · refine s_blx (lv' := [(0, vR 77), (1, vI s), (2, vI i)]) (st' := [vI s, vR 77]) B169_30_32 rfl ?_
        refine r_vIp (c := 77) (args := [vI s]) (rest := []) (pc' := 35) D169_32 rfl ck_11_virtual_144 TE156 rfl (Nat.le_of_ble_eq_true rfl) ⟨Nat.le_of_ble_eq_true rfl, Nat.le_of_ble_eq_true rfl⟩ sc_77 ⟨rfl, by decide⟩ H.1 (dp_0 hd rfl) (k156 E (dp_n hd rfl) H s (by omega)) ?_
        intro v23 q26
        have q25 := q26; clear q26
        refine r_goto (tgt := 44) D169_35 rfl ?_
        exact r_iretI D169_44 rfl (⟨rfl, trivial⟩)
    · refine s_blx (lv' := [(0, vR 77), (1, vI s), (2, vI i)]) (st' := [vI (-1)]) B169_23_24 rfl ?_
      exact r_iretI D169_24 rfl (⟨rfl, trivial⟩)
set_option maxRecDepth 4000 in
theorem L_k170 {base : Nat} {X : Nat → Option mC} {G : Nat → Value} (E : EnvOK base X G) {d : Nat} (hd : 1 ≤ d) {M : mH} (H : HI base M) (s : Int) (like : Int) (n : Int) (h0 : 0 ≤ s ∧ s ≤ 15) (h1 : 0 ≤ like ∧ like ≤ 15) (h2 : 0 ≤ n ∧ n ≤ 8) : ∀ mz : Nat, (∀ (x4 x5 : Int), (0 ≤ x4) → (x4 ≤ 1) → (0 ≤ x5) → (x5 ≤ 8) → (8 - x5) * 1 + 0 < (mz : Int) → sRn base X G d T170 19 [(0, vR 77), (1, vI s), (2, vI like), (3, vI n), (4, vI x4), (5, vI x5)] [] M (s_Q base (pI (fun v M' => M' = M ∧ (v = 0 ∨ v = 1))))) := by
  intro mz
  induction mz with
  | zero => exact fun x4 x5 z0 z1 z2 z3 z4 => by omega
  | succ mz ih =>
    intro x4 x5 i0 i1 i2 i3 hmu
    refine s_blx (lv' := [(0, vR 77), (1, vI s), (2, vI like), (3, vI n), (4, vI x4), (5, vI x5)]) (st' := [vI n, vI x5]) B170_19_22 rfl ?_
    refine r_icmp (tgt := 60) (pc' := 25) D170_22 rfl rfl (by unfold inR; omega) (fun (c6 : n ≤ x5) => ?_) (fun (c6 : ¬ (n ≤ x5)) => ?_)
    · refine s_blx (lv' := [(0, vR 77), (1, vI s), (2, vI like), (3, vI n), (4, vI x4), (5, vI x5)]) (st' := [vI x4]) B170_60_62 rfl ?_
      exact r_zretI D170_62 rfl (by omega) (⟨rfl, by omega⟩)
    · refine s_blx (lv' := [(0, vR 77), (1, vI s), (2, vI like), (3, vI n), (4, vI x4), (5, vI x5)]) (st' := [vI x4]) B170_25_27 rfl ?_
      refine r_ifc (tgt := 60) (pc' := 30) D170_27 rfl rfl (by unfold inR; omega) (fun (c7 : x4 = 0) => ?_) (fun (c7 : ¬ (x4 = 0)) => ?_)
      · refine s_blx (lv' := [(0, vR 77), (1, vI s), (2, vI like), (3, vI n), (4, vI x4), (5, vI x5)]) (st' := [vI x4]) B170_60_62 rfl ?_
        exact r_zretI D170_62 rfl (by omega) (⟨rfl, by omega⟩)
      · refine s_blx (lv' := [(0, vR 77), (1, vI s), (2, vI like), (3, vI n), (4, vI x4), (5, vI x5)]) (st' := [vI x5, vI s, vR 77]) B170_30_34 rfl ?_
        refine r_vIp (c := 77) (args := [vI s, vI x5]) (rest := []) (pc' := 37) D170_34 rfl ck_11_virtual_147 TE157 rfl (Nat.le_of_ble_eq_true rfl) ⟨Nat.le_of_ble_eq_true rfl, Nat.le_of_ble_eq_true rfl⟩ sc_77 ⟨rfl, by decide⟩ H.1 (dp_0 hd rfl) (k157 E (dp_n hd rfl) H s x5 (by omega) (by omega)) ?_
        intro v8 q11
        have q10 := q11; clear q11
        refine s_blx (lv' := [(0, vR 77), (1, vI s), (2, vI like), (3, vI n), (4, vI x4), (5, vI x5)]) (st' := [vI x5, vI like, vR 77, vI v8]) B170_37_41 rfl ?_
        refine r_vIp (c := 77) (args := [vI like, vI x5]) (rest := [vI v8]) (pc' := 44) D170_41 rfl ck_11_virtual_147 TE157 rfl (Nat.le_of_ble_eq_true rfl) ⟨Nat.le_of_ble_eq_true rfl, Nat.le_of_ble_eq_true rfl⟩ sc_77 ⟨rfl, by decide⟩ H.1 (dp_0 hd rfl) (k157 E (dp_n hd rfl) H like x5 (by omega) (by omega)) ?_
        intro v12 q15
        have q14 := q15; clear q15
        refine r_icmp (tgt := 51) (pc' := 47) D170_44 rfl rfl (by unfold inR; omega) (fun (c16 : v8 ≠ v12) => ?_) (fun (c16 : ¬ (v8 ≠ v12)) => ?_)
        · refine s_blx (lv' := [(5, vI (x5 + 1)), (4, vI 0), (0, vR 77), (1, vI s), (2, vI like), (3, vI n)]) (st' := []) B170_51_57 rfl ?_
          refine r_goto (tgt := 19) D170_57 rfl ?_
          refine r_loc (lv' := [(0, vR 77), (1, vI s), (2, vI like), (3, vI n), (4, vI 0), (5, vI (x5 + 1))]) ⟨rfl, rfl, rfl, rfl, rfl, rfl, trivial⟩ rfl rfl ?_
          exact ih 0 (x5 + 1) (by omega) (by omega) (by omega) (by omega) (by omega)
        · refine s_blx (lv' := [(0, vR 77), (1, vI s), (2, vI like), (3, vI n), (4, vI x4), (5, vI x5)]) (st' := [vI 1]) B170_47_48 rfl ?_
          refine r_goto (tgt := 52) D170_48 rfl ?_
          refine s_blx (lv' := [(5, vI (x5 + 1)), (4, vI 1), (0, vR 77), (1, vI s), (2, vI like), (3, vI n)]) (st' := []) B170_52_57 rfl ?_
          refine r_goto (tgt := 19) D170_57 rfl ?_
          refine r_loc (lv' := [(0, vR 77), (1, vI s), (2, vI like), (3, vI n), (4, vI 1), (5, vI (x5 + 1))]) ⟨rfl, rfl, rfl, rfl, rfl, rfl, trivial⟩ rfl rfl ?_
          exact ih 1 (x5 + 1) (by omega) (by omega) (by omega) (by omega) (by omega)
set_option maxRecDepth 4000 in
theorem k170 {base : Nat} {X : Nat → Option mC} {G : Nat → Value} (E : EnvOK base X G) {d : Nat} (hd : 1 ≤ d) {M : mH} (H : HI base M) (s : Int) (like : Int) (n : Int) (h0 : 0 ≤ s ∧ s ≤ 15) (h1 : 0 ≤ like ∧ like ≤ 15) (h2 : 0 ≤ n ∧ n ≤ 8) : sOk base X G d T170 [vR 77, vI s, vI like, vI n] M (pI (fun v M' => M' = M ∧ (v = 0 ∨ v = 1))) := by
  refine sOk.of (show sRn base X G d T170 0 [(0, vR 77), (1, vI s), (2, vI like), (3, vI n)] [] M _ from ?_)
  refine s_blx (lv' := [(0, vR 77), (1, vI s), (2, vI like), (3, vI n)]) (st' := [vI s, vR 77]) B170_0_2 rfl ?_
  refine r_vIp (c := 77) (args := [vI s]) (rest := []) (pc' := 5) D170_2 rfl ck_11_virtual_144 TE156 rfl (Nat.le_of_ble_eq_true rfl) ⟨Nat.le_of_ble_eq_true rfl, Nat.le_of_ble_eq_true rfl⟩ sc_77 ⟨rfl, by decide⟩ H.1 (dp_0 hd rfl) (k156 E (dp_n hd rfl) H s (by omega)) ?_
  intro v1 q4
  have q3 := q4; clear q4
  refine s_blx (lv' := [(0, vR 77), (1, vI s), (2, vI like), (3, vI n)]) (st' := [vI n, vI v1]) B170_5_6 rfl ?_
  refine r_icmp (tgt := 13) (pc' := 9) D170_6 rfl rfl (by unfold inR; omega) (fun (c5 : v1 < n) => ?_) (fun (c5 : ¬ (v1 < n)) => ?_)
  · refine s_blx (lv' := [(5, vI 0), (4, vI 0), (0, vR 77), (1, vI s), (2, vI like), (3, vI n)]) (st' := []) B170_13_19 rfl ?_
    refine r_loc (lv' := [(0, vR 77), (1, vI s), (2, vI like), (3, vI n), (4, vI 0), (5, vI 0)]) ⟨rfl, rfl, rfl, rfl, rfl, rfl, trivial⟩ rfl rfl ?_
    exact (L_k170 E hd H s like n h0 h1 h2 (((8 - 0) * 1 + 0 : Int) + 1).toNat) 0 0 (by omega) (by omega) (by omega) (by omega) (by omega)
  · refine s_blx (lv' := [(0, vR 77), (1, vI s), (2, vI like), (3, vI n)]) (st' := [vI 1]) B170_9_10 rfl ?_
    refine r_goto (tgt := 14) D170_10 rfl ?_
    refine s_blx (lv' := [(5, vI 0), (4, vI 1), (0, vR 77), (1, vI s), (2, vI like), (3, vI n)]) (st' := []) B170_14_19 rfl ?_
    refine r_loc (lv' := [(0, vR 77), (1, vI s), (2, vI like), (3, vI n), (4, vI 1), (5, vI 0)]) ⟨rfl, rfl, rfl, rfl, rfl, rfl, trivial⟩ rfl rfl ?_
    exact (L_k170 E hd H s like n h0 h1 h2 (((8 - 0) * 1 + 0 : Int) + 1).toNat) 1 0 (by omega) (by omega) (by omega) (by omega) (by omega)
set_option maxRecDepth 4000 in
theorem L_k171 {base : Nat} {X : Nat → Option mC} {G : Nat → Value} (E : EnvOK base X G) {d : Nat} (hd : 2 ≤ d) {M : mH} (H : HI base M) (like : Int) (n : Int) (over : Int) (h0 : (over = 0 ∨ over = 1)) (h1 : 0 ≤ like ∧ like ≤ 15) (h2 : 0 ≤ n ∧ n ≤ 8) : ∀ mz : Nat, (∀ (x4 x5 : Int), ((-2147483648) ≤ x4) → (x4 ≤ 2147483647) → (0 ≤ x5) → (x5 ≤ 16) → (16 - x5) * 1 + 0 < (mz : Int) → sRn base X G d T171 6 [(0, vR 77), (1, vI like), (2, vI n), (3, vI over), (4, vI x4), (5, vI x5)] [] M (s_Q base (pI (fun v M' => M' = M ∧ (-2147483648 ≤ v ∧ v ≤ 2147483647))))) := by
  intro mz
  induction mz with
  | zero => exact fun x4 x5 z0 z1 z2 z3 z4 => by omega
  | succ mz ih =>
    intro x4 x5 i0 i1 i2 i3 hmu
    refine s_blx (lv' := [(0, vR 77), (1, vI like), (2, vI n), (3, vI over), (4, vI x4), (5, vI x5)]) (st' := [vR 77, vI x5]) B171_6_9 rfl ?_
    refine r_gfix (r := 78) (pc' := 12) D171_9 rfl gf_11_13_77 H.1 ?_
    refine s_blx (lv' := [(0, vR 77), (1, vI like), (2, vI n), (3, vI over), (4, vI x4), (5, vI x5)]) (st' := [vI 469, vR 78, vI x5]) B171_12_15 rfl ?_
    refine r_iald (pc' := 16) D171_15 rfl sc_78 H.1 (by omega) ?_
    intro w1 e2 r3
    have b_w1 := H.2 78 (469) 0 16 (rk_many (by omega))
    rw [← e2] at b_w1; clear r3
    refine r_icmp (tgt := 68) (pc' := 19) D171_16 rfl rfl (by unfold inR; omega) (fun (c4 : w1 ≤ x5) => ?_) (fun (c4 : ¬ (w1 ≤ x5)) => ?_)
    · refine s_blx (lv' := [(0, vR 77), (1, vI like), (2, vI n), (3, vI over), (4, vI x4), (5, vI x5)]) (st' := [vI x4]) B171_68_70 rfl ?_
      exact r_iretI D171_70 rfl (⟨rfl, by omega⟩)
    · refine s_blx (lv' := [(0, vR 77), (1, vI like), (2, vI n), (3, vI over), (4, vI x4), (5, vI x5)]) (st' := [vI x5, vR 77]) B171_19_22 rfl ?_
      refine r_vIp (c := 77) (args := [vI x5]) (rest := []) (pc' := 25) D171_22 rfl ck_11_virtual_138 TE159 rfl (Nat.le_of_ble_eq_true rfl) ⟨Nat.le_of_ble_eq_true rfl, Nat.le_of_ble_eq_true rfl⟩ sc_77 ⟨rfl, by decide⟩ H.1 (dp_0 hd rfl) (k159 E (dp_n hd rfl) H x5 (by omega)) ?_
      intro v5 q8
      have q7 := q8; clear q8
      refine r_ifc (tgt := 62) (pc' := 28) D171_25 rfl rfl (by unfold inR; omega) (fun (c9 : v5 ≤ 0) => ?_) (fun (c9 : ¬ (v5 ≤ 0)) => ?_)
      · refine s_blx (lv' := [(5, vI (x5 + 1)), (0, vR 77), (1, vI like), (2, vI n), (3, vI over), (4, vI x4)]) (st' := []) B171_62_65 rfl ?_
        refine r_goto (tgt := 6) D171_65 rfl ?_
        refine r_loc (lv' := [(0, vR 77), (1, vI like), (2, vI n), (3, vI over), (4, vI x4), (5, vI (x5 + 1))]) ⟨rfl, rfl, rfl, rfl, rfl, rfl, trivial⟩ rfl rfl ?_
        exact ih x4 (x5 + 1) (by omega) (by omega) (by omega) (by omega) (by omega)
      · refine s_blx (lv' := [(0, vR 77), (1, vI like), (2, vI n), (3, vI over), (4, vI x4), (5, vI x5)]) (st' := [vI n, vI like, vI x5, vR 77]) B171_28_33 rfl ?_
        refine r_vIp (c := 77) (args := [vI x5, vI like, vI n]) (rest := []) (pc' := 36) D171_33 rfl ck_11_virtual_158 TE170 rfl (Nat.le_of_ble_eq_true rfl) ⟨Nat.le_of_ble_eq_true rfl, Nat.le_of_ble_eq_true rfl⟩ sc_77 ⟨rfl, by decide⟩ H.1 (dp_0 hd rfl) (k170 E (dp_n hd rfl) H x5 like n (by omega) (by omega) (by omega)) ?_
        intro v10 q13
        have q12 := q13; clear q13
        refine r_ifc (tgt := 62) (pc' := 39) D171_36 rfl rfl (by unfold inR; omega) (fun (c14 : v10 = 0) => ?_) (fun (c14 : ¬ (v10 = 0)) => ?_)
        · refine s_blx (lv' := [(5, vI (x5 + 1)), (0, vR 77), (1, vI like), (2, vI n), (3, vI over), (4, vI x4)]) (st' := []) B171_62_65 rfl ?_
          refine r_goto (tgt := 6) D171_65 rfl ?_
          refine r_loc (lv' := [(0, vR 77), (1, vI like), (2, vI n), (3, vI over), (4, vI x4), (5, vI (x5 + 1))]) ⟨rfl, rfl, rfl, rfl, rfl, rfl, trivial⟩ rfl rfl ?_
          exact ih x4 (x5 + 1) (by omega) (by omega) (by omega) (by omega) (by omega)
        · refine s_blx (lv' := [(0, vR 77), (1, vI like), (2, vI n), (3, vI over), (4, vI x4), (5, vI x5)]) (st' := [vI over]) B171_39_40 rfl ?_
          refine r_ifc (tgt := 53) (pc' := 43) D171_40 rfl rfl (by unfold inR; omega) (fun (c15 : over = 0) => ?_) (fun (c15 : ¬ (over = 0)) => ?_)
          · refine s_blx (lv' := [(0, vR 77), (1, vI like), (2, vI n), (3, vI over), (4, vI x4), (5, vI x5)]) (st' := [vI x5, vI 1, vI x4]) B171_53_58 rfl ?_
            refine r_bin (pc' := 59) D171_58 rfl rfl ?_
            intro z16 r17 _; unfold inR at r17
            refine r_bin (pc' := 60) D171_59 rfl rfl ?_
            intro z18 r19 _; unfold inR at r19
            refine s_blx (lv' := [(5, vI (x5 + 1)), (4, vI z18), (0, vR 77), (1, vI like), (2, vI n), (3, vI over)]) (st' := []) B171_60_65 rfl ?_
            refine r_goto (tgt := 6) D171_65 rfl ?_
            refine r_loc (lv' := [(0, vR 77), (1, vI like), (2, vI n), (3, vI over), (4, vI z18), (5, vI (x5 + 1))]) ⟨rfl, rfl, rfl, rfl, rfl, rfl, trivial⟩ rfl rfl ?_
            exact ih z18 (x5 + 1) (by omega) (by omega) (by omega) (by omega) (by omega)
          · refine s_blx (lv' := [(0, vR 77), (1, vI like), (2, vI n), (3, vI over), (4, vI x4), (5, vI x5)]) (st' := [vI x5, vR 77]) B171_43_46 rfl ?_
            refine r_vIp (c := 77) (args := [vI x5]) (rest := []) (pc' := 49) D171_46 rfl ck_11_virtual_144 TE156 rfl (Nat.le_of_ble_eq_true rfl) ⟨Nat.le_of_ble_eq_true rfl, Nat.le_of_ble_eq_true rfl⟩ sc_77 ⟨rfl, by decide⟩ H.1 (dp_0 hd rfl) (k156 E (dp_n hd rfl) H x5 (by omega)) ?_
            intro v20 q23
            have q22 := q23; clear q23
            refine s_blx (lv' := [(0, vR 77), (1, vI like), (2, vI n), (3, vI over), (4, vI x4), (5, vI x5)]) (st' := [vI n, vI v20]) B171_49_50 rfl ?_
            refine r_icmp (tgt := 62) (pc' := 53) D171_50 rfl rfl (by unfold inR; omega) (fun (c24 : n < v20) => ?_) (fun (c24 : ¬ (n < v20)) => ?_)
            · refine s_blx (lv' := [(5, vI (x5 + 1)), (0, vR 77), (1, vI like), (2, vI n), (3, vI over), (4, vI x4)]) (st' := []) B171_62_65 rfl ?_
              refine r_goto (tgt := 6) D171_65 rfl ?_
              refine r_loc (lv' := [(0, vR 77), (1, vI like), (2, vI n), (3, vI over), (4, vI x4), (5, vI (x5 + 1))]) ⟨rfl, rfl, rfl, rfl, rfl, rfl, trivial⟩ rfl rfl ?_
              exact ih x4 (x5 + 1) (by omega) (by omega) (by omega) (by omega) (by omega)
            · refine s_blx (lv' := [(0, vR 77), (1, vI like), (2, vI n), (3, vI over), (4, vI x4), (5, vI x5)]) (st' := [vI x5, vI 1, vI x4]) B171_53_58 rfl ?_
              refine r_bin (pc' := 59) D171_58 rfl rfl ?_
              intro z25 r26 _; unfold inR at r26
              refine r_bin (pc' := 60) D171_59 rfl rfl ?_
              intro z27 r28 _; unfold inR at r28
              refine s_blx (lv' := [(5, vI (x5 + 1)), (4, vI z27), (0, vR 77), (1, vI like), (2, vI n), (3, vI over)]) (st' := []) B171_60_65 rfl ?_
              refine r_goto (tgt := 6) D171_65 rfl ?_
              refine r_loc (lv' := [(0, vR 77), (1, vI like), (2, vI n), (3, vI over), (4, vI z27), (5, vI (x5 + 1))]) ⟨rfl, rfl, rfl, rfl, rfl, rfl, trivial⟩ rfl rfl ?_
              exact ih z27 (x5 + 1) (by omega) (by omega) (by omega) (by omega) (by omega)
set_option maxRecDepth 4000 in
theorem k171 {base : Nat} {X : Nat → Option mC} {G : Nat → Value} (E : EnvOK base X G) {d : Nat} (hd : 2 ≤ d) {M : mH} (H : HI base M) (like : Int) (n : Int) (over : Int) (h0 : (over = 0 ∨ over = 1)) (h1 : 0 ≤ like ∧ like ≤ 15) (h2 : 0 ≤ n ∧ n ≤ 8) : sOk base X G d T171 [vR 77, vI like, vI n, vI over] M (pI (fun v M' => M' = M ∧ (-2147483648 ≤ v ∧ v ≤ 2147483647))) := by
  refine sOk.of (show sRn base X G d T171 0 [(0, vR 77), (1, vI like), (2, vI n), (3, vI over)] [] M _ from ?_)
  refine s_blx (lv' := [(5, vI 0), (4, vI 0), (0, vR 77), (1, vI like), (2, vI n), (3, vI over)]) (st' := []) B171_0_6 rfl ?_
  refine r_loc (lv' := [(0, vR 77), (1, vI like), (2, vI n), (3, vI over), (4, vI 0), (5, vI 0)]) ⟨rfl, rfl, rfl, rfl, rfl, rfl, trivial⟩ rfl rfl ?_
  exact (L_k171 E hd H like n over h0 h1 h2 (((16 - 0) * 1 + 0 : Int) + 1).toNat) 0 0 (by omega) (by omega) (by omega) (by omega) (by omega)
set_option maxRecDepth 4000 in
theorem L_k172 {base : Nat} {X : Nat → Option mC} {G : Nat → Value} (E : EnvOK base X G) {d : Nat} (hd : 1 ≤ d) {M : mH} (H : HI base M) (set : Int) (slot : Int) (h0 : -2147483648 ≤ set ∧ set ≤ 2147483647) (h1 : 0 ≤ slot ∧ slot ≤ 2) : ∀ mz : Nat, (∀ (x3 x4 : Int), ((-2147483648) ≤ x3) → (x3 ≤ 2147483647) → (0 ≤ x4) → (x4 ≤ 16) → (16 - x4) * 1 + 0 < (mz : Int) → sRn base X G d T172 5 [(0, vR 77), (1, vI set), (2, vI slot), (3, vI x3), (4, vI x4)] [] M (s_Q base (pI (fun v M' => M' = M ∧ (-2147483648 ≤ v ∧ v ≤ 2147483647))))) := by
  intro mz
  induction mz with
  | zero => exact fun x3 x4 z0 z1 z2 z3 z4 => by omega
  | succ mz ih =>
    intro x3 x4 i0 i1 i2 i3 hmu
    refine s_blx (lv' := [(0, vR 77), (1, vI set), (2, vI slot), (3, vI x3), (4, vI x4)]) (st' := [vR 77, vI x4]) B172_5_8 rfl ?_
    refine r_gfix (r := 78) (pc' := 11) D172_8 rfl gf_11_13_77 H.1 ?_
    refine s_blx (lv' := [(0, vR 77), (1, vI set), (2, vI slot), (3, vI x3), (4, vI x4)]) (st' := [vI 469, vR 78, vI x4]) B172_11_14 rfl ?_
    refine r_iald (pc' := 15) D172_14 rfl sc_78 H.1 (by omega) ?_
    intro w1 e2 r3
    have b_w1 := H.2 78 (469) 0 16 (rk_many (by omega))
    rw [← e2] at b_w1; clear r3
    refine r_icmp (tgt := 46) (pc' := 18) D172_15 rfl rfl (by unfold inR; omega) (fun (c4 : w1 ≤ x4) => ?_) (fun (c4 : ¬ (w1 ≤ x4)) => ?_)
    · refine s_blx (lv' := [(0, vR 77), (1, vI set), (2, vI slot), (3, vI x3), (4, vI x4)]) (st' := [vI x3]) B172_46_47 rfl ?_
      exact r_iretI D172_47 rfl (⟨rfl, by omega⟩)
    · refine s_blx (lv' := [(0, vR 77), (1, vI set), (2, vI slot), (3, vI x3), (4, vI x4)]) (st' := [vI x4, vI set]) B172_18_21 rfl ?_
      refine r_bin (pc' := 22) D172_21 rfl rfl ?_
      intro z5 r6 _; unfold inR at r6
      refine s_blx (lv' := [(0, vR 77), (1, vI set), (2, vI slot), (3, vI x3), (4, vI x4)]) (st' := [vI 1, vI z5]) B172_22_23 rfl ?_
      refine r_and1 (pc' := 24) D172_23 rfl ?_
      refine s_blx (lv' := [(0, vR 77), (1, vI set), (2, vI slot), (3, vI x3), (4, vI x4)]) (st' := [vI 1, vI (z5 % 2)]) B172_24_25 rfl ?_
      refine r_icmp (tgt := 40) (pc' := 28) D172_25 rfl rfl (by unfold inR; omega) (fun (c7 : (z5 % 2) ≠ 1) => ?_) (fun (c7 : ¬ ((z5 % 2) ≠ 1)) => ?_)
      · refine s_blx (lv' := [(4, vI (x4 + 1)), (0, vR 77), (1, vI set), (2, vI slot), (3, vI x3)]) (st' := []) B172_40_43 rfl ?_
        refine r_goto (tgt := 5) D172_43 rfl ?_
        refine r_loc (lv' := [(0, vR 77), (1, vI set), (2, vI slot), (3, vI x3), (4, vI (x4 + 1))]) ⟨rfl, rfl, rfl, rfl, rfl, trivial⟩ rfl rfl ?_
        exact ih x3 (x4 + 1) (by omega) (by omega) (by omega) (by omega) (by omega)
      · refine s_blx (lv' := [(0, vR 77), (1, vI set), (2, vI slot), (3, vI x3), (4, vI x4)]) (st' := [vI slot, vI x4, vR 77, vI 1, vI x3]) B172_28_34 rfl ?_
        refine r_vIp (c := 77) (args := [vI x4, vI slot]) (rest := [vI 1, vI x3]) (pc' := 37) D172_34 rfl ck_11_virtual_161 TE158 rfl (Nat.le_of_ble_eq_true rfl) ⟨Nat.le_of_ble_eq_true rfl, Nat.le_of_ble_eq_true rfl⟩ sc_77 ⟨rfl, by decide⟩ H.1 (dp_0 hd rfl) (k158 E (dp_n hd rfl) H x4 slot (by omega) (by omega)) ?_
        intro v8 q11
        have q10 := q11; clear q11
        refine r_bin (pc' := 38) D172_37 rfl rfl ?_
        intro z12 r13 _; unfold inR at r13
        refine r_bin (pc' := 39) D172_38 rfl rfl ?_
        intro z14 r15 _; unfold inR at r15
        refine s_blx (lv' := [(4, vI (x4 + 1)), (3, vI z14), (0, vR 77), (1, vI set), (2, vI slot)]) (st' := []) B172_39_43 rfl ?_
        refine r_goto (tgt := 5) D172_43 rfl ?_
        refine r_loc (lv' := [(0, vR 77), (1, vI set), (2, vI slot), (3, vI z14), (4, vI (x4 + 1))]) ⟨rfl, rfl, rfl, rfl, rfl, trivial⟩ rfl rfl ?_
        exact ih z14 (x4 + 1) (by omega) (by omega) (by omega) (by omega) (by omega)
set_option maxRecDepth 4000 in
theorem k172 {base : Nat} {X : Nat → Option mC} {G : Nat → Value} (E : EnvOK base X G) {d : Nat} (hd : 1 ≤ d) {M : mH} (H : HI base M) (set : Int) (slot : Int) (h0 : -2147483648 ≤ set ∧ set ≤ 2147483647) (h1 : 0 ≤ slot ∧ slot ≤ 2) : sOk base X G d T172 [vR 77, vI set, vI slot] M (pI (fun v M' => M' = M ∧ (-2147483648 ≤ v ∧ v ≤ 2147483647))) := by
  refine sOk.of (show sRn base X G d T172 0 [(0, vR 77), (1, vI set), (2, vI slot)] [] M _ from ?_)
  refine s_blx (lv' := [(4, vI 0), (3, vI 0), (0, vR 77), (1, vI set), (2, vI slot)]) (st' := []) B172_0_5 rfl ?_
  refine r_loc (lv' := [(0, vR 77), (1, vI set), (2, vI slot), (3, vI 0), (4, vI 0)]) ⟨rfl, rfl, rfl, rfl, rfl, trivial⟩ rfl rfl ?_
  exact (L_k172 E hd H set slot h0 h1 (((16 - 0) * 1 + 0 : Int) + 1).toNat) 0 0 (by omega) (by omega) (by omega) (by omega) (by omega)
set_option maxRecDepth 4000 in
theorem L_k173 {base : Nat} {X : Nat → Option mC} {G : Nat → Value} (E : EnvOK base X G) {d : Nat} (hd : 1 ≤ d) {M : mH} (H : HI base M) (set : Int) (h0 : -2147483648 ≤ set ∧ set ≤ 2147483647) : ∀ mz : Nat, (∀ (x2 x3 : Int), (0 ≤ x2) → (0 ≤ x3) → (x3 ≤ 16) → (16 - x3) * 1 + 0 < (mz : Int) → sRn base X G d T173 4 [(0, vR 77), (1, vI set), (2, vI x2), (3, vI x3)] [] M (s_Q base (pI (fun v M' => M' = M ∧ (-2147483648 ≤ v ∧ v ≤ 2147483647))))) := by
  intro mz
  induction mz with
  | zero => exact fun x2 x3 z0 z1 z2 z3 => by omega
  | succ mz ih =>
    intro x2 x3 i0 i1 i2 hmu
    refine s_blx (lv' := [(0, vR 77), (1, vI set), (2, vI x2), (3, vI x3)]) (st' := [vR 77, vI x3]) B173_4_6 rfl ?_
    refine r_gfix (r := 78) (pc' := 9) D173_6 rfl gf_11_13_77 H.1 ?_
    refine s_blx (lv' := [(0, vR 77), (1, vI set), (2, vI x2), (3, vI x3)]) (st' := [vI 469, vR 78, vI x3]) B173_9_12 rfl ?_
    refine r_iald (pc' := 13) D173_12 rfl sc_78 H.1 (by omega) ?_
    intro w1 e2 r3
    have b_w1 := H.2 78 (469) 0 16 (rk_many (by omega))
    rw [← e2] at b_w1; clear r3
    refine r_icmp (tgt := 43) (pc' := 16) D173_13 rfl rfl (by unfold inR; omega) (fun (c4 : w1 ≤ x3) => ?_) (fun (c4 : ¬ (w1 ≤ x3)) => ?_)
    · refine s_blx (lv' := [(0, vR 77), (1, vI set), (2, vI x2), (3, vI x3)]) (st' := [vI x2]) B173_43_44 rfl ?_
      refine r_norm ?_
      intro z5 r6 _; unfold inR at r6
      exact r_iretI D173_44 rfl (⟨rfl, by omega⟩)
    · refine s_blx (lv' := [(0, vR 77), (1, vI set), (2, vI x2), (3, vI x3)]) (st' := [vI x3, vI set, vI x2]) B173_16_19 rfl ?_
      refine r_bin (pc' := 20) D173_19 rfl rfl ?_
      intro z7 r8 _; unfold inR at r8
      refine s_blx (lv' := [(0, vR 77), (1, vI set), (2, vI x2), (3, vI x3)]) (st' := [vI 1, vI z7, vI x2]) B173_20_21 rfl ?_
      refine r_and1 (pc' := 22) D173_21 rfl ?_
      refine s_blx (lv' := [(0, vR 77), (1, vI set), (2, vI x2), (3, vI x3)]) (st' := [vI 1, vI (z7 % 2), vI x2]) B173_22_23 rfl ?_
      refine r_icmp (tgt := 34) (pc' := 26) D173_23 rfl rfl (by unfold inR; omega) (fun (c9 : (z7 % 2) ≠ 1) => ?_) (fun (c9 : ¬ ((z7 % 2) ≠ 1)) => ?_)
      · refine s_blx (lv' := [(3, vI (x3 + 1)), (2, vI (x2 + 0)), (0, vR 77), (1, vI set)]) (st' := []) B173_34_40 rfl ?_
        refine r_goto (tgt := 4) D173_40 rfl ?_
        refine r_loc (lv' := [(0, vR 77), (1, vI set), (2, vI (x2 + 0)), (3, vI (x3 + 1))]) ⟨rfl, rfl, rfl, rfl, trivial⟩ rfl rfl ?_
        exact ih (x2 + 0) (x3 + 1) (by omega) (by omega) (by omega) (by omega)
      · refine s_blx (lv' := [(0, vR 77), (1, vI set), (2, vI x2), (3, vI x3)]) (st' := [vI x3, vR 77, vI x2]) B173_26_28 rfl ?_
        refine r_vIp (c := 77) (args := [vI x3]) (rest := [vI x2]) (pc' := 31) D173_28 rfl ck_11_virtual_138 TE159 rfl (Nat.le_of_ble_eq_true rfl) ⟨Nat.le_of_ble_eq_true rfl, Nat.le_of_ble_eq_true rfl⟩ sc_77 ⟨rfl, by decide⟩ H.1 (dp_0 hd rfl) (k159 E (dp_n hd rfl) H x3 (by omega)) ?_
        intro v10 q13
        have q12 := q13; clear q13
        refine r_goto (tgt := 35) D173_31 rfl ?_
        refine s_blx (lv' := [(3, vI (x3 + 1)), (2, vI (x2 + v10)), (0, vR 77), (1, vI set)]) (st' := []) B173_35_40 rfl ?_
        refine r_goto (tgt := 4) D173_40 rfl ?_
        refine r_loc (lv' := [(0, vR 77), (1, vI set), (2, vI (x2 + v10)), (3, vI (x3 + 1))]) ⟨rfl, rfl, rfl, rfl, trivial⟩ rfl rfl ?_
        exact ih (x2 + v10) (x3 + 1) (by omega) (by omega) (by omega) (by omega)
set_option maxRecDepth 4000 in
theorem k173 {base : Nat} {X : Nat → Option mC} {G : Nat → Value} (E : EnvOK base X G) {d : Nat} (hd : 1 ≤ d) {M : mH} (H : HI base M) (set : Int) (h0 : -2147483648 ≤ set ∧ set ≤ 2147483647) : sOk base X G d T173 [vR 77, vI set] M (pI (fun v M' => M' = M ∧ (-2147483648 ≤ v ∧ v ≤ 2147483647))) := by
  refine sOk.of (show sRn base X G d T173 0 [(0, vR 77), (1, vI set)] [] M _ from ?_)
  refine s_blx (lv' := [(3, vI 0), (2, vI 0), (0, vR 77), (1, vI set)]) (st' := []) B173_0_4 rfl ?_
  refine r_loc (lv' := [(0, vR 77), (1, vI set), (2, vI 0), (3, vI 0)]) ⟨rfl, rfl, rfl, rfl, trivial⟩ rfl rfl ?_
  exact (L_k173 E hd H set h0 (((16 - 0) * 1 + 0 : Int) + 1).toNat) 0 0 (by omega) (by omega) (by omega) (by omega)
set_option maxRecDepth 4000 in
theorem L_k174 {base : Nat} {X : Nat → Option mC} {G : Nat → Value} (E : EnvOK base X G) {d : Nat} (hd : 1 ≤ d) {M : mH} (H : HI base M) (set : Int) (slot : Int) (value : Int) (h0 : -2147483648 ≤ set ∧ set ≤ 2147483647) (h1 : 0 ≤ slot ∧ slot ≤ 2) (h2 : -2147483648 ≤ value ∧ value ≤ 2147483647) : ∀ mz : Nat, (∀ (x4 x5 : Int), (0 ≤ x4) → (0 ≤ x5) → (x5 ≤ 16) → (16 - x5) * 1 + 0 < (mz : Int) → sRn base X G d T174 6 [(0, vR 77), (1, vI set), (2, vI slot), (3, vI value), (4, vI x4), (5, vI x5)] [] M (s_Q base (pI (fun v M' => M' = M ∧ (-2147483648 ≤ v ∧ v ≤ 2147483647))))) := by
  intro mz
  induction mz with
  | zero => exact fun x4 x5 z0 z1 z2 z3 => by omega
  | succ mz ih =>
    intro x4 x5 i0 i1 i2 hmu
    refine s_blx (lv' := [(0, vR 77), (1, vI set), (2, vI slot), (3, vI value), (4, vI x4), (5, vI x5)]) (st' := [vR 77, vI x5]) B174_6_9 rfl ?_
    refine r_gfix (r := 78) (pc' := 12) D174_9 rfl gf_11_13_77 H.1 ?_
    refine s_blx (lv' := [(0, vR 77), (1, vI set), (2, vI slot), (3, vI value), (4, vI x4), (5, vI x5)]) (st' := [vI 469, vR 78, vI x5]) B174_12_15 rfl ?_
    refine r_iald (pc' := 16) D174_15 rfl sc_78 H.1 (by omega) ?_
    intro w1 e2 r3
    have b_w1 := H.2 78 (469) 0 16 (rk_many (by omega))
    rw [← e2] at b_w1; clear r3
    refine r_icmp (tgt := 61) (pc' := 19) D174_16 rfl rfl (by unfold inR; omega) (fun (c4 : w1 ≤ x5) => ?_) (fun (c4 : ¬ (w1 ≤ x5)) => ?_)
    · refine s_blx (lv' := [(0, vR 77), (1, vI set), (2, vI slot), (3, vI value), (4, vI x4), (5, vI x5)]) (st' := [vI x4]) B174_61_63 rfl ?_
      refine r_norm ?_
      intro z5 r6 _; unfold inR at r6
      exact r_iretI D174_63 rfl (⟨rfl, by omega⟩)
    · refine s_blx (lv' := [(0, vR 77), (1, vI set), (2, vI slot), (3, vI value), (4, vI x4), (5, vI x5)]) (st' := [vI x5, vI set, vI x4]) B174_19_24 rfl ?_
      refine r_bin (pc' := 25) D174_24 rfl rfl ?_
      intro z7 r8 _; unfold inR at r8
      refine s_blx (lv' := [(0, vR 77), (1, vI set), (2, vI slot), (3, vI value), (4, vI x4), (5, vI x5)]) (st' := [vI 1, vI z7, vI x4]) B174_25_26 rfl ?_
      refine r_and1 (pc' := 27) D174_26 rfl ?_
      refine s_blx (lv' := [(0, vR 77), (1, vI set), (2, vI slot), (3, vI value), (4, vI x4), (5, vI x5)]) (st' := [vI 1, vI (z7 % 2), vI x4]) B174_27_28 rfl ?_
      refine r_icmp (tgt := 51) (pc' := 31) D174_28 rfl rfl (by unfold inR; omega) (fun (c9 : (z7 % 2) ≠ 1) => ?_) (fun (c9 : ¬ ((z7 % 2) ≠ 1)) => ?_)
      · refine s_blx (lv' := [(5, vI (x5 + 1)), (4, vI (x4 + 0)), (0, vR 77), (1, vI set), (2, vI slot), (3, vI value)]) (st' := []) B174_51_58 rfl ?_
        refine r_goto (tgt := 6) D174_58 rfl ?_
        refine r_loc (lv' := [(0, vR 77), (1, vI set), (2, vI slot), (3, vI value), (4, vI (x4 + 0)), (5, vI (x5 + 1))]) ⟨rfl, rfl, rfl, rfl, rfl, rfl, trivial⟩ rfl rfl ?_
        exact ih (x4 + 0) (x5 + 1) (by omega) (by omega) (by omega) (by omega)
      · refine s_blx (lv' := [(0, vR 77), (1, vI set), (2, vI slot), (3, vI value), (4, vI x4), (5, vI x5)]) (st' := [vI slot, vI x5, vR 77, vI x4]) B174_31_35 rfl ?_
        refine r_vIp (c := 77) (args := [vI x5, vI slot]) (rest := [vI x4]) (pc' := 38) D174_35 rfl ck_11_virtual_161 TE158 rfl (Nat.le_of_ble_eq_true rfl) ⟨Nat.le_of_ble_eq_true rfl, Nat.le_of_ble_eq_true rfl⟩ sc_77 ⟨rfl, by decide⟩ H.1 (dp_0 hd rfl) (k158 E (dp_n hd rfl) H x5 slot (by omega) (by omega)) ?_
        intro v10 q13
        have q12 := q13; clear q13
        refine s_blx (lv' := [(0, vR 77), (1, vI set), (2, vI slot), (3, vI value), (4, vI x4), (5, vI x5)]) (st' := [vI value, vI v10, vI x4]) B174_38_39 rfl ?_
        refine r_icmp (tgt := 51) (pc' := 42) D174_39 rfl rfl (by unfold inR; omega) (fun (c14 : v10 ≠ value) => ?_) (fun (c14 : ¬ (v10 ≠ value)) => ?_)
        · refine s_blx (lv' := [(5, vI (x5 + 1)), (4, vI (x4 + 0)), (0, vR 77), (1, vI set), (2, vI slot), (3, vI value)]) (st' := []) B174_51_58 rfl ?_
          refine r_goto (tgt := 6) D174_58 rfl ?_
          refine r_loc (lv' := [(0, vR 77), (1, vI set), (2, vI slot), (3, vI value), (4, vI (x4 + 0)), (5, vI (x5 + 1))]) ⟨rfl, rfl, rfl, rfl, rfl, rfl, trivial⟩ rfl rfl ?_
          exact ih (x4 + 0) (x5 + 1) (by omega) (by omega) (by omega) (by omega)
        · refine s_blx (lv' := [(0, vR 77), (1, vI set), (2, vI slot), (3, vI value), (4, vI x4), (5, vI x5)]) (st' := [vI x5, vR 77, vI x4]) B174_42_45 rfl ?_
          refine r_vIp (c := 77) (args := [vI x5]) (rest := [vI x4]) (pc' := 48) D174_45 rfl ck_11_virtual_138 TE159 rfl (Nat.le_of_ble_eq_true rfl) ⟨Nat.le_of_ble_eq_true rfl, Nat.le_of_ble_eq_true rfl⟩ sc_77 ⟨rfl, by decide⟩ H.1 (dp_0 hd rfl) (k159 E (dp_n hd rfl) H x5 (by omega)) ?_
          intro v15 q18
          have q17 := q18; clear q18
          refine r_goto (tgt := 52) D174_48 rfl ?_
          refine s_blx (lv' := [(5, vI (x5 + 1)), (4, vI (x4 + v15)), (0, vR 77), (1, vI set), (2, vI slot), (3, vI value)]) (st' := []) B174_52_58 rfl ?_
          refine r_goto (tgt := 6) D174_58 rfl ?_
          refine r_loc (lv' := [(0, vR 77), (1, vI set), (2, vI slot), (3, vI value), (4, vI (x4 + v15)), (5, vI (x5 + 1))]) ⟨rfl, rfl, rfl, rfl, rfl, rfl, trivial⟩ rfl rfl ?_
          exact ih (x4 + v15) (x5 + 1) (by omega) (by omega) (by omega) (by omega)
set_option maxRecDepth 4000 in
theorem k174 {base : Nat} {X : Nat → Option mC} {G : Nat → Value} (E : EnvOK base X G) {d : Nat} (hd : 1 ≤ d) {M : mH} (H : HI base M) (set : Int) (slot : Int) (value : Int) (h0 : -2147483648 ≤ set ∧ set ≤ 2147483647) (h1 : 0 ≤ slot ∧ slot ≤ 2) (h2 : -2147483648 ≤ value ∧ value ≤ 2147483647) : sOk base X G d T174 [vR 77, vI set, vI slot, vI value] M (pI (fun v M' => M' = M ∧ (-2147483648 ≤ v ∧ v ≤ 2147483647))) := by
  refine sOk.of (show sRn base X G d T174 0 [(0, vR 77), (1, vI set), (2, vI slot), (3, vI value)] [] M _ from ?_)
  refine s_blx (lv' := [(5, vI 0), (4, vI 0), (0, vR 77), (1, vI set), (2, vI slot), (3, vI value)]) (st' := []) B174_0_6 rfl ?_
  refine r_loc (lv' := [(0, vR 77), (1, vI set), (2, vI slot), (3, vI value), (4, vI 0), (5, vI 0)]) ⟨rfl, rfl, rfl, rfl, rfl, rfl, trivial⟩ rfl rfl ?_
  exact (L_k174 E hd H set slot value h0 h1 h2 (((16 - 0) * 1 + 0 : Int) + 1).toNat) 0 0 (by omega) (by omega) (by omega) (by omega)
set_option maxRecDepth 4000 in
theorem L_k175 {base : Nat} {X : Nat → Option mC} {G : Nat → Value} (E : EnvOK base X G) {d : Nat} (hd : 0 ≤ d) {M : mH} (H : HI base M) (set : Int) (h0 : -2147483648 ≤ set ∧ set ≤ 2147483647) : ∀ mz : Nat, (∀ (x1 x2 : Int), (0 ≤ x1) → (0 ≤ x2) → (x2 ≤ 16) → (16 - x2) * 1 + 0 < (mz : Int) → sRn base X G d T175 4 [(0, vI set), (1, vI x1), (2, vI x2)] [] M (s_Q base (pI (fun v M' => M' = M ∧ (-2147483648 ≤ v ∧ v ≤ 2147483647))))) := by
  intro mz
  induction mz with
  | zero => exact fun x1 x2 z0 z1 z2 z3 => by omega
  | succ mz ih =>
    intro x1 x2 i0 i1 i2 hmu
    refine s_blx (lv' := [(0, vI set), (1, vI x1), (2, vI x2)]) (st' := [vI 16, vI x2]) B175_4_7 rfl ?_
    refine r_icmp (tgt := 24) (pc' := 10) D175_7 rfl rfl (by unfold inR; omega) (fun (c1 : 16 ≤ x2) => ?_) (fun (c1 : ¬ (16 ≤ x2)) => ?_)
    · refine s_blx (lv' := [(0, vI set), (1, vI x1), (2, vI x2)]) (st' := [vI x1]) B175_24_25 rfl ?_
      refine r_norm ?_
      intro z2 r3 _; unfold inR at r3
      exact r_iretI D175_25 rfl (⟨rfl, by omega⟩)
    · refine s_blx (lv' := [(0, vI set), (1, vI x1), (2, vI x2)]) (st' := [vI x2, vI set, vI x1]) B175_10_13 rfl ?_
      refine r_bin (pc' := 14) D175_13 rfl rfl ?_
      intro z4 r5 _; unfold inR at r5
      refine s_blx (lv' := [(0, vI set), (1, vI x1), (2, vI x2)]) (st' := [vI 1, vI z4, vI x1]) B175_14_15 rfl ?_
      refine r_and1 (pc' := 16) D175_15 rfl ?_
      refine s_blx (lv' := [(2, vI (x2 + 1)), (1, vI (x1 + (z4 % 2))), (0, vI set)]) (st' := []) B175_16_21 rfl ?_
      refine r_goto (tgt := 4) D175_21 rfl ?_
      refine r_loc (lv' := [(0, vI set), (1, vI (x1 + (z4 % 2))), (2, vI (x2 + 1))]) ⟨rfl, rfl, rfl, trivial⟩ rfl rfl ?_
      exact ih (x1 + (z4 % 2)) (x2 + 1) (by omega) (by omega) (by omega) (by omega)
set_option maxRecDepth 4000 in
theorem k175 {base : Nat} {X : Nat → Option mC} {G : Nat → Value} (E : EnvOK base X G) {d : Nat} (hd : 0 ≤ d) {M : mH} (H : HI base M) (set : Int) (h0 : -2147483648 ≤ set ∧ set ≤ 2147483647) : sOk base X G d T175 [vI set] M (pI (fun v M' => M' = M ∧ (-2147483648 ≤ v ∧ v ≤ 2147483647))) := by
  refine sOk.of (show sRn base X G d T175 0 [(0, vI set)] [] M _ from ?_)
  refine s_blx (lv' := [(2, vI 0), (1, vI 0), (0, vI set)]) (st' := []) B175_0_4 rfl ?_
  refine r_loc (lv' := [(0, vI set), (1, vI 0), (2, vI 0)]) ⟨rfl, rfl, rfl, trivial⟩ rfl rfl ?_
  exact (L_k175 E hd H set h0 (((16 - 0) * 1 + 0 : Int) + 1).toNat) 0 0 (by omega) (by omega) (by omega) (by omega)
set_option maxRecDepth 4000 in
theorem L_k176 {base : Nat} {X : Nat → Option mC} {G : Nat → Value} (E : EnvOK base X G) {d : Nat} (hd : 0 ≤ d) {M : mH} (H : HI base M) (bits : Int) (h0 : -2147483648 ≤ bits ∧ bits ≤ 2147483647) : ∀ mz : Nat, (∀ (x1 x2 : Int), ((-1) ≤ x1) → (x1 ≤ 7) → (0 ≤ x2) → (x2 ≤ 8) → (8 - x2) * 1 + 0 < (mz : Int) → sRn base X G d T176 4 [(0, vI bits), (1, vI x1), (2, vI x2)] [] M (s_Q base (pI (fun v M' => M' = M ∧ (-1 ≤ v ∧ v ≤ 7))))) := by
  intro mz
  induction mz with
  | zero => exact fun x1 x2 z0 z1 z2 z3 z4 => by omega
  | succ mz ih =>
    intro x1 x2 i0 i1 i2 i3 hmu
    refine s_blx (lv' := [(0, vI bits), (1, vI x1), (2, vI x2)]) (st' := [vI 8, vI x2]) B176_4_7 rfl ?_
    refine r_icmp (tgt := 25) (pc' := 10) D176_7 rfl rfl (by unfold inR; omega) (fun (c1 : 8 ≤ x2) => ?_) (fun (c1 : ¬ (8 ≤ x2)) => ?_)
    · refine s_blx (lv' := [(0, vI bits), (1, vI x1), (2, vI x2)]) (st' := [vI x1]) B176_25_26 rfl ?_
      exact r_iretI D176_26 rfl (⟨rfl, by omega⟩)
    · refine s_blx (lv' := [(0, vI bits), (1, vI x1), (2, vI x2)]) (st' := [vI x2, vI 1, vI bits]) B176_10_13 rfl ?_
      refine r_bin (pc' := 14) D176_13 rfl rfl ?_
      intro z2 r3 _; unfold inR at r3
      refine r_icmp (tgt := 19) (pc' := 17) D176_14 rfl rfl (by unfold inR; omega) (fun (c4 : bits ≠ z2) => ?_) (fun (c4 : ¬ (bits ≠ z2)) => ?_)
      · refine s_blx (lv' := [(2, vI (x2 + 1)), (0, vI bits), (1, vI x1)]) (st' := []) B176_19_22 rfl ?_
        refine r_goto (tgt := 4) D176_22 rfl ?_
        refine r_loc (lv' := [(0, vI bits), (1, vI x1), (2, vI (x2 + 1))]) ⟨rfl, rfl, rfl, trivial⟩ rfl rfl ?_
        exact ih x1 (x2 + 1) (by omega) (by omega) (by omega) (by omega) (by omega)
      · refine s_blx (lv' := [(2, vI (x2 + 1)), (1, vI x2), (0, vI bits)]) (st' := []) B176_17_22 rfl ?_
        refine r_goto (tgt := 4) D176_22 rfl ?_
        refine r_loc (lv' := [(0, vI bits), (1, vI x2), (2, vI (x2 + 1))]) ⟨rfl, rfl, rfl, trivial⟩ rfl rfl ?_
        exact ih x2 (x2 + 1) (by omega) (by omega) (by omega) (by omega) (by omega)
set_option maxRecDepth 4000 in
theorem k176 {base : Nat} {X : Nat → Option mC} {G : Nat → Value} (E : EnvOK base X G) {d : Nat} (hd : 0 ≤ d) {M : mH} (H : HI base M) (bits : Int) (h0 : -2147483648 ≤ bits ∧ bits ≤ 2147483647) : sOk base X G d T176 [vI bits] M (pI (fun v M' => M' = M ∧ (-1 ≤ v ∧ v ≤ 7))) := by
  refine sOk.of (show sRn base X G d T176 0 [(0, vI bits)] [] M _ from ?_)
  refine s_blx (lv' := [(2, vI 0), (1, vI (-1)), (0, vI bits)]) (st' := []) B176_0_4 rfl ?_
  refine r_loc (lv' := [(0, vI bits), (1, vI (-1)), (2, vI 0)]) ⟨rfl, rfl, rfl, trivial⟩ rfl rfl ?_
  exact (L_k176 E hd H bits h0 (((8 - 0) * 1 + 0 : Int) + 1).toNat) (-1) 0 (by omega) (by omega) (by omega) (by omega) (by omega)
set_option maxRecDepth 4000 in
theorem L_k180 {base : Nat} {X : Nat → Option mC} {G : Nat → Value} (E : EnvOK base X G) {d : Nat} (hd : 0 ≤ d) {M : mH} (H : HI base M) (slot : Int) (bits : Int) (h0 : -2147483648 ≤ slot ∧ slot ≤ 2147483647) (h1 : -2147483648 ≤ bits ∧ bits ≤ 2147483647) : ∀ mz : Nat, (∀ (x3 x4 : Int), ((-1) ≤ x3) → (x3 ≤ 11) → (0 ≤ x4) → (x4 ≤ 12) → (12 - x4) * 1 + 0 < (mz : Int) → sRn base X G d T180 5 [(0, vR 77), (1, vI slot), (2, vI bits), (3, vI x3), (4, vI x4)] [] M (s_Q base (pI (fun v M' => M' = M ∧ (-1 ≤ v ∧ v ≤ 11))))) := by
  intro mz
  induction mz with
  | zero => exact fun x3 x4 z0 z1 z2 z3 z4 => by omega
  | succ mz ih =>
    intro x3 x4 i0 i1 i2 i3 hmu
    refine s_blx (lv' := [(0, vR 77), (1, vI slot), (2, vI bits), (3, vI x3), (4, vI x4)]) (st' := [vR 77, vI x4]) B180_5_8 rfl ?_
    refine r_gfix (r := 78) (pc' := 11) D180_8 rfl gf_11_13_77 H.1 ?_
    refine s_blx (lv' := [(0, vR 77), (1, vI slot), (2, vI bits), (3, vI x3), (4, vI x4)]) (st' := [vI 470, vR 78, vI x4]) B180_11_14 rfl ?_
    refine r_iald (pc' := 15) D180_14 rfl sc_78 H.1 (by omega) ?_
    intro w1 e2 r3
    have b_w1 := H.2 78 (470) 0 12 (rk_openmany (by omega))
    rw [← e2] at b_w1; clear r3
    refine r_icmp (tgt := 96) (pc' := 18) D180_15 rfl rfl (by unfold inR; omega) (fun (c4 : w1 ≤ x4) => ?_) (fun (c4 : ¬ (w1 ≤ x4)) => ?_)
    · refine s_blx (lv' := [(0, vR 77), (1, vI slot), (2, vI bits), (3, vI x3), (4, vI x4)]) (st' := [vI x3]) B180_96_97 rfl ?_
      exact r_iretI D180_97 rfl (⟨rfl, by omega⟩)
    · refine s_blx (lv' := [(5, vI (99 + (3 * x4))), (0, vR 77), (1, vI slot), (2, vI bits), (3, vI x3), (4, vI x4)]) (st' := [vR 77]) B180_18_28 rfl ?_
      refine r_gfix (r := 78) (pc' := 31) D180_28 rfl gf_11_13_77 H.1 ?_
      refine s_blx (lv' := [(5, vI (99 + (3 * x4))), (0, vR 77), (1, vI slot), (2, vI bits), (3, vI x3), (4, vI x4)]) (st' := [vI (99 + (3 * x4)), vR 78]) B180_31_33 rfl ?_
      refine r_iald (pc' := 34) D180_33 rfl sc_78 H.1 (by omega) ?_
      intro w5 e6 r7
      have b_w5 := H.2 78 (99 + (3 * x4)) 0 255 (rk_opening (by omega))
      rw [← e6] at b_w5; clear r7
      refine s_blx (lv' := [(5, vI (99 + (3 * x4))), (0, vR 77), (1, vI slot), (2, vI bits), (3, vI x3), (4, vI x4)]) (st' := [vI slot, vI w5]) B180_34_35 rfl ?_
      refine r_icmp (tgt := 90) (pc' := 38) D180_35 rfl rfl (by unfold inR; omega) (fun (c8 : w5 ≠ slot) => ?_) (fun (c8 : ¬ (w5 ≠ slot)) => ?_)
      · refine s_blx (lv' := [(4, vI (x4 + 1)), (5, vI (99 + (3 * x4))), (0, vR 77), (1, vI slot), (2, vI bits), (3, vI x3)]) (st' := []) B180_90_93 rfl ?_
        refine r_goto (tgt := 5) D180_93 rfl ?_
        refine r_loc (lv' := [(0, vR 77), (1, vI slot), (2, vI bits), (3, vI x3), (4, vI (x4 + 1))]) ⟨rfl, rfl, rfl, rfl, rfl, trivial⟩ rfl rfl ?_
        exact ih x3 (x4 + 1) (by omega) (by omega) (by omega) (by omega) (by omega)
      · refine s_blx (lv' := [(5, vI (99 + (3 * x4))), (0, vR 77), (1, vI slot), (2, vI bits), (3, vI x3), (4, vI x4)]) (st' := [vR 77, vI bits]) B180_38_40 rfl ?_
        refine r_gfix (r := 78) (pc' := 43) D180_40 rfl gf_11_13_77 H.1 ?_
        refine s_blx (lv' := [(5, vI (99 + (3 * x4))), (0, vR 77), (1, vI slot), (2, vI bits), (3, vI x3), (4, vI x4)]) (st' := [vI ((99 + (3 * x4)) + 1), vR 78, vI bits]) B180_43_47 rfl ?_
        refine r_iald (pc' := 48) D180_47 rfl sc_78 H.1 (by omega) ?_
        intro w9 e10 r11
        have b_w9 := H.2 78 ((99 + (3 * x4)) + 1) 0 255 (rk_opening (by omega))
        rw [← e10] at b_w9; clear r11
        refine s_blx (lv' := [(5, vI (99 + (3 * x4))), (0, vR 77), (1, vI slot), (2, vI bits), (3, vI x3), (4, vI x4)]) (st' := [vI (-1), vI w9, vI bits]) B180_48_49 rfl ?_
        refine r_bin (pc' := 50) D180_49 rfl rfl ?_
        intro z12 r13 _; unfold inR at r13
        refine r_bin (pc' := 51) D180_50 rfl rfl ?_
        intro z14 r15 _; unfold inR at r15
        refine r_ifc (tgt := 57) (pc' := 54) D180_51 rfl rfl (by unfold inR; omega) (fun (c16 : z14 = 0) => ?_) (fun (c16 : ¬ (z14 = 0)) => ?_)
        · refine s_blx (lv' := [(5, vI (99 + (3 * x4))), (0, vR 77), (1, vI slot), (2, vI bits), (3, vI x3), (4, vI x4)]) (st' := [vI (-1), vI x3]) B180_57_59 rfl ?_
          refine r_icmp (tgt := 87) (pc' := 62) D180_59 rfl rfl (by unfold inR; omega) (fun (c17 : x3 = (-1)) => ?_) (fun (c17 : ¬ (x3 = (-1))) => ?_)
          · refine s_blx (lv' := [(4, vI (x4 + 1)), (3, vI x4), (5, vI (99 + (3 * x4))), (0, vR 77), (1, vI slot), (2, vI bits)]) (st' := []) B180_87_93 rfl ?_
            refine r_goto (tgt := 5) D180_93 rfl ?_
            refine r_loc (lv' := [(0, vR 77), (1, vI slot), (2, vI bits), (3, vI x4), (4, vI (x4 + 1))]) ⟨rfl, rfl, rfl, rfl, rfl, trivial⟩ rfl rfl ?_
            exact ih x4 (x4 + 1) (by omega) (by omega) (by omega) (by omega) (by omega)
          · refine s_blx (lv' := [(5, vI (99 + (3 * x4))), (0, vR 77), (1, vI slot), (2, vI bits), (3, vI x3), (4, vI x4)]) (st' := [vR 77]) B180_62_63 rfl ?_
            refine r_gfix (r := 78) (pc' := 66) D180_63 rfl gf_11_13_77 H.1 ?_
            refine s_blx (lv' := [(5, vI (99 + (3 * x4))), (0, vR 77), (1, vI slot), (2, vI bits), (3, vI x3), (4, vI x4)]) (st' := [vI ((99 + (3 * x4)) + 2), vR 78]) B180_66_70 rfl ?_
            refine r_iald (pc' := 71) D180_70 rfl sc_78 H.1 (by omega) ?_
            intro w18 e19 r20
            have b_w18 := H.2 78 ((99 + (3 * x4)) + 2) 0 255 (rk_opening (by omega))
            rw [← e19] at b_w18; clear r20
            refine s_blx (lv' := [(5, vI (99 + (3 * x4))), (0, vR 77), (1, vI slot), (2, vI bits), (3, vI x3), (4, vI x4)]) (st' := [vR 77, vI w18]) B180_71_72 rfl ?_
            refine r_gfix (r := 78) (pc' := 75) D180_72 rfl gf_11_13_77 H.1 ?_
            refine s_blx (lv' := [(5, vI (99 + (3 * x4))), (0, vR 77), (1, vI slot), (2, vI bits), (3, vI x3), (4, vI x4)]) (st' := [vI ((99 + (3 * x3)) + 2), vR 78, vI w18]) B180_75_83 rfl ?_
            refine r_iald (pc' := 84) D180_83 rfl sc_78 H.1 (by omega) ?_
            intro w21 e22 r23
            have b_w21 := H.2 78 ((99 + (3 * x3)) + 2) 0 255 (rk_opening (by omega))
            rw [← e22] at b_w21; clear r23
            refine r_icmp (tgt := 90) (pc' := 87) D180_84 rfl rfl (by unfold inR; omega) (fun (c24 : w21 ≤ w18) => ?_) (fun (c24 : ¬ (w21 ≤ w18)) => ?_)
            · refine s_blx (lv' := [(4, vI (x4 + 1)), (5, vI (99 + (3 * x4))), (0, vR 77), (1, vI slot), (2, vI bits), (3, vI x3)]) (st' := []) B180_90_93 rfl ?_
              refine r_goto (tgt := 5) D180_93 rfl ?_
              refine r_loc (lv' := [(0, vR 77), (1, vI slot), (2, vI bits), (3, vI x3), (4, vI (x4 + 1))]) ⟨rfl, rfl, rfl, rfl, rfl, trivial⟩ rfl rfl ?_
              exact ih x3 (x4 + 1) (by omega) (by omega) (by omega) (by omega) (by omega)
            · refine s_blx (lv' := [(4, vI (x4 + 1)), (3, vI x4), (5, vI (99 + (3 * x4))), (0, vR 77), (1, vI slot), (2, vI bits)]) (st' := []) B180_87_93 rfl ?_
              refine r_goto (tgt := 5) D180_93 rfl ?_
              refine r_loc (lv' := [(0, vR 77), (1, vI slot), (2, vI bits), (3, vI x4), (4, vI (x4 + 1))]) ⟨rfl, rfl, rfl, rfl, rfl, trivial⟩ rfl rfl ?_
              exact ih x4 (x4 + 1) (by omega) (by omega) (by omega) (by omega) (by omega)
        · refine r_goto (tgt := 90) D180_54 rfl ?_
          refine s_blx (lv' := [(4, vI (x4 + 1)), (5, vI (99 + (3 * x4))), (0, vR 77), (1, vI slot), (2, vI bits), (3, vI x3)]) (st' := []) B180_90_93 rfl ?_
          refine r_goto (tgt := 5) D180_93 rfl ?_
          refine r_loc (lv' := [(0, vR 77), (1, vI slot), (2, vI bits), (3, vI x3), (4, vI (x4 + 1))]) ⟨rfl, rfl, rfl, rfl, rfl, trivial⟩ rfl rfl ?_
          exact ih x3 (x4 + 1) (by omega) (by omega) (by omega) (by omega) (by omega)
set_option maxRecDepth 4000 in
theorem k180 {base : Nat} {X : Nat → Option mC} {G : Nat → Value} (E : EnvOK base X G) {d : Nat} (hd : 0 ≤ d) {M : mH} (H : HI base M) (slot : Int) (bits : Int) (h0 : -2147483648 ≤ slot ∧ slot ≤ 2147483647) (h1 : -2147483648 ≤ bits ∧ bits ≤ 2147483647) : sOk base X G d T180 [vR 77, vI slot, vI bits] M (pI (fun v M' => M' = M ∧ (-1 ≤ v ∧ v ≤ 11))) := by
  refine sOk.of (show sRn base X G d T180 0 [(0, vR 77), (1, vI slot), (2, vI bits)] [] M _ from ?_)
  refine s_blx (lv' := [(4, vI 0), (3, vI (-1)), (0, vR 77), (1, vI slot), (2, vI bits)]) (st' := []) B180_0_5 rfl ?_
  refine r_loc (lv' := [(0, vR 77), (1, vI slot), (2, vI bits), (3, vI (-1)), (4, vI 0)]) ⟨rfl, rfl, rfl, rfl, rfl, trivial⟩ rfl rfl ?_
  exact (L_k180 E hd H slot bits h0 h1 (((12 - 0) * 1 + 0 : Int) + 1).toNat) (-1) 0 (by omega) (by omega) (by omega) (by omega) (by omega)
set_option maxRecDepth 4000 in
theorem L_k177 {base : Nat} {X : Nat → Option mC} {G : Nat → Value} (E : EnvOK base X G) {d : Nat} (hd : 3 ≤ d) {M : mH} (H : HI base M) (s : Int) (slot : Int) (h0 : -2147483648 ≤ s ∧ s ≤ 2147483647) (h1 : -2147483648 ≤ slot ∧ slot ≤ 2147483647) : ∀ mz : Nat, (∀ (x3 : Int), (0 ≤ x3) → (x3 ≤ 8) → (0 ≤ s) → (s ≤ 15) → (0 ≤ slot) → (slot ≤ 2) → (8 - x3) * 1 + 0 < (mz : Int) → sRn base X G d T177 21 [(0, vR 77), (1, vI s), (2, vI slot), (3, vI x3)] [] M (s_Q base (pI (fun v M' => M' = M ∧ True)))) := by
  intro mz
  induction mz with
  | zero => exact fun x3 z0 z1 z2 z3 z4 z5 z6 => by omega
  | succ mz ih =>
    intro x3 i0 i1 i2 i3 i4 i5 hmu
    refine s_blx (lv' := [(0, vR 77), (1, vI s), (2, vI slot), (3, vI x3)]) (st' := [vI s, vR 77, vI x3]) B177_21_24 rfl ?_
    refine r_vIp (c := 77) (args := [vI s]) (rest := [vI x3]) (pc' := 27) D177_24 rfl ck_11_virtual_144 TE156 rfl (Nat.le_of_ble_eq_true rfl) ⟨Nat.le_of_ble_eq_true rfl, Nat.le_of_ble_eq_true rfl⟩ sc_77 ⟨rfl, by decide⟩ H.1 (dp_0 hd rfl) (k156 E (dp_n hd rfl) H s (by omega)) ?_
    intro v14 q17
    have q16 := q17; clear q17
    refine r_icmp (tgt := 59) (pc' := 30) D177_27 rfl rfl (by unfold inR; omega) (fun (c18 : v14 ≤ x3) => ?_) (fun (c18 : ¬ (v14 ≤ x3)) => ?_)
    · refine s_blx (lv' := [(0, vR 77), (1, vI s), (2, vI slot), (3, vI x3)]) (st' := [vI s, vR 77]) B177_59_61 rfl ?_
      refine r_vIp (c := 77) (args := [vI s]) (rest := []) (pc' := 64) D177_61 rfl ck_11_virtual_144 TE156 rfl (Nat.le_of_ble_eq_true rfl) ⟨Nat.le_of_ble_eq_true rfl, Nat.le_of_ble_eq_true rfl⟩ sc_77 ⟨rfl, by decide⟩ H.1 (dp_0 hd rfl) (k156 E (dp_n hd rfl) H s (by omega)) ?_
      intro v19 q22
      have q21 := q22; clear q22
      exact r_iretI D177_64 rfl (⟨rfl, trivial⟩)
    · refine s_blx (lv' := [(0, vR 77), (1, vI s), (2, vI slot), (3, vI x3)]) (st' := [vI 0, vI (x3 + 1), vI s, vR 77, vR 77]) B177_30_37 rfl ?_
      refine r_vIp (c := 77) (args := [vI s, vI (x3 + 1), vI 0]) (rest := [vR 77]) (pc' := 40) D177_37 rfl ck_11_virtual_167 TE171 rfl (Nat.le_of_ble_eq_true rfl) ⟨Nat.le_of_ble_eq_true rfl, Nat.le_of_ble_eq_true rfl⟩ sc_77 ⟨rfl, by decide⟩ H.1 (dp_0 hd rfl) (k171 E (dp_n hd rfl) H s (x3 + 1) 0 (by omega) (by omega) (by omega)) ?_
      intro v23 q26
      have q25 := q26; clear q26
      refine s_blx (lv' := [(0, vR 77), (1, vI s), (2, vI slot), (3, vI x3)]) (st' := [vI slot, vI v23, vR 77]) B177_40_41 rfl ?_
      refine r_vIp (c := 77) (args := [vI v23, vI slot]) (rest := []) (pc' := 44) D177_41 rfl ck_11_virtual_171 TE172 rfl (Nat.le_of_ble_eq_true rfl) ⟨Nat.le_of_ble_eq_true rfl, Nat.le_of_ble_eq_true rfl⟩ sc_77 ⟨rfl, by decide⟩ H.1 (dp_0 hd rfl) (k172 E (dp_n hd rfl) H v23 slot (by omega) (by omega)) ?_
      intro v27 q30
      have q29 := q30; clear q30
      refine r_sIp (args := [vI v27]) (rest := []) (pc' := 47) D177_44 rfl ck_11_static_174 TE175 rfl (Nat.le_of_ble_eq_true rfl) ⟨Nat.le_of_ble_eq_true rfl, Nat.le_of_ble_eq_true rfl⟩ (by decide) (dp_0 hd rfl) (k175 E (dp_n hd rfl) H v27 (by omega)) ?_
      intro v31 q34
      have q33 := q34; clear q34
      refine s_blx (lv' := [(0, vR 77), (1, vI s), (2, vI slot), (3, vI x3)]) (st' := [vI 1, vI v31]) B177_47_48 rfl ?_
      refine r_icmp (tgt := 53) (pc' := 51) D177_48 rfl rfl (by unfold inR; omega) (fun (c35 : v31 ≠ 1) => ?_) (fun (c35 : ¬ (v31 ≠ 1)) => ?_)
      · refine s_blx (lv' := [(3, vI (x3 + 1)), (0, vR 77), (1, vI s), (2, vI slot)]) (st' := []) B177_53_56 rfl ?_
        refine r_goto (tgt := 21) D177_56 rfl ?_
        refine r_loc (lv' := [(0, vR 77), (1, vI s), (2, vI slot), (3, vI (x3 + 1))]) ⟨rfl, rfl, rfl, rfl, trivial⟩ rfl rfl ?_
        exact ih (x3 + 1) (by omega) (by omega) (by omega) (by omega) (by omega) (by omega) (by omega)
      · refine s_blx (lv' := [(0, vR 77), (1, vI s), (2, vI slot), (3, vI x3)]) (st' := [vI x3]) B177_51_52 rfl ?_
        exact r_iretI D177_52 rfl (⟨rfl, trivial⟩)
set_option maxRecDepth 4000 in
theorem k177 {base : Nat} {X : Nat → Option mC} {G : Nat → Value} (E : EnvOK base X G) {d : Nat} (hd : 3 ≤ d) {M : mH} (H : HI base M) (s : Int) (slot : Int) (h0 : -2147483648 ≤ s ∧ s ≤ 2147483647) (h1 : -2147483648 ≤ slot ∧ slot ≤ 2147483647) : sOk base X G d T177 [vR 77, vI s, vI slot] M (pI (fun v M' => M' = M ∧ True)) := by
  refine sOk.of (show sRn base X G d T177 0 [(0, vR 77), (1, vI s), (2, vI slot)] [] M _ from ?_)
  refine s_blx (lv' := [(0, vR 77), (1, vI s), (2, vI slot)]) (st' := [vI s, vR 77]) B177_0_2 rfl ?_
  refine r_vIp (c := 77) (args := [vI s]) (rest := []) (pc' := 5) D177_2 rfl ck_11_virtual_164 TE160 rfl (Nat.le_of_ble_eq_true rfl) ⟨Nat.le_of_ble_eq_true rfl, Nat.le_of_ble_eq_true rfl⟩ sc_77 ⟨rfl, by decide⟩ H.1 (dp_0 hd rfl) (k160 E (dp_n hd rfl) H s (by omega)) ?_
  intro v1 q5
  obtain ⟨q3, q4⟩ := q5
  refine r_ifc (tgt := 17) (pc' := 8) D177_5 rfl rfl (by unfold inR; omega) (fun (c6 : v1 = 0) => ?_) (fun (c6 : ¬ (v1 = 0)) => ?_)
  · refine s_blx (lv' := [(0, vR 77), (1, vI s), (2, vI slot)]) (st' := [vI (-1)]) B177_17_18 rfl ?_
    exact r_iretI D177_18 rfl (⟨rfl, trivial⟩)
  · refine s_blx (lv' := [(0, vR 77), (1, vI s), (2, vI slot)]) (st' := [vI 2, vI 0, vI slot]) B177_8_11 rfl ?_
    refine r_sIp (args := [vI slot, vI 0, vI 2]) (rest := []) (pc' := 14) D177_11 rfl ck_11_static_123 TE147 rfl (Nat.le_of_ble_eq_true rfl) ⟨Nat.le_of_ble_eq_true rfl, Nat.le_of_ble_eq_true rfl⟩ (by decide) (dp_0 hd rfl) (k147 E (dp_n hd rfl) H slot 0 2 (by omega) (by omega) (by omega)) ?_
    intro v7 q12
    obtain ⟨q9, q10, q11⟩ := q12
    refine r_ifc (tgt := 19) (pc' := 17) D177_14 rfl rfl (by unfold inR; omega) (fun (c13 : v7 ≠ 0) => ?_) (fun (c13 : ¬ (v7 ≠ 0)) => ?_)
    · refine s_blx (lv' := [(3, vI 0), (0, vR 77), (1, vI s), (2, vI slot)]) (st' := []) B177_19_21 rfl ?_
      refine r_loc (lv' := [(0, vR 77), (1, vI s), (2, vI slot), (3, vI 0)]) ⟨rfl, rfl, rfl, rfl, trivial⟩ rfl rfl ?_
      exact (L_k177 E hd H s slot h0 h1 (((8 - 0) * 1 + 0 : Int) + 1).toNat) 0 (by omega) (by omega) (by omega) (by omega) (by omega) (by omega) (by omega)
    · refine s_blx (lv' := [(0, vR 77), (1, vI s), (2, vI slot)]) (st' := [vI (-1)]) B177_17_18 rfl ?_
      exact r_iretI D177_18 rfl (⟨rfl, trivial⟩)
set_option maxRecDepth 4000 in
theorem k181 {base : Nat} {X : Nat → Option mC} {G : Nat → Value} (E : EnvOK base X G) {d : Nat} (hd : 3 ≤ d) {M : mH} (H : HI base M) (s : Int) (n : Int) (slot : Int) (h0 : -2147483648 ≤ s ∧ s ≤ 2147483647) (h1 : -2147483648 ≤ n ∧ n ≤ 2147483647) (h2 : -2147483648 ≤ slot ∧ slot ≤ 2147483647) : sOk base X G d T181 [vR 77, vI s, vI n, vI slot] M (pI (fun v M' => M' = M ∧ True)) := by
  refine sOk.of (show sRn base X G d T181 0 [(0, vR 77), (1, vI s), (2, vI n), (3, vI slot)] [] M _ from ?_)
  refine s_blx (lv' := [(0, vR 77), (1, vI s), (2, vI n), (3, vI slot)]) (st' := [vI s, vR 77]) B181_0_2 rfl ?_
  refine r_vIp (c := 77) (args := [vI s]) (rest := []) (pc' := 5) D181_2 rfl ck_11_virtual_134 TE154 rfl (Nat.le_of_ble_eq_true rfl) ⟨Nat.le_of_ble_eq_true rfl, Nat.le_of_ble_eq_true rfl⟩ sc_77 ⟨rfl, by decide⟩ H.1 (dp_0 hd rfl) (k154 E (dp_n hd rfl) H s (by omega)) ?_
  intro v1 q5
  obtain ⟨q3, q4⟩ := q5
  refine r_ifc (tgt := 30) (pc' := 8) D181_5 rfl rfl (by unfold inR; omega) (fun (c6 : v1 = 0) => ?_) (fun (c6 : ¬ (v1 = 0)) => ?_)
  · refine s_blx (lv' := [(0, vR 77), (1, vI s), (2, vI n), (3, vI slot)]) (st' := [vI (-1)]) B181_30_31 rfl ?_
    exact r_iretI D181_31 rfl (⟨rfl, trivial⟩)
  · refine s_blx (lv' := [(0, vR 77), (1, vI s), (2, vI n), (3, vI slot)]) (st' := [vI s, vR 77, vI 1, vI n]) B181_8_12 rfl ?_
    refine r_vIp (c := 77) (args := [vI s]) (rest := [vI 1, vI n]) (pc' := 15) D181_12 rfl ck_11_virtual_144 TE156 rfl (Nat.le_of_ble_eq_true rfl) ⟨Nat.le_of_ble_eq_true rfl, Nat.le_of_ble_eq_true rfl⟩ sc_77 ⟨rfl, by decide⟩ H.1 (dp_0 hd rfl) (k156 E (dp_n hd rfl) H s (by omega)) ?_
    intro v7 q10
    have q9 := q10; clear q10
    refine r_sIp (args := [vI n, vI 1, vI v7]) (rest := []) (pc' := 18) D181_15 rfl ck_11_static_123 TE147 rfl (Nat.le_of_ble_eq_true rfl) ⟨Nat.le_of_ble_eq_true rfl, Nat.le_of_ble_eq_true rfl⟩ (by decide) (dp_0 hd rfl) (k147 E (dp_n hd rfl) H n 1 v7 (by omega) (by omega) (by omega)) ?_
    intro v11 q16
    obtain ⟨q13, q14, q15⟩ := q16
    refine r_ifc (tgt := 30) (pc' := 21) D181_18 rfl rfl (by unfold inR; omega) (fun (c17 : v11 = 0) => ?_) (fun (c17 : ¬ (v11 = 0)) => ?_)
    · refine s_blx (lv' := [(0, vR 77), (1, vI s), (2, vI n), (3, vI slot)]) (st' := [vI (-1)]) B181_30_31 rfl ?_
      exact r_iretI D181_31 rfl (⟨rfl, trivial⟩)
    · refine s_blx (lv' := [(0, vR 77), (1, vI s), (2, vI n), (3, vI slot)]) (st' := [vI 2, vI 0, vI slot]) B181_21_24 rfl ?_
      refine r_sIp (args := [vI slot, vI 0, vI 2]) (rest := []) (pc' := 27) D181_24 rfl ck_11_static_123 TE147 rfl (Nat.le_of_ble_eq_true rfl) ⟨Nat.le_of_ble_eq_true rfl, Nat.le_of_ble_eq_true rfl⟩ (by decide) (dp_0 hd rfl) (k147 E (dp_n hd rfl) H slot 0 2 (by omega) (by omega) (by omega)) ?_
      intro v18 q23
      obtain ⟨q20, q21, q22⟩ := q23
      refine r_ifc (tgt := 32) (pc' := 30) D181_27 rfl rfl (by unfold inR; omega) (fun (c24 : v18 ≠ 0) => ?_) (fun (c24 : ¬ (v18 ≠ 0)) => ?_)
      · refine s_blx (lv' := [(0, vR 77), (1, vI s), (2, vI n), (3, vI slot)]) (st' := [vI 0, vI n, vI s, vR 77]) B181_32_36 rfl ?_
        refine r_vIp (c := 77) (args := [vI s, vI n, vI 0]) (rest := []) (pc' := 39) D181_36 rfl ck_11_virtual_167 TE171 rfl (Nat.le_of_ble_eq_true rfl) ⟨Nat.le_of_ble_eq_true rfl, Nat.le_of_ble_eq_true rfl⟩ sc_77 ⟨rfl, by decide⟩ H.1 (dp_0 hd rfl) (k171 E (dp_n hd rfl) H s n 0 (by omega) (by omega) (by omega)) ?_
        intro v25 q28
        have q27 := q28; clear q28
        refine s_blx (lv' := [(4, vI v25), (0, vR 77), (1, vI s), (2, vI n), (3, vI slot)]) (st' := [vI v25]) B181_39_43 rfl ?_
        refine r_ifc (tgt := 50) (pc' := 46) D181_43 rfl rfl (by unfold inR; omega) (fun (c29 : v25 ≠ 0) => ?_) (fun (c29 : ¬ (v25 ≠ 0)) => ?_)
        · refine s_blx (lv' := [(4, vI v25), (0, vR 77), (1, vI s), (2, vI n), (3, vI slot)]) (st' := [vI slot, vI v25, vR 77, vI slot, vR 77]) B181_50_56 rfl ?_
          refine r_vIp (c := 77) (args := [vI v25, vI slot]) (rest := [vI slot, vR 77]) (pc' := 59) D181_56 rfl ck_11_virtual_171 TE172 rfl (Nat.le_of_ble_eq_true rfl) ⟨Nat.le_of_ble_eq_true rfl, Nat.le_of_ble_eq_true rfl⟩ sc_77 ⟨rfl, by decide⟩ H.1 (dp_0 hd rfl) (k172 E (dp_n hd rfl) H v25 slot (by omega) (by omega)) ?_
          intro v30 q33
          have q32 := q33; clear q33
          refine r_vIp (c := 77) (args := [vI slot, vI v30]) (rest := []) (pc' := 62) D181_59 rfl ck_11_virtual_187 TE180 rfl (Nat.le_of_ble_eq_true rfl) ⟨Nat.le_of_ble_eq_true rfl, Nat.le_of_ble_eq_true rfl⟩ sc_77 ⟨rfl, by decide⟩ H.1 (dp_0 hd rfl) (k180 E (dp_n hd rfl) H slot v30 (by omega) (by omega)) ?_
          intro v34 q37
          have q36 := q37; clear q37
          exact r_iretI D181_62 rfl (⟨rfl, trivial⟩)
        · refine s_blx (lv' := [(4, vI v25), (0, vR 77), (1, vI s), (2, vI n), (3, vI slot)]) (st' := [vI (-1)]) B181_46_47 rfl ?_
          refine r_goto (tgt := 62) D181_47 rfl ?_
          exact r_iretI D181_62 rfl (⟨rfl, trivial⟩)
      · refine s_blx (lv' := [(0, vR 77), (1, vI s), (2, vI n), (3, vI slot)]) (st' := [vI (-1)]) B181_30_31 rfl ?_
        exact r_iretI D181_31 rfl (⟨rfl, trivial⟩)
