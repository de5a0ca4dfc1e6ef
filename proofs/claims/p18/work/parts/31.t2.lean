noncomputable def T178 : mT := (11, yX11_common, cX11_common, 5, (some .int))
set_option maxRecDepth 10000 in
theorem TE178 : sy_m[178]? = some T178 := rfl
theorem B178_0_4 : s_dk T178.2.2.1 0 [.iload_n 0, .istore_n 2, .iload_n 1, .istore_n 3] 4 = true := by decide +kernel
theorem B178_4_5 : s_dk T178.2.2.1 4 [.iload_n 3] 5 = true := by decide +kernel
theorem D178_5 : decode T178.2.2.1 5 = .ok (.ifCond .eq 16, 3) := by decide +kernel
theorem B178_21_22 : s_dk T178.2.2.1 21 [.iload_n 2] 22 = true := by decide +kernel
theorem D178_22 : decode T178.2.2.1 22 = .ok (.ireturn, 1) := by decide +kernel
theorem B178_8_10 : s_dk T178.2.2.1 8 [.iload_n 2, .iload_n 3] 10 = true := by decide +kernel
theorem D178_10 : decode T178.2.2.1 10 = .ok (.irem, 1) := by decide +kernel
theorem B178_11_18 : s_dk T178.2.2.1 11 [.istore 4, .iload_n 3, .istore_n 2, .iload 4, .istore_n 3] 18 = true := by decide +kernel
theorem D178_18 : decode T178.2.2.1 18 = .ok (.goto (-14), 3) := by decide +kernel
noncomputable def T182 : mT := (11, yX11_slotAt, cX11_slotAt, 6, (some .int))
set_option maxRecDepth 10000 in
theorem TE182 : sy_m[182]? = some T182 := rfl
theorem B182_0_1 : s_dk T182.2.2.1 0 [.aload_n 0] 1 = true := by decide +kernel
theorem D182_1 : decode T182.2.2.1 1 = .ok (.getfield 13, 3) := by decide +kernel
theorem B182_4_7 : s_dk T182.2.2.1 4 [.sipush 473] 7 = true := by decide +kernel
theorem D182_7 : decode T182.2.2.1 7 = .ok (.iaload, 1) := by decide +kernel
theorem B182_8_9 : s_dk T182.2.2.1 8 [.iconst 2] 9 = true := by decide +kernel
theorem D182_9 : decode T182.2.2.1 9 = .ok (.idiv, 1) := by decide +kernel
theorem B182_10_12 : s_dk T182.2.2.1 10 [.istore_n 2, .iload_n 2] 12 = true := by decide +kernel
theorem D182_12 : decode T182.2.2.1 12 = .ok (.ifCond .ne 7, 3) := by decide +kernel
theorem B182_19_23 : s_dk T182.2.2.1 19 [.iconst 0, .istore_n 3, .iload_n 2, .iconst 2] 23 = true := by decide +kernel
theorem D182_23 : decode T182.2.2.1 23 = .ok (.if_icmp .ne 7, 3) := by decide +kernel
theorem B182_30_34 : s_dk T182.2.2.1 30 [.iconst 2, .istore 4, .aload_n 0] 34 = true := by decide +kernel
theorem D182_34 : decode T182.2.2.1 34 = .ok (.getfield 13, 3) := by decide +kernel
theorem B182_37_40 : s_dk T182.2.2.1 37 [.sipush 473] 40 = true := by decide +kernel
theorem D182_40 : decode T182.2.2.1 40 = .ok (.iaload, 1) := by decide +kernel
theorem B182_41_42 : s_dk T182.2.2.1 41 [.iconst 2] 42 = true := by decide +kernel
theorem D182_42 : decode T182.2.2.1 42 = .ok (.irem, 1) := by decide +kernel
theorem D182_43 : decode T182.2.2.1 43 = .ok (.ifCond .ne 7, 3) := by decide +kernel
theorem B182_50_54 : s_dk T182.2.2.1 50 [.iconst 0, .istore 5, .iload_n 1] 54 = true := by decide +kernel
theorem D182_54 : decode T182.2.2.1 54 = .ok (.ifCond .ne 7, 3) := by decide +kernel
theorem B182_61_63 : s_dk T182.2.2.1 61 [.iload_n 1, .iconst 1] 63 = true := by decide +kernel
theorem D182_63 : decode T182.2.2.1 63 = .ok (.if_icmp .ne 7, 3) := by decide +kernel
theorem B182_70_73 : s_dk T182.2.2.1 70 [.iconst 0, .iload 5] 73 = true := by decide +kernel
theorem D182_73 : decode T182.2.2.1 73 = .ok (.if_icmp .ne 7, 3) := by decide +kernel
theorem B182_76_77 : s_dk T182.2.2.1 76 [.iload_n 3] 77 = true := by decide +kernel
theorem D182_77 : decode T182.2.2.1 77 = .ok (.goto 5, 3) := by decide +kernel
theorem D182_82 : decode T182.2.2.1 82 = .ok (.ireturn, 1) := by decide +kernel
theorem B182_66_67 : s_dk T182.2.2.1 66 [.iconst 1] 67 = true := by decide +kernel
theorem D182_67 : decode T182.2.2.1 67 = .ok (.goto 4, 3) := by decide +kernel
theorem B182_71_73 : s_dk T182.2.2.1 71 [.iload 5] 73 = true := by decide +kernel
theorem B182_80_82 : s_dk T182.2.2.1 80 [.iload 4] 82 = true := by decide +kernel
theorem B182_57_58 : s_dk T182.2.2.1 57 [.iload_n 2] 58 = true := by decide +kernel
theorem D182_58 : decode T182.2.2.1 58 = .ok (.goto 24, 3) := by decide +kernel
theorem B182_46_47 : s_dk T182.2.2.1 46 [.iconst 1] 47 = true := by decide +kernel
theorem D182_47 : decode T182.2.2.1 47 = .ok (.goto 4, 3) := by decide +kernel
theorem B182_51_54 : s_dk T182.2.2.1 51 [.istore 5, .iload_n 1] 54 = true := by decide +kernel
theorem B182_26_27 : s_dk T182.2.2.1 26 [.iconst 1] 27 = true := by decide +kernel
theorem D182_27 : decode T182.2.2.1 27 = .ok (.goto 4, 3) := by decide +kernel
theorem B182_31_34 : s_dk T182.2.2.1 31 [.istore 4, .aload_n 0] 34 = true := by decide +kernel
theorem B182_15_16 : s_dk T182.2.2.1 15 [.iconst 1] 16 = true := by decide +kernel
theorem D182_16 : decode T182.2.2.1 16 = .ok (.goto 4, 3) := by decide +kernel
theorem B182_20_23 : s_dk T182.2.2.1 20 [.istore_n 3, .iload_n 2, .iconst 2] 23 = true := by decide +kernel
noncomputable def T184 : mT := (11, yX11_withDigit, cX11_withDigit, 3, (some .int))
set_option maxRecDepth 10000 in
theorem TE184 : sy_m[184]? = some T184 := rfl
theorem B184_0_1 : s_dk T184.2.2.1 0 [.iload_n 0] 1 = true := by decide +kernel
theorem D184_1 : decode T184.2.2.1 1 = .ok (.ifCond .ne 9, 3) := by decide +kernel
theorem B184_10_12 : s_dk T184.2.2.1 10 [.iload_n 0, .iconst 1] 12 = true := by decide +kernel
theorem D184_12 : decode T184.2.2.1 12 = .ok (.if_icmp .ne 17, 3) := by decide +kernel
theorem B184_29_41 : s_dk T184.2.2.1 29 [.bipush 111, .bipush 10, .iload_n 1, .bipush 11, .isub, .imul, .iadd, .iload_n 2, .iadd] 41 = true := by decide +kernel
theorem D184_41 : decode T184.2.2.1 41 = .ok (.ireturn, 1) := by decide +kernel
theorem B184_15_26 : s_dk T184.2.2.1 15 [.bipush 11, .bipush 10, .iload_n 1, .iconst 1, .isub, .imul, .iadd, .iload_n 2, .iadd] 26 = true := by decide +kernel
theorem D184_26 : decode T184.2.2.1 26 = .ok (.goto 15, 3) := by decide +kernel
theorem B184_4_7 : s_dk T184.2.2.1 4 [.iconst 1, .iload_n 2, .iadd] 7 = true := by decide +kernel
theorem D184_7 : decode T184.2.2.1 7 = .ok (.goto 34, 3) := by decide +kernel
noncomputable def T187 : mT := (11, yX11_digitChanged, cX11_digitChanged, 5, (some .int))
set_option maxRecDepth 10000 in
theorem TE187 : sy_m[187]? = some T187 := rfl
theorem B187_0_5 : s_dk T187.2.2.1 0 [.iload_n 0, .iconst 1, .isub, .iload_n 3, .isub] 5 = true := by decide +kernel
theorem D187_5 : decode T187.2.2.1 5 = .ok (.ifCond .ne 7, 3) := by decide +kernel
theorem B187_12_18 : s_dk T187.2.2.1 12 [.iload_n 0, .iconst 1, .isub, .iload_n 3, .isub, .iconst 1] 18 = true := by decide +kernel
theorem D187_18 : decode T187.2.2.1 18 = .ok (.if_icmp .ne 8, 3) := by decide +kernel
theorem B187_26_36 : s_dk T187.2.2.1 26 [.bipush 100, .istore 4, .iload_n 1, .iload_n 2, .iload 4, .imul, .iadd] 36 = true := by decide +kernel
theorem D187_36 : decode T187.2.2.1 36 = .ok (.ireturn, 1) := by decide +kernel
theorem B187_21_23 : s_dk T187.2.2.1 21 [.bipush 10] 23 = true := by decide +kernel
theorem D187_23 : decode T187.2.2.1 23 = .ok (.goto 5, 3) := by decide +kernel
theorem B187_28_36 : s_dk T187.2.2.1 28 [.istore 4, .iload_n 1, .iload_n 2, .iload 4, .imul, .iadd] 36 = true := by decide +kernel
theorem B187_8_9 : s_dk T187.2.2.1 8 [.iconst 1] 9 = true := by decide +kernel
theorem D187_9 : decode T187.2.2.1 9 = .ok (.goto 19, 3) := by decide +kernel
noncomputable def T183 : mT := (11, yX11_place, cX11_place, 5, none)
set_option maxRecDepth 10000 in
theorem TE183 : sy_m[183]? = some T183 := rfl
theorem B183_0_2 : s_dk T183.2.2.1 0 [.aload_n 0, .iload_n 3] 2 = true := by decide +kernel
theorem pf_11_190_77 : s_pf 11 190 77 = some (9, 2) := by decide +kernel
theorem D183_2 : decode T183.2.2.1 2 = .ok (.putfield 190, 3) := by decide +kernel
theorem B183_5_10 : s_dk T183.2.2.1 5 [.aload_n 0, .aload_n 0, .iload_n 1, .iload_n 2, .iload_n 3] 10 = true := by decide +kernel
theorem D183_10 : decode T183.2.2.1 10 = .ok (.invokevirtual 167, 3) := by decide +kernel
theorem pf_11_194_77 : s_pf 11 194 77 = some (6, 1) := by decide +kernel
theorem D183_13 : decode T183.2.2.1 13 = .ok (.putfield 194, 3) := by decide +kernel
theorem B183_16_19 : s_dk T183.2.2.1 16 [.aload_n 0, .aload_n 0, .aload_n 0] 19 = true := by decide +kernel
theorem gf_11_194_77 : s_gf 11 194 77 = some (6, 1) := by decide +kernel
theorem D183_19 : decode T183.2.2.1 19 = .ok (.getfield 194, 3) := by decide +kernel
theorem D183_22 : decode T183.2.2.1 22 = .ok (.invokevirtual 181, 3) := by decide +kernel
theorem ck_11_virtual_181 : m_call 11 (.invokevirtual 181) = some (0, 173, 1) := by decide +kernel
theorem pf_11_197_77 : s_pf 11 197 77 = some (8, 1) := by decide +kernel
theorem D183_25 : decode T183.2.2.1 25 = .ok (.putfield 197, 3) := by decide +kernel
theorem B183_28_30 : s_dk T183.2.2.1 28 [.aload_n 0, .iconst 0] 30 = true := by decide +kernel
theorem pf_11_200_77 : s_pf 11 200 77 = some (7, 1) := by decide +kernel
theorem D183_30 : decode T183.2.2.1 30 = .ok (.putfield 200, 3) := by decide +kernel
theorem B183_33_36 : s_dk T183.2.2.1 33 [.iconst 0, .istore 4] 36 = true := by decide +kernel
theorem B183_36_39 : s_dk T183.2.2.1 36 [.iload 4, .iload_n 2] 39 = true := by decide +kernel
theorem D183_39 : decode T183.2.2.1 39 = .ok (.if_icmp .ge 32, 3) := by decide +kernel
theorem B183_71_74 : s_dk T183.2.2.1 71 [.iconst 0, .istore 4] 74 = true := by decide +kernel
theorem B183_42_44 : s_dk T183.2.2.1 42 [.aload_n 0, .dup] 44 = true := by decide +kernel
theorem gf_11_200_77 : s_gf 11 200 77 = some (7, 1) := by decide +kernel
theorem D183_44 : decode T183.2.2.1 44 = .ok (.getfield 200, 3) := by decide +kernel
theorem B183_47_48 : s_dk T183.2.2.1 47 [.aload_n 0] 48 = true := by decide +kernel
theorem D183_48 : decode T183.2.2.1 48 = .ok (.getfield 13, 3) := by decide +kernel
theorem B183_51_56 : s_dk T183.2.2.1 51 [.iconst 0, .aload_n 0, .iload_n 1, .iload 4] 56 = true := by decide +kernel
theorem D183_56 : decode T183.2.2.1 56 = .ok (.invokevirtual 147, 3) := by decide +kernel
theorem B183_59_60 : s_dk T183.2.2.1 59 [.iadd] 60 = true := by decide +kernel
theorem D183_60 : decode T183.2.2.1 60 = .ok (.iaload, 1) := by decide +kernel
theorem B183_61_62 : s_dk T183.2.2.1 61 [.iadd] 62 = true := by decide +kernel
theorem D183_62 : decode T183.2.2.1 62 = .ok (.putfield 200, 3) := by decide +kernel
theorem B183_65_68 : s_dk T183.2.2.1 65 [.iinc 4 1] 68 = true := by decide +kernel
theorem D183_68 : decode T183.2.2.1 68 = .ok (.goto (-32), 3) := by decide +kernel
theorem B183_74_77 : s_dk T183.2.2.1 74 [.iload 4, .iconst 3] 77 = true := by decide +kernel
theorem D183_77 : decode T183.2.2.1 77 = .ok (.if_icmp .ge 63, 3) := by decide +kernel
theorem B183_80_81 : s_dk T183.2.2.1 80 [.aload_n 0] 81 = true := by decide +kernel
theorem gf_11_30_77 : s_gf 11 30 77 = some (10, 86) := by decide +kernel
theorem D183_81 : decode T183.2.2.1 81 = .ok (.getfield 30, 3) := by decide +kernel
theorem B183_84_88 : s_dk T183.2.2.1 84 [.iload 4, .aload_n 0, .aload_n 0] 88 = true := by decide +kernel
theorem D183_88 : decode T183.2.2.1 88 = .ok (.getfield 194, 3) := by decide +kernel
theorem B183_91_93 : s_dk T183.2.2.1 91 [.iload 4] 93 = true := by decide +kernel
theorem D183_93 : decode T183.2.2.1 93 = .ok (.invokevirtual 171, 3) := by decide +kernel
theorem D183_96 : decode T183.2.2.1 96 = .ok (.iastore, 1) := by decide +kernel
theorem B183_97_98 : s_dk T183.2.2.1 97 [.aload_n 0] 98 = true := by decide +kernel
theorem gf_11_33_77 : s_gf 11 33 77 = some (11, 87) := by decide +kernel
theorem D183_98 : decode T183.2.2.1 98 = .ok (.getfield 33, 3) := by decide +kernel
theorem B183_101_104 : s_dk T183.2.2.1 101 [.iload 4, .aload_n 0] 104 = true := by decide +kernel
theorem D183_104 : decode T183.2.2.1 104 = .ok (.getfield 30, 3) := by decide +kernel
theorem B183_107_109 : s_dk T183.2.2.1 107 [.iload 4] 109 = true := by decide +kernel
theorem D183_109 : decode T183.2.2.1 109 = .ok (.iaload, 1) := by decide +kernel
theorem D183_110 : decode T183.2.2.1 110 = .ok (.invokestatic 203, 3) := by decide +kernel
theorem ck_11_static_203 : m_call 11 (.invokestatic 203) = some (1, 176, 1) := by decide +kernel
theorem D183_113 : decode T183.2.2.1 113 = .ok (.iastore, 1) := by decide +kernel
theorem B183_114_115 : s_dk T183.2.2.1 114 [.aload_n 0] 115 = true := by decide +kernel
theorem gf_11_36_77 : s_gf 11 36 77 = some (12, 88) := by decide +kernel
theorem D183_115 : decode T183.2.2.1 115 = .ok (.getfield 36, 3) := by decide +kernel
theorem B183_118_124 : s_dk T183.2.2.1 118 [.iload 4, .aload_n 0, .iload 4, .aload_n 0] 124 = true := by decide +kernel
theorem D183_124 : decode T183.2.2.1 124 = .ok (.getfield 30, 3) := by decide +kernel
theorem B183_127_129 : s_dk T183.2.2.1 127 [.iload 4] 129 = true := by decide +kernel
theorem D183_129 : decode T183.2.2.1 129 = .ok (.iaload, 1) := by decide +kernel
theorem D183_130 : decode T183.2.2.1 130 = .ok (.invokevirtual 187, 3) := by decide +kernel
theorem D183_133 : decode T183.2.2.1 133 = .ok (.iastore, 1) := by decide +kernel
theorem B183_134_137 : s_dk T183.2.2.1 134 [.iinc 4 1] 137 = true := by decide +kernel
theorem D183_137 : decode T183.2.2.1 137 = .ok (.goto (-63), 3) := by decide +kernel
theorem D183_140 : decode T183.2.2.1 140 = .ok (.return_, 1) := by decide +kernel
noncomputable def T189 : mT := (11, yX11_heldWith, cX11_heldWith, 3, (some .int))
set_option maxRecDepth 10000 in
theorem TE189 : sy_m[189]? = some T189 := rfl
theorem B189_0_1 : s_dk T189.2.2.1 0 [.aload_n 0] 1 = true := by decide +kernel
theorem D189_1 : decode T189.2.2.1 1 = .ok (.getfield 200, 3) := by decide +kernel
theorem B189_4_6 : s_dk T189.2.2.1 4 [.aload_n 0, .iconst 1] 6 = true := by decide +kernel
theorem D189_6 : decode T189.2.2.1 6 = .ok (.invokevirtual 141, 3) := by decide +kernel
theorem B189_9_10 : s_dk T189.2.2.1 9 [.aload_n 0] 10 = true := by decide +kernel
theorem gf_11_24_77 : s_gf 11 24 77 = some (4, 84) := by decide +kernel
theorem D189_10 : decode T189.2.2.1 10 = .ok (.getfield 24, 3) := by decide +kernel
theorem B189_13_14 : s_dk T189.2.2.1 13 [.iload_n 1] 14 = true := by decide +kernel
theorem D189_14 : decode T189.2.2.1 14 = .ok (.iaload, 1) := by decide +kernel
theorem B189_15_19 : s_dk T189.2.2.1 15 [.imul, .isub, .istore_n 2, .iload_n 2] 19 = true := by decide +kernel
theorem D189_19 : decode T189.2.2.1 19 = .ok (.ifCond .ge 7, 3) := by decide +kernel
theorem B189_26_27 : s_dk T189.2.2.1 26 [.iload_n 2] 27 = true := by decide +kernel
theorem D189_27 : decode T189.2.2.1 27 = .ok (.ireturn, 1) := by decide +kernel
theorem B189_22_23 : s_dk T189.2.2.1 22 [.iconst 0] 23 = true := by decide +kernel
theorem D189_23 : decode T189.2.2.1 23 = .ok (.goto 4, 3) := by decide +kernel
noncomputable def T190 : mT := (11, yX11_secondOf, cX11_secondOf, 3, (some .int))
set_option maxRecDepth 10000 in
theorem TE190 : sy_m[190]? = some T190 := rfl
theorem B190_0_2 : s_dk T190.2.2.1 0 [.aload_n 0, .iload_n 1] 2 = true := by decide +kernel
theorem D190_2 : decode T190.2.2.1 2 = .ok (.invokevirtual 231, 3) := by decide +kernel
theorem ck_11_virtual_231 : m_call 11 (.invokevirtual 231) = some (0, 189, 1) := by decide +kernel
theorem B190_5_7 : s_dk T190.2.2.1 5 [.aload_n 0, .iconst 0] 7 = true := by decide +kernel
theorem D190_7 : decode T190.2.2.1 7 = .ok (.invokevirtual 141, 3) := by decide +kernel
theorem B190_10_13 : s_dk T190.2.2.1 10 [.isub, .istore_n 2, .iload_n 2] 13 = true := by decide +kernel
theorem D190_13 : decode T190.2.2.1 13 = .ok (.ifCond .le 13, 3) := by decide +kernel
theorem B190_26_28 : s_dk T190.2.2.1 26 [.iconst 0, .aload_n 0] 28 = true := by decide +kernel
theorem gf_11_190_77 : s_gf 11 190 77 = some (9, 1) := by decide +kernel
theorem D190_28 : decode T190.2.2.1 28 = .ok (.getfield 190, 3) := by decide +kernel
theorem D190_31 : decode T190.2.2.1 31 = .ok (.ifCond .eq 11, 3) := by decide +kernel
theorem B190_42_44 : s_dk T190.2.2.1 42 [.iconst 0, .iadd] 44 = true := by decide +kernel
theorem D190_44 : decode T190.2.2.1 44 = .ok (.ireturn, 1) := by decide +kernel
theorem B190_34_36 : s_dk T190.2.2.1 34 [.aload_n 0, .iconst 3] 36 = true := by decide +kernel
theorem D190_36 : decode T190.2.2.1 36 = .ok (.invokevirtual 141, 3) := by decide +kernel
theorem D190_39 : decode T190.2.2.1 39 = .ok (.goto 4, 3) := by decide +kernel
theorem B190_43_44 : s_dk T190.2.2.1 43 [.iadd] 44 = true := by decide +kernel
theorem B190_16_18 : s_dk T190.2.2.1 16 [.aload_n 0, .iconst 2] 18 = true := by decide +kernel
theorem D190_18 : decode T190.2.2.1 18 = .ok (.invokevirtual 141, 3) := by decide +kernel
theorem B190_21_23 : s_dk T190.2.2.1 21 [.iload_n 2, .imul] 23 = true := by decide +kernel
theorem D190_23 : decode T190.2.2.1 23 = .ok (.goto 4, 3) := by decide +kernel
theorem B190_27_28 : s_dk T190.2.2.1 27 [.aload_n 0] 28 = true := by decide +kernel
noncomputable def T191 : mT := (11, yX11_endOf, cX11_endOf, 6, (some .int))
set_option maxRecDepth 10000 in
theorem TE191 : sy_m[191]? = some T191 := rfl
theorem B191_0_5 : s_dk T191.2.2.1 0 [.iconst 0, .istore_n 3, .iconst 0, .istore 4] 5 = true := by decide +kernel
theorem B191_5_8 : s_dk T191.2.2.1 5 [.iload 4, .iconst 3] 8 = true := by decide +kernel
theorem D191_8 : decode T191.2.2.1 8 = .ok (.if_icmp .ge 72, 3) := by decide +kernel
theorem B191_11_12 : s_dk T191.2.2.1 11 [.aload_n 0] 12 = true := by decide +kernel
theorem gf_11_27_77 : s_gf 11 27 77 = some (5, 85) := by decide +kernel
theorem D191_12 : decode T191.2.2.1 12 = .ok (.getfield 27, 3) := by decide +kernel
theorem B191_15_21 : s_dk T191.2.2.1 15 [.iconst 3, .iload_n 1, .imul, .iload 4, .iadd] 21 = true := by decide +kernel
theorem D191_21 : decode T191.2.2.1 21 = .ok (.iaload, 1) := by decide +kernel
theorem B191_22_29 : s_dk T191.2.2.1 22 [.istore 5, .iload_n 3, .iload 5, .bipush 9] 29 = true := by decide +kernel
theorem D191_29 : decode T191.2.2.1 29 = .ok (.if_icmp .ne 11, 3) := by decide +kernel
theorem B191_40_44 : s_dk T191.2.2.1 40 [.iload 5, .bipush 8] 44 = true := by decide +kernel
theorem D191_44 : decode T191.2.2.1 44 = .ok (.if_icmp .ge 27, 3) := by decide +kernel
theorem B191_71_77 : s_dk T191.2.2.1 71 [.iconst 0, .iadd, .istore_n 3, .iinc 4 1] 77 = true := by decide +kernel
theorem D191_77 : decode T191.2.2.1 77 = .ok (.goto (-72), 3) := by decide +kernel
theorem B191_47_54 : s_dk T191.2.2.1 47 [.iload 5, .aload_n 0, .iload_n 2, .aload_n 0, .iload 4] 54 = true := by decide +kernel
theorem D191_54 : decode T191.2.2.1 54 = .ok (.invokevirtual 206, 3) := by decide +kernel
theorem ck_11_virtual_206 : m_call 11 (.invokevirtual 206) = some (0, 182, 1) := by decide +kernel
theorem D191_57 : decode T191.2.2.1 57 = .ok (.invokevirtual 161, 3) := by decide +kernel
theorem D191_60 : decode T191.2.2.1 60 = .ok (.if_icmp .eq 11, 3) := by decide +kernel
theorem B191_63_65 : s_dk T191.2.2.1 63 [.aload_n 0, .iconst 4] 65 = true := by decide +kernel
theorem D191_65 : decode T191.2.2.1 65 = .ok (.invokevirtual 141, 3) := by decide +kernel
theorem D191_68 : decode T191.2.2.1 68 = .ok (.goto 4, 3) := by decide +kernel
theorem B191_72_77 : s_dk T191.2.2.1 72 [.iadd, .istore_n 3, .iinc 4 1] 77 = true := by decide +kernel
theorem B191_32_34 : s_dk T191.2.2.1 32 [.aload_n 0, .iconst 5] 34 = true := by decide +kernel
theorem D191_34 : decode T191.2.2.1 34 = .ok (.invokevirtual 141, 3) := by decide +kernel
theorem D191_37 : decode T191.2.2.1 37 = .ok (.goto 35, 3) := by decide +kernel
theorem B191_80_81 : s_dk T191.2.2.1 80 [.iload_n 3] 81 = true := by decide +kernel
theorem D191_81 : decode T191.2.2.1 81 = .ok (.ireturn, 1) := by decide +kernel
noncomputable def T192 : mT := (11, yX11_moveAt, cX11_moveAt, 1, (some .int))
set_option maxRecDepth 10000 in
theorem TE192 : sy_m[192]? = some T192 := rfl
theorem B192_0_2 : s_dk T192.2.2.1 0 [.iload_n 0, .iconst 5] 2 = true := by decide +kernel
theorem D192_2 : decode T192.2.2.1 2 = .ok (.if_icmp .ge 7, 3) := by decide +kernel
theorem B192_9_12 : s_dk T192.2.2.1 9 [.iload_n 0, .bipush 13] 12 = true := by decide +kernel
theorem D192_12 : decode T192.2.2.1 12 = .ok (.if_icmp .ge 9, 3) := by decide +kernel
theorem B192_21_25 : s_dk T192.2.2.1 21 [.bipush 7, .iload_n 0, .iadd] 25 = true := by decide +kernel
theorem D192_25 : decode T192.2.2.1 25 = .ok (.ireturn, 1) := by decide +kernel
theorem B192_15_18 : s_dk T192.2.2.1 15 [.iconst 5, .iload_n 0, .iadd] 18 = true := by decide +kernel
theorem D192_18 : decode T192.2.2.1 18 = .ok (.goto 7, 3) := by decide +kernel
theorem B192_5_6 : s_dk T192.2.2.1 5 [.iload_n 0] 6 = true := by decide +kernel
theorem D192_6 : decode T192.2.2.1 6 = .ok (.goto 19, 3) := by decide +kernel
noncomputable def T194 : mT := (11, yX11_writes, cX11_writes, 6, none)
set_option maxRecDepth 10000 in
theorem TE194 : sy_m[194]? = some T194 := rfl
theorem B194_0_1 : s_dk T194.2.2.1 0 [.aload_n 0] 1 = true := by decide +kernel
theorem gf_11_40_77 : s_gf 11 40 77 = some (16, 89) := by decide +kernel
theorem D194_1 : decode T194.2.2.1 1 = .ok (.getfield 40, 3) := by decide +kernel
theorem B194_4_12 : s_dk T194.2.2.1 4 [.sipush 1111, .iload_n 1, .imul, .iload_n 2, .iadd, .lload_n 3] 12 = true := by decide +kernel
theorem D194_12 : decode T194.2.2.1 12 = .ok (.lastore, 1) := by decide +kernel
theorem B194_13_14 : s_dk T194.2.2.1 13 [.aload_n 0] 14 = true := by decide +kernel
theorem gf_11_234_77 : s_gf 11 234 77 = some (24, 1) := by decide +kernel
theorem D194_14 : decode T194.2.2.1 14 = .ok (.getfield 234, 3) := by decide +kernel
theorem D194_17 : decode T194.2.2.1 17 = .ok (.ifCond .eq 17, 3) := by decide +kernel
theorem D194_34 : decode T194.2.2.1 34 = .ok (.return_, 1) := by decide +kernel
theorem B194_20_21 : s_dk T194.2.2.1 20 [.aload_n 0] 21 = true := by decide +kernel
theorem gf_11_44_77 : s_gf 11 44 77 = some (17, 90) := by decide +kernel
theorem D194_21 : decode T194.2.2.1 21 = .ok (.getfield 44, 3) := by decide +kernel
theorem B194_24_33 : s_dk T194.2.2.1 24 [.sipush 1111, .iload_n 1, .imul, .iload_n 2, .iadd, .iload 5] 33 = true := by decide +kernel
theorem D194_33 : decode T194.2.2.1 33 = .ok (.iastore, 1) := by decide +kernel
noncomputable def T195 : mT := (11, yX11_wrongs, cX11_wrongs, 5, (some .int))
set_option maxRecDepth 10000 in
theorem TE195 : sy_m[195]? = some T195 := rfl
theorem B195_0_5 : s_dk T195.2.2.1 0 [.iconst 0, .istore_n 3, .iconst 0, .istore 4] 5 = true := by decide +kernel
theorem B195_5_8 : s_dk T195.2.2.1 5 [.iload 4, .aload_n 0] 8 = true := by decide +kernel
theorem D195_8 : decode T195.2.2.1 8 = .ok (.getfield 24, 3) := by decide +kernel
theorem B195_11_12 : s_dk T195.2.2.1 11 [.iload_n 1] 12 = true := by decide +kernel
theorem D195_12 : decode T195.2.2.1 12 = .ok (.iaload, 1) := by decide +kernel
theorem D195_13 : decode T195.2.2.1 13 = .ok (.if_icmp .ge 58, 3) := by decide +kernel
theorem B195_71_72 : s_dk T195.2.2.1 71 [.iload_n 3] 72 = true := by decide +kernel
theorem D195_72 : decode T195.2.2.1 72 = .ok (.ireturn, 1) := by decide +kernel
theorem B195_16_18 : s_dk T195.2.2.1 16 [.iload_n 3, .aload_n 0] 18 = true := by decide +kernel
theorem D195_18 : decode T195.2.2.1 18 = .ok (.getfield 27, 3) := by decide +kernel
theorem B195_21_27 : s_dk T195.2.2.1 21 [.iconst 3, .iload_n 1, .imul, .iload 4, .iadd] 27 = true := by decide +kernel
theorem D195_27 : decode T195.2.2.1 27 = .ok (.iaload, 1) := by decide +kernel
theorem B195_28_30 : s_dk T195.2.2.1 28 [.bipush 8] 30 = true := by decide +kernel
theorem D195_30 : decode T195.2.2.1 30 = .ok (.if_icmp .ge 32, 3) := by decide +kernel
theorem B195_62_68 : s_dk T195.2.2.1 62 [.iconst 0, .iadd, .istore_n 3, .iinc 4 1] 68 = true := by decide +kernel
theorem D195_68 : decode T195.2.2.1 68 = .ok (.goto (-63), 3) := by decide +kernel
theorem B195_33_34 : s_dk T195.2.2.1 33 [.aload_n 0] 34 = true := by decide +kernel
theorem D195_34 : decode T195.2.2.1 34 = .ok (.getfield 27, 3) := by decide +kernel
theorem B195_37_43 : s_dk T195.2.2.1 37 [.iconst 3, .iload_n 1, .imul, .iload 4, .iadd] 43 = true := by decide +kernel
theorem D195_43 : decode T195.2.2.1 43 = .ok (.iaload, 1) := by decide +kernel
theorem B195_44_49 : s_dk T195.2.2.1 44 [.aload_n 0, .iload_n 2, .aload_n 0, .iload 4] 49 = true := by decide +kernel
theorem D195_49 : decode T195.2.2.1 49 = .ok (.invokevirtual 206, 3) := by decide +kernel
theorem D195_52 : decode T195.2.2.1 52 = .ok (.invokevirtual 161, 3) := by decide +kernel
theorem D195_55 : decode T195.2.2.1 55 = .ok (.if_icmp .eq 7, 3) := by decide +kernel
theorem B195_58_59 : s_dk T195.2.2.1 58 [.iconst 1] 59 = true := by decide +kernel
theorem D195_59 : decode T195.2.2.1 59 = .ok (.goto 4, 3) := by decide +kernel
theorem B195_63_68 : s_dk T195.2.2.1 63 [.iadd, .istore_n 3, .iinc 4 1] 68 = true := by decide +kernel
noncomputable def T203 : mT := (11, yX11_isTabled, cX11_isTabled, 2, (some .boolean))
set_option maxRecDepth 10000 in
theorem TE203 : sy_m[203]? = some T203 := rfl
theorem B203_0_1 : s_dk T203.2.2.1 0 [.aload_n 0] 1 = true := by decide +kernel
theorem gf_11_287_77 : s_gf 11 287 77 = some (23, 1) := by decide +kernel
theorem D203_1 : decode T203.2.2.1 1 = .ok (.getfield 287, 3) := by decide +kernel
theorem D203_4 : decode T203.2.2.1 4 = .ok (.ifCond .eq 26, 3) := by decide +kernel
theorem B203_30_31 : s_dk T203.2.2.1 30 [.iconst 0] 31 = true := by decide +kernel
theorem D203_31 : decode T203.2.2.1 31 = .ok (.ireturn, 1) := by decide +kernel
theorem B203_7_11 : s_dk T203.2.2.1 7 [.iload_n 1, .iconst 0, .bipush 15] 11 = true := by decide +kernel
theorem D203_11 : decode T203.2.2.1 11 = .ok (.invokestatic 123, 3) := by decide +kernel
theorem D203_14 : decode T203.2.2.1 14 = .ok (.ifCond .eq 16, 3) := by decide +kernel
theorem B203_17_18 : s_dk T203.2.2.1 17 [.aload_n 0] 18 = true := by decide +kernel
theorem gf_11_47_77 : s_gf 11 47 77 = some (18, 91) := by decide +kernel
theorem D203_18 : decode T203.2.2.1 18 = .ok (.getfield 47, 3) := by decide +kernel
theorem B203_21_22 : s_dk T203.2.2.1 21 [.iload_n 1] 22 = true := by decide +kernel
theorem D203_22 : decode T203.2.2.1 22 = .ok (.baload, 1) := by decide +kernel
theorem D203_23 : decode T203.2.2.1 23 = .ok (.ifCond .eq 7, 3) := by decide +kernel
theorem B203_26_27 : s_dk T203.2.2.1 26 [.iconst 1] 27 = true := by decide +kernel
theorem D203_27 : decode T203.2.2.1 27 = .ok (.goto 4, 3) := by decide +kernel
noncomputable def T204 : mT := (11, yX11_table, cX11_table, 4, (some .int))
set_option maxRecDepth 10000 in
theorem TE204 : sy_m[204]? = some T204 := rfl
theorem B204_0_2 : s_dk T204.2.2.1 0 [.aload_n 0, .iload_n 1] 2 = true := by decide +kernel
theorem D204_2 : decode T204.2.2.1 2 = .ok (.invokevirtual 293, 3) := by decide +kernel
theorem ck_11_virtual_293 : m_call 11 (.invokevirtual 293) = some (0, 203, 1) := by decide +kernel
theorem D204_5 : decode T204.2.2.1 5 = .ok (.ifCond .eq 28, 3) := by decide +kernel
theorem B204_33_34 : s_dk T204.2.2.1 33 [.iconst (-1)] 34 = true := by decide +kernel
theorem D204_34 : decode T204.2.2.1 34 = .ok (.ireturn, 1) := by decide +kernel
theorem B204_8_11 : s_dk T204.2.2.1 8 [.iload_n 2, .iconst 0, .aload_n 0] 11 = true := by decide +kernel
theorem gf_11_50_77 : s_gf 11 50 77 = some (19, 92) := by decide +kernel
theorem D204_11 : decode T204.2.2.1 11 = .ok (.getfield 50, 3) := by decide +kernel
theorem B204_14_15 : s_dk T204.2.2.1 14 [.iload_n 1] 15 = true := by decide +kernel
theorem D204_15 : decode T204.2.2.1 15 = .ok (.iaload, 1) := by decide +kernel
theorem D204_16 : decode T204.2.2.1 16 = .ok (.invokestatic 123, 3) := by decide +kernel
theorem D204_19 : decode T204.2.2.1 19 = .ok (.ifCond .eq 14, 3) := by decide +kernel
theorem B204_22_27 : s_dk T204.2.2.1 22 [.iload_n 3, .iconst 0, .sipush 1110] 27 = true := by decide +kernel
theorem D204_27 : decode T204.2.2.1 27 = .ok (.invokestatic 123, 3) := by decide +kernel
theorem D204_30 : decode T204.2.2.1 30 = .ok (.ifCond .ne 5, 3) := by decide +kernel
theorem B204_35_36 : s_dk T204.2.2.1 35 [.aload_n 0] 36 = true := by decide +kernel
theorem D204_36 : decode T204.2.2.1 36 = .ok (.getfield 44, 3) := by decide +kernel
theorem B204_39_43 : s_dk T204.2.2.1 39 [.sipush 1111, .aload_n 0] 43 = true := by decide +kernel
theorem gf_11_53_77 : s_gf 11 53 77 = some (20, 93) := by decide +kernel
theorem D204_43 : decode T204.2.2.1 43 = .ok (.getfield 53, 3) := by decide +kernel
theorem B204_46_52 : s_dk T204.2.2.1 46 [.bipush 9, .iload_n 1, .imul, .iload_n 2, .iadd] 52 = true := by decide +kernel
theorem D204_52 : decode T204.2.2.1 52 = .ok (.iaload, 1) := by decide +kernel
theorem B204_53_56 : s_dk T204.2.2.1 53 [.imul, .iload_n 3, .iadd] 56 = true := by decide +kernel
theorem D204_56 : decode T204.2.2.1 56 = .ok (.iaload, 1) := by decide +kernel
theorem D204_57 : decode T204.2.2.1 57 = .ok (.ireturn, 1) := by decide +kernel
noncomputable def T205 : mT := (11, yX11_plan, cX11_plan, 3, (some .int))
set_option maxRecDepth 10000 in
theorem TE205 : sy_m[205]? = some T205 := rfl
theorem B205_0_2 : s_dk T205.2.2.1 0 [.aload_n 0, .iload_n 1] 2 = true := by decide +kernel
theorem D205_2 : decode T205.2.2.1 2 = .ok (.invokevirtual 293, 3) := by decide +kernel
theorem D205_5 : decode T205.2.2.1 5 = .ok (.ifCond .eq 33, 3) := by decide +kernel
theorem B205_38_39 : s_dk T205.2.2.1 38 [.iconst (-1)] 39 = true := by decide +kernel
theorem D205_39 : decode T205.2.2.1 39 = .ok (.ireturn, 1) := by decide +kernel
theorem B205_8_11 : s_dk T205.2.2.1 8 [.iload_n 2, .iconst 0, .aload_n 0] 11 = true := by decide +kernel
theorem gf_11_59_77 : s_gf 11 59 77 = some (22, 95) := by decide +kernel
theorem D205_11 : decode T205.2.2.1 11 = .ok (.getfield 59, 3) := by decide +kernel
theorem B205_14_15 : s_dk T205.2.2.1 14 [.iload_n 1] 15 = true := by decide +kernel
theorem D205_15 : decode T205.2.2.1 15 = .ok (.iaload, 1) := by decide +kernel
theorem B205_16_18 : s_dk T205.2.2.1 16 [.iconst 1, .isub] 18 = true := by decide +kernel
theorem D205_18 : decode T205.2.2.1 18 = .ok (.invokestatic 123, 3) := by decide +kernel
theorem D205_21 : decode T205.2.2.1 21 = .ok (.ifCond .eq 17, 3) := by decide +kernel
theorem B205_24_25 : s_dk T205.2.2.1 24 [.aload_n 0] 25 = true := by decide +kernel
theorem gf_11_56_77 : s_gf 11 56 77 = some (21, 94) := by decide +kernel
theorem D205_25 : decode T205.2.2.1 25 = .ok (.getfield 56, 3) := by decide +kernel
theorem B205_28_34 : s_dk T205.2.2.1 28 [.bipush 24, .iload_n 1, .imul, .iload_n 2, .iadd] 34 = true := by decide +kernel
theorem D205_34 : decode T205.2.2.1 34 = .ok (.iaload, 1) := by decide +kernel
theorem D205_35 : decode T205.2.2.1 35 = .ok (.goto 4, 3) := by decide +kernel
noncomputable def T208 : mT := (11, yX11_isHeard, cX11_isHeard, 4, (some .boolean))
set_option maxRecDepth 10000 in
theorem TE208 : sy_m[208]? = some T208 := rfl
theorem B208_0_2 : s_dk T208.2.2.1 0 [.iconst 0, .istore_n 2] 2 = true := by decide +kernel
theorem B208_2_4 : s_dk T208.2.2.1 2 [.iload_n 2, .aload_n 0] 4 = true := by decide +kernel
theorem D208_4 : decode T208.2.2.1 4 = .ok (.getfield 13, 3) := by decide +kernel
theorem B208_7_10 : s_dk T208.2.2.1 7 [.sipush 469] 10 = true := by decide +kernel
theorem D208_10 : decode T208.2.2.1 10 = .ok (.iaload, 1) := by decide +kernel
theorem D208_11 : decode T208.2.2.1 11 = .ok (.if_icmp .ge 46, 3) := by decide +kernel
theorem B208_57_58 : s_dk T208.2.2.1 57 [.iconst 0] 58 = true := by decide +kernel
theorem D208_58 : decode T208.2.2.1 58 = .ok (.ireturn, 1) := by decide +kernel
theorem B208_14_16 : s_dk T208.2.2.1 14 [.iconst 0, .istore_n 3] 16 = true := by decide +kernel
theorem B208_16_19 : s_dk T208.2.2.1 16 [.iload_n 3, .aload_n 0, .iload_n 2] 19 = true := by decide +kernel
theorem D208_19 : decode T208.2.2.1 19 = .ok (.invokevirtual 144, 3) := by decide +kernel
theorem D208_22 : decode T208.2.2.1 22 = .ok (.if_icmp .ge 29, 3) := by decide +kernel
theorem B208_51_54 : s_dk T208.2.2.1 51 [.iinc 2 1] 54 = true := by decide +kernel
theorem D208_54 : decode T208.2.2.1 54 = .ok (.goto (-52), 3) := by decide +kernel
theorem B208_25_27 : s_dk T208.2.2.1 25 [.aload_n 0, .iload_n 2] 27 = true := by decide +kernel
theorem D208_27 : decode T208.2.2.1 27 = .ok (.invokevirtual 138, 3) := by decide +kernel
theorem D208_30 : decode T208.2.2.1 30 = .ok (.ifCond .le 15, 3) := by decide +kernel
theorem B208_45_48 : s_dk T208.2.2.1 45 [.iinc 3 1] 48 = true := by decide +kernel
theorem D208_48 : decode T208.2.2.1 48 = .ok (.goto (-32), 3) := by decide +kernel
theorem B208_33_36 : s_dk T208.2.2.1 33 [.aload_n 0, .iload_n 2, .iload_n 3] 36 = true := by decide +kernel
theorem D208_36 : decode T208.2.2.1 36 = .ok (.invokevirtual 147, 3) := by decide +kernel
theorem B208_39_40 : s_dk T208.2.2.1 39 [.iload_n 1] 40 = true := by decide +kernel
theorem D208_40 : decode T208.2.2.1 40 = .ok (.if_icmp .ne 5, 3) := by decide +kernel
theorem B208_43_44 : s_dk T208.2.2.1 43 [.iconst 1] 44 = true := by decide +kernel
theorem D208_44 : decode T208.2.2.1 44 = .ok (.ireturn, 1) := by decide +kernel
noncomputable def T210 : mT := (11, yX11_feed, cX11_feed, 7, (some .int))
set_option maxRecDepth 10000 in
theorem TE210 : sy_m[210]? = some T210 := rfl
theorem B210_0_1 : s_dk T210.2.2.1 0 [.aload_n 0] 1 = true := by decide +kernel
theorem gf_11_151_77 : s_gf 11 151 77 = some (31, 1) := by decide +kernel
theorem D210_1 : decode T210.2.2.1 1 = .ok (.getfield 151, 3) := by decide +kernel
theorem B210_4_10 : s_dk T210.2.2.1 4 [.bipush 20, .iadd, .sipush 400] 10 = true := by decide +kernel
theorem D210_10 : decode T210.2.2.1 10 = .ok (.if_icmp .le 5, 3) := by decide +kernel
theorem B210_15_16 : s_dk T210.2.2.1 15 [.aload_n 0] 16 = true := by decide +kernel
theorem gf_11_72_77 : s_gf 11 72 77 = some (30, 99) := by decide +kernel
theorem D210_16 : decode T210.2.2.1 16 = .ok (.getfield 72, 3) := by decide +kernel
theorem B210_19_21 : s_dk T210.2.2.1 19 [.iconst 0, .iload_n 1] 21 = true := by decide +kernel
theorem D210_21 : decode T210.2.2.1 21 = .ok (.iastore, 1) := by decide +kernel
theorem B210_22_23 : s_dk T210.2.2.1 22 [.aload_n 0] 23 = true := by decide +kernel
theorem D210_23 : decode T210.2.2.1 23 = .ok (.getfield 72, 3) := by decide +kernel
theorem B210_26_28 : s_dk T210.2.2.1 26 [.iconst 1, .iload_n 2] 28 = true := by decide +kernel
theorem D210_28 : decode T210.2.2.1 28 = .ok (.iastore, 1) := by decide +kernel
theorem B210_29_30 : s_dk T210.2.2.1 29 [.aload_n 0] 30 = true := by decide +kernel
theorem D210_30 : decode T210.2.2.1 30 = .ok (.getfield 72, 3) := by decide +kernel
theorem B210_33_35 : s_dk T210.2.2.1 33 [.iconst 2, .iload_n 3] 35 = true := by decide +kernel
theorem D210_35 : decode T210.2.2.1 35 = .ok (.iastore, 1) := by decide +kernel
theorem B210_36_37 : s_dk T210.2.2.1 36 [.aload_n 0] 37 = true := by decide +kernel
theorem D210_37 : decode T210.2.2.1 37 = .ok (.getfield 72, 3) := by decide +kernel
theorem B210_40_43 : s_dk T210.2.2.1 40 [.iconst 3, .iload 4] 43 = true := by decide +kernel
theorem D210_43 : decode T210.2.2.1 43 = .ok (.iastore, 1) := by decide +kernel
theorem B210_44_45 : s_dk T210.2.2.1 44 [.aload_n 0] 45 = true := by decide +kernel
theorem D210_45 : decode T210.2.2.1 45 = .ok (.getfield 72, 3) := by decide +kernel
theorem B210_48_51 : s_dk T210.2.2.1 48 [.iconst 4, .iload 5] 51 = true := by decide +kernel
theorem D210_51 : decode T210.2.2.1 51 = .ok (.iastore, 1) := by decide +kernel
theorem B210_52_55 : s_dk T210.2.2.1 52 [.iconst 0, .istore 6] 55 = true := by decide +kernel
theorem B210_13_14 : s_dk T210.2.2.1 13 [.iconst (-1)] 14 = true := by decide +kernel
theorem D210_14 : decode T210.2.2.1 14 = .ok (.ireturn, 1) := by decide +kernel
theorem B210_55_59 : s_dk T210.2.2.1 55 [.iload 6, .bipush 20] 59 = true := by decide +kernel
theorem D210_59 : decode T210.2.2.1 59 = .ok (.if_icmp .ge 42, 3) := by decide +kernel
theorem B210_62_63 : s_dk T210.2.2.1 62 [.aload_n 0] 63 = true := by decide +kernel
theorem D210_63 : decode T210.2.2.1 63 = .ok (.getfield 69, 3) := by decide +kernel
theorem B210_66_67 : s_dk T210.2.2.1 66 [.aload_n 0] 67 = true := by decide +kernel
theorem D210_67 : decode T210.2.2.1 67 = .ok (.getfield 151, 3) := by decide +kernel
theorem B210_70_74 : s_dk T210.2.2.1 70 [.iload 6, .iadd, .aload_n 0] 74 = true := by decide +kernel
theorem D210_74 : decode T210.2.2.1 74 = .ok (.getfield 72, 3) := by decide +kernel
theorem B210_77_80 : s_dk T210.2.2.1 77 [.iload 6, .iconst 4] 80 = true := by decide +kernel
theorem D210_80 : decode T210.2.2.1 80 = .ok (.idiv, 1) := by decide +kernel
theorem D210_81 : decode T210.2.2.1 81 = .ok (.iaload, 1) := by decide +kernel
theorem B210_82_89 : s_dk T210.2.2.1 82 [.bipush 24, .bipush 8, .iload 6, .iconst 4] 89 = true := by decide +kernel
theorem D210_89 : decode T210.2.2.1 89 = .ok (.irem, 1) := by decide +kernel
theorem B210_90_92 : s_dk T210.2.2.1 90 [.imul, .isub] 92 = true := by decide +kernel
theorem D210_92 : decode T210.2.2.1 92 = .ok (.ishr, 1) := by decide +kernel
theorem D210_93 : decode T210.2.2.1 93 = .ok (.i2b, 1) := by decide +kernel
theorem D210_94 : decode T210.2.2.1 94 = .ok (.bastore, 1) := by decide +kernel
theorem B210_95_98 : s_dk T210.2.2.1 95 [.iinc 6 1] 98 = true := by decide +kernel
theorem D210_98 : decode T210.2.2.1 98 = .ok (.goto (-43), 3) := by decide +kernel
theorem B210_101_103 : s_dk T210.2.2.1 101 [.aload_n 0, .dup] 103 = true := by decide +kernel
theorem D210_103 : decode T210.2.2.1 103 = .ok (.getfield 151, 3) := by decide +kernel
theorem B210_106_109 : s_dk T210.2.2.1 106 [.bipush 20, .iadd] 109 = true := by decide +kernel
theorem pf_11_151_77 : s_pf 11 151 77 = some (31, 1) := by decide +kernel
theorem D210_109 : decode T210.2.2.1 109 = .ok (.putfield 151, 3) := by decide +kernel
theorem B210_112_113 : s_dk T210.2.2.1 112 [.aload_n 0] 113 = true := by decide +kernel
theorem D210_113 : decode T210.2.2.1 113 = .ok (.getfield 151, 3) := by decide +kernel
theorem D210_116 : decode T210.2.2.1 116 = .ok (.ireturn, 1) := by decide +kernel
noncomputable def T211 : mT := (11, yX11_end, cX11_end, 2, (some .int))
set_option maxRecDepth 10000 in
theorem TE211 : sy_m[211]? = some T211 := rfl
theorem B211_0_3 : s_dk T211.2.2.1 0 [.iload_n 1, .iconst 0, .aload_n 0] 3 = true := by decide +kernel
theorem D211_3 : decode T211.2.2.1 3 = .ok (.getfield 151, 3) := by decide +kernel
theorem D211_6 : decode T211.2.2.1 6 = .ok (.invokestatic 123, 3) := by decide +kernel
theorem D211_9 : decode T211.2.2.1 9 = .ok (.ifCond .ne 5, 3) := by decide +kernel
theorem B211_14_16 : s_dk T211.2.2.1 14 [.aload_n 0, .iload_n 1] 16 = true := by decide +kernel
theorem D211_16 : decode T211.2.2.1 16 = .ok (.putfield 151, 3) := by decide +kernel
theorem B211_19_20 : s_dk T211.2.2.1 19 [.iload_n 1] 20 = true := by decide +kernel
theorem D211_20 : decode T211.2.2.1 20 = .ok (.ireturn, 1) := by decide +kernel
theorem B211_12_13 : s_dk T211.2.2.1 12 [.iconst (-1)] 13 = true := by decide +kernel
theorem D211_13 : decode T211.2.2.1 13 = .ok (.ireturn, 1) := by decide +kernel
noncomputable def T212 : mT := (11, yX11_isSmall, cX11_isSmall, 1, (some .boolean))
set_option maxRecDepth 10000 in
theorem TE212 : sy_m[212]? = some T212 := rfl
theorem B212_0_3 : s_dk T212.2.2.1 0 [.iload_n 0, .bipush 97] 3 = true := by decide +kernel
theorem D212_3 : decode T212.2.2.1 3 = .ok (.if_icmp .lt 13, 3) := by decide +kernel
theorem B212_16_17 : s_dk T212.2.2.1 16 [.iconst 0] 17 = true := by decide +kernel
theorem D212_17 : decode T212.2.2.1 17 = .ok (.ireturn, 1) := by decide +kernel
theorem B212_6_9 : s_dk T212.2.2.1 6 [.iload_n 0, .bipush 122] 9 = true := by decide +kernel
theorem D212_9 : decode T212.2.2.1 9 = .ok (.if_icmp .gt 7, 3) := by decide +kernel
theorem B212_12_13 : s_dk T212.2.2.1 12 [.iconst 1] 13 = true := by decide +kernel
theorem D212_13 : decode T212.2.2.1 13 = .ok (.goto 4, 3) := by decide +kernel
noncomputable def T213 : mT := (11, yX11_isDigit, cX11_isDigit, 1, (some .boolean))
set_option maxRecDepth 10000 in
theorem TE213 : sy_m[213]? = some T213 := rfl
theorem B213_0_3 : s_dk T213.2.2.1 0 [.iload_n 0, .bipush 48] 3 = true := by decide +kernel
theorem D213_3 : decode T213.2.2.1 3 = .ok (.if_icmp .lt 13, 3) := by decide +kernel
theorem B213_16_17 : s_dk T213.2.2.1 16 [.iconst 0] 17 = true := by decide +kernel
theorem D213_17 : decode T213.2.2.1 17 = .ok (.ireturn, 1) := by decide +kernel
theorem B213_6_9 : s_dk T213.2.2.1 6 [.iload_n 0, .bipush 57] 9 = true := by decide +kernel
theorem D213_9 : decode T213.2.2.1 9 = .ok (.if_icmp .gt 7, 3) := by decide +kernel
theorem B213_12_13 : s_dk T213.2.2.1 12 [.iconst 1] 13 = true := by decide +kernel
theorem D213_13 : decode T213.2.2.1 13 = .ok (.goto 4, 3) := by decide +kernel
noncomputable def T216 : mT := (11, yX11_fine, cX11_fine, 1, (some .boolean))
set_option maxRecDepth 10000 in
theorem TE216 : sy_m[216]? = some T216 := rfl
theorem B216_0_1 : s_dk T216.2.2.1 0 [.aload_n 0] 1 = true := by decide +kernel
theorem gf_11_318_77 : s_gf 11 318 77 = some (39, 1) := by decide +kernel
theorem D216_1 : decode T216.2.2.1 1 = .ok (.getfield 318, 3) := by decide +kernel
theorem B216_4_5 : s_dk T216.2.2.1 4 [.iconst (-1)] 5 = true := by decide +kernel
theorem D216_5 : decode T216.2.2.1 5 = .ok (.if_icmp .ne 7, 3) := by decide +kernel
theorem B216_12_13 : s_dk T216.2.2.1 12 [.iconst 0] 13 = true := by decide +kernel
theorem D216_13 : decode T216.2.2.1 13 = .ok (.ireturn, 1) := by decide +kernel
theorem B216_8_9 : s_dk T216.2.2.1 8 [.iconst 1] 9 = true := by decide +kernel
theorem D216_9 : decode T216.2.2.1 9 = .ok (.goto 4, 3) := by decide +kernel
noncomputable def T217 : mT := (11, yX11_faults, cX11_faults, 1, none)
set_option maxRecDepth 10000 in
theorem TE217 : sy_m[217]? = some T217 := rfl
theorem B217_0_1 : s_dk T217.2.2.1 0 [.aload_n 0] 1 = true := by decide +kernel
theorem D217_1 : decode T217.2.2.1 1 = .ok (.invokevirtual 321, 3) := by decide +kernel
theorem ck_11_virtual_321 : m_call 11 (.invokevirtual 321) = some (0, 216, 0) := by decide +kernel
theorem D217_4 : decode T217.2.2.1 4 = .ok (.ifCond .eq 16, 3) := by decide +kernel
theorem D217_20 : decode T217.2.2.1 20 = .ok (.return_, 1) := by decide +kernel
theorem B217_7_9 : s_dk T217.2.2.1 7 [.aload_n 0, .aload_n 0] 9 = true := by decide +kernel
theorem gf_11_84_77 : s_gf 11 84 77 = some (35, 102) := by decide +kernel
theorem D217_9 : decode T217.2.2.1 9 = .ok (.getfield 84, 3) := by decide +kernel
theorem B217_12_13 : s_dk T217.2.2.1 12 [.aload_n 0] 13 = true := by decide +kernel
theorem gf_11_325_77 : s_gf 11 325 77 = some (37, 1) := by decide +kernel
theorem D217_13 : decode T217.2.2.1 13 = .ok (.getfield 325, 3) := by decide +kernel
theorem D217_16 : decode T217.2.2.1 16 = .ok (.iaload, 1) := by decide +kernel
theorem pf_11_318_77 : s_pf 11 318 77 = some (39, 1) := by decide +kernel
theorem D217_17 : decode T217.2.2.1 17 = .ok (.putfield 318, 3) := by decide +kernel
noncomputable def T221 : mT := (11, yX11_sign, cX11_sign, 1, (some .int))
set_option maxRecDepth 10000 in
theorem TE221 : sy_m[221]? = some T221 := rfl
theorem B221_0_4 : s_dk T221.2.2.1 0 [.bipush 100, .iload_n 0, .iadd] 4 = true := by decide +kernel
theorem D221_4 : decode T221.2.2.1 4 = .ok (.ireturn, 1) := by decide +kernel
noncomputable def T231 : mT := (11, yX11_fault, cX11_fault, 1, (some .int))
set_option maxRecDepth 10000 in
theorem TE231 : sy_m[231]? = some T231 := rfl
theorem B231_0_1 : s_dk T231.2.2.1 0 [.aload_n 0] 1 = true := by decide +kernel
theorem gf_11_75_77 : s_gf 11 75 77 = some (32, 1) := by decide +kernel
theorem D231_1 : decode T231.2.2.1 1 = .ok (.getfield 75, 3) := by decide +kernel
theorem D231_4 : decode T231.2.2.1 4 = .ok (.ireturn, 1) := by decide +kernel
noncomputable def T266 : mT := (11, yX11_status, cX11_status, 1, (some .int))
set_option maxRecDepth 10000 in
theorem TE266 : sy_m[266]? = some T266 := rfl
theorem B266_0_1 : s_dk T266.2.2.1 0 [.aload_n 0] 1 = true := by decide +kernel
theorem gf_11_3_77 : s_gf 11 3 77 = some (0, 1) := by decide +kernel
theorem D266_1 : decode T266.2.2.1 1 = .ok (.getfield 3, 3) := by decide +kernel
theorem D266_4 : decode T266.2.2.1 4 = .ok (.ireturn, 1) := by decide +kernel
noncomputable def T265 : mT := (11, yX11_count, cX11_count, 2, (some .int))
set_option maxRecDepth 10000 in
theorem TE265 : sy_m[265]? = some T265 := rfl
theorem B265_0_1 : s_dk T265.2.2.1 0 [.iload_n 1] 1 = true := by decide +kernel
theorem D265_1 : decode T265.2.2.1 1 = .ok (.tableswitch 76 0 4 #[35, 44, 53, 62, 71], 35) := by decide +kernel
theorem B265_36_37 : s_dk T265.2.2.1 36 [.aload_n 0] 37 = true := by decide +kernel
theorem D265_37 : decode T265.2.2.1 37 = .ok (.getfield 13, 3) := by decide +kernel
theorem B265_40_43 : s_dk T265.2.2.1 40 [.sipush 469] 43 = true := by decide +kernel
theorem D265_43 : decode T265.2.2.1 43 = .ok (.iaload, 1) := by decide +kernel
theorem D265_44 : decode T265.2.2.1 44 = .ok (.ireturn, 1) := by decide +kernel
theorem B265_45_46 : s_dk T265.2.2.1 45 [.aload_n 0] 46 = true := by decide +kernel
theorem D265_46 : decode T265.2.2.1 46 = .ok (.getfield 13, 3) := by decide +kernel
theorem B265_49_52 : s_dk T265.2.2.1 49 [.sipush 470] 52 = true := by decide +kernel
theorem D265_52 : decode T265.2.2.1 52 = .ok (.iaload, 1) := by decide +kernel
theorem D265_53 : decode T265.2.2.1 53 = .ok (.ireturn, 1) := by decide +kernel
theorem B265_54_55 : s_dk T265.2.2.1 54 [.aload_n 0] 55 = true := by decide +kernel
theorem D265_55 : decode T265.2.2.1 55 = .ok (.getfield 13, 3) := by decide +kernel
theorem B265_58_61 : s_dk T265.2.2.1 58 [.sipush 471] 61 = true := by decide +kernel
theorem D265_61 : decode T265.2.2.1 61 = .ok (.iaload, 1) := by decide +kernel
theorem D265_62 : decode T265.2.2.1 62 = .ok (.ireturn, 1) := by decide +kernel
theorem B265_63_64 : s_dk T265.2.2.1 63 [.aload_n 0] 64 = true := by decide +kernel
theorem D265_64 : decode T265.2.2.1 64 = .ok (.getfield 13, 3) := by decide +kernel
theorem B265_67_70 : s_dk T265.2.2.1 67 [.sipush 472] 70 = true := by decide +kernel
theorem D265_70 : decode T265.2.2.1 70 = .ok (.iaload, 1) := by decide +kernel
theorem D265_71 : decode T265.2.2.1 71 = .ok (.ireturn, 1) := by decide +kernel
theorem B265_72_73 : s_dk T265.2.2.1 72 [.aload_n 0] 73 = true := by decide +kernel
theorem D265_73 : decode T265.2.2.1 73 = .ok (.getfield 151, 3) := by decide +kernel
theorem D265_76 : decode T265.2.2.1 76 = .ok (.ireturn, 1) := by decide +kernel
theorem B265_77_78 : s_dk T265.2.2.1 77 [.iconst (-1)] 78 = true := by decide +kernel
theorem D265_78 : decode T265.2.2.1 78 = .ok (.ireturn, 1) := by decide +kernel
noncomputable def T249 : mT := (11, yX11_move, cX11_move, 2, (some .int))
set_option maxRecDepth 10000 in
theorem TE249 : sy_m[249]? = some T249 := rfl
theorem B249_0_3 : s_dk T249.2.2.1 0 [.iload_n 1, .iconst 0, .aload_n 0] 3 = true := by decide +kernel
theorem gf_11_450_77 : s_gf 11 450 77 = some (48, 1) := by decide +kernel
theorem D249_3 : decode T249.2.2.1 3 = .ok (.getfield 450, 3) := by decide +kernel
theorem B249_6_8 : s_dk T249.2.2.1 6 [.iconst 1, .isub] 8 = true := by decide +kernel
theorem D249_8 : decode T249.2.2.1 8 = .ok (.invokestatic 123, 3) := by decide +kernel
theorem D249_11 : decode T249.2.2.1 11 = .ok (.ifCond .eq 12, 3) := by decide +kernel
theorem B249_23_24 : s_dk T249.2.2.1 23 [.iconst (-1)] 24 = true := by decide +kernel
theorem D249_24 : decode T249.2.2.1 24 = .ok (.ireturn, 1) := by decide +kernel
theorem B249_14_15 : s_dk T249.2.2.1 14 [.aload_n 0] 15 = true := by decide +kernel
theorem gf_11_93_77 : s_gf 11 93 77 = some (47, 105) := by decide +kernel
theorem D249_15 : decode T249.2.2.1 15 = .ok (.getfield 93, 3) := by decide +kernel
theorem B249_18_19 : s_dk T249.2.2.1 18 [.iload_n 1] 19 = true := by decide +kernel
theorem D249_19 : decode T249.2.2.1 19 = .ok (.iaload, 1) := by decide +kernel
theorem D249_20 : decode T249.2.2.1 20 = .ok (.goto 4, 3) := by decide +kernel
noncomputable def T251 : mT := (11, yX11_box, cX11_box, 5, (some .int))
set_option maxRecDepth 10000 in
theorem TE251 : sy_m[251]? = some T251 := rfl
theorem B251_0_4 : s_dk T251.2.2.1 0 [.iload_n 1, .iconst 0, .bipush 60] 4 = true := by decide +kernel
theorem D251_4 : decode T251.2.2.1 4 = .ok (.invokestatic 123, 3) := by decide +kernel
theorem D251_7 : decode T251.2.2.1 7 = .ok (.ifCond .eq 24, 3) := by decide +kernel
theorem B251_31_33 : s_dk T251.2.2.1 31 [.aload_n 0, .iconst (-1)] 33 = true := by decide +kernel
theorem D251_33 : decode T251.2.2.1 33 = .ok (.invokevirtual 127, 3) := by decide +kernel
theorem D251_36 : decode T251.2.2.1 36 = .ok (.ireturn, 1) := by decide +kernel
theorem B251_10_14 : s_dk T251.2.2.1 10 [.iload_n 2, .iconst 0, .bipush 100] 14 = true := by decide +kernel
theorem D251_14 : decode T251.2.2.1 14 = .ok (.invokestatic 123, 3) := by decide +kernel
theorem D251_17 : decode T251.2.2.1 17 = .ok (.ifCond .eq 14, 3) := by decide +kernel
theorem B251_20_25 : s_dk T251.2.2.1 20 [.iload_n 3, .iconst 0, .sipush 300] 25 = true := by decide +kernel
theorem D251_25 : decode T251.2.2.1 25 = .ok (.invokestatic 123, 3) := by decide +kernel
theorem D251_28 : decode T251.2.2.1 28 = .ok (.ifCond .ne 9, 3) := by decide +kernel
theorem B251_37_38 : s_dk T251.2.2.1 37 [.aload_n 0] 38 = true := by decide +kernel
theorem D251_38 : decode T251.2.2.1 38 = .ok (.getfield 13, 3) := by decide +kernel
theorem B251_41_44 : s_dk T251.2.2.1 41 [.sipush 472] 44 = true := by decide +kernel
theorem D251_44 : decode T251.2.2.1 44 = .ok (.iaload, 1) := by decide +kernel
theorem B251_45_51 : s_dk T251.2.2.1 45 [.istore 4, .iload 4, .bipush 6] 51 = true := by decide +kernel
theorem D251_51 : decode T251.2.2.1 51 = .ok (.if_icmp .ne 10, 3) := by decide +kernel
theorem B251_61_62 : s_dk T251.2.2.1 61 [.aload_n 0] 62 = true := by decide +kernel
theorem D251_62 : decode T251.2.2.1 62 = .ok (.getfield 13, 3) := by decide +kernel
theorem B251_65_74 : s_dk T251.2.2.1 65 [.sipush 391, .iconst 3, .iload 4, .imul, .iadd, .iload_n 1] 74 = true := by decide +kernel
theorem D251_74 : decode T251.2.2.1 74 = .ok (.iastore, 1) := by decide +kernel
theorem B251_75_76 : s_dk T251.2.2.1 75 [.aload_n 0] 76 = true := by decide +kernel
theorem D251_76 : decode T251.2.2.1 76 = .ok (.getfield 13, 3) := by decide +kernel
theorem B251_79_90 : s_dk T251.2.2.1 79 [.sipush 391, .iconst 3, .iload 4, .imul, .iadd, .iconst 1, .iadd, .iload_n 2] 90 = true := by decide +kernel
theorem D251_90 : decode T251.2.2.1 90 = .ok (.iastore, 1) := by decide +kernel
theorem B251_91_92 : s_dk T251.2.2.1 91 [.aload_n 0] 92 = true := by decide +kernel
theorem D251_92 : decode T251.2.2.1 92 = .ok (.getfield 13, 3) := by decide +kernel
theorem B251_95_106 : s_dk T251.2.2.1 95 [.sipush 391, .iconst 3, .iload 4, .imul, .iadd, .iconst 2, .iadd, .iload_n 3] 106 = true := by decide +kernel
theorem D251_106 : decode T251.2.2.1 106 = .ok (.iastore, 1) := by decide +kernel
theorem B251_107_108 : s_dk T251.2.2.1 107 [.aload_n 0] 108 = true := by decide +kernel
theorem D251_108 : decode T251.2.2.1 108 = .ok (.getfield 13, 3) := by decide +kernel
theorem B251_111_115 : s_dk T251.2.2.1 111 [.sipush 472, .dup2] 115 = true := by decide +kernel
theorem D251_115 : decode T251.2.2.1 115 = .ok (.iaload, 1) := by decide +kernel
theorem B251_116_118 : s_dk T251.2.2.1 116 [.iconst 1, .iadd] 118 = true := by decide +kernel
theorem D251_118 : decode T251.2.2.1 118 = .ok (.iastore, 1) := by decide +kernel
theorem B251_119_122 : s_dk T251.2.2.1 119 [.aload_n 0, .iload 4] 122 = true := by decide +kernel
theorem D251_122 : decode T251.2.2.1 122 = .ok (.invokevirtual 131, 3) := by decide +kernel
theorem D251_125 : decode T251.2.2.1 125 = .ok (.ireturn, 1) := by decide +kernel
theorem B251_54_57 : s_dk T251.2.2.1 54 [.aload_n 0, .bipush (-5)] 57 = true := by decide +kernel
theorem D251_57 : decode T251.2.2.1 57 = .ok (.invokevirtual 127, 3) := by decide +kernel
theorem D251_60 : decode T251.2.2.1 60 = .ok (.ireturn, 1) := by decide +kernel
noncomputable def T253 : mT := (11, yX11_isRow, cX11_isRow, 4, (some .boolean))
set_option maxRecDepth 10000 in
theorem TE253 : sy_m[253]? = some T253 := rfl
theorem B253_0_4 : s_dk T253.2.2.1 0 [.iconst 0, .istore_n 2, .iconst 0, .istore_n 3] 4 = true := by decide +kernel
theorem B253_4_6 : s_dk T253.2.2.1 4 [.iload_n 3, .iload_n 1] 6 = true := by decide +kernel
theorem D253_6 : decode T253.2.2.1 6 = .ok (.if_icmp .ge 20, 3) := by decide +kernel
theorem B253_26_29 : s_dk T253.2.2.1 26 [.iload_n 2, .iconst 1, .iload_n 1] 29 = true := by decide +kernel
theorem D253_29 : decode T253.2.2.1 29 = .ok (.ishl, 1) := by decide +kernel
theorem B253_30_32 : s_dk T253.2.2.1 30 [.iconst 1, .isub] 32 = true := by decide +kernel
theorem D253_32 : decode T253.2.2.1 32 = .ok (.if_icmp .ne 7, 3) := by decide +kernel
theorem B253_39_40 : s_dk T253.2.2.1 39 [.iconst 0] 40 = true := by decide +kernel
theorem D253_40 : decode T253.2.2.1 40 = .ok (.ireturn, 1) := by decide +kernel
theorem B253_35_36 : s_dk T253.2.2.1 35 [.iconst 1] 36 = true := by decide +kernel
theorem D253_36 : decode T253.2.2.1 36 = .ok (.goto 4, 3) := by decide +kernel
theorem B253_9_12 : s_dk T253.2.2.1 9 [.iload_n 2, .iconst 1, .aload_n 0] 12 = true := by decide +kernel
theorem gf_11_99_77 : s_gf 11 99 77 = some (50, 107) := by decide +kernel
theorem D253_12 : decode T253.2.2.1 12 = .ok (.getfield 99, 3) := by decide +kernel
theorem B253_15_16 : s_dk T253.2.2.1 15 [.iload_n 3] 16 = true := by decide +kernel
theorem D253_16 : decode T253.2.2.1 16 = .ok (.iaload, 1) := by decide +kernel
theorem D253_17 : decode T253.2.2.1 17 = .ok (.ishl, 1) := by decide +kernel
theorem D253_18 : decode T253.2.2.1 18 = .ok (.ior, 1) := by decide +kernel
theorem B253_19_23 : s_dk T253.2.2.1 19 [.istore_n 2, .iinc 3 1] 23 = true := by decide +kernel
theorem D253_23 : decode T253.2.2.1 23 = .ok (.goto (-19), 3) := by decide +kernel
theorem ci_11_317 : m_ci 11 317 = some (1000000) := by decide +kernel
noncomputable def T252 : mT := (11, yX11_keptBy, cX11_keptBy, 5, (some .int))
set_option maxRecDepth 10000 in
theorem TE252 : sy_m[252]? = some T252 := rfl
theorem D252_0 : decode T252.2.2.1 0 = .ok (.ldc_w 317, 3) := by decide +kernel
theorem B252_3_8 : s_dk T252.2.2.1 3 [.istore_n 1, .iconst 0, .istore_n 2, .iconst 0, .istore_n 3] 8 = true := by decide +kernel
theorem B252_8_10 : s_dk T252.2.2.1 8 [.iload_n 3, .aload_n 0] 10 = true := by decide +kernel
theorem D252_10 : decode T252.2.2.1 10 = .ok (.getfield 13, 3) := by decide +kernel
theorem B252_13_16 : s_dk T252.2.2.1 13 [.sipush 472] 16 = true := by decide +kernel
theorem D252_16 : decode T252.2.2.1 16 = .ok (.iaload, 1) := by decide +kernel
theorem D252_17 : decode T252.2.2.1 17 = .ok (.if_icmp .ge 65, 3) := by decide +kernel
theorem B252_82_83 : s_dk T252.2.2.1 82 [.iload_n 1] 83 = true := by decide +kernel
theorem D252_83 : decode T252.2.2.1 83 = .ok (.ireturn, 1) := by decide +kernel
theorem B252_20_25 : s_dk T252.2.2.1 20 [.sipush 391, .iconst 3, .aload_n 0] 25 = true := by decide +kernel
theorem D252_25 : decode T252.2.2.1 25 = .ok (.getfield 99, 3) := by decide +kernel
theorem B252_28_29 : s_dk T252.2.2.1 28 [.iload_n 3] 29 = true := by decide +kernel
theorem D252_29 : decode T252.2.2.1 29 = .ok (.iaload, 1) := by decide +kernel
theorem B252_30_36 : s_dk T252.2.2.1 30 [.imul, .iadd, .istore 4, .iload_n 1, .aload_n 0] 36 = true := by decide +kernel
theorem D252_36 : decode T252.2.2.1 36 = .ok (.getfield 13, 3) := by decide +kernel
theorem B252_39_43 : s_dk T252.2.2.1 39 [.iload 4, .iconst 1, .iadd] 43 = true := by decide +kernel
theorem D252_43 : decode T252.2.2.1 43 = .ok (.iaload, 1) := by decide +kernel
theorem B252_44_47 : s_dk T252.2.2.1 44 [.imul, .bipush 100] 47 = true := by decide +kernel
theorem D252_47 : decode T252.2.2.1 47 = .ok (.idiv, 1) := by decide +kernel
theorem B252_48_51 : s_dk T252.2.2.1 48 [.istore_n 1, .iload_n 2, .aload_n 0] 51 = true := by decide +kernel
theorem D252_51 : decode T252.2.2.1 51 = .ok (.getfield 13, 3) := by decide +kernel
theorem B252_54_58 : s_dk T252.2.2.1 54 [.iload 4, .iconst 2, .iadd] 58 = true := by decide +kernel
theorem D252_58 : decode T252.2.2.1 58 = .ok (.iaload, 1) := by decide +kernel
theorem D252_59 : decode T252.2.2.1 59 = .ok (.if_icmp .le 7, 3) := by decide +kernel
theorem B252_66_68 : s_dk T252.2.2.1 66 [.iload_n 2, .aload_n 0] 68 = true := by decide +kernel
theorem D252_68 : decode T252.2.2.1 68 = .ok (.getfield 13, 3) := by decide +kernel
theorem B252_71_73 : s_dk T252.2.2.1 71 [.iload 4] 73 = true := by decide +kernel
theorem D252_73 : decode T252.2.2.1 73 = .ok (.iaload, 1) := by decide +kernel
theorem B252_74_79 : s_dk T252.2.2.1 74 [.iadd, .istore_n 2, .iinc 3 1] 79 = true := by decide +kernel
theorem D252_79 : decode T252.2.2.1 79 = .ok (.goto (-71), 3) := by decide +kernel
theorem B252_62_64 : s_dk T252.2.2.1 62 [.iload_n 1, .iconst 2] 64 = true := by decide +kernel
theorem D252_64 : decode T252.2.2.1 64 = .ok (.idiv, 1) := by decide +kernel
theorem B252_65_68 : s_dk T252.2.2.1 65 [.istore_n 1, .iload_n 2, .aload_n 0] 68 = true := by decide +kernel
noncomputable def T255 : mT := (11, yX11_link, cX11_link, 2, (some .int))
set_option maxRecDepth 10000 in
theorem TE255 : sy_m[255]? = some T255 := rfl
theorem B255_0_3 : s_dk T255.2.2.1 0 [.iload_n 1, .iconst 0, .aload_n 0] 3 = true := by decide +kernel
theorem gf_11_459_77 : s_gf 11 459 77 = some (51, 1) := by decide +kernel
theorem D255_3 : decode T255.2.2.1 3 = .ok (.getfield 459, 3) := by decide +kernel
theorem B255_6_8 : s_dk T255.2.2.1 6 [.iconst 1, .isub] 8 = true := by decide +kernel
theorem D255_8 : decode T255.2.2.1 8 = .ok (.invokestatic 123, 3) := by decide +kernel
theorem D255_11 : decode T255.2.2.1 11 = .ok (.ifCond .eq 12, 3) := by decide +kernel
theorem B255_23_24 : s_dk T255.2.2.1 23 [.iconst (-1)] 24 = true := by decide +kernel
theorem D255_24 : decode T255.2.2.1 24 = .ok (.ireturn, 1) := by decide +kernel
theorem B255_14_15 : s_dk T255.2.2.1 14 [.aload_n 0] 15 = true := by decide +kernel
theorem gf_11_96_77 : s_gf 11 96 77 = some (49, 106) := by decide +kernel
theorem D255_15 : decode T255.2.2.1 15 = .ok (.getfield 96, 3) := by decide +kernel
theorem B255_18_19 : s_dk T255.2.2.1 18 [.iload_n 1] 19 = true := by decide +kernel
theorem D255_19 : decode T255.2.2.1 19 = .ok (.iaload, 1) := by decide +kernel
theorem D255_20 : decode T255.2.2.1 20 = .ok (.goto 4, 3) := by decide +kernel
noncomputable def T256 : mT := (11, yX11_tired, cX11_tired, 4, (some .int))
set_option maxRecDepth 10000 in
theorem TE256 : sy_m[256]? = some T256 := rfl
theorem B256_0_4 : s_dk T256.2.2.1 0 [.iload_n 1, .iconst 0, .bipush 59] 4 = true := by decide +kernel
theorem D256_4 : decode T256.2.2.1 4 = .ok (.invokestatic 123, 3) := by decide +kernel
theorem D256_7 : decode T256.2.2.1 7 = .ok (.ifCond .eq 14, 3) := by decide +kernel
theorem B256_21_23 : s_dk T256.2.2.1 21 [.aload_n 0, .iconst (-1)] 23 = true := by decide +kernel
theorem D256_23 : decode T256.2.2.1 23 = .ok (.invokevirtual 127, 3) := by decide +kernel
theorem D256_26 : decode T256.2.2.1 26 = .ok (.ireturn, 1) := by decide +kernel
theorem B256_10_15 : s_dk T256.2.2.1 10 [.iload_n 2, .iconst 0, .sipush 1000] 15 = true := by decide +kernel
theorem D256_15 : decode T256.2.2.1 15 = .ok (.invokestatic 123, 3) := by decide +kernel
theorem D256_18 : decode T256.2.2.1 18 = .ok (.ifCond .ne 9, 3) := by decide +kernel
theorem B256_27_28 : s_dk T256.2.2.1 27 [.aload_n 0] 28 = true := by decide +kernel
theorem D256_28 : decode T256.2.2.1 28 = .ok (.getfield 13, 3) := by decide +kernel
theorem B256_31_36 : s_dk T256.2.2.1 31 [.sipush 409, .iload_n 1, .iadd] 36 = true := by decide +kernel
theorem D256_36 : decode T256.2.2.1 36 = .ok (.iaload, 1) := by decide +kernel
theorem B256_37_39 : s_dk T256.2.2.1 37 [.istore_n 3, .aload_n 0] 39 = true := by decide +kernel
theorem D256_39 : decode T256.2.2.1 39 = .ok (.getfield 13, 3) := by decide +kernel
theorem B256_42_48 : s_dk T256.2.2.1 42 [.sipush 409, .iload_n 1, .iadd, .iload_n 2] 48 = true := by decide +kernel
theorem D256_48 : decode T256.2.2.1 48 = .ok (.iastore, 1) := by decide +kernel
theorem B256_49_51 : s_dk T256.2.2.1 49 [.aload_n 0, .iload_n 3] 51 = true := by decide +kernel
theorem D256_51 : decode T256.2.2.1 51 = .ok (.invokevirtual 131, 3) := by decide +kernel
theorem D256_54 : decode T256.2.2.1 54 = .ok (.ireturn, 1) := by decide +kernel
noncomputable def T258 : mT := (11, yX11_change, cX11_change, 2, (some .int))
set_option maxRecDepth 10000 in
theorem TE258 : sy_m[258]? = some T258 := rfl
theorem B258_0_1 : s_dk T258.2.2.1 0 [.aload_n 0] 1 = true := by decide +kernel
theorem gf_11_111_77 : s_gf 11 111 77 = some (55, 1) := by decide +kernel
theorem D258_1 : decode T258.2.2.1 1 = .ok (.getfield 111, 3) := by decide +kernel
theorem B258_4_5 : s_dk T258.2.2.1 4 [.iconst (-1)] 5 = true := by decide +kernel
theorem D258_5 : decode T258.2.2.1 5 = .ok (.if_icmp .eq 17, 3) := by decide +kernel
theorem B258_22_23 : s_dk T258.2.2.1 22 [.iconst (-1)] 23 = true := by decide +kernel
theorem D258_23 : decode T258.2.2.1 23 = .ok (.ireturn, 1) := by decide +kernel
theorem B258_8_11 : s_dk T258.2.2.1 8 [.iload_n 1, .iconst (-1), .aload_n 0] 11 = true := by decide +kernel
theorem D258_11 : decode T258.2.2.1 11 = .ok (.getfield 111, 3) := by decide +kernel
theorem B258_14_16 : s_dk T258.2.2.1 14 [.iconst 1, .isub] 16 = true := by decide +kernel
theorem D258_16 : decode T258.2.2.1 16 = .ok (.invokestatic 123, 3) := by decide +kernel
theorem D258_19 : decode T258.2.2.1 19 = .ok (.ifCond .ne 5, 3) := by decide +kernel
theorem B258_24_26 : s_dk T258.2.2.1 24 [.iload_n 1, .iconst (-1)] 26 = true := by decide +kernel
theorem D258_26 : decode T258.2.2.1 26 = .ok (.if_icmp .ne 10, 3) := by decide +kernel
theorem B258_36_37 : s_dk T258.2.2.1 36 [.aload_n 0] 37 = true := by decide +kernel
theorem gf_11_108_77 : s_gf 11 108 77 = some (54, 110) := by decide +kernel
theorem D258_37 : decode T258.2.2.1 37 = .ok (.getfield 108, 3) := by decide +kernel
theorem B258_40_41 : s_dk T258.2.2.1 40 [.iload_n 1] 41 = true := by decide +kernel
theorem D258_41 : decode T258.2.2.1 41 = .ok (.iaload, 1) := by decide +kernel
theorem D258_42 : decode T258.2.2.1 42 = .ok (.ireturn, 1) := by decide +kernel
theorem B258_29_30 : s_dk T258.2.2.1 29 [.aload_n 0] 30 = true := by decide +kernel
theorem D258_30 : decode T258.2.2.1 30 = .ok (.getfield 111, 3) := by decide +kernel
theorem D258_33 : decode T258.2.2.1 33 = .ok (.goto 9, 3) := by decide +kernel
noncomputable def T259 : mT := (11, yX11_saved, cX11_saved, 5, (some .int))
set_option maxRecDepth 10000 in
theorem TE259 : sy_m[259]? = some T259 := rfl
theorem B259_0_4 : s_dk T259.2.2.1 0 [.iconst 0, .istore_n 2, .iconst 0, .istore_n 3] 4 = true := by decide +kernel
theorem B259_4_6 : s_dk T259.2.2.1 4 [.iload_n 3, .aload_n 0] 6 = true := by decide +kernel
theorem D259_6 : decode T259.2.2.1 6 = .ok (.getfield 13, 3) := by decide +kernel
theorem B259_9_12 : s_dk T259.2.2.1 9 [.sipush 469] 12 = true := by decide +kernel
theorem D259_12 : decode T259.2.2.1 12 = .ok (.iaload, 1) := by decide +kernel
theorem D259_13 : decode T259.2.2.1 13 = .ok (.if_icmp .ge 51, 3) := by decide +kernel
theorem B259_64_66 : s_dk T259.2.2.1 64 [.iload_n 2, .aload_n 0] 66 = true := by decide +kernel
theorem D259_66 : decode T259.2.2.1 66 = .ok (.getfield 13, 3) := by decide +kernel
theorem B259_69_73 : s_dk T259.2.2.1 69 [.bipush 60, .iload_n 1, .iadd] 73 = true := by decide +kernel
theorem D259_73 : decode T259.2.2.1 73 = .ok (.iaload, 1) := by decide +kernel
theorem B259_74_75 : s_dk T259.2.2.1 74 [.imul] 75 = true := by decide +kernel
theorem D259_75 : decode T259.2.2.1 75 = .ok (.ireturn, 1) := by decide +kernel
theorem B259_16_19 : s_dk T259.2.2.1 16 [.iconst 0, .istore 4] 19 = true := by decide +kernel
theorem B259_19_23 : s_dk T259.2.2.1 19 [.iload 4, .aload_n 0, .iload_n 3] 23 = true := by decide +kernel
theorem D259_23 : decode T259.2.2.1 23 = .ok (.invokevirtual 144, 3) := by decide +kernel
theorem D259_26 : decode T259.2.2.1 26 = .ok (.if_icmp .ge 32, 3) := by decide +kernel
theorem B259_58_61 : s_dk T259.2.2.1 58 [.iinc 3 1] 61 = true := by decide +kernel
theorem D259_61 : decode T259.2.2.1 61 = .ok (.goto (-57), 3) := by decide +kernel
theorem B259_29_34 : s_dk T259.2.2.1 29 [.iload_n 2, .aload_n 0, .iload_n 3, .iload 4] 34 = true := by decide +kernel
theorem D259_34 : decode T259.2.2.1 34 = .ok (.invokevirtual 147, 3) := by decide +kernel
theorem B259_37_38 : s_dk T259.2.2.1 37 [.iload_n 1] 38 = true := by decide +kernel
theorem D259_38 : decode T259.2.2.1 38 = .ok (.if_icmp .ne 11, 3) := by decide +kernel
theorem B259_49_55 : s_dk T259.2.2.1 49 [.iconst 0, .iadd, .istore_n 2, .iinc 4 1] 55 = true := by decide +kernel
theorem D259_55 : decode T259.2.2.1 55 = .ok (.goto (-36), 3) := by decide +kernel
theorem B259_41_43 : s_dk T259.2.2.1 41 [.aload_n 0, .iload_n 3] 43 = true := by decide +kernel
theorem D259_43 : decode T259.2.2.1 43 = .ok (.invokevirtual 138, 3) := by decide +kernel
theorem D259_46 : decode T259.2.2.1 46 = .ok (.goto 4, 3) := by decide +kernel
theorem B259_50_55 : s_dk T259.2.2.1 50 [.iadd, .istore_n 2, .iinc 4 1] 55 = true := by decide +kernel
noncomputable def T260 : mT := (11, yX11_glossary, cX11_glossary, 8, (some .int))
set_option maxRecDepth 10000 in
theorem TE260 : sy_m[260]? = some T260 := rfl
theorem B260_0_5 : s_dk T260.2.2.1 0 [.iload_n 1, .iconst 0, .sipush 240] 5 = true := by decide +kernel
theorem D260_5 : decode T260.2.2.1 5 = .ok (.invokestatic 123, 3) := by decide +kernel
theorem D260_8 : decode T260.2.2.1 8 = .ok (.ifCond .eq 12, 3) := by decide +kernel
theorem B260_20_21 : s_dk T260.2.2.1 20 [.iconst (-1)] 21 = true := by decide +kernel
theorem D260_21 : decode T260.2.2.1 21 = .ok (.ireturn, 1) := by decide +kernel
theorem B260_11_14 : s_dk T260.2.2.1 11 [.iload_n 2, .iconst 0, .iconst 1] 14 = true := by decide +kernel
theorem D260_14 : decode T260.2.2.1 14 = .ok (.invokestatic 123, 3) := by decide +kernel
theorem D260_17 : decode T260.2.2.1 17 = .ok (.ifCond .ne 5, 3) := by decide +kernel
theorem B260_22_24 : s_dk T260.2.2.1 22 [.iconst 0, .istore_n 3] 24 = true := by decide +kernel
theorem B260_24_26 : s_dk T260.2.2.1 24 [.iload_n 3, .iload_n 1] 26 = true := by decide +kernel
theorem D260_26 : decode T260.2.2.1 26 = .ok (.if_icmp .gt 20, 3) := by decide +kernel
theorem B260_29_30 : s_dk T260.2.2.1 29 [.aload_n 0] 30 = true := by decide +kernel
theorem gf_11_114_77 : s_gf 11 114 77 = some (56, 111) := by decide +kernel
theorem D260_30 : decode T260.2.2.1 30 = .ok (.getfield 114, 3) := by decide +kernel
theorem B260_33_39 : s_dk T260.2.2.1 33 [.sipush 7230, .iload_n 3, .iadd, .iconst 0] 39 = true := by decide +kernel
theorem D260_39 : decode T260.2.2.1 39 = .ok (.iastore, 1) := by decide +kernel
theorem B260_40_43 : s_dk T260.2.2.1 40 [.iinc 3 1] 43 = true := by decide +kernel
theorem D260_43 : decode T260.2.2.1 43 = .ok (.goto (-19), 3) := by decide +kernel
theorem B260_46_49 : s_dk T260.2.2.1 46 [.bipush 29, .istore_n 3] 49 = true := by decide +kernel
theorem B260_49_50 : s_dk T260.2.2.1 49 [.iload_n 3] 50 = true := by decide +kernel
theorem D260_50 : decode T260.2.2.1 50 = .ok (.ifCond .lt 123, 3) := by decide +kernel
theorem B260_53_55 : s_dk T260.2.2.1 53 [.aload_n 0, .iload_n 3] 55 = true := by decide +kernel
theorem D260_55 : decode T260.2.2.1 55 = .ok (.invokevirtual 462, 3) := by decide +kernel
theorem ck_11_virtual_462 : m_call 11 (.invokevirtual 462) = some (0, 259, 1) := by decide +kernel
theorem B260_58_63 : s_dk T260.2.2.1 58 [.istore 4, .iconst 0, .istore 5] 63 = true := by decide +kernel
theorem B260_63_66 : s_dk T260.2.2.1 63 [.iload 5, .iload_n 1] 66 = true := by decide +kernel
theorem D260_66 : decode T260.2.2.1 66 = .ok (.if_icmp .gt 101, 3) := by decide +kernel
theorem B260_69_70 : s_dk T260.2.2.1 69 [.aload_n 0] 70 = true := by decide +kernel
theorem D260_70 : decode T260.2.2.1 70 = .ok (.getfield 114, 3) := by decide +kernel
theorem B260_73_83 : s_dk T260.2.2.1 73 [.sipush 241, .iload_n 3, .iconst 1, .iadd, .imul, .iload 5, .iadd] 83 = true := by decide +kernel
theorem D260_83 : decode T260.2.2.1 83 = .ok (.iaload, 1) := by decide +kernel
theorem B260_84_89 : s_dk T260.2.2.1 84 [.istore 6, .iload 5, .aload_n 0] 89 = true := by decide +kernel
theorem D260_89 : decode T260.2.2.1 89 = .ok (.getfield 13, 3) := by decide +kernel
theorem B260_92_96 : s_dk T260.2.2.1 92 [.bipush 30, .iload_n 3, .iadd] 96 = true := by decide +kernel
theorem D260_96 : decode T260.2.2.1 96 = .ok (.iaload, 1) := by decide +kernel
theorem D260_97 : decode T260.2.2.1 97 = .ok (.if_icmp .lt 34, 3) := by decide +kernel
theorem B260_131_135 : s_dk T260.2.2.1 131 [.iconst (-1), .istore 7, .aload_n 0] 135 = true := by decide +kernel
theorem D260_135 : decode T260.2.2.1 135 = .ok (.getfield 114, 3) := by decide +kernel
theorem B260_138_150 : s_dk T260.2.2.1 138 [.sipush 241, .iload_n 3, .imul, .iload 5, .iadd, .iload 7, .iload 6] 150 = true := by decide +kernel
theorem D260_150 : decode T260.2.2.1 150 = .ok (.if_icmp .le 8, 3) := by decide +kernel
theorem B260_158_160 : s_dk T260.2.2.1 158 [.iload 6] 160 = true := by decide +kernel
theorem D260_160 : decode T260.2.2.1 160 = .ok (.iastore, 1) := by decide +kernel
theorem B260_161_164 : s_dk T260.2.2.1 161 [.iinc 5 1] 164 = true := by decide +kernel
theorem D260_164 : decode T260.2.2.1 164 = .ok (.goto (-101), 3) := by decide +kernel
theorem B260_153_155 : s_dk T260.2.2.1 153 [.iload 7] 155 = true := by decide +kernel
theorem D260_155 : decode T260.2.2.1 155 = .ok (.goto 5, 3) := by decide +kernel
theorem B260_100_103 : s_dk T260.2.2.1 100 [.iload 4, .aload_n 0] 103 = true := by decide +kernel
theorem D260_103 : decode T260.2.2.1 103 = .ok (.getfield 114, 3) := by decide +kernel
theorem B260_106_117 : s_dk T260.2.2.1 106 [.sipush 241, .iload_n 3, .iconst 1, .iadd, .imul, .iload 5, .iadd, .aload_n 0] 117 = true := by decide +kernel
theorem D260_117 : decode T260.2.2.1 117 = .ok (.getfield 13, 3) := by decide +kernel
theorem B260_120_124 : s_dk T260.2.2.1 120 [.bipush 30, .iload_n 3, .iadd] 124 = true := by decide +kernel
theorem D260_124 : decode T260.2.2.1 124 = .ok (.iaload, 1) := by decide +kernel
theorem B260_125_126 : s_dk T260.2.2.1 125 [.isub] 126 = true := by decide +kernel
theorem D260_126 : decode T260.2.2.1 126 = .ok (.iaload, 1) := by decide +kernel
theorem B260_127_128 : s_dk T260.2.2.1 127 [.iadd] 128 = true := by decide +kernel
theorem D260_128 : decode T260.2.2.1 128 = .ok (.goto 4, 3) := by decide +kernel
theorem B260_132_135 : s_dk T260.2.2.1 132 [.istore 7, .aload_n 0] 135 = true := by decide +kernel
theorem B260_167_170 : s_dk T260.2.2.1 167 [.iinc 3 (-1)] 170 = true := by decide +kernel
theorem D260_170 : decode T260.2.2.1 170 = .ok (.goto (-121), 3) := by decide +kernel
theorem B260_173_181 : s_dk T260.2.2.1 173 [.iconst 0, .istore_n 3, .iload_n 1, .istore 4, .iconst 0, .istore 5] 181 = true := by decide +kernel
theorem B260_181_185 : s_dk T260.2.2.1 181 [.iload 5, .bipush 30] 185 = true := by decide +kernel
theorem D260_185 : decode T260.2.2.1 185 = .ok (.if_icmp .ge 100, 3) := by decide +kernel
theorem B260_188_191 : s_dk T260.2.2.1 188 [.iload 4, .aload_n 0] 191 = true := by decide +kernel
theorem D260_191 : decode T260.2.2.1 191 = .ok (.getfield 13, 3) := by decide +kernel
theorem B260_194_199 : s_dk T260.2.2.1 194 [.bipush 30, .iload 5, .iadd] 199 = true := by decide +kernel
theorem D260_199 : decode T260.2.2.1 199 = .ok (.iaload, 1) := by decide +kernel
theorem D260_200 : decode T260.2.2.1 200 = .ok (.if_icmp .lt 79, 3) := by decide +kernel
theorem B260_279_282 : s_dk T260.2.2.1 279 [.iinc 5 1] 282 = true := by decide +kernel
theorem D260_282 : decode T260.2.2.1 282 = .ok (.goto (-101), 3) := by decide +kernel
theorem B260_203_206 : s_dk T260.2.2.1 203 [.aload_n 0, .iload 5] 206 = true := by decide +kernel
theorem D260_206 : decode T260.2.2.1 206 = .ok (.invokevirtual 462, 3) := by decide +kernel
theorem B260_209_210 : s_dk T260.2.2.1 209 [.aload_n 0] 210 = true := by decide +kernel
theorem D260_210 : decode T260.2.2.1 210 = .ok (.getfield 114, 3) := by decide +kernel
theorem B260_213_225 : s_dk T260.2.2.1 213 [.sipush 241, .iload 5, .iconst 1, .iadd, .imul, .iload 4, .iadd, .aload_n 0] 225 = true := by decide +kernel
theorem D260_225 : decode T260.2.2.1 225 = .ok (.getfield 13, 3) := by decide +kernel
theorem B260_228_233 : s_dk T260.2.2.1 228 [.bipush 30, .iload 5, .iadd] 233 = true := by decide +kernel
theorem D260_233 : decode T260.2.2.1 233 = .ok (.iaload, 1) := by decide +kernel
theorem B260_234_235 : s_dk T260.2.2.1 234 [.isub] 235 = true := by decide +kernel
theorem D260_235 : decode T260.2.2.1 235 = .ok (.iaload, 1) := by decide +kernel
theorem B260_236_238 : s_dk T260.2.2.1 236 [.iadd, .aload_n 0] 238 = true := by decide +kernel
theorem D260_238 : decode T260.2.2.1 238 = .ok (.getfield 114, 3) := by decide +kernel
theorem B260_241_250 : s_dk T260.2.2.1 241 [.sipush 241, .iload 5, .imul, .iload 4, .iadd] 250 = true := by decide +kernel
theorem D260_250 : decode T260.2.2.1 250 = .ok (.iaload, 1) := by decide +kernel
theorem D260_251 : decode T260.2.2.1 251 = .ok (.if_icmp .ge 6, 3) := by decide +kernel
theorem B260_257_261 : s_dk T260.2.2.1 257 [.iload_n 3, .iconst 1, .iload 5] 261 = true := by decide +kernel
theorem D260_261 : decode T260.2.2.1 261 = .ok (.ishl, 1) := by decide +kernel
theorem D260_262 : decode T260.2.2.1 262 = .ok (.ior, 1) := by decide +kernel
theorem B260_263_267 : s_dk T260.2.2.1 263 [.istore_n 3, .iload 4, .aload_n 0] 267 = true := by decide +kernel
theorem D260_267 : decode T260.2.2.1 267 = .ok (.getfield 13, 3) := by decide +kernel
theorem B260_270_275 : s_dk T260.2.2.1 270 [.bipush 30, .iload 5, .iadd] 275 = true := by decide +kernel
theorem D260_275 : decode T260.2.2.1 275 = .ok (.iaload, 1) := by decide +kernel
theorem B260_276_282 : s_dk T260.2.2.1 276 [.isub, .istore 4, .iinc 5 1] 282 = true := by decide +kernel
theorem D260_254 : decode T260.2.2.1 254 = .ok (.goto 25, 3) := by decide +kernel
theorem B260_285_286 : s_dk T260.2.2.1 285 [.iload_n 2] 286 = true := by decide +kernel
theorem D260_286 : decode T260.2.2.1 286 = .ok (.ifCond .ne 12, 3) := by decide +kernel
theorem B260_298_299 : s_dk T260.2.2.1 298 [.iload_n 3] 299 = true := by decide +kernel
theorem D260_299 : decode T260.2.2.1 299 = .ok (.ireturn, 1) := by decide +kernel
theorem B260_289_290 : s_dk T260.2.2.1 289 [.aload_n 0] 290 = true := by decide +kernel
theorem D260_290 : decode T260.2.2.1 290 = .ok (.getfield 114, 3) := by decide +kernel
theorem B260_293_294 : s_dk T260.2.2.1 293 [.iload_n 1] 294 = true := by decide +kernel
theorem D260_294 : decode T260.2.2.1 294 = .ok (.iaload, 1) := by decide +kernel
theorem D260_295 : decode T260.2.2.1 295 = .ok (.goto 4, 3) := by decide +kernel
noncomputable def T263 : mT := (11, yX11_areAlike, cX11_areAlike, 5, (some .boolean))
set_option maxRecDepth 10000 in
theorem TE263 : sy_m[263]? = some T263 := rfl
theorem B263_0_1 : s_dk T263.2.2.1 0 [.aload_n 0] 1 = true := by decide +kernel
theorem gf_11_120_77 : s_gf 11 120 77 = some (58, 113) := by decide +kernel
theorem D263_1 : decode T263.2.2.1 1 = .ok (.getfield 120, 3) := by decide +kernel
theorem B263_4_5 : s_dk T263.2.2.1 4 [.iload_n 1] 5 = true := by decide +kernel
theorem D263_5 : decode T263.2.2.1 5 = .ok (.iaload, 1) := by decide +kernel
theorem B263_6_7 : s_dk T263.2.2.1 6 [.aload_n 0] 7 = true := by decide +kernel
theorem D263_7 : decode T263.2.2.1 7 = .ok (.getfield 120, 3) := by decide +kernel
theorem B263_10_11 : s_dk T263.2.2.1 10 [.iload_n 2] 11 = true := by decide +kernel
theorem D263_11 : decode T263.2.2.1 11 = .ok (.iaload, 1) := by decide +kernel
theorem D263_12 : decode T263.2.2.1 12 = .ok (.if_icmp .ne 7, 3) := by decide +kernel
theorem B263_19_24 : s_dk T263.2.2.1 19 [.iconst 0, .istore_n 3, .iconst 0, .istore 4] 24 = true := by decide +kernel
theorem B263_15_16 : s_dk T263.2.2.1 15 [.iconst 1] 16 = true := by decide +kernel
theorem D263_16 : decode T263.2.2.1 16 = .ok (.goto 4, 3) := by decide +kernel
theorem B263_20_24 : s_dk T263.2.2.1 20 [.istore_n 3, .iconst 0, .istore 4] 24 = true := by decide +kernel
theorem B263_24_27 : s_dk T263.2.2.1 24 [.iload 4, .aload_n 0] 27 = true := by decide +kernel
theorem D263_27 : decode T263.2.2.1 27 = .ok (.getfield 120, 3) := by decide +kernel
theorem B263_30_31 : s_dk T263.2.2.1 30 [.iload_n 1] 31 = true := by decide +kernel
theorem D263_31 : decode T263.2.2.1 31 = .ok (.iaload, 1) := by decide +kernel
theorem D263_32 : decode T263.2.2.1 32 = .ok (.if_icmp .ge 46, 3) := by decide +kernel
theorem B263_78_79 : s_dk T263.2.2.1 78 [.iload_n 3] 79 = true := by decide +kernel
theorem D263_79 : decode T263.2.2.1 79 = .ok (.ireturn, 1) := by decide +kernel
theorem B263_35_36 : s_dk T263.2.2.1 35 [.iload_n 3] 36 = true := by decide +kernel
theorem D263_36 : decode T263.2.2.1 36 = .ok (.ifCond .eq 42, 3) := by decide +kernel
theorem B263_39_40 : s_dk T263.2.2.1 39 [.aload_n 0] 40 = true := by decide +kernel
theorem gf_11_117_77 : s_gf 11 117 77 = some (57, 112) := by decide +kernel
theorem D263_40 : decode T263.2.2.1 40 = .ok (.getfield 117, 3) := by decide +kernel
theorem B263_43_50 : s_dk T263.2.2.1 43 [.bipush 24, .iload_n 1, .imul, .iload 4, .iadd] 50 = true := by decide +kernel
theorem D263_50 : decode T263.2.2.1 50 = .ok (.iaload, 1) := by decide +kernel
theorem B263_51_52 : s_dk T263.2.2.1 51 [.aload_n 0] 52 = true := by decide +kernel
theorem D263_52 : decode T263.2.2.1 52 = .ok (.getfield 117, 3) := by decide +kernel
theorem B263_55_62 : s_dk T263.2.2.1 55 [.bipush 24, .iload_n 2, .imul, .iload 4, .iadd] 62 = true := by decide +kernel
theorem D263_62 : decode T263.2.2.1 62 = .ok (.iaload, 1) := by decide +kernel
theorem D263_63 : decode T263.2.2.1 63 = .ok (.if_icmp .ne 7, 3) := by decide +kernel
theorem B263_70_75 : s_dk T263.2.2.1 70 [.iconst 0, .istore_n 3, .iinc 4 1] 75 = true := by decide +kernel
theorem D263_75 : decode T263.2.2.1 75 = .ok (.goto (-51), 3) := by decide +kernel
theorem B263_66_67 : s_dk T263.2.2.1 66 [.iconst 1] 67 = true := by decide +kernel
theorem D263_67 : decode T263.2.2.1 67 = .ok (.goto 4, 3) := by decide +kernel
theorem B263_71_75 : s_dk T263.2.2.1 71 [.istore_n 3, .iinc 4 1] 75 = true := by decide +kernel
noncomputable def T151 : mT := (11, yX11_image, cX11_image, 3, (some .int))
set_option maxRecDepth 10000 in
theorem TE151 : sy_m[151]? = some T151 := rfl
theorem B151_0_3 : s_dk T151.2.2.1 0 [.iload_n 1, .iconst 0, .iconst 1] 3 = true := by decide +kernel
theorem D151_3 : decode T151.2.2.1 3 = .ok (.invokestatic 123, 3) := by decide +kernel
theorem D151_6 : decode T151.2.2.1 6 = .ok (.ifCond .ne 9, 3) := by decide +kernel
theorem B151_15_17 : s_dk T151.2.2.1 15 [.iconst 0, .istore_n 2] 17 = true := by decide +kernel
theorem B151_9_11 : s_dk T151.2.2.1 9 [.aload_n 0, .iconst (-1)] 11 = true := by decide +kernel
theorem D151_11 : decode T151.2.2.1 11 = .ok (.invokevirtual 127, 3) := by decide +kernel
theorem D151_14 : decode T151.2.2.1 14 = .ok (.ireturn, 1) := by decide +kernel
theorem B151_17_21 : s_dk T151.2.2.1 17 [.iload_n 2, .sipush 6883] 21 = true := by decide +kernel
theorem D151_21 : decode T151.2.2.1 21 = .ok (.if_icmp .ge 27, 3) := by decide +kernel
theorem B151_24_25 : s_dk T151.2.2.1 24 [.aload_n 0] 25 = true := by decide +kernel
theorem gf_11_17_77 : s_gf 11 17 77 = some (2, 82) := by decide +kernel
theorem D151_25 : decode T151.2.2.1 25 = .ok (.getfield 17, 3) := by decide +kernel
theorem B151_28_36 : s_dk T151.2.2.1 28 [.sipush 6883, .iload_n 1, .imul, .iload_n 2, .iadd, .aload_n 0] 36 = true := by decide +kernel
theorem D151_36 : decode T151.2.2.1 36 = .ok (.getfield 13, 3) := by decide +kernel
theorem B151_39_40 : s_dk T151.2.2.1 39 [.iload_n 2] 40 = true := by decide +kernel
theorem D151_40 : decode T151.2.2.1 40 = .ok (.iaload, 1) := by decide +kernel
theorem D151_41 : decode T151.2.2.1 41 = .ok (.iastore, 1) := by decide +kernel
theorem B151_42_45 : s_dk T151.2.2.1 42 [.iinc 2 1] 45 = true := by decide +kernel
theorem D151_45 : decode T151.2.2.1 45 = .ok (.goto (-28), 3) := by decide +kernel
theorem B151_48_49 : s_dk T151.2.2.1 48 [.aload_n 0] 49 = true := by decide +kernel
theorem gf_11_20_77 : s_gf 11 20 77 = some (3, 83) := by decide +kernel
theorem D151_49 : decode T151.2.2.1 49 = .ok (.getfield 20, 3) := by decide +kernel
theorem B151_52_54 : s_dk T151.2.2.1 52 [.iload_n 1, .iconst 1] 54 = true := by decide +kernel
theorem D151_54 : decode T151.2.2.1 54 = .ok (.bastore, 1) := by decide +kernel
theorem B151_55_57 : s_dk T151.2.2.1 55 [.aload_n 0, .iconst 0] 57 = true := by decide +kernel
theorem D151_57 : decode T151.2.2.1 57 = .ok (.invokevirtual 131, 3) := by decide +kernel
theorem D151_60 : decode T151.2.2.1 60 = .ok (.ireturn, 1) := by decide +kernel
noncomputable def T152 : mT := (11, yX11_back, cX11_back, 3, (some .int))
set_option maxRecDepth 10000 in
theorem TE152 : sy_m[152]? = some T152 := rfl
theorem B152_0_3 : s_dk T152.2.2.1 0 [.iload_n 1, .iconst 0, .iconst 1] 3 = true := by decide +kernel
theorem D152_3 : decode T152.2.2.1 3 = .ok (.invokestatic 123, 3) := by decide +kernel
theorem D152_6 : decode T152.2.2.1 6 = .ok (.ifCond .ne 9, 3) := by decide +kernel
theorem B152_15_16 : s_dk T152.2.2.1 15 [.aload_n 0] 16 = true := by decide +kernel
theorem D152_16 : decode T152.2.2.1 16 = .ok (.getfield 20, 3) := by decide +kernel
theorem B152_19_20 : s_dk T152.2.2.1 19 [.iload_n 1] 20 = true := by decide +kernel
theorem D152_20 : decode T152.2.2.1 20 = .ok (.baload, 1) := by decide +kernel
theorem D152_21 : decode T152.2.2.1 21 = .ok (.ifCond .ne 10, 3) := by decide +kernel
theorem B152_31_33 : s_dk T152.2.2.1 31 [.iconst 0, .istore_n 2] 33 = true := by decide +kernel
theorem B152_24_27 : s_dk T152.2.2.1 24 [.aload_n 0, .bipush (-2)] 27 = true := by decide +kernel
theorem D152_27 : decode T152.2.2.1 27 = .ok (.invokevirtual 127, 3) := by decide +kernel
theorem D152_30 : decode T152.2.2.1 30 = .ok (.ireturn, 1) := by decide +kernel
theorem B152_9_11 : s_dk T152.2.2.1 9 [.aload_n 0, .iconst (-1)] 11 = true := by decide +kernel
theorem D152_11 : decode T152.2.2.1 11 = .ok (.invokevirtual 127, 3) := by decide +kernel
theorem D152_14 : decode T152.2.2.1 14 = .ok (.ireturn, 1) := by decide +kernel
theorem B152_33_37 : s_dk T152.2.2.1 33 [.iload_n 2, .sipush 6883] 37 = true := by decide +kernel
theorem D152_37 : decode T152.2.2.1 37 = .ok (.if_icmp .ge 27, 3) := by decide +kernel
theorem B152_40_41 : s_dk T152.2.2.1 40 [.aload_n 0] 41 = true := by decide +kernel
theorem D152_41 : decode T152.2.2.1 41 = .ok (.getfield 13, 3) := by decide +kernel
theorem B152_44_46 : s_dk T152.2.2.1 44 [.iload_n 2, .aload_n 0] 46 = true := by decide +kernel
theorem D152_46 : decode T152.2.2.1 46 = .ok (.getfield 17, 3) := by decide +kernel
theorem B152_49_56 : s_dk T152.2.2.1 49 [.sipush 6883, .iload_n 1, .imul, .iload_n 2, .iadd] 56 = true := by decide +kernel
theorem D152_56 : decode T152.2.2.1 56 = .ok (.iaload, 1) := by decide +kernel
theorem D152_57 : decode T152.2.2.1 57 = .ok (.iastore, 1) := by decide +kernel
theorem B152_58_61 : s_dk T152.2.2.1 58 [.iinc 2 1] 61 = true := by decide +kernel
theorem D152_61 : decode T152.2.2.1 61 = .ok (.goto (-28), 3) := by decide +kernel
theorem B152_64_66 : s_dk T152.2.2.1 64 [.aload_n 0, .iconst 0] 66 = true := by decide +kernel
theorem D152_66 : decode T152.2.2.1 66 = .ok (.invokevirtual 131, 3) := by decide +kernel
theorem D152_69 : decode T152.2.2.1 69 = .ok (.ireturn, 1) := by decide +kernel
noncomputable def T232 : mT := (11, yX11_codeAt, cX11_codeAt, 2, (some .int))
set_option maxRecDepth 10000 in
theorem TE232 : sy_m[232]? = some T232 := rfl
theorem B232_0_2 : s_dk T232.2.2.1 0 [.iload_n 1, .aload_n 0] 2 = true := by decide +kernel
theorem gf_11_375_77 : s_gf 11 375 77 = some (41, 1) := by decide +kernel
theorem D232_2 : decode T232.2.2.1 2 = .ok (.getfield 375, 3) := by decide +kernel
theorem D232_5 : decode T232.2.2.1 5 = .ok (.if_icmp .ge 16, 3) := by decide +kernel
theorem B232_21_22 : s_dk T232.2.2.1 21 [.iconst 0] 22 = true := by decide +kernel
theorem D232_22 : decode T232.2.2.1 22 = .ok (.ireturn, 1) := by decide +kernel
theorem B232_8_9 : s_dk T232.2.2.1 8 [.aload_n 0] 9 = true := by decide +kernel
theorem D232_9 : decode T232.2.2.1 9 = .ok (.getfield 13, 3) := by decide +kernel
theorem B232_12_17 : s_dk T232.2.2.1 12 [.sipush 483, .iload_n 1, .iadd] 17 = true := by decide +kernel
theorem D232_17 : decode T232.2.2.1 17 = .ok (.iaload, 1) := by decide +kernel
theorem D232_18 : decode T232.2.2.1 18 = .ok (.goto 4, 3) := by decide +kernel
noncomputable def T234 : mT := (11, yX11_bounded, cX11_bounded, 4, (some .long))
set_option maxRecDepth 10000 in
theorem TE234 : sy_m[234]? = some T234 := rfl
theorem B234_0_1 : s_dk T234.2.2.1 0 [.iload_n 3] 1 = true := by decide +kernel
theorem D234_1 : decode T234.2.2.1 1 = .ok (.ifCond .eq 24, 3) := by decide +kernel
theorem B234_25_26 : s_dk T234.2.2.1 25 [.aload_n 0] 26 = true := by decide +kernel
theorem gf_11_388_77 : s_gf 11 388 77 = some (42, 1) := by decide +kernel
theorem D234_26 : decode T234.2.2.1 26 = .ok (.getfield 388, 3) := by decide +kernel
theorem D234_29 : decode T234.2.2.1 29 = .ok (.ifCond .eq 7, 3) := by decide +kernel
theorem B234_36_37 : s_dk T234.2.2.1 36 [.lload_n 1] 37 = true := by decide +kernel
theorem D234_37 : decode T234.2.2.1 37 = .ok (.lreturn, 1) := by decide +kernel
theorem B234_32_33 : s_dk T234.2.2.1 32 [.lconst 0] 33 = true := by decide +kernel
theorem D234_33 : decode T234.2.2.1 33 = .ok (.goto 4, 3) := by decide +kernel
theorem B234_4_5 : s_dk T234.2.2.1 4 [.lload_n 1] 5 = true := by decide +kernel
theorem cl_11_384 : m_cl 11 384 = some (1000000000) := by decide +kernel
theorem D234_5 : decode T234.2.2.1 5 = .ok (.ldc2_w 384, 3) := by decide +kernel
theorem D234_8 : decode T234.2.2.1 8 = .ok (.lcmp, 1) := by decide +kernel
theorem D234_9 : decode T234.2.2.1 9 = .ok (.ifCond .gt 11, 3) := by decide +kernel
theorem B234_20_22 : s_dk T234.2.2.1 20 [.aload_n 0, .iconst 1] 22 = true := by decide +kernel
theorem pf_11_388_77 : s_pf 11 388 77 = some (42, 2) := by decide +kernel
theorem D234_22 : decode T234.2.2.1 22 = .ok (.putfield 388, 3) := by decide +kernel
theorem B234_12_13 : s_dk T234.2.2.1 12 [.lload_n 1] 13 = true := by decide +kernel
theorem cl_11_386 : m_cl 11 386 = some (-1000000000) := by decide +kernel
theorem D234_13 : decode T234.2.2.1 13 = .ok (.ldc2_w 386, 3) := by decide +kernel
theorem D234_16 : decode T234.2.2.1 16 = .ok (.lcmp, 1) := by decide +kernel
theorem D234_17 : decode T234.2.2.1 17 = .ok (.ifCond .ge 8, 3) := by decide +kernel
noncomputable def T242 : mT := (11, yX11_likeliest, cX11_likeliest, 5, (some .int))
set_option maxRecDepth 10000 in
theorem TE242 : sy_m[242]? = some T242 := rfl
theorem B242_0_6 : s_dk T242.2.2.1 0 [.iconst (-1), .istore_n 1, .iconst 0, .istore_n 2, .iconst 0, .istore_n 3] 6 = true := by decide +kernel
theorem B242_6_9 : s_dk T242.2.2.1 6 [.iload_n 3, .bipush 8] 9 = true := by decide +kernel
theorem D242_9 : decode T242.2.2.1 9 = .ok (.if_icmp .ge 38, 3) := by decide +kernel
theorem B242_12_14 : s_dk T242.2.2.1 12 [.aload_n 0, .aload_n 0] 14 = true := by decide +kernel
theorem D242_14 : decode T242.2.2.1 14 = .ok (.getfield 194, 3) := by decide +kernel
theorem B242_17_18 : s_dk T242.2.2.1 17 [.aload_n 0] 18 = true := by decide +kernel
theorem gf_11_212_77 : s_gf 11 212 77 = some (13, 1) := by decide +kernel
theorem D242_18 : decode T242.2.2.1 18 = .ok (.getfield 212, 3) := by decide +kernel
theorem B242_21_22 : s_dk T242.2.2.1 21 [.iload_n 3] 22 = true := by decide +kernel
theorem D242_22 : decode T242.2.2.1 22 = .ok (.invokevirtual 177, 3) := by decide +kernel
theorem ck_11_virtual_177 : m_call 11 (.invokevirtual 177) = some (0, 174, 3) := by decide +kernel
theorem B242_25_30 : s_dk T242.2.2.1 25 [.istore 4, .iload 4, .iload_n 2] 30 = true := by decide +kernel
theorem D242_30 : decode T242.2.2.1 30 = .ok (.if_icmp .gt 6, 3) := by decide +kernel
theorem B242_36_44 : s_dk T242.2.2.1 36 [.iload 4, .istore_n 2, .iload_n 3, .istore_n 1, .iinc 3 1] 44 = true := by decide +kernel
theorem D242_44 : decode T242.2.2.1 44 = .ok (.goto (-38), 3) := by decide +kernel
theorem D242_33 : decode T242.2.2.1 33 = .ok (.goto 8, 3) := by decide +kernel
theorem B242_41_44 : s_dk T242.2.2.1 41 [.iinc 3 1] 44 = true := by decide +kernel
theorem B242_47_48 : s_dk T242.2.2.1 47 [.iload_n 1] 48 = true := by decide +kernel
theorem D242_48 : decode T242.2.2.1 48 = .ok (.ireturn, 1) := by decide +kernel
set_option maxRecDepth 4000 in
theorem L_k178 {base : Nat} {X : Nat → Option mC} {G : Nat → Value} (E : EnvOK base X G) {d : Nat} (hd : 0 ≤ d) {M : mH} (H : HI base M) (a : Int) (b : Int) (h0 : 0 ≤ a ∧ a ≤ 2147483647) (h1 : 0 ≤ b ∧ b ≤ 2147483647) (h2 : 1 ≤ a + b) : ∀ mz : Nat, (∀ (x2 x3 : Int), (0 ≤ x2 ∧ x2 ≤ 2147483647) → (0 ≤ x3 ∧ x3 ≤ 2147483647) → (1 ≤ x2 + x3) → (0 ≤ x2) → (x2 ≤ 2147483647) → (0 ≤ x3) → (x3 ≤ 2147483647) → x3 * 1 + 0 < (mz : Int) → sRn base X G d T178 4 [(2, vI x2), (3, vI x3)] [] M (s_Q base (pI (fun v M' => M' = M ∧ (1 ≤ v ∧ v ≤ 2147483647))))) := by
  intro mz
  induction mz with
  | zero => exact fun x2 x3 z0 z1 z2 z3 z4 z5 z6 z7 => by omega
  | succ mz ih =>
    intro x2 x3 i0 i1 i2 i3 i4 i5 i6 hmu
    refine s_blx (lv' := [(2, vI x2), (3, vI x3)]) (st' := [vI x3]) B178_4_5 rfl ?_
    refine r_ifc (tgt := 21) (pc' := 8) D178_5 rfl rfl (by unfold inR; omega) (fun (c1 : x3 = 0) => ?_) (fun (c1 : ¬ (x3 = 0)) => ?_)
    · refine s_blx (lv' := [(2, vI x2), (3, vI x3)]) (st' := [vI x2]) B178_21_22 rfl ?_
      exact r_iretI D178_22 rfl (⟨rfl, by omega⟩)
    · refine s_blx (lv' := [(2, vI x2), (3, vI x3)]) (st' := [vI x3, vI x2]) B178_8_10 rfl ?_
      refine r_irem (pc' := 11) D178_10 rfl (by omega) ?_
      have r4 := Int.emod_nonneg x2 (show x3 ≠ 0 by omega)
      have r5 := Int.emod_lt_of_pos x2 (show 0 < x3 by omega)
      generalize x2 % x3 = z2 at *
      refine s_blx (lv' := [(3, vI z2), (2, vI x3), (4, vI z2)]) (st' := []) B178_11_18 rfl ?_
      refine r_goto (tgt := 4) D178_18 rfl ?_
      refine r_loc (lv' := [(2, vI x3), (3, vI z2)]) ⟨rfl, rfl, trivial⟩ rfl rfl ?_
      exact ih x3 z2 (by omega) (by omega) (by omega) (by omega) (by omega) (by omega) (by omega) (by omega)
set_option maxRecDepth 4000 in
theorem k178 {base : Nat} {X : Nat → Option mC} {G : Nat → Value} (E : EnvOK base X G) {d : Nat} (hd : 0 ≤ d) {M : mH} (H : HI base M) (a : Int) (b : Int) (h0 : 0 ≤ a ∧ a ≤ 2147483647) (h1 : 0 ≤ b ∧ b ≤ 2147483647) (h2 : 1 ≤ a + b) : sOk base X G d T178 [vI a, vI b] M (pI (fun v M' => M' = M ∧ (1 ≤ v ∧ v ≤ 2147483647))) := by
  refine sOk.of (show sRn base X G d T178 0 [(0, vI a), (1, vI b)] [] M _ from ?_)
  refine s_blx (lv' := [(3, vI b), (2, vI a), (0, vI a), (1, vI b)]) (st' := []) B178_0_4 rfl ?_
  refine r_loc (lv' := [(2, vI a), (3, vI b)]) ⟨rfl, rfl, trivial⟩ rfl rfl ?_
  exact (L_k178 E hd H a b h0 h1 h2 ((b * 1 + 0 : Int) + 1).toNat) a b (by omega) (by omega) (by omega) (by omega) (by omega) (by omega) (by omega) (by omega)
set_option maxRecDepth 4000 in
theorem k182 {base : Nat} {X : Nat → Option mC} {G : Nat → Value} (E : EnvOK base X G) {d : Nat} (hd : 0 ≤ d) {M : mH} (H : HI base M) (i : Int) (h0 : 0 ≤ i ∧ i ≤ 2) : sOk base X G d T182 [vR 77, vI i] M (pI (fun v M' => M' = M ∧ (0 ≤ v ∧ v ≤ 2))) := by
  refine sOk.of (show sRn base X G d T182 0 [(0, vR 77), (1, vI i)] [] M _ from ?_)
  refine s_blx (lv' := [(0, vR 77), (1, vI i)]) (st' := [vR 77]) B182_0_1 rfl ?_
  refine r_gfix (r := 78) (pc' := 4) D182_1 rfl gf_11_13_77 H.1 ?_
  refine s_blx (lv' := [(0, vR 77), (1, vI i)]) (st' := [vI 473, vR 78]) B182_4_7 rfl ?_
  refine r_iald (pc' := 8) D182_7 rfl sc_78 H.1 (by omega) ?_
  intro w1 e2 r3
  have b_w1 := H.2 78 (473) 0 5 (rk_order (by omega))
  rw [← e2] at b_w1; clear r3
  refine s_blx (lv' := [(0, vR 77), (1, vI i)]) (st' := [vI 2, vI w1]) B182_8_9 rfl ?_
  refine r_idiv (pc' := 10) D182_9 rfl (by omega) ?_
  refine s_blx (lv' := [(2, vI (w1 / 2)), (0, vR 77), (1, vI i)]) (st' := [vI (w1 / 2)]) B182_10_12 rfl ?_
  refine r_ifc (tgt := 19) (pc' := 15) D182_12 rfl rfl (by unfold inR; omega) (fun (c4 : (w1 / 2) ≠ 0) => ?_) (fun (c4 : ¬ ((w1 / 2) ≠ 0)) => ?_)
  · refine s_blx (lv' := [(3, vI 0), (2, vI (w1 / 2)), (0, vR 77), (1, vI i)]) (st' := [vI 2, vI (w1 / 2)]) B182_19_23 rfl ?_
    refine r_icmp (tgt := 30) (pc' := 26) D182_23 rfl rfl (by unfold inR; omega) (fun (c5 : (w1 / 2) ≠ 2) => ?_) (fun (c5 : ¬ ((w1 / 2) ≠ 2)) => ?_)
    · refine s_blx (lv' := [(4, vI 2), (3, vI 0), (2, vI (w1 / 2)), (0, vR 77), (1, vI i)]) (st' := [vR 77]) B182_30_34 rfl ?_
      refine r_gfix (r := 78) (pc' := 37) D182_34 rfl gf_11_13_77 H.1 ?_
      refine s_blx (lv' := [(4, vI 2), (3, vI 0), (2, vI (w1 / 2)), (0, vR 77), (1, vI i)]) (st' := [vI 473, vR 78]) B182_37_40 rfl ?_
      refine r_iald (pc' := 41) D182_40 rfl sc_78 H.1 (by omega) ?_
      intro w6 e7 r8
      have e9 : w1 = w6 := (e7.trans (e2.symm)).symm
      subst e9
      refine s_blx (lv' := [(4, vI 2), (3, vI 0), (2, vI (w1 / 2)), (0, vR 77), (1, vI i)]) (st' := [vI 2, vI w1]) B182_41_42 rfl ?_
      refine r_irem (pc' := 43) D182_42 rfl (by omega) ?_
      refine r_ifc (tgt := 50) (pc' := 46) D182_43 rfl rfl (by unfold inR; omega) (fun (c10 : (w1 % 2) ≠ 0) => ?_) (fun (c10 : ¬ ((w1 % 2) ≠ 0)) => ?_)
      · refine s_blx (lv' := [(5, vI 0), (4, vI 2), (3, vI 0), (2, vI (w1 / 2)), (0, vR 77), (1, vI i)]) (st' := [vI i]) B182_50_54 rfl ?_
        refine r_ifc (tgt := 61) (pc' := 57) D182_54 rfl rfl (by unfold inR; omega) (fun (c11 : i ≠ 0) => ?_) (fun (c11 : ¬ (i ≠ 0)) => ?_)
        · refine s_blx (lv' := [(5, vI 0), (4, vI 2), (3, vI 0), (2, vI (w1 / 2)), (0, vR 77), (1, vI i)]) (st' := [vI 1, vI i]) B182_61_63 rfl ?_
          refine r_icmp (tgt := 70) (pc' := 66) D182_63 rfl rfl (by unfold inR; omega) (fun (c12 : i ≠ 1) => ?_) (fun (c12 : ¬ (i ≠ 1)) => ?_)
          · refine s_blx (lv' := [(5, vI 0), (4, vI 2), (3, vI 0), (2, vI (w1 / 2)), (0, vR 77), (1, vI i)]) (st' := [vI 0, vI 0]) B182_70_73 rfl ?_
            refine r_icmp (tgt := 80) (pc' := 76) D182_73 rfl rfl (by unfold inR; omega) (fun (c13 : 0 ≠ 0) => ?_) (fun (c13 : ¬ (0 ≠ 0)) => ?_)
            · exfalso; omega
            · refine s_blx (lv' := [(5, vI 0), (4, vI 2), (3, vI 0), (2, vI (w1 / 2)), (0, vR 77), (1, vI i)]) (st' := [vI 0]) B182_76_77 rfl ?_
              refine r_goto (tgt := 82) D182_77 rfl ?_
              exact r_iretI D182_82 rfl (⟨rfl, by omega⟩)
          · refine s_blx (lv' := [(5, vI 0), (4, vI 2), (3, vI 0), (2, vI (w1 / 2)), (0, vR 77), (1, vI i)]) (st' := [vI 1]) B182_66_67 rfl ?_
            refine r_goto (tgt := 71) D182_67 rfl ?_
            refine s_blx (lv' := [(5, vI 0), (4, vI 2), (3, vI 0), (2, vI (w1 / 2)), (0, vR 77), (1, vI i)]) (st' := [vI 0, vI 1]) B182_71_73 rfl ?_
            refine r_icmp (tgt := 80) (pc' := 76) D182_73 rfl rfl (by unfold inR; omega) (fun (c14 : 1 ≠ 0) => ?_) (fun (c14 : ¬ (1 ≠ 0)) => ?_)
            · refine s_blx (lv' := [(5, vI 0), (4, vI 2), (3, vI 0), (2, vI (w1 / 2)), (0, vR 77), (1, vI i)]) (st' := [vI 2]) B182_80_82 rfl ?_
              exact r_iretI D182_82 rfl (⟨rfl, by omega⟩)
            · exfalso; omega
        · refine s_blx (lv' := [(5, vI 0), (4, vI 2), (3, vI 0), (2, vI (w1 / 2)), (0, vR 77), (1, vI i)]) (st' := [vI (w1 / 2)]) B182_57_58 rfl ?_
          refine r_goto (tgt := 82) D182_58 rfl ?_
          exact r_iretI D182_82 rfl (⟨rfl, by omega⟩)
      · refine s_blx (lv' := [(4, vI 2), (3, vI 0), (2, vI (w1 / 2)), (0, vR 77), (1, vI i)]) (st' := [vI 1]) B182_46_47 rfl ?_
        refine r_goto (tgt := 51) D182_47 rfl ?_
        refine s_blx (lv' := [(5, vI 1), (4, vI 2), (3, vI 0), (2, vI (w1 / 2)), (0, vR 77), (1, vI i)]) (st' := [vI i]) B182_51_54 rfl ?_
        refine r_ifc (tgt := 61) (pc' := 57) D182_54 rfl rfl (by unfold inR; omega) (fun (c15 : i ≠ 0) => ?_) (fun (c15 : ¬ (i ≠ 0)) => ?_)
        · refine s_blx (lv' := [(5, vI 1), (4, vI 2), (3, vI 0), (2, vI (w1 / 2)), (0, vR 77), (1, vI i)]) (st' := [vI 1, vI i]) B182_61_63 rfl ?_
          refine r_icmp (tgt := 70) (pc' := 66) D182_63 rfl rfl (by unfold inR; omega) (fun (c16 : i ≠ 1) => ?_) (fun (c16 : ¬ (i ≠ 1)) => ?_)
          · refine s_blx (lv' := [(5, vI 1), (4, vI 2), (3, vI 0), (2, vI (w1 / 2)), (0, vR 77), (1, vI i)]) (st' := [vI 1, vI 0]) B182_70_73 rfl ?_
            refine r_icmp (tgt := 80) (pc' := 76) D182_73 rfl rfl (by unfold inR; omega) (fun (c17 : 0 ≠ 1) => ?_) (fun (c17 : ¬ (0 ≠ 1)) => ?_)
            · refine s_blx (lv' := [(5, vI 1), (4, vI 2), (3, vI 0), (2, vI (w1 / 2)), (0, vR 77), (1, vI i)]) (st' := [vI 2]) B182_80_82 rfl ?_
              exact r_iretI D182_82 rfl (⟨rfl, by omega⟩)
            · exfalso; omega
          · refine s_blx (lv' := [(5, vI 1), (4, vI 2), (3, vI 0), (2, vI (w1 / 2)), (0, vR 77), (1, vI i)]) (st' := [vI 1]) B182_66_67 rfl ?_
            refine r_goto (tgt := 71) D182_67 rfl ?_
            refine s_blx (lv' := [(5, vI 1), (4, vI 2), (3, vI 0), (2, vI (w1 / 2)), (0, vR 77), (1, vI i)]) (st' := [vI 1, vI 1]) B182_71_73 rfl ?_
            refine r_icmp (tgt := 80) (pc' := 76) D182_73 rfl rfl (by unfold inR; omega) (fun (c18 : 1 ≠ 1) => ?_) (fun (c18 : ¬ (1 ≠ 1)) => ?_)
            · exfalso; omega
            · refine s_blx (lv' := [(5, vI 1), (4, vI 2), (3, vI 0), (2, vI (w1 / 2)), (0, vR 77), (1, vI i)]) (st' := [vI 0]) B182_76_77 rfl ?_
              refine r_goto (tgt := 82) D182_77 rfl ?_
              exact r_iretI D182_82 rfl (⟨rfl, by omega⟩)
        · refine s_blx (lv' := [(5, vI 1), (4, vI 2), (3, vI 0), (2, vI (w1 / 2)), (0, vR 77), (1, vI i)]) (st' := [vI (w1 / 2)]) B182_57_58 rfl ?_
          refine r_goto (tgt := 82) D182_58 rfl ?_
          exact r_iretI D182_82 rfl (⟨rfl, by omega⟩)
    · refine s_blx (lv' := [(3, vI 0), (2, vI (w1 / 2)), (0, vR 77), (1, vI i)]) (st' := [vI 1]) B182_26_27 rfl ?_
      refine r_goto (tgt := 31) D182_27 rfl ?_
      refine s_blx (lv' := [(4, vI 1), (3, vI 0), (2, vI (w1 / 2)), (0, vR 77), (1, vI i)]) (st' := [vR 77]) B182_31_34 rfl ?_
      refine r_gfix (r := 78) (pc' := 37) D182_34 rfl gf_11_13_77 H.1 ?_
      refine s_blx (lv' := [(4, vI 1), (3, vI 0), (2, vI (w1 / 2)), (0, vR 77), (1, vI i)]) (st' := [vI 473, vR 78]) B182_37_40 rfl ?_
      refine r_iald (pc' := 41) D182_40 rfl sc_78 H.1 (by omega) ?_
      intro w19 e20 r21
      have e22 : w1 = w19 := (e20.trans (e2.symm)).symm
      subst e22
      refine s_blx (lv' := [(4, vI 1), (3, vI 0), (2, vI (w1 / 2)), (0, vR 77), (1, vI i)]) (st' := [vI 2, vI w1]) B182_41_42 rfl ?_
      refine r_irem (pc' := 43) D182_42 rfl (by omega) ?_
      refine r_ifc (tgt := 50) (pc' := 46) D182_43 rfl rfl (by unfold inR; omega) (fun (c23 : (w1 % 2) ≠ 0) => ?_) (fun (c23 : ¬ ((w1 % 2) ≠ 0)) => ?_)
      · refine s_blx (lv' := [(5, vI 0), (4, vI 1), (3, vI 0), (2, vI (w1 / 2)), (0, vR 77), (1, vI i)]) (st' := [vI i]) B182_50_54 rfl ?_
        refine r_ifc (tgt := 61) (pc' := 57) D182_54 rfl rfl (by unfold inR; omega) (fun (c24 : i ≠ 0) => ?_) (fun (c24 : ¬ (i ≠ 0)) => ?_)
        · refine s_blx (lv' := [(5, vI 0), (4, vI 1), (3, vI 0), (2, vI (w1 / 2)), (0, vR 77), (1, vI i)]) (st' := [vI 1, vI i]) B182_61_63 rfl ?_
          refine r_icmp (tgt := 70) (pc' := 66) D182_63 rfl rfl (by unfold inR; omega) (fun (c25 : i ≠ 1) => ?_) (fun (c25 : ¬ (i ≠ 1)) => ?_)
          · refine s_blx (lv' := [(5, vI 0), (4, vI 1), (3, vI 0), (2, vI (w1 / 2)), (0, vR 77), (1, vI i)]) (st' := [vI 0, vI 0]) B182_70_73 rfl ?_
            refine r_icmp (tgt := 80) (pc' := 76) D182_73 rfl rfl (by unfold inR; omega) (fun (c26 : 0 ≠ 0) => ?_) (fun (c26 : ¬ (0 ≠ 0)) => ?_)
            · exfalso; omega
            · refine s_blx (lv' := [(5, vI 0), (4, vI 1), (3, vI 0), (2, vI (w1 / 2)), (0, vR 77), (1, vI i)]) (st' := [vI 0]) B182_76_77 rfl ?_
              refine r_goto (tgt := 82) D182_77 rfl ?_
              exact r_iretI D182_82 rfl (⟨rfl, by omega⟩)
          · refine s_blx (lv' := [(5, vI 0), (4, vI 1), (3, vI 0), (2, vI (w1 / 2)), (0, vR 77), (1, vI i)]) (st' := [vI 1]) B182_66_67 rfl ?_
            refine r_goto (tgt := 71) D182_67 rfl ?_
            refine s_blx (lv' := [(5, vI 0), (4, vI 1), (3, vI 0), (2, vI (w1 / 2)), (0, vR 77), (1, vI i)]) (st' := [vI 0, vI 1]) B182_71_73 rfl ?_
            refine r_icmp (tgt := 80) (pc' := 76) D182_73 rfl rfl (by unfold inR; omega) (fun (c27 : 1 ≠ 0) => ?_) (fun (c27 : ¬ (1 ≠ 0)) => ?_)
            · refine s_blx (lv' := [(5, vI 0), (4, vI 1), (3, vI 0), (2, vI (w1 / 2)), (0, vR 77), (1, vI i)]) (st' := [vI 1]) B182_80_82 rfl ?_
              exact r_iretI D182_82 rfl (⟨rfl, by omega⟩)
            · exfalso; omega
        · refine s_blx (lv' := [(5, vI 0), (4, vI 1), (3, vI 0), (2, vI (w1 / 2)), (0, vR 77), (1, vI i)]) (st' := [vI (w1 / 2)]) B182_57_58 rfl ?_
          refine r_goto (tgt := 82) D182_58 rfl ?_
          exact r_iretI D182_82 rfl (⟨rfl, by omega⟩)
      · refine s_blx (lv' := [(4, vI 1), (3, vI 0), (2, vI (w1 / 2)), (0, vR 77), (1, vI i)]) (st' := [vI 1]) B182_46_47 rfl ?_
        refine r_goto (tgt := 51) D182_47 rfl ?_
        refine s_blx (lv' := [(5, vI 1), (4, vI 1), (3, vI 0), (2, vI (w1 / 2)), (0, vR 77), (1, vI i)]) (st' := [vI i]) B182_51_54 rfl ?_
        refine r_ifc (tgt := 61) (pc' := 57) D182_54 rfl rfl (by unfold inR; omega) (fun (c28 : i ≠ 0) => ?_) (fun (c28 : ¬ (i ≠ 0)) => ?_)
        · refine s_blx (lv' := [(5, vI 1), (4, vI 1), (3, vI 0), (2, vI (w1 / 2)), (0, vR 77), (1, vI i)]) (st' := [vI 1, vI i]) B182_61_63 rfl ?_
          refine r_icmp (tgt := 70) (pc' := 66) D182_63 rfl rfl (by unfold inR; omega) (fun (c29 : i ≠ 1) => ?_) (fun (c29 : ¬ (i ≠ 1)) => ?_)
          · refine s_blx (lv' := [(5, vI 1), (4, vI 1), (3, vI 0), (2, vI (w1 / 2)), (0, vR 77), (1, vI i)]) (st' := [vI 1, vI 0]) B182_70_73 rfl ?_
            refine r_icmp (tgt := 80) (pc' := 76) D182_73 rfl rfl (by unfold inR; omega) (fun (c30 : 0 ≠ 1) => ?_) (fun (c30 : ¬ (0 ≠ 1)) => ?_)
            · refine s_blx (lv' := [(5, vI 1), (4, vI 1), (3, vI 0), (2, vI (w1 / 2)), (0, vR 77), (1, vI i)]) (st' := [vI 1]) B182_80_82 rfl ?_
              exact r_iretI D182_82 rfl (⟨rfl, by omega⟩)
            · exfalso; omega
          · refine s_blx (lv' := [(5, vI 1), (4, vI 1), (3, vI 0), (2, vI (w1 / 2)), (0, vR 77), (1, vI i)]) (st' := [vI 1]) B182_66_67 rfl ?_
            refine r_goto (tgt := 71) D182_67 rfl ?_
            refine s_blx (lv' := [(5, vI 1), (4, vI 1), (3, vI 0), (2, vI (w1 / 2)), (0, vR 77), (1, vI i)]) (st' := [vI 1, vI 1]) B182_71_73 rfl ?_
            refine r_icmp (tgt := 80) (pc' := 76) D182_73 rfl rfl (by unfold inR; omega) (fun (c31 : 1 ≠ 1) => ?_) (fun (c31 : ¬ (1 ≠ 1)) => ?_)
            · exfalso; omega
            · refine s_blx (lv' := [(5, vI 1), (4, vI 1), (3, vI 0), (2, vI (w1 / 2)), (0, vR 77), (1, vI i)]) (st' := [vI 0]) B182_76_77 rfl ?_
              refine r_goto (tgt := 82) D182_77 rfl ?_
              exact r_iretI D182_82 rfl (⟨rfl, by omega⟩)
        · refine s_blx (lv' := [(5, vI 1), (4, vI 1), (3, vI 0), (2, vI (w1 / 2)), (0, vR 77), (1, vI i)]) (st' := [vI (w1 / 2)]) B182_57_58 rfl ?_
          refine r_goto (tgt := 82) D182_58 rfl ?_
          exact r_iretI D182_82 rfl (⟨rfl, by omega⟩)
  · refine s_blx (lv' := [(2, vI (w1 / 2)), (0, vR 77), (1, vI i)]) (st' := [vI 1]) B182_15_16 rfl ?_
    refine r_goto (tgt := 20) D182_16 rfl ?_
    refine s_blx (lv' := [(3, vI 1), (2, vI (w1 / 2)), (0, vR 77), (1, vI i)]) (st' := [vI 2, vI (w1 / 2)]) B182_20_23 rfl ?_
    refine r_icmp (tgt := 30) (pc' := 26) D182_23 rfl rfl (by unfold inR; omega) (fun (c32 : (w1 / 2) ≠ 2) => ?_) (fun (c32 : ¬ ((w1 / 2) ≠ 2)) => ?_)
    · refine s_blx (lv' := [(4, vI 2), (3, vI 1), (2, vI (w1 / 2)), (0, vR 77), (1, vI i)]) (st' := [vR 77]) B182_30_34 rfl ?_
      refine r_gfix (r := 78) (pc' := 37) D182_34 rfl gf_11_13_77 H.1 ?_
      refine s_blx (lv' := [(4, vI 2), (3, vI 1), (2, vI (w1 / 2)), (0, vR 77), (1, vI i)]) (st' := [vI 473, vR 78]) B182_37_40 rfl ?_
      refine r_iald (pc' := 41) D182_40 rfl sc_78 H.1 (by omega) ?_
      intro w33 e34 r35
      have e36 : w1 = w33 := (e34.trans (e2.symm)).symm
      subst e36
      refine s_blx (lv' := [(4, vI 2), (3, vI 1), (2, vI (w1 / 2)), (0, vR 77), (1, vI i)]) (st' := [vI 2, vI w1]) B182_41_42 rfl ?_
      refine r_irem (pc' := 43) D182_42 rfl (by omega) ?_
      refine r_ifc (tgt := 50) (pc' := 46) D182_43 rfl rfl (by unfold inR; omega) (fun (c37 : (w1 % 2) ≠ 0) => ?_) (fun (c37 : ¬ ((w1 % 2) ≠ 0)) => ?_)
      · refine s_blx (lv' := [(5, vI 0), (4, vI 2), (3, vI 1), (2, vI (w1 / 2)), (0, vR 77), (1, vI i)]) (st' := [vI i]) B182_50_54 rfl ?_
        refine r_ifc (tgt := 61) (pc' := 57) D182_54 rfl rfl (by unfold inR; omega) (fun (c38 : i ≠ 0) => ?_) (fun (c38 : ¬ (i ≠ 0)) => ?_)
        · refine s_blx (lv' := [(5, vI 0), (4, vI 2), (3, vI 1), (2, vI (w1 / 2)), (0, vR 77), (1, vI i)]) (st' := [vI 1, vI i]) B182_61_63 rfl ?_
          refine r_icmp (tgt := 70) (pc' := 66) D182_63 rfl rfl (by unfold inR; omega) (fun (c39 : i ≠ 1) => ?_) (fun (c39 : ¬ (i ≠ 1)) => ?_)
          · refine s_blx (lv' := [(5, vI 0), (4, vI 2), (3, vI 1), (2, vI (w1 / 2)), (0, vR 77), (1, vI i)]) (st' := [vI 0, vI 0]) B182_70_73 rfl ?_
            refine r_icmp (tgt := 80) (pc' := 76) D182_73 rfl rfl (by unfold inR; omega) (fun (c40 : 0 ≠ 0) => ?_) (fun (c40 : ¬ (0 ≠ 0)) => ?_)
            · exfalso; omega
            · refine s_blx (lv' := [(5, vI 0), (4, vI 2), (3, vI 1), (2, vI (w1 / 2)), (0, vR 77), (1, vI i)]) (st' := [vI 1]) B182_76_77 rfl ?_
              refine r_goto (tgt := 82) D182_77 rfl ?_
              exact r_iretI D182_82 rfl (⟨rfl, by omega⟩)
          · refine s_blx (lv' := [(5, vI 0), (4, vI 2), (3, vI 1), (2, vI (w1 / 2)), (0, vR 77), (1, vI i)]) (st' := [vI 1]) B182_66_67 rfl ?_
            refine r_goto (tgt := 71) D182_67 rfl ?_
            refine s_blx (lv' := [(5, vI 0), (4, vI 2), (3, vI 1), (2, vI (w1 / 2)), (0, vR 77), (1, vI i)]) (st' := [vI 0, vI 1]) B182_71_73 rfl ?_
            refine r_icmp (tgt := 80) (pc' := 76) D182_73 rfl rfl (by unfold inR; omega) (fun (c41 : 1 ≠ 0) => ?_) (fun (c41 : ¬ (1 ≠ 0)) => ?_)
            · refine s_blx (lv' := [(5, vI 0), (4, vI 2), (3, vI 1), (2, vI (w1 / 2)), (0, vR 77), (1, vI i)]) (st' := [vI 2]) B182_80_82 rfl ?_
              exact r_iretI D182_82 rfl (⟨rfl, by omega⟩)
            · exfalso; omega
        · refine s_blx (lv' := [(5, vI 0), (4, vI 2), (3, vI 1), (2, vI (w1 / 2)), (0, vR 77), (1, vI i)]) (st' := [vI (w1 / 2)]) B182_57_58 rfl ?_
          refine r_goto (tgt := 82) D182_58 rfl ?_
          exact r_iretI D182_82 rfl (⟨rfl, by omega⟩)
      · refine s_blx (lv' := [(4, vI 2), (3, vI 1), (2, vI (w1 / 2)), (0, vR 77), (1, vI i)]) (st' := [vI 1]) B182_46_47 rfl ?_
        refine r_goto (tgt := 51) D182_47 rfl ?_
        refine s_blx (lv' := [(5, vI 1), (4, vI 2), (3, vI 1), (2, vI (w1 / 2)), (0, vR 77), (1, vI i)]) (st' := [vI i]) B182_51_54 rfl ?_
        refine r_ifc (tgt := 61) (pc' := 57) D182_54 rfl rfl (by unfold inR; omega) (fun (c42 : i ≠ 0) => ?_) (fun (c42 : ¬ (i ≠ 0)) => ?_)
        · refine s_blx (lv' := [(5, vI 1), (4, vI 2), (3, vI 1), (2, vI (w1 / 2)), (0, vR 77), (1, vI i)]) (st' := [vI 1, vI i]) B182_61_63 rfl ?_
          refine r_icmp (tgt := 70) (pc' := 66) D182_63 rfl rfl (by unfold inR; omega) (fun (c43 : i ≠ 1) => ?_) (fun (c43 : ¬ (i ≠ 1)) => ?_)
          · refine s_blx (lv' := [(5, vI 1), (4, vI 2), (3, vI 1), (2, vI (w1 / 2)), (0, vR 77), (1, vI i)]) (st' := [vI 1, vI 0]) B182_70_73 rfl ?_
            refine r_icmp (tgt := 80) (pc' := 76) D182_73 rfl rfl (by unfold inR; omega) (fun (c44 : 0 ≠ 1) => ?_) (fun (c44 : ¬ (0 ≠ 1)) => ?_)
            · refine s_blx (lv' := [(5, vI 1), (4, vI 2), (3, vI 1), (2, vI (w1 / 2)), (0, vR 77), (1, vI i)]) (st' := [vI 2]) B182_80_82 rfl ?_
              exact r_iretI D182_82 rfl (⟨rfl, by omega⟩)
            · exfalso; omega
          · refine s_blx (lv' := [(5, vI 1), (4, vI 2), (3, vI 1), (2, vI (w1 / 2)), (0, vR 77), (1, vI i)]) (st' := [vI 1]) B182_66_67 rfl ?_
            refine r_goto (tgt := 71) D182_67 rfl ?_
            refine s_blx (lv' := [(5, vI 1), (4, vI 2), (3, vI 1), (2, vI (w1 / 2)), (0, vR 77), (1, vI i)]) (st' := [vI 1, vI 1]) B182_71_73 rfl ?_
            refine r_icmp (tgt := 80) (pc' := 76) D182_73 rfl rfl (by unfold inR; omega) (fun (c45 : 1 ≠ 1) => ?_) (fun (c45 : ¬ (1 ≠ 1)) => ?_)
            · exfalso; omega
            · refine s_blx (lv' := [(5, vI 1), (4, vI 2), (3, vI 1), (2, vI (w1 / 2)), (0, vR 77), (1, vI i)]) (st' := [vI 1]) B182_76_77 rfl ?_
              refine r_goto (tgt := 82) D182_77 rfl ?_
              exact r_iretI D182_82 rfl (⟨rfl, by omega⟩)
        · refine s_blx (lv' := [(5, vI 1), (4, vI 2), (3, vI 1), (2, vI (w1 / 2)), (0, vR 77), (1, vI i)]) (st' := [vI (w1 / 2)]) B182_57_58 rfl ?_
          refine r_goto (tgt := 82) D182_58 rfl ?_
          exact r_iretI D182_82 rfl (⟨rfl, by omega⟩)
    · refine s_blx (lv' := [(3, vI 1), (2, vI (w1 / 2)), (0, vR 77), (1, vI i)]) (st' := [vI 1]) B182_26_27 rfl ?_
      refine r_goto (tgt := 31) D182_27 rfl ?_
      refine s_blx (lv' := [(4, vI 1), (3, vI 1), (2, vI (w1 / 2)), (0, vR 77), (1, vI i)]) (st' := [vR 77]) B182_31_34 rfl ?_
      refine r_gfix (r := 78) (pc' := 37) D182_34 rfl gf_11_13_77 H.1 ?_
      refine s_blx (lv' := [(4, vI 1), (3, vI 1), (2, vI (w1 / 2)), (0, vR 77), (1, vI i)]) (st' := [vI 473, vR 78]) B182_37_40 rfl ?_
      refine r_iald (pc' := 41) D182_40 rfl sc_78 H.1 (by omega) ?_
      intro w46 e47 r48
      have e49 : w1 = w46 := (e47.trans (e2.symm)).symm
      subst e49
      refine s_blx (lv' := [(4, vI 1), (3, vI 1), (2, vI (w1 / 2)), (0, vR 77), (1, vI i)]) (st' := [vI 2, vI w1]) B182_41_42 rfl ?_
      refine r_irem (pc' := 43) D182_42 rfl (by omega) ?_
      refine r_ifc (tgt := 50) (pc' := 46) D182_43 rfl rfl (by unfold inR; omega) (fun (c50 : (w1 % 2) ≠ 0) => ?_) (fun (c50 : ¬ ((w1 % 2) ≠ 0)) => ?_)
      · refine s_blx (lv' := [(5, vI 0), (4, vI 1), (3, vI 1), (2, vI (w1 / 2)), (0, vR 77), (1, vI i)]) (st' := [vI i]) B182_50_54 rfl ?_
        refine r_ifc (tgt := 61) (pc' := 57) D182_54 rfl rfl (by unfold inR; omega) (fun (c51 : i ≠ 0) => ?_) (fun (c51 : ¬ (i ≠ 0)) => ?_)
        · refine s_blx (lv' := [(5, vI 0), (4, vI 1), (3, vI 1), (2, vI (w1 / 2)), (0, vR 77), (1, vI i)]) (st' := [vI 1, vI i]) B182_61_63 rfl ?_
          refine r_icmp (tgt := 70) (pc' := 66) D182_63 rfl rfl (by unfold inR; omega) (fun (c52 : i ≠ 1) => ?_) (fun (c52 : ¬ (i ≠ 1)) => ?_)
          · refine s_blx (lv' := [(5, vI 0), (4, vI 1), (3, vI 1), (2, vI (w1 / 2)), (0, vR 77), (1, vI i)]) (st' := [vI 0, vI 0]) B182_70_73 rfl ?_
            refine r_icmp (tgt := 80) (pc' := 76) D182_73 rfl rfl (by unfold inR; omega) (fun (c53 : 0 ≠ 0) => ?_) (fun (c53 : ¬ (0 ≠ 0)) => ?_)
            · exfalso; omega
            · refine s_blx (lv' := [(5, vI 0), (4, vI 1), (3, vI 1), (2, vI (w1 / 2)), (0, vR 77), (1, vI i)]) (st' := [vI 1]) B182_76_77 rfl ?_
              refine r_goto (tgt := 82) D182_77 rfl ?_
              exact r_iretI D182_82 rfl (⟨rfl, by omega⟩)
          · refine s_blx (lv' := [(5, vI 0), (4, vI 1), (3, vI 1), (2, vI (w1 / 2)), (0, vR 77), (1, vI i)]) (st' := [vI 1]) B182_66_67 rfl ?_
            refine r_goto (tgt := 71) D182_67 rfl ?_
            refine s_blx (lv' := [(5, vI 0), (4, vI 1), (3, vI 1), (2, vI (w1 / 2)), (0, vR 77), (1, vI i)]) (st' := [vI 0, vI 1]) B182_71_73 rfl ?_
            refine r_icmp (tgt := 80) (pc' := 76) D182_73 rfl rfl (by unfold inR; omega) (fun (c54 : 1 ≠ 0) => ?_) (fun (c54 : ¬ (1 ≠ 0)) => ?_)
            · refine s_blx (lv' := [(5, vI 0), (4, vI 1), (3, vI 1), (2, vI (w1 / 2)), (0, vR 77), (1, vI i)]) (st' := [vI 1]) B182_80_82 rfl ?_
              exact r_iretI D182_82 rfl (⟨rfl, by omega⟩)
            · exfalso; omega
        · refine s_blx (lv' := [(5, vI 0), (4, vI 1), (3, vI 1), (2, vI (w1 / 2)), (0, vR 77), (1, vI i)]) (st' := [vI (w1 / 2)]) B182_57_58 rfl ?_
          refine r_goto (tgt := 82) D182_58 rfl ?_
          exact r_iretI D182_82 rfl (⟨rfl, by omega⟩)
      · refine s_blx (lv' := [(4, vI 1), (3, vI 1), (2, vI (w1 / 2)), (0, vR 77), (1, vI i)]) (st' := [vI 1]) B182_46_47 rfl ?_
        refine r_goto (tgt := 51) D182_47 rfl ?_
        refine s_blx (lv' := [(5, vI 1), (4, vI 1), (3, vI 1), (2, vI (w1 / 2)), (0, vR 77), (1, vI i)]) (st' := [vI i]) B182_51_54 rfl ?_
        refine r_ifc (tgt := 61) (pc' := 57) D182_54 rfl rfl (by unfold inR; omega) (fun (c55 : i ≠ 0) => ?_) (fun (c55 : ¬ (i ≠ 0)) => ?_)
        · refine s_blx (lv' := [(5, vI 1), (4, vI 1), (3, vI 1), (2, vI (w1 / 2)), (0, vR 77), (1, vI i)]) (st' := [vI 1, vI i]) B182_61_63 rfl ?_
          refine r_icmp (tgt := 70) (pc' := 66) D182_63 rfl rfl (by unfold inR; omega) (fun (c56 : i ≠ 1) => ?_) (fun (c56 : ¬ (i ≠ 1)) => ?_)
          · refine s_blx (lv' := [(5, vI 1), (4, vI 1), (3, vI 1), (2, vI (w1 / 2)), (0, vR 77), (1, vI i)]) (st' := [vI 1, vI 0]) B182_70_73 rfl ?_
            refine r_icmp (tgt := 80) (pc' := 76) D182_73 rfl rfl (by unfold inR; omega) (fun (c57 : 0 ≠ 1) => ?_) (fun (c57 : ¬ (0 ≠ 1)) => ?_)
            · refine s_blx (lv' := [(5, vI 1), (4, vI 1), (3, vI 1), (2, vI (w1 / 2)), (0, vR 77), (1, vI i)]) (st' := [vI 1]) B182_80_82 rfl ?_
              exact r_iretI D182_82 rfl (⟨rfl, by omega⟩)
            · exfalso; omega
          · refine s_blx (lv' := [(5, vI 1), (4, vI 1), (3, vI 1), (2, vI (w1 / 2)), (0, vR 77), (1, vI i)]) (st' := [vI 1]) B182_66_67 rfl ?_
            refine r_goto (tgt := 71) D182_67 rfl ?_
            refine s_blx (lv' := [(5, vI 1), (4, vI 1), (3, vI 1), (2, vI (w1 / 2)), (0, vR 77), (1, vI i)]) (st' := [vI 1, vI 1]) B182_71_73 rfl ?_
            refine r_icmp (tgt := 80) (pc' := 76) D182_73 rfl rfl (by unfold inR; omega) (fun (c58 : 1 ≠ 1) => ?_) (fun (c58 : ¬ (1 ≠ 1)) => ?_)
            · exfalso; omega
            · refine s_blx (lv' := [(5, vI 1), (4, vI 1), (3, vI 1), (2, vI (w1 / 2)), (0, vR 77), (1, vI i)]) (st' := [vI 1]) B182_76_77 rfl ?_
              refine r_goto (tgt := 82) D182_77 rfl ?_
              exact r_iretI D182_82 rfl (⟨rfl, by omega⟩)
        · refine s_blx (lv' := [(5, vI 1), (4, vI 1), (3, vI 1), (2, vI (w1 / 2)), (0, vR 77), (1, vI i)]) (st' := [vI (w1 / 2)]) B182_57_58 rfl ?_
          refine r_goto (tgt := 82) D182_58 rfl ?_
          exact r_iretI D182_82 rfl (⟨rfl, by omega⟩)
set_option maxRecDepth 4000 in
theorem k184 {base : Nat} {X : Nat → Option mC} {G : Nat → Value} (E : EnvOK base X G) {d : Nat} (hd : 0 ≤ d) {M : mH} (H : HI base M) (k : Int) (said : Int) (d_ : Int) (h0 : 0 ≤ k ∧ k ≤ 2) (h1 : 0 ≤ said ∧ said ≤ 110) (h2 : 0 ≤ d_ ∧ d_ ≤ 9) : sOk base X G d T184 [vI k, vI said, vI d_] M (pI (fun v M' => M' = M ∧ True)) := by
  refine sOk.of (show sRn base X G d T184 0 [(0, vI k), (1, vI said), (2, vI d_)] [] M _ from ?_)
  refine s_blx (lv' := [(0, vI k), (1, vI said), (2, vI d_)]) (st' := [vI k]) B184_0_1 rfl ?_
  refine r_ifc (tgt := 10) (pc' := 4) D184_1 rfl rfl (by unfold inR; omega) (fun (c1 : k ≠ 0) => ?_) (fun (c1 : ¬ (k ≠ 0)) => ?_)
  · refine s_blx (lv' := [(0, vI k), (1, vI said), (2, vI d_)]) (st' := [vI 1, vI k]) B184_10_12 rfl ?_
    refine r_icmp (tgt := 29) (pc' := 15) D184_12 rfl rfl (by unfold inR; omega) (fun (c2 : k ≠ 1) => ?_) (fun (c2 : ¬ (k ≠ 1)) => ?_)
    · refine s_blx (lv' := [(0, vI k), (1, vI said), (2, vI d_)]) (st' := [vI ((111 + (10 * (said - 11))) + d_)]) B184_29_41 rfl ?_
      exact r_iretI D184_41 rfl (⟨rfl, trivial⟩)
    · refine s_blx (lv' := [(0, vI k), (1, vI said), (2, vI d_)]) (st' := [vI ((11 + (10 * (said - 1))) + d_)]) B184_15_26 rfl ?_
      refine r_goto (tgt := 41) D184_26 rfl ?_
      exact r_iretI D184_41 rfl (⟨rfl, trivial⟩)
  · refine s_blx (lv' := [(0, vI k), (1, vI said), (2, vI d_)]) (st' := [vI (1 + d_)]) B184_4_7 rfl ?_
    refine r_goto (tgt := 41) D184_7 rfl ?_
    exact r_iretI D184_41 rfl (⟨rfl, trivial⟩)
set_option maxRecDepth 4000 in
theorem k187 {base : Nat} {X : Nat → Option mC} {G : Nat → Value} (E : EnvOK base X G) {d : Nat} (hd : 0 ≤ d) {M : mH} (H : HI base M) (k : Int) (said : Int) (by_ : Int) (i : Int) (h0 : 0 ≤ k ∧ k ≤ 3) (h1 : 0 ≤ said ∧ said ≤ 1110) (h2 : -9 ≤ by_ ∧ by_ ≤ 9) (h3 : 0 ≤ i ∧ i ≤ 2) : sOk base X G d T187 [vI k, vI said, vI by_, vI i] M (pI (fun v M' => M' = M ∧ True)) := by
  refine sOk.of (show sRn base X G d T187 0 [(0, vI k), (1, vI said), (2, vI by_), (3, vI i)] [] M _ from ?_)
  refine s_blx (lv' := [(0, vI k), (1, vI said), (2, vI by_), (3, vI i)]) (st' := [vI ((k - 1) - i)]) B187_0_5 rfl ?_
  refine r_ifc (tgt := 12) (pc' := 8) D187_5 rfl rfl (by unfold inR; omega) (fun (c1 : ((k - 1) - i) ≠ 0) => ?_) (fun (c1 : ¬ (((k - 1) - i) ≠ 0)) => ?_)
  · refine s_blx (lv' := [(0, vI k), (1, vI said), (2, vI by_), (3, vI i)]) (st' := [vI 1, vI ((k - 1) - i)]) B187_12_18 rfl ?_
    refine r_icmp (tgt := 26) (pc' := 21) D187_18 rfl rfl (by unfold inR; omega) (fun (c2 : ((k - 1) - i) ≠ 1) => ?_) (fun (c2 : ¬ (((k - 1) - i) ≠ 1)) => ?_)
    · refine s_blx (lv' := [(4, vI 100), (0, vI k), (1, vI said), (2, vI by_), (3, vI i)]) (st' := [vI (said + (by_ * 100))]) B187_26_36 rfl ?_
      exact r_iretI D187_36 rfl (⟨rfl, trivial⟩)
    · refine s_blx (lv' := [(0, vI k), (1, vI said), (2, vI by_), (3, vI i)]) (st' := [vI 10]) B187_21_23 rfl ?_
      refine r_goto (tgt := 28) D187_23 rfl ?_
      refine s_blx (lv' := [(4, vI 10), (0, vI k), (1, vI said), (2, vI by_), (3, vI i)]) (st' := [vI (said + (by_ * 10))]) B187_28_36 rfl ?_
      exact r_iretI D187_36 rfl (⟨rfl, trivial⟩)
  · refine s_blx (lv' := [(0, vI k), (1, vI said), (2, vI by_), (3, vI i)]) (st' := [vI 1]) B187_8_9 rfl ?_
    refine r_goto (tgt := 28) D187_9 rfl ?_
    refine s_blx (lv' := [(4, vI 1), (0, vI k), (1, vI said), (2, vI by_), (3, vI i)]) (st' := [vI (said + (by_ * 1))]) B187_28_36 rfl ?_
    exact r_iretI D187_36 rfl (⟨rfl, trivial⟩)
set_option maxRecDepth 4000 in
theorem L_k183 {base : Nat} {X : Nat → Option mC} {G : Nat → Value} (E : EnvOK base X G) {d : Nat} (hd : 3 ≤ d) {M : mH} (H : HI base M) (s : Int) (n : Int) (isOver : Int) (h0 : (isOver = 0 ∨ isOver = 1)) (h1 : 0 ≤ s ∧ s ≤ 15) (h2 : 0 ≤ n ∧ n ≤ 8) : ∀ mz : Nat, (∀ (x4 : Int) (N : mH), HI base N → Fr [(77, 7), (77, 8), (77, 9), (77, 10), (83, 0), (84, 0), (85, 0)] M N → (0 ≤ x4) → (x4 ≤ 8) → (8 - x4) * 1 + 4 < (mz : Int) → sRn base X G d T183 36 [(0, vR 77), (1, vI s), (2, vI n), (4, vI x4)] [] N (s_Q base (pV (fun M' => HI base M' ∧ Fr [(77, 7), (77, 8), (77, 9), (77, 10), (83, 0), (84, 0), (85, 0)] M M')))) ∧ (∀ (x4 : Int) (N : mH), HI base N → Fr [(77, 7), (77, 8), (77, 9), (77, 10), (83, 0), (84, 0), (85, 0)] M N → (0 ≤ x4) → (x4 ≤ 3) → (3 - x4) * 1 + 0 < (mz : Int) → sRn base X G d T183 74 [(0, vR 77), (4, vI x4)] [] N (s_Q base (pV (fun M' => HI base M' ∧ Fr [(77, 7), (77, 8), (77, 9), (77, 10), (83, 0), (84, 0), (85, 0)] M M')))) := by
  have f0 : Fr [(77, 7), (77, 8), (77, 9), (77, 10), (83, 0), (84, 0), (85, 0)] M M := Fr.rf
  intro mz
  induction mz with
  | zero => exact ⟨fun x4 N _ _ z0 z1 z2 => by omega, fun x4 N _ _ z0 z1 z2 => by omega⟩
  | succ mz ih =>
    refine ⟨?_, ?_⟩
    · intro x4 N HN fN i0 i1 hmu
      refine s_blx (lv' := [(0, vR 77), (1, vI s), (2, vI n), (4, vI x4)]) (st' := [vI n, vI x4]) B183_36_39 rfl ?_
      refine r_icmp (tgt := 71) (pc' := 42) D183_39 rfl rfl (by unfold inR; omega) (fun (c33 : n ≤ x4) => ?_) (fun (c33 : ¬ (n ≤ x4)) => ?_)
      · refine s_blx (lv' := [(4, vI 0), (0, vR 77), (1, vI s), (2, vI n)]) (st' := []) B183_71_74 rfl ?_
        refine r_loc (lv' := [(0, vR 77), (4, vI 0)]) ⟨rfl, rfl, trivial⟩ rfl rfl ?_
        exact ih.2 0 N HN fN (by omega) (by omega) (by omega)
      · refine s_blx (lv' := [(0, vR 77), (1, vI s), (2, vI n), (4, vI x4)]) (st' := [vR 77, vR 77]) B183_42_44 rfl ?_
        refine r_gint (ki := 7) (pc' := 47) D183_44 rfl gf_11_200_77 rfl HN.1 ?_
        intro w34 e35 r36
        unfold inR at r36
        refine s_blx (lv' := [(0, vR 77), (1, vI s), (2, vI n), (4, vI x4)]) (st' := [vR 77, vI w34, vR 77]) B183_47_48 rfl ?_
        refine r_gfix (r := 78) (pc' := 51) D183_48 rfl gf_11_13_77 HN.1 ?_
        refine s_blx (lv' := [(0, vR 77), (1, vI s), (2, vI n), (4, vI x4)]) (st' := [vI x4, vI s, vR 77, vI 0, vR 78, vI w34, vR 77]) B183_51_56 rfl ?_
        refine r_vIp (c := 77) (args := [vI s, vI x4]) (rest := [vI 0, vR 78, vI w34, vR 77]) (pc' := 59) D183_56 rfl ck_11_virtual_147 TE157 rfl (Nat.le_of_ble_eq_true rfl) ⟨Nat.le_of_ble_eq_true rfl, Nat.le_of_ble_eq_true rfl⟩ sc_77 ⟨rfl, by decide⟩ HN.1 (dp_0 hd rfl) (k157 E (dp_n hd rfl) HN s x4 (by omega) (by omega)) ?_
        intro v37 q40
        have q39 := q40; clear q40
        refine s_blx (lv' := [(0, vR 77), (1, vI s), (2, vI n), (4, vI x4)]) (st' := [vI (0 + v37), vR 78, vI w34, vR 77]) B183_59_60 rfl ?_
        refine r_iald (pc' := 61) D183_60 rfl sc_78 HN.1 (by omega) ?_
        intro w41 e42 r43
        have b_w41 := HN.2 78 (0 + v37) 0 9 (rk_load (by omega))
        rw [← e42] at b_w41; clear r43
        refine s_blx (lv' := [(0, vR 77), (1, vI s), (2, vI n), (4, vI x4)]) (st' := [vI (w34 + w41), vR 77]) B183_61_62 rfl ?_
        refine r_norm ?_
        intro z44 r45 _; unfold inR at r45
        refine r_pint (ki := 7) (pc' := 65) D183_62 rfl pf_11_200_77 rfl HN (by unfold inR; omega) trivial ?_
        intro M46 u47 H48 p49
        have f50 := fN.wr u47 rfl
        refine s_blx (lv' := [(4, vI (x4 + 1)), (0, vR 77), (1, vI s), (2, vI n)]) (st' := []) B183_65_68 rfl ?_
        refine r_goto (tgt := 36) D183_68 rfl ?_
        refine r_loc (lv' := [(0, vR 77), (1, vI s), (2, vI n), (4, vI (x4 + 1))]) ⟨rfl, rfl, rfl, rfl, trivial⟩ rfl rfl ?_
        exact ih.1 (x4 + 1) M46 H48 f50 (by omega) (by omega) (by omega)
    · intro x4 N HN fN i0 i1 hmu
      refine s_blx (lv' := [(0, vR 77), (4, vI x4)]) (st' := [vI 3, vI x4]) B183_74_77 rfl ?_
      refine r_icmp (tgt := 140) (pc' := 80) D183_77 rfl rfl (by unfold inR; omega) (fun (c51 : 3 ≤ x4) => ?_) (fun (c51 : ¬ (3 ≤ x4)) => ?_)
      · exact r_retV D183_140 rfl (⟨HN, fN⟩)
      · refine s_blx (lv' := [(0, vR 77), (4, vI x4)]) (st' := [vR 77]) B183_80_81 rfl ?_
        refine r_gfix (r := 83) (pc' := 84) D183_81 rfl gf_11_30_77 HN.1 ?_
        refine s_blx (lv' := [(0, vR 77), (4, vI x4)]) (st' := [vR 77, vR 77, vI x4, vR 83]) B183_84_88 rfl ?_
        refine r_gint (ki := 6) (pc' := 91) D183_88 rfl gf_11_194_77 rfl HN.1 ?_
        intro w52 e53 r54
        unfold inR at r54
        refine s_blx (lv' := [(0, vR 77), (4, vI x4)]) (st' := [vI x4, vI w52, vR 77, vI x4, vR 83]) B183_91_93 rfl ?_
        refine r_vIp (c := 77) (args := [vI w52, vI x4]) (rest := [vI x4, vR 83]) (pc' := 96) D183_93 rfl ck_11_virtual_171 TE172 rfl (Nat.le_of_ble_eq_true rfl) ⟨Nat.le_of_ble_eq_true rfl, Nat.le_of_ble_eq_true rfl⟩ sc_77 ⟨rfl, by decide⟩ HN.1 (dp_0 hd rfl) (k172 E (dp_n hd rfl) HN w52 x4 (by omega) (by omega)) ?_
        intro v55 q58
        have q57 := q58; clear q58
        refine r_iast (pc' := 97) D183_96 rfl sc_83 HN (by omega) (by unfold inR; omega) trivial ?_
        intro M59 u60 H61 p62
        have f63 := fN.wr u60 rfl
        refine s_blx (lv' := [(0, vR 77), (4, vI x4)]) (st' := [vR 77]) B183_97_98 rfl ?_
        refine r_gfix (r := 84) (pc' := 101) D183_98 rfl gf_11_33_77 H61.1 ?_
        refine s_blx (lv' := [(0, vR 77), (4, vI x4)]) (st' := [vR 77, vI x4, vR 84]) B183_101_104 rfl ?_
        refine r_gfix (r := 83) (pc' := 107) D183_104 rfl gf_11_30_77 H61.1 ?_
        refine s_blx (lv' := [(0, vR 77), (4, vI x4)]) (st' := [vI x4, vR 83, vI x4, vR 84]) B183_107_109 rfl ?_
        refine r_iald (pc' := 110) D183_109 rfl sc_83 H61.1 (by omega) ?_
        intro w64 e65 r66
        have e67 : v55 = w64 := (e65.trans (p62)).symm
        subst e67
        refine r_sIp (args := [vI v55]) (rest := [vI x4, vR 84]) (pc' := 113) D183_110 rfl ck_11_static_203 TE176 rfl (Nat.le_of_ble_eq_true rfl) ⟨Nat.le_of_ble_eq_true rfl, Nat.le_of_ble_eq_true rfl⟩ (by decide) (dp_0 hd rfl) (k176 E (dp_n hd rfl) H61 v55 (by omega)) ?_
        intro v68 q71
        have q70 := q71; clear q71
        refine r_iast (pc' := 114) D183_113 rfl sc_84 H61 (by omega) (by unfold inR; omega) (show (-1) ≤ v68 ∧ v68 ≤ 7 by omega) ?_
        intro M72 u73 H74 p75
        have f76 := f63.wr u73 rfl
        refine s_blx (lv' := [(0, vR 77), (4, vI x4)]) (st' := [vR 77]) B183_114_115 rfl ?_
        refine r_gfix (r := 85) (pc' := 118) D183_115 rfl gf_11_36_77 H74.1 ?_
        refine s_blx (lv' := [(0, vR 77), (4, vI x4)]) (st' := [vR 77, vI x4, vR 77, vI x4, vR 85]) B183_118_124 rfl ?_
        refine r_gfix (r := 83) (pc' := 127) D183_124 rfl gf_11_30_77 H74.1 ?_
        refine s_blx (lv' := [(0, vR 77), (4, vI x4)]) (st' := [vI x4, vR 83, vI x4, vR 77, vI x4, vR 85]) B183_127_129 rfl ?_
        refine r_iald (pc' := 130) D183_129 rfl sc_83 H74.1 (by omega) ?_
        intro w77 e78 r79
        have e80 : v55 = w77 := (e78.trans ((u73.gi_ne (by omega) (Or.inl (by decide))).trans (p62))).symm
        subst e80
        refine r_vIp (c := 77) (args := [vI x4, vI v55]) (rest := [vI x4, vR 85]) (pc' := 133) D183_130 rfl ck_11_virtual_187 TE180 rfl (Nat.le_of_ble_eq_true rfl) ⟨Nat.le_of_ble_eq_true rfl, Nat.le_of_ble_eq_true rfl⟩ sc_77 ⟨rfl, by decide⟩ H74.1 (dp_0 hd rfl) (k180 E (dp_n hd rfl) H74 x4 v55 (by omega) (by omega)) ?_
        intro v81 q84
        have q83 := q84; clear q84
        refine r_iast (pc' := 134) D183_133 rfl sc_85 H74 (by omega) (by unfold inR; omega) (show (-1) ≤ v81 ∧ v81 ≤ 11 by omega) ?_
        intro M85 u86 H87 p88
        have f89 := f76.wr u86 rfl
        refine s_blx (lv' := [(4, vI (x4 + 1)), (0, vR 77)]) (st' := []) B183_134_137 rfl ?_
        refine r_goto (tgt := 74) D183_137 rfl ?_
        refine r_loc (lv' := [(0, vR 77), (4, vI (x4 + 1))]) ⟨rfl, rfl, trivial⟩ rfl rfl ?_
        exact ih.2 (x4 + 1) M85 H87 f89 (by omega) (by omega) (by omega)
set_option maxRecDepth 4000 in
theorem k183 {base : Nat} {X : Nat → Option mC} {G : Nat → Value} (E : EnvOK base X G) {d : Nat} (hd : 3 ≤ d) {M : mH} (H : HI base M) (s : Int) (n : Int) (isOver : Int) (h0 : (isOver = 0 ∨ isOver = 1)) (h1 : 0 ≤ s ∧ s ≤ 15) (h2 : 0 ≤ n ∧ n ≤ 8) : sOk base X G d T183 [vR 77, vI s, vI n, vI isOver] M (pV (fun M' => HI base M' ∧ Fr [(77, 7), (77, 8), (77, 9), (77, 10), (83, 0), (84, 0), (85, 0)] M M')) := by
  have f0 : Fr [(77, 7), (77, 8), (77, 9), (77, 10), (83, 0), (84, 0), (85, 0)] M M := Fr.rf
  refine sOk.of (show sRn base X G d T183 0 [(0, vR 77), (1, vI s), (2, vI n), (3, vI isOver)] [] M _ from ?_)
  refine s_blx (lv' := [(0, vR 77), (1, vI s), (2, vI n), (3, vI isOver)]) (st' := [vI isOver, vR 77]) B183_0_2 rfl ?_
  refine r_pbool (ki := 9) (pc' := 5) D183_2 rfl pf_11_190_77 rfl H (by omega) (show 0 ≤ isOver ∧ isOver ≤ 1 by omega) ?_
  intro M1 u2 H3 p4
  have f5 := f0.wr u2 rfl
  refine s_blx (lv' := [(0, vR 77), (1, vI s), (2, vI n), (3, vI isOver)]) (st' := [vI isOver, vI n, vI s, vR 77, vR 77]) B183_5_10 rfl ?_
  refine r_vIp (c := 77) (args := [vI s, vI n, vI isOver]) (rest := [vR 77]) (pc' := 13) D183_10 rfl ck_11_virtual_167 TE171 rfl (Nat.le_of_ble_eq_true rfl) ⟨Nat.le_of_ble_eq_true rfl, Nat.le_of_ble_eq_true rfl⟩ sc_77 ⟨rfl, by decide⟩ H3.1 (dp_0 hd rfl) (k171 E (dp_n hd rfl) H3 s n isOver (by omega) (by omega) (by omega)) ?_
  intro v6 q9
  have q8 := q9; clear q9
  refine r_pint (ki := 6) (pc' := 16) D183_13 rfl pf_11_194_77 rfl H3 (by unfold inR; omega) trivial ?_
  intro M10 u11 H12 p13
  have f14 := f5.wr u11 rfl
  refine s_blx (lv' := [(0, vR 77), (1, vI s), (2, vI n), (3, vI isOver)]) (st' := [vR 77, vR 77, vR 77]) B183_16_19 rfl ?_
  refine r_gint (ki := 6) (pc' := 22) D183_19 rfl gf_11_194_77 rfl H12.1 ?_
  intro w15 e16 r17
  have e18 : v6 = w15 := (e16.trans (p13)).symm
  subst e18
  refine r_vIp (c := 77) (args := [vI v6]) (rest := [vR 77]) (pc' := 25) D183_22 rfl ck_11_virtual_181 TE173 rfl (Nat.le_of_ble_eq_true rfl) ⟨Nat.le_of_ble_eq_true rfl, Nat.le_of_ble_eq_true rfl⟩ sc_77 ⟨rfl, by decide⟩ H12.1 (dp_0 hd rfl) (k173 E (dp_n hd rfl) H12 v6 (by omega)) ?_
  intro v19 q22
  have q21 := q22; clear q22
  refine r_pint (ki := 8) (pc' := 28) D183_25 rfl pf_11_197_77 rfl H12 (by unfold inR; omega) trivial ?_
  intro M23 u24 H25 p26
  have f27 := f14.wr u24 rfl
  refine s_blx (lv' := [(0, vR 77), (1, vI s), (2, vI n), (3, vI isOver)]) (st' := [vI 0, vR 77]) B183_28_30 rfl ?_
  refine r_pint (ki := 7) (pc' := 33) D183_30 rfl pf_11_200_77 rfl H25 (by unfold inR; omega) trivial ?_
  intro M28 u29 H30 p31
  have f32 := f27.wr u29 rfl
  refine s_blx (lv' := [(4, vI 0), (0, vR 77), (1, vI s), (2, vI n), (3, vI isOver)]) (st' := []) B183_33_36 rfl ?_
  refine r_loc (lv' := [(0, vR 77), (1, vI s), (2, vI n), (4, vI 0)]) ⟨rfl, rfl, rfl, rfl, trivial⟩ rfl rfl ?_
  exact (L_k183 E hd H s n isOver h0 h1 h2 (((8 - 0) * 1 + 4 : Int) + 1).toNat).1 0 M28 H30 f32 (by omega) (by omega) (by omega)
set_option maxRecDepth 4000 in
theorem k189 {base : Nat} {X : Nat → Option mC} {G : Nat → Value} (E : EnvOK base X G) {d : Nat} (hd : 1 ≤ d) {M : mH} (H : HI base M) (said : Int) (h0 : 0 ≤ said ∧ said ≤ 1110) : sOk base X G d T189 [vR 77, vI said] M (pI (fun v M' => M' = M ∧ (-2147483648 ≤ v ∧ v ≤ 2147483647))) := by
  refine sOk.of (show sRn base X G d T189 0 [(0, vR 77), (1, vI said)] [] M _ from ?_)
  refine s_blx (lv' := [(0, vR 77), (1, vI said)]) (st' := [vR 77]) B189_0_1 rfl ?_
  refine r_gint (ki := 7) (pc' := 4) D189_1 rfl gf_11_200_77 rfl H.1 ?_
  intro w1 e2 r3
  unfold inR at r3
  refine s_blx (lv' := [(0, vR 77), (1, vI said)]) (st' := [vI 1, vR 77, vI w1]) B189_4_6 rfl ?_
  refine r_vIp (c := 77) (args := [vI 1]) (rest := [vI w1]) (pc' := 9) D189_6 rfl ck_11_virtual_141 TE153 rfl (Nat.le_of_ble_eq_true rfl) ⟨Nat.le_of_ble_eq_true rfl, Nat.le_of_ble_eq_true rfl⟩ sc_77 ⟨rfl, by decide⟩ H.1 (dp_0 hd rfl) (k153 E (dp_n hd rfl) H 1 (by omega)) ?_
  intro v4 q7
  have q6 := q7; clear q7
  refine s_blx (lv' := [(0, vR 77), (1, vI said)]) (st' := [vR 77, vI v4, vI w1]) B189_9_10 rfl ?_
  refine r_gfix (r := 81) (pc' := 13) D189_10 rfl gf_11_24_77 H.1 ?_
  refine s_blx (lv' := [(0, vR 77), (1, vI said)]) (st' := [vI said, vR 81, vI v4, vI w1]) B189_13_14 rfl ?_
  refine r_iald (pc' := 15) D189_14 rfl sc_81 H.1 (by omega) ?_
  intro w8 e9 r10
  have b_w8 := H.2 81 (said) 0 3 rfl
  rw [← e9] at b_w8; clear r10
  refine s_blx (lv' := [(2, vI (w1 - (v4 * w8))), (0, vR 77), (1, vI said)]) (st' := [vI (w1 - (v4 * w8))]) B189_15_19 rfl ?_
  refine r_norm ?_
  intro z11 r12 _; unfold inR at r12
  refine r_ifc (tgt := 26) (pc' := 22) D189_19 rfl rfl (by unfold inR; omega) (fun (c13 : 0 ≤ z11) => ?_) (fun (c13 : ¬ (0 ≤ z11)) => ?_)
  · refine s_blx (lv' := [(2, vI (w1 - (v4 * w8))), (0, vR 77), (1, vI said)]) (st' := [vI (w1 - (v4 * w8))]) B189_26_27 rfl ?_
    refine r_norm ?_
    intro z14 r15 _; unfold inR at r15
    exact r_iretI D189_27 rfl (⟨rfl, by omega⟩)
  · refine s_blx (lv' := [(2, vI (w1 - (v4 * w8))), (0, vR 77), (1, vI said)]) (st' := [vI 0]) B189_22_23 rfl ?_
    refine r_goto (tgt := 27) D189_23 rfl ?_
    exact r_iretI D189_27 rfl (⟨rfl, by omega⟩)
set_option maxRecDepth 4000 in
theorem k190 {base : Nat} {X : Nat → Option mC} {G : Nat → Value} (E : EnvOK base X G) {d : Nat} (hd : 2 ≤ d) {M : mH} (H : HI base M) (said : Int) (h0 : 0 ≤ said ∧ said ≤ 1110) : sOk base X G d T190 [vR 77, vI said] M (pI (fun v M' => M' = M ∧ (-2147483648 ≤ v ∧ v ≤ 2147483647))) := by
  refine sOk.of (show sRn base X G d T190 0 [(0, vR 77), (1, vI said)] [] M _ from ?_)
  refine s_blx (lv' := [(0, vR 77), (1, vI said)]) (st' := [vI said, vR 77]) B190_0_2 rfl ?_
  refine r_vIp (c := 77) (args := [vI said]) (rest := []) (pc' := 5) D190_2 rfl ck_11_virtual_231 TE189 rfl (Nat.le_of_ble_eq_true rfl) ⟨Nat.le_of_ble_eq_true rfl, Nat.le_of_ble_eq_true rfl⟩ sc_77 ⟨rfl, by decide⟩ H.1 (dp_0 hd rfl) (k189 E (dp_n hd rfl) H said (by omega)) ?_
  intro v1 q4
  have q3 := q4; clear q4
  refine s_blx (lv' := [(0, vR 77), (1, vI said)]) (st' := [vI 0, vR 77, vI v1]) B190_5_7 rfl ?_
  refine r_vIp (c := 77) (args := [vI 0]) (rest := [vI v1]) (pc' := 10) D190_7 rfl ck_11_virtual_141 TE153 rfl (Nat.le_of_ble_eq_true rfl) ⟨Nat.le_of_ble_eq_true rfl, Nat.le_of_ble_eq_true rfl⟩ sc_77 ⟨rfl, by decide⟩ H.1 (dp_0 hd rfl) (k153 E (dp_n hd rfl) H 0 (by omega)) ?_
  intro v5 q8
  have q7 := q8; clear q8
  refine s_blx (lv' := [(2, vI (v1 - v5)), (0, vR 77), (1, vI said)]) (st' := [vI (v1 - v5)]) B190_10_13 rfl ?_
  refine r_norm ?_
  intro z9 r10 _; unfold inR at r10
  refine r_ifc (tgt := 26) (pc' := 16) D190_13 rfl rfl (by unfold inR; omega) (fun (c11 : z9 ≤ 0) => ?_) (fun (c11 : ¬ (z9 ≤ 0)) => ?_)
  · refine s_blx (lv' := [(2, vI (v1 - v5)), (0, vR 77), (1, vI said)]) (st' := [vR 77, vI 0]) B190_26_28 rfl ?_
    refine r_gint (ki := 9) (pc' := 31) D190_28 rfl gf_11_190_77 rfl H.1 ?_
    intro w12 e13 r14
    have b_w12 := H.2 77 (9) 0 1 rfl
    rw [← e13] at b_w12; clear r14
    refine r_ifc (tgt := 42) (pc' := 34) D190_31 rfl rfl (by unfold inR; omega) (fun (c15 : w12 = 0) => ?_) (fun (c15 : ¬ (w12 = 0)) => ?_)
    · refine s_blx (lv' := [(2, vI (v1 - v5)), (0, vR 77), (1, vI said)]) (st' := [vI (0 + 0)]) B190_42_44 rfl ?_
      exact r_iretI D190_44 rfl (⟨rfl, by omega⟩)
    · refine s_blx (lv' := [(2, vI (v1 - v5)), (0, vR 77), (1, vI said)]) (st' := [vI 3, vR 77, vI 0]) B190_34_36 rfl ?_
      refine r_vIp (c := 77) (args := [vI 3]) (rest := [vI 0]) (pc' := 39) D190_36 rfl ck_11_virtual_141 TE153 rfl (Nat.le_of_ble_eq_true rfl) ⟨Nat.le_of_ble_eq_true rfl, Nat.le_of_ble_eq_true rfl⟩ sc_77 ⟨rfl, by decide⟩ H.1 (dp_0 hd rfl) (k153 E (dp_n hd rfl) H 3 (by omega)) ?_
      intro v16 q19
      have q18 := q19; clear q19
      refine r_goto (tgt := 43) D190_39 rfl ?_
      refine s_blx (lv' := [(2, vI (v1 - v5)), (0, vR 77), (1, vI said)]) (st' := [vI (0 + v16)]) B190_43_44 rfl ?_
      exact r_iretI D190_44 rfl (⟨rfl, by omega⟩)
  · refine s_blx (lv' := [(2, vI (v1 - v5)), (0, vR 77), (1, vI said)]) (st' := [vI 2, vR 77]) B190_16_18 rfl ?_
    refine r_vIp (c := 77) (args := [vI 2]) (rest := []) (pc' := 21) D190_18 rfl ck_11_virtual_141 TE153 rfl (Nat.le_of_ble_eq_true rfl) ⟨Nat.le_of_ble_eq_true rfl, Nat.le_of_ble_eq_true rfl⟩ sc_77 ⟨rfl, by decide⟩ H.1 (dp_0 hd rfl) (k153 E (dp_n hd rfl) H 2 (by omega)) ?_
    intro v20 q23
    have q22 := q23; clear q23
    refine s_blx (lv' := [(2, vI (v1 - v5)), (0, vR 77), (1, vI said)]) (st' := [vI (v20 * (v1 - v5))]) B190_21_23 rfl ?_
    refine r_goto (tgt := 27) D190_23 rfl ?_
    refine s_blx (lv' := [(2, vI (v1 - v5)), (0, vR 77), (1, vI said)]) (st' := [vR 77, vI (v20 * (v1 - v5))]) B190_27_28 rfl ?_
    refine r_gint (ki := 9) (pc' := 31) D190_28 rfl gf_11_190_77 rfl H.1 ?_
    intro w24 e25 r26
    have b_w24 := H.2 77 (9) 0 1 rfl
    rw [← e25] at b_w24; clear r26
    refine r_ifc (tgt := 42) (pc' := 34) D190_31 rfl rfl (by unfold inR; omega) (fun (c27 : w24 = 0) => ?_) (fun (c27 : ¬ (w24 = 0)) => ?_)
    · refine s_blx (lv' := [(2, vI (v1 - v5)), (0, vR 77), (1, vI said)]) (st' := [vI ((v20 * (v1 - v5)) + 0)]) B190_42_44 rfl ?_
      refine r_norm ?_
      intro z28 r29 _; unfold inR at r29
      exact r_iretI D190_44 rfl (⟨rfl, by omega⟩)
    · refine s_blx (lv' := [(2, vI (v1 - v5)), (0, vR 77), (1, vI said)]) (st' := [vI 3, vR 77, vI (v20 * (v1 - v5))]) B190_34_36 rfl ?_
      refine r_vIp (c := 77) (args := [vI 3]) (rest := [vI (v20 * (v1 - v5))]) (pc' := 39) D190_36 rfl ck_11_virtual_141 TE153 rfl (Nat.le_of_ble_eq_true rfl) ⟨Nat.le_of_ble_eq_true rfl, Nat.le_of_ble_eq_true rfl⟩ sc_77 ⟨rfl, by decide⟩ H.1 (dp_0 hd rfl) (k153 E (dp_n hd rfl) H 3 (by omega)) ?_
      intro v30 q33
      have q32 := q33; clear q33
      refine r_goto (tgt := 43) D190_39 rfl ?_
      refine s_blx (lv' := [(2, vI (v1 - v5)), (0, vR 77), (1, vI said)]) (st' := [vI ((v20 * (v1 - v5)) + v30)]) B190_43_44 rfl ?_
      refine r_norm ?_
      intro z34 r35 _; unfold inR at r35
      exact r_iretI D190_44 rfl (⟨rfl, by omega⟩)
set_option maxRecDepth 4000 in
theorem L_k191 {base : Nat} {X : Nat → Option mC} {G : Nat → Value} (E : EnvOK base X G) {d : Nat} (hd : 1 ≤ d) {M : mH} (H : HI base M) (said : Int) (s : Int) (h0 : 0 ≤ said ∧ said ≤ 1110) (h1 : 0 ≤ s ∧ s ≤ 15) : ∀ mz : Nat, (∀ (x3 x4 : Int), (0 ≤ x3) → (0 ≤ x4) → (x4 ≤ 3) → (3 - x4) * 1 + 0 < (mz : Int) → sRn base X G d T191 5 [(0, vR 77), (1, vI said), (2, vI s), (3, vI x3), (4, vI x4)] [] M (s_Q base (pI (fun v M' => M' = M ∧ (-2147483648 ≤ v ∧ v ≤ 2147483647))))) := by
  intro mz
  induction mz with
  | zero => exact fun x3 x4 z0 z1 z2 z3 => by omega
  | succ mz ih =>
    intro x3 x4 i0 i1 i2 hmu
    refine s_blx (lv' := [(0, vR 77), (1, vI said), (2, vI s), (3, vI x3), (4, vI x4)]) (st' := [vI 3, vI x4]) B191_5_8 rfl ?_
    refine r_icmp (tgt := 80) (pc' := 11) D191_8 rfl rfl (by unfold inR; omega) (fun (c1 : 3 ≤ x4) => ?_) (fun (c1 : ¬ (3 ≤ x4)) => ?_)
    · refine s_blx (lv' := [(0, vR 77), (1, vI said), (2, vI s), (3, vI x3), (4, vI x4)]) (st' := [vI x3]) B191_80_81 rfl ?_
      refine r_norm ?_
      intro z2 r3 _; unfold inR at r3
      exact r_iretI D191_81 rfl (⟨rfl, by omega⟩)
    · refine s_blx (lv' := [(0, vR 77), (1, vI said), (2, vI s), (3, vI x3), (4, vI x4)]) (st' := [vR 77]) B191_11_12 rfl ?_
      refine r_gfix (r := 82) (pc' := 15) D191_12 rfl gf_11_27_77 H.1 ?_
      refine s_blx (lv' := [(0, vR 77), (1, vI said), (2, vI s), (3, vI x3), (4, vI x4)]) (st' := [vI ((3 * said) + x4), vR 82]) B191_15_21 rfl ?_
      refine r_iald (pc' := 22) D191_21 rfl sc_82 H.1 (by omega) ?_
      intro w4 e5 r6
      have b_w4 := H.2 82 ((3 * said) + x4) 0 9 rfl
      rw [← e5] at b_w4; clear r6
      refine s_blx (lv' := [(5, vI w4), (0, vR 77), (1, vI said), (2, vI s), (3, vI x3), (4, vI x4)]) (st' := [vI 9, vI w4, vI x3]) B191_22_29 rfl ?_
      refine r_icmp (tgt := 40) (pc' := 32) D191_29 rfl rfl (by unfold inR; omega) (fun (c7 : w4 ≠ 9) => ?_) (fun (c7 : ¬ (w4 ≠ 9)) => ?_)
      · refine s_blx (lv' := [(5, vI w4), (0, vR 77), (1, vI said), (2, vI s), (3, vI x3), (4, vI x4)]) (st' := [vI 8, vI w4, vI x3]) B191_40_44 rfl ?_
        refine r_icmp (tgt := 71) (pc' := 47) D191_44 rfl rfl (by unfold inR; omega) (fun (c8 : 8 ≤ w4) => ?_) (fun (c8 : ¬ (8 ≤ w4)) => ?_)
        · refine s_blx (lv' := [(4, vI (x4 + 1)), (3, vI (x3 + 0)), (5, vI w4), (0, vR 77), (1, vI said), (2, vI s)]) (st' := []) B191_71_77 rfl ?_
          refine r_goto (tgt := 5) D191_77 rfl ?_
          refine r_loc (lv' := [(0, vR 77), (1, vI said), (2, vI s), (3, vI (x3 + 0)), (4, vI (x4 + 1))]) ⟨rfl, rfl, rfl, rfl, rfl, trivial⟩ rfl rfl ?_
          exact ih (x3 + 0) (x4 + 1) (by omega) (by omega) (by omega) (by omega)
        · refine s_blx (lv' := [(5, vI w4), (0, vR 77), (1, vI said), (2, vI s), (3, vI x3), (4, vI x4)]) (st' := [vI x4, vR 77, vI s, vR 77, vI w4, vI x3]) B191_47_54 rfl ?_
          refine r_vIp (c := 77) (args := [vI x4]) (rest := [vI s, vR 77, vI w4, vI x3]) (pc' := 57) D191_54 rfl ck_11_virtual_206 TE182 rfl (Nat.le_of_ble_eq_true rfl) ⟨Nat.le_of_ble_eq_true rfl, Nat.le_of_ble_eq_true rfl⟩ sc_77 ⟨rfl, by decide⟩ H.1 (dp_0 hd rfl) (k182 E (dp_n hd rfl) H x4 (by omega)) ?_
          intro v9 q12
          have q11 := q12; clear q12
          refine r_vIp (c := 77) (args := [vI s, vI v9]) (rest := [vI w4, vI x3]) (pc' := 60) D191_57 rfl ck_11_virtual_161 TE158 rfl (Nat.le_of_ble_eq_true rfl) ⟨Nat.le_of_ble_eq_true rfl, Nat.le_of_ble_eq_true rfl⟩ sc_77 ⟨rfl, by decide⟩ H.1 (dp_0 hd rfl) (k158 E (dp_n hd rfl) H s v9 (by omega) (by omega)) ?_
          intro v13 q16
          have q15 := q16; clear q16
          refine r_icmp (tgt := 71) (pc' := 63) D191_60 rfl rfl (by unfold inR; omega) (fun (c17 : w4 = v13) => ?_) (fun (c17 : ¬ (w4 = v13)) => ?_)
          · refine s_blx (lv' := [(4, vI (x4 + 1)), (3, vI (x3 + 0)), (5, vI w4), (0, vR 77), (1, vI said), (2, vI s)]) (st' := []) B191_71_77 rfl ?_
            refine r_goto (tgt := 5) D191_77 rfl ?_
            refine r_loc (lv' := [(0, vR 77), (1, vI said), (2, vI s), (3, vI (x3 + 0)), (4, vI (x4 + 1))]) ⟨rfl, rfl, rfl, rfl, rfl, trivial⟩ rfl rfl ?_
            exact ih (x3 + 0) (x4 + 1) (by omega) (by omega) (by omega) (by omega)
          · refine s_blx (lv' := [(5, vI w4), (0, vR 77), (1, vI said), (2, vI s), (3, vI x3), (4, vI x4)]) (st' := [vI 4, vR 77, vI x3]) B191_63_65 rfl ?_
            refine r_vIp (c := 77) (args := [vI 4]) (rest := [vI x3]) (pc' := 68) D191_65 rfl ck_11_virtual_141 TE153 rfl (Nat.le_of_ble_eq_true rfl) ⟨Nat.le_of_ble_eq_true rfl, Nat.le_of_ble_eq_true rfl⟩ sc_77 ⟨rfl, by decide⟩ H.1 (dp_0 hd rfl) (k153 E (dp_n hd rfl) H 4 (by omega)) ?_
            intro v18 q21
            have q20 := q21; clear q21
            refine r_goto (tgt := 72) D191_68 rfl ?_
            refine s_blx (lv' := [(4, vI (x4 + 1)), (3, vI (x3 + v18)), (5, vI w4), (0, vR 77), (1, vI said), (2, vI s)]) (st' := []) B191_72_77 rfl ?_
            refine r_goto (tgt := 5) D191_77 rfl ?_
            refine r_loc (lv' := [(0, vR 77), (1, vI said), (2, vI s), (3, vI (x3 + v18)), (4, vI (x4 + 1))]) ⟨rfl, rfl, rfl, rfl, rfl, trivial⟩ rfl rfl ?_
            exact ih (x3 + v18) (x4 + 1) (by omega) (by omega) (by omega) (by omega)
      · refine s_blx (lv' := [(5, vI w4), (0, vR 77), (1, vI said), (2, vI s), (3, vI x3), (4, vI x4)]) (st' := [vI 5, vR 77, vI x3]) B191_32_34 rfl ?_
        refine r_vIp (c := 77) (args := [vI 5]) (rest := [vI x3]) (pc' := 37) D191_34 rfl ck_11_virtual_141 TE153 rfl (Nat.le_of_ble_eq_true rfl) ⟨Nat.le_of_ble_eq_true rfl, Nat.le_of_ble_eq_true rfl⟩ sc_77 ⟨rfl, by decide⟩ H.1 (dp_0 hd rfl) (k153 E (dp_n hd rfl) H 5 (by omega)) ?_
        intro v22 q25
        have q24 := q25; clear q25
        refine r_goto (tgt := 72) D191_37 rfl ?_
        refine s_blx (lv' := [(4, vI (x4 + 1)), (3, vI (x3 + v22)), (5, vI w4), (0, vR 77), (1, vI said), (2, vI s)]) (st' := []) B191_72_77 rfl ?_
        refine r_goto (tgt := 5) D191_77 rfl ?_
        refine r_loc (lv' := [(0, vR 77), (1, vI said), (2, vI s), (3, vI (x3 + v22)), (4, vI (x4 + 1))]) ⟨rfl, rfl, rfl, rfl, rfl, trivial⟩ rfl rfl ?_
        exact ih (x3 + v22) (x4 + 1) (by omega) (by omega) (by omega) (by omega)
set_option maxRecDepth 4000 in
theorem k191 {base : Nat} {X : Nat → Option mC} {G : Nat → Value} (E : EnvOK base X G) {d : Nat} (hd : 1 ≤ d) {M : mH} (H : HI base M) (said : Int) (s : Int) (h0 : 0 ≤ said ∧ said ≤ 1110) (h1 : 0 ≤ s ∧ s ≤ 15) : sOk base X G d T191 [vR 77, vI said, vI s] M (pI (fun v M' => M' = M ∧ (-2147483648 ≤ v ∧ v ≤ 2147483647))) := by
  refine sOk.of (show sRn base X G d T191 0 [(0, vR 77), (1, vI said), (2, vI s)] [] M _ from ?_)
  refine s_blx (lv' := [(4, vI 0), (3, vI 0), (0, vR 77), (1, vI said), (2, vI s)]) (st' := []) B191_0_5 rfl ?_
  refine r_loc (lv' := [(0, vR 77), (1, vI said), (2, vI s), (3, vI 0), (4, vI 0)]) ⟨rfl, rfl, rfl, rfl, rfl, trivial⟩ rfl rfl ?_
  exact (L_k191 E hd H said s h0 h1 (((3 - 0) * 1 + 0 : Int) + 1).toNat) 0 0 (by omega) (by omega) (by omega) (by omega)
set_option maxRecDepth 4000 in
theorem k192 {base : Nat} {X : Nat → Option mC} {G : Nat → Value} (E : EnvOK base X G) {d : Nat} (hd : 0 ≤ d) {M : mH} (H : HI base M) (k : Int) (h0 : 0 ≤ k ∧ k ≤ 15) : sOk base X G d T192 [vI k] M (pI (fun v M' => M' = M ∧ (0 ≤ v ∧ v ≤ 22))) := by
  refine sOk.of (show sRn base X G d T192 0 [(0, vI k)] [] M _ from ?_)
  refine s_blx (lv' := [(0, vI k)]) (st' := [vI 5, vI k]) B192_0_2 rfl ?_
  refine r_icmp (tgt := 9) (pc' := 5) D192_2 rfl rfl (by unfold inR; omega) (fun (c1 : 5 ≤ k) => ?_) (fun (c1 : ¬ (5 ≤ k)) => ?_)
  · refine s_blx (lv' := [(0, vI k)]) (st' := [vI 13, vI k]) B192_9_12 rfl ?_
    refine r_icmp (tgt := 21) (pc' := 15) D192_12 rfl rfl (by unfold inR; omega) (fun (c2 : 13 ≤ k) => ?_) (fun (c2 : ¬ (13 ≤ k)) => ?_)
    · refine s_blx (lv' := [(0, vI k)]) (st' := [vI (7 + k)]) B192_21_25 rfl ?_
      exact r_iretI D192_25 rfl (⟨rfl, by omega⟩)
    · refine s_blx (lv' := [(0, vI k)]) (st' := [vI (5 + k)]) B192_15_18 rfl ?_
      refine r_goto (tgt := 25) D192_18 rfl ?_
      exact r_iretI D192_25 rfl (⟨rfl, by omega⟩)
  · refine s_blx (lv' := [(0, vI k)]) (st' := [vI k]) B192_5_6 rfl ?_
    refine r_goto (tgt := 25) D192_6 rfl ?_
    exact r_iretI D192_25 rfl (⟨rfl, by omega⟩)
set_option maxRecDepth 4000 in
theorem k194 {base : Nat} {X : Nat → Option mC} {G : Nat → Value} (E : EnvOK base X G) {d : Nat} (hd : 0 ≤ d) {M : mH} (H : HI base M) (at_ : Int) (said : Int) (least : Int) (move : Int) (h0 : 0 ≤ at_ ∧ at_ ≤ 143) (h1 : 0 ≤ said ∧ said ≤ 1110) (h2 : -2147483648 ≤ move ∧ move ≤ 2147483647) : sOk base X G d T194 [vR 77, vI at_, vI said, vL least, vI move] M (pV (fun M' => HI base M' ∧ Fr [(86, 0), (87, 0)] M M')) := by
  have f0 : Fr [(86, 0), (87, 0)] M M := Fr.rf
  refine sOk.of (show sRn base X G d T194 0 [(0, vR 77), (1, vI at_), (2, vI said), (3, vL least), (5, vI move)] [] M _ from ?_)
  refine s_blx (lv' := [(0, vR 77), (1, vI at_), (2, vI said), (3, vL least), (5, vI move)]) (st' := [vR 77]) B194_0_1 rfl ?_
  refine r_gfix (r := 86) (pc' := 4) D194_1 rfl gf_11_40_77 H.1 ?_
  refine s_blx (lv' := [(0, vR 77), (1, vI at_), (2, vI said), (3, vL least), (5, vI move)]) (st' := [vL least, vI ((1111 * at_) + said), vR 86]) B194_4_12 rfl ?_
  refine r_normL ?_
  intro z1 r2 _; unfold inJ at r2
  refine r_last (pc' := 13) D194_12 rfl sc_86 H (by omega) (by unfold inJ; omega) trivial ?_
  intro M3 u4 H5 p6
  have f7 := f0.wr u4 rfl
  refine s_blx (lv' := [(0, vR 77), (1, vI at_), (2, vI said), (3, vL least), (5, vI move)]) (st' := [vR 77]) B194_13_14 rfl ?_
  refine r_gint (ki := 24) (pc' := 17) D194_14 rfl gf_11_234_77 rfl H5.1 ?_
  intro w8 e9 r10
  have b_w8 := H5.2 77 (24) 0 1 rfl
  rw [← e9] at b_w8; clear r10
  refine r_ifc (tgt := 34) (pc' := 20) D194_17 rfl rfl (by unfold inR; omega) (fun (c11 : w8 = 0) => ?_) (fun (c11 : ¬ (w8 = 0)) => ?_)
  · exact r_retV D194_34 rfl (⟨H5, f7⟩)
  · refine s_blx (lv' := [(0, vR 77), (1, vI at_), (2, vI said), (3, vL least), (5, vI move)]) (st' := [vR 77]) B194_20_21 rfl ?_
    refine r_gfix (r := 87) (pc' := 24) D194_21 rfl gf_11_44_77 H5.1 ?_
    refine s_blx (lv' := [(0, vR 77), (1, vI at_), (2, vI said), (3, vL least), (5, vI move)]) (st' := [vI move, vI ((1111 * at_) + said), vR 87]) B194_24_33 rfl ?_
    refine r_iast (pc' := 34) D194_33 rfl sc_87 H5 (by omega) (by unfold inR; omega) trivial ?_
    intro M12 u13 H14 p15
    have f16 := f7.wr u13 rfl
    exact r_retV D194_34 rfl (⟨H14, f16⟩)
set_option maxRecDepth 4000 in
theorem L_k195 {base : Nat} {X : Nat → Option mC} {G : Nat → Value} (E : EnvOK base X G) {d : Nat} (hd : 1 ≤ d) {M : mH} (H : HI base M) (said : Int) (s : Int) (h0 : 0 ≤ said ∧ said ≤ 1110) (h1 : 0 ≤ s ∧ s ≤ 15) : ∀ mz : Nat, (∀ (x3 x4 : Int), (0 ≤ x3) → (0 ≤ x4) → (x4 ≤ 3) → (3 - x4) * 1 + 0 < (mz : Int) → sRn base X G d T195 5 [(0, vR 77), (1, vI said), (2, vI s), (3, vI x3), (4, vI x4)] [] M (s_Q base (pI (fun v M' => M' = M ∧ (-2147483648 ≤ v ∧ v ≤ 2147483647))))) := by
  intro mz
  induction mz with
  | zero => exact fun x3 x4 z0 z1 z2 z3 => by omega
  | succ mz ih =>
    intro x3 x4 i0 i1 i2 hmu
    refine s_blx (lv' := [(0, vR 77), (1, vI said), (2, vI s), (3, vI x3), (4, vI x4)]) (st' := [vR 77, vI x4]) B195_5_8 rfl ?_
    refine r_gfix (r := 81) (pc' := 11) D195_8 rfl gf_11_24_77 H.1 ?_
    refine s_blx (lv' := [(0, vR 77), (1, vI said), (2, vI s), (3, vI x3), (4, vI x4)]) (st' := [vI said, vR 81, vI x4]) B195_11_12 rfl ?_
    refine r_iald (pc' := 13) D195_12 rfl sc_81 H.1 (by omega) ?_
    intro w1 e2 r3
    have b_w1 := H.2 81 (said) 0 3 rfl
    rw [← e2] at b_w1; clear r3
    refine r_icmp (tgt := 71) (pc' := 16) D195_13 rfl rfl (by unfold inR; omega) (fun (c4 : w1 ≤ x4) => ?_) (fun (c4 : ¬ (w1 ≤ x4)) => ?_)
    · refine s_blx (lv' := [(0, vR 77), (1, vI said), (2, vI s), (3, vI x3), (4, vI x4)]) (st' := [vI x3]) B195_71_72 rfl ?_
      refine r_norm ?_
      intro z5 r6 _; unfold inR at r6
      exact r_iretI D195_72 rfl (⟨rfl, by omega⟩)
    · refine s_blx (lv' := [(0, vR 77), (1, vI said), (2, vI s), (3, vI x3), (4, vI x4)]) (st' := [vR 77, vI x3]) B195_16_18 rfl ?_
      refine r_gfix (r := 82) (pc' := 21) D195_18 rfl gf_11_27_77 H.1 ?_
      refine s_blx (lv' := [(0, vR 77), (1, vI said), (2, vI s), (3, vI x3), (4, vI x4)]) (st' := [vI ((3 * said) + x4), vR 82, vI x3]) B195_21_27 rfl ?_
      refine r_iald (pc' := 28) D195_27 rfl sc_82 H.1 (by omega) ?_
      intro w7 e8 r9
      have b_w7 := H.2 82 ((3 * said) + x4) 0 9 rfl
      rw [← e8] at b_w7; clear r9
      refine s_blx (lv' := [(0, vR 77), (1, vI said), (2, vI s), (3, vI x3), (4, vI x4)]) (st' := [vI 8, vI w7, vI x3]) B195_28_30 rfl ?_
      refine r_icmp (tgt := 62) (pc' := 33) D195_30 rfl rfl (by unfold inR; omega) (fun (c10 : 8 ≤ w7) => ?_) (fun (c10 : ¬ (8 ≤ w7)) => ?_)
      · refine s_blx (lv' := [(4, vI (x4 + 1)), (3, vI (x3 + 0)), (0, vR 77), (1, vI said), (2, vI s)]) (st' := []) B195_62_68 rfl ?_
        refine r_goto (tgt := 5) D195_68 rfl ?_
        refine r_loc (lv' := [(0, vR 77), (1, vI said), (2, vI s), (3, vI (x3 + 0)), (4, vI (x4 + 1))]) ⟨rfl, rfl, rfl, rfl, rfl, trivial⟩ rfl rfl ?_
        exact ih (x3 + 0) (x4 + 1) (by omega) (by omega) (by omega) (by omega)
      · refine s_blx (lv' := [(0, vR 77), (1, vI said), (2, vI s), (3, vI x3), (4, vI x4)]) (st' := [vR 77, vI x3]) B195_33_34 rfl ?_
        refine r_gfix (r := 82) (pc' := 37) D195_34 rfl gf_11_27_77 H.1 ?_
        refine s_blx (lv' := [(0, vR 77), (1, vI said), (2, vI s), (3, vI x3), (4, vI x4)]) (st' := [vI ((3 * said) + x4), vR 82, vI x3]) B195_37_43 rfl ?_
        refine r_iald (pc' := 44) D195_43 rfl sc_82 H.1 (by omega) ?_
        intro w11 e12 r13
        have e14 : w7 = w11 := (e12.trans (e8.symm)).symm
        subst e14
        refine s_blx (lv' := [(0, vR 77), (1, vI said), (2, vI s), (3, vI x3), (4, vI x4)]) (st' := [vI x4, vR 77, vI s, vR 77, vI w7, vI x3]) B195_44_49 rfl ?_
        refine r_vIp (c := 77) (args := [vI x4]) (rest := [vI s, vR 77, vI w7, vI x3]) (pc' := 52) D195_49 rfl ck_11_virtual_206 TE182 rfl (Nat.le_of_ble_eq_true rfl) ⟨Nat.le_of_ble_eq_true rfl, Nat.le_of_ble_eq_true rfl⟩ sc_77 ⟨rfl, by decide⟩ H.1 (dp_0 hd rfl) (k182 E (dp_n hd rfl) H x4 (by omega)) ?_
        intro v15 q18
        have q17 := q18; clear q18
        refine r_vIp (c := 77) (args := [vI s, vI v15]) (rest := [vI w7, vI x3]) (pc' := 55) D195_52 rfl ck_11_virtual_161 TE158 rfl (Nat.le_of_ble_eq_true rfl) ⟨Nat.le_of_ble_eq_true rfl, Nat.le_of_ble_eq_true rfl⟩ sc_77 ⟨rfl, by decide⟩ H.1 (dp_0 hd rfl) (k158 E (dp_n hd rfl) H s v15 (by omega) (by omega)) ?_
        intro v19 q22
        have q21 := q22; clear q22
        refine r_icmp (tgt := 62) (pc' := 58) D195_55 rfl rfl (by unfold inR; omega) (fun (c23 : w7 = v19) => ?_) (fun (c23 : ¬ (w7 = v19)) => ?_)
        · refine s_blx (lv' := [(4, vI (x4 + 1)), (3, vI (x3 + 0)), (0, vR 77), (1, vI said), (2, vI s)]) (st' := []) B195_62_68 rfl ?_
          refine r_goto (tgt := 5) D195_68 rfl ?_
          refine r_loc (lv' := [(0, vR 77), (1, vI said), (2, vI s), (3, vI (x3 + 0)), (4, vI (x4 + 1))]) ⟨rfl, rfl, rfl, rfl, rfl, trivial⟩ rfl rfl ?_
          exact ih (x3 + 0) (x4 + 1) (by omega) (by omega) (by omega) (by omega)
        · refine s_blx (lv' := [(0, vR 77), (1, vI said), (2, vI s), (3, vI x3), (4, vI x4)]) (st' := [vI 1, vI x3]) B195_58_59 rfl ?_
          refine r_goto (tgt := 63) D195_59 rfl ?_
          refine s_blx (lv' := [(4, vI (x4 + 1)), (3, vI (x3 + 1)), (0, vR 77), (1, vI said), (2, vI s)]) (st' := []) B195_63_68 rfl ?_
          refine r_goto (tgt := 5) D195_68 rfl ?_
          refine r_loc (lv' := [(0, vR 77), (1, vI said), (2, vI s), (3, vI (x3 + 1)), (4, vI (x4 + 1))]) ⟨rfl, rfl, rfl, rfl, rfl, trivial⟩ rfl rfl ?_
          exact ih (x3 + 1) (x4 + 1) (by omega) (by omega) (by omega) (by omega)
set_option maxRecDepth 4000 in
theorem k195 {base : Nat} {X : Nat → Option mC} {G : Nat → Value} (E : EnvOK base X G) {d : Nat} (hd : 1 ≤ d) {M : mH} (H : HI base M) (said : Int) (s : Int) (h0 : 0 ≤ said ∧ said ≤ 1110) (h1 : 0 ≤ s ∧ s ≤ 15) : sOk base X G d T195 [vR 77, vI said, vI s] M (pI (fun v M' => M' = M ∧ (-2147483648 ≤ v ∧ v ≤ 2147483647))) := by
  refine sOk.of (show sRn base X G d T195 0 [(0, vR 77), (1, vI said), (2, vI s)] [] M _ from ?_)
  refine s_blx (lv' := [(4, vI 0), (3, vI 0), (0, vR 77), (1, vI said), (2, vI s)]) (st' := []) B195_0_5 rfl ?_
  refine r_loc (lv' := [(0, vR 77), (1, vI said), (2, vI s), (3, vI 0), (4, vI 0)]) ⟨rfl, rfl, rfl, rfl, rfl, trivial⟩ rfl rfl ?_
  exact (L_k195 E hd H said s h0 h1 (((3 - 0) * 1 + 0 : Int) + 1).toNat) 0 0 (by omega) (by omega) (by omega) (by omega)
set_option maxRecDepth 4000 in
theorem k203 {base : Nat} {X : Nat → Option mC} {G : Nat → Value} (E : EnvOK base X G) {d : Nat} (hd : 1 ≤ d) {M : mH} (H : HI base M) (s : Int) (h0 : -2147483648 ≤ s ∧ s ≤ 2147483647) : sOk base X G d T203 [vR 77, vI s] M (pI (fun v M' => M' = M ∧ (v = 0 ∨ v = 1) ∧ (v = 1 → 0 ≤ s ∧ s ≤ 15))) := by
  refine sOk.of (show sRn base X G d T203 0 [(0, vR 77), (1, vI s)] [] M _ from ?_)
  refine s_blx (lv' := [(0, vR 77), (1, vI s)]) (st' := [vR 77]) B203_0_1 rfl ?_
  refine r_gint (ki := 23) (pc' := 4) D203_1 rfl gf_11_287_77 rfl H.1 ?_
  intro w1 e2 r3
  have b_w1 := H.2 77 (23) 0 1 rfl
  rw [← e2] at b_w1; clear r3
  refine r_ifc (tgt := 30) (pc' := 7) D203_4 rfl rfl (by unfold inR; omega) (fun (c4 : w1 = 0) => ?_) (fun (c4 : ¬ (w1 = 0)) => ?_)
  · refine s_blx (lv' := [(0, vR 77), (1, vI s)]) (st' := [vI 0]) B203_30_31 rfl ?_
    exact r_zretI D203_31 rfl (by omega) (⟨rfl, by omega, by omega⟩)
  · refine s_blx (lv' := [(0, vR 77), (1, vI s)]) (st' := [vI 15, vI 0, vI s]) B203_7_11 rfl ?_
    refine r_sIp (args := [vI s, vI 0, vI 15]) (rest := []) (pc' := 14) D203_11 rfl ck_11_static_123 TE147 rfl (Nat.le_of_ble_eq_true rfl) ⟨Nat.le_of_ble_eq_true rfl, Nat.le_of_ble_eq_true rfl⟩ (by decide) (dp_0 hd rfl) (k147 E (dp_n hd rfl) H s 0 15 (by omega) (by omega) (by omega)) ?_
    intro v5 q10
    obtain ⟨q7, q8, q9⟩ := q10
    refine r_ifc (tgt := 30) (pc' := 17) D203_14 rfl rfl (by unfold inR; omega) (fun (c11 : v5 = 0) => ?_) (fun (c11 : ¬ (v5 = 0)) => ?_)
    · refine s_blx (lv' := [(0, vR 77), (1, vI s)]) (st' := [vI 0]) B203_30_31 rfl ?_
      exact r_zretI D203_31 rfl (by omega) (⟨rfl, by omega, by omega⟩)
    · refine s_blx (lv' := [(0, vR 77), (1, vI s)]) (st' := [vR 77]) B203_17_18 rfl ?_
      refine r_gfix (r := 88) (pc' := 21) D203_18 rfl gf_11_47_77 H.1 ?_
      refine s_blx (lv' := [(0, vR 77), (1, vI s)]) (st' := [vI s, vR 88]) B203_21_22 rfl ?_
      refine r_bald (pc' := 23) D203_22 rfl sc_88 (by decide) H.1 (by omega) ?_
      intro w12 e13 r14
      have b_w12 := H.2 88 (s) 0 1 rfl
      rw [← e13] at b_w12; clear r14
      refine r_ifc (tgt := 30) (pc' := 26) D203_23 rfl rfl (by unfold inR; omega) (fun (c15 : w12 = 0) => ?_) (fun (c15 : ¬ (w12 = 0)) => ?_)
      · refine s_blx (lv' := [(0, vR 77), (1, vI s)]) (st' := [vI 0]) B203_30_31 rfl ?_
        exact r_zretI D203_31 rfl (by omega) (⟨rfl, by omega, by omega⟩)
      · refine s_blx (lv' := [(0, vR 77), (1, vI s)]) (st' := [vI 1]) B203_26_27 rfl ?_
        refine r_goto (tgt := 31) D203_27 rfl ?_
        exact r_zretI D203_31 rfl (by omega) (⟨rfl, by omega, by omega⟩)
set_option maxRecDepth 4000 in
theorem k204 {base : Nat} {X : Nat → Option mC} {G : Nat → Value} (E : EnvOK base X G) {d : Nat} (hd : 2 ≤ d) {M : mH} (H : HI base M) (s : Int) (second : Int) (said : Int) (h0 : -2147483648 ≤ s ∧ s ≤ 2147483647) (h1 : -2147483648 ≤ second ∧ second ≤ 2147483647) (h2 : -2147483648 ≤ said ∧ said ≤ 2147483647) : sOk base X G d T204 [vR 77, vI s, vI second, vI said] M (pI (fun v M' => M' = M ∧ True)) := by
  refine sOk.of (show sRn base X G d T204 0 [(0, vR 77), (1, vI s), (2, vI second), (3, vI said)] [] M _ from ?_)
  refine s_blx (lv' := [(0, vR 77), (1, vI s), (2, vI second), (3, vI said)]) (st' := [vI s, vR 77]) B204_0_2 rfl ?_
  refine r_vIp (c := 77) (args := [vI s]) (rest := []) (pc' := 5) D204_2 rfl ck_11_virtual_293 TE203 rfl (Nat.le_of_ble_eq_true rfl) ⟨Nat.le_of_ble_eq_true rfl, Nat.le_of_ble_eq_true rfl⟩ sc_77 ⟨rfl, by decide⟩ H.1 (dp_0 hd rfl) (k203 E (dp_n hd rfl) H s (by omega)) ?_
  intro v1 q5
  obtain ⟨q3, q4⟩ := q5
  refine r_ifc (tgt := 33) (pc' := 8) D204_5 rfl rfl (by unfold inR; omega) (fun (c6 : v1 = 0) => ?_) (fun (c6 : ¬ (v1 = 0)) => ?_)
  · refine s_blx (lv' := [(0, vR 77), (1, vI s), (2, vI second), (3, vI said)]) (st' := [vI (-1)]) B204_33_34 rfl ?_
    exact r_iretI D204_34 rfl (⟨rfl, trivial⟩)
  · refine s_blx (lv' := [(0, vR 77), (1, vI s), (2, vI second), (3, vI said)]) (st' := [vR 77, vI 0, vI second]) B204_8_11 rfl ?_
    refine r_gfix (r := 89) (pc' := 14) D204_11 rfl gf_11_50_77 H.1 ?_
    refine s_blx (lv' := [(0, vR 77), (1, vI s), (2, vI second), (3, vI said)]) (st' := [vI s, vR 89, vI 0, vI second]) B204_14_15 rfl ?_
    refine r_iald (pc' := 16) D204_15 rfl sc_89 H.1 (by omega) ?_
    intro w7 e8 r9
    have b_w7 := H.2 89 (s) 0 8 rfl
    rw [← e8] at b_w7; clear r9
    refine r_sIp (args := [vI second, vI 0, vI w7]) (rest := []) (pc' := 19) D204_16 rfl ck_11_static_123 TE147 rfl (Nat.le_of_ble_eq_true rfl) ⟨Nat.le_of_ble_eq_true rfl, Nat.le_of_ble_eq_true rfl⟩ (by decide) (dp_0 hd rfl) (k147 E (dp_n hd rfl) H second 0 w7 (by omega) (by omega) (by omega)) ?_
    intro v10 q15
    obtain ⟨q12, q13, q14⟩ := q15
    refine r_ifc (tgt := 33) (pc' := 22) D204_19 rfl rfl (by unfold inR; omega) (fun (c16 : v10 = 0) => ?_) (fun (c16 : ¬ (v10 = 0)) => ?_)
    · refine s_blx (lv' := [(0, vR 77), (1, vI s), (2, vI second), (3, vI said)]) (st' := [vI (-1)]) B204_33_34 rfl ?_
      exact r_iretI D204_34 rfl (⟨rfl, trivial⟩)
    · refine s_blx (lv' := [(0, vR 77), (1, vI s), (2, vI second), (3, vI said)]) (st' := [vI 1110, vI 0, vI said]) B204_22_27 rfl ?_
      refine r_sIp (args := [vI said, vI 0, vI 1110]) (rest := []) (pc' := 30) D204_27 rfl ck_11_static_123 TE147 rfl (Nat.le_of_ble_eq_true rfl) ⟨Nat.le_of_ble_eq_true rfl, Nat.le_of_ble_eq_true rfl⟩ (by decide) (dp_0 hd rfl) (k147 E (dp_n hd rfl) H said 0 1110 (by omega) (by omega) (by omega)) ?_
      intro v17 q22
      obtain ⟨q19, q20, q21⟩ := q22
      refine r_ifc (tgt := 35) (pc' := 33) D204_30 rfl rfl (by unfold inR; omega) (fun (c23 : v17 ≠ 0) => ?_) (fun (c23 : ¬ (v17 ≠ 0)) => ?_)
      · refine s_blx (lv' := [(0, vR 77), (1, vI s), (2, vI second), (3, vI said)]) (st' := [vR 77]) B204_35_36 rfl ?_
        refine r_gfix (r := 87) (pc' := 39) D204_36 rfl gf_11_44_77 H.1 ?_
        refine s_blx (lv' := [(0, vR 77), (1, vI s), (2, vI second), (3, vI said)]) (st' := [vR 77, vI 1111, vR 87]) B204_39_43 rfl ?_
        refine r_gfix (r := 90) (pc' := 46) D204_43 rfl gf_11_53_77 H.1 ?_
        refine s_blx (lv' := [(0, vR 77), (1, vI s), (2, vI second), (3, vI said)]) (st' := [vI ((9 * s) + second), vR 90, vI 1111, vR 87]) B204_46_52 rfl ?_
        refine r_iald (pc' := 53) D204_52 rfl sc_90 H.1 (by omega) ?_
        intro w24 e25 r26
        have b_w24 := H.2 90 ((9 * s) + second) 0 143 rfl
        rw [← e25] at b_w24; clear r26
        refine s_blx (lv' := [(0, vR 77), (1, vI s), (2, vI second), (3, vI said)]) (st' := [vI ((1111 * w24) + said), vR 87]) B204_53_56 rfl ?_
        refine r_iald (pc' := 57) D204_56 rfl sc_87 H.1 (by omega) ?_
        intro w27 e28 r29
        unfold inR at r29
        exact r_iretI D204_57 rfl (⟨rfl, trivial⟩)
      · refine s_blx (lv' := [(0, vR 77), (1, vI s), (2, vI second), (3, vI said)]) (st' := [vI (-1)]) B204_33_34 rfl ?_
        exact r_iretI D204_34 rfl (⟨rfl, trivial⟩)
set_option maxRecDepth 4000 in
theorem k205 {base : Nat} {X : Nat → Option mC} {G : Nat → Value} (E : EnvOK base X G) {d : Nat} (hd : 2 ≤ d) {M : mH} (H : HI base M) (s : Int) (second : Int) (h0 : -2147483648 ≤ s ∧ s ≤ 2147483647) (h1 : -2147483648 ≤ second ∧ second ≤ 2147483647) : sOk base X G d T205 [vR 77, vI s, vI second] M (pI (fun v M' => M' = M ∧ True)) := by
  refine sOk.of (show sRn base X G d T205 0 [(0, vR 77), (1, vI s), (2, vI second)] [] M _ from ?_)
  refine s_blx (lv' := [(0, vR 77), (1, vI s), (2, vI second)]) (st' := [vI s, vR 77]) B205_0_2 rfl ?_
  refine r_vIp (c := 77) (args := [vI s]) (rest := []) (pc' := 5) D205_2 rfl ck_11_virtual_293 TE203 rfl (Nat.le_of_ble_eq_true rfl) ⟨Nat.le_of_ble_eq_true rfl, Nat.le_of_ble_eq_true rfl⟩ sc_77 ⟨rfl, by decide⟩ H.1 (dp_0 hd rfl) (k203 E (dp_n hd rfl) H s (by omega)) ?_
  intro v1 q5
  obtain ⟨q3, q4⟩ := q5
  refine r_ifc (tgt := 38) (pc' := 8) D205_5 rfl rfl (by unfold inR; omega) (fun (c6 : v1 = 0) => ?_) (fun (c6 : ¬ (v1 = 0)) => ?_)
  · refine s_blx (lv' := [(0, vR 77), (1, vI s), (2, vI second)]) (st' := [vI (-1)]) B205_38_39 rfl ?_
    exact r_iretI D205_39 rfl (⟨rfl, trivial⟩)
  · refine s_blx (lv' := [(0, vR 77), (1, vI s), (2, vI second)]) (st' := [vR 77, vI 0, vI second]) B205_8_11 rfl ?_
    refine r_gfix (r := 92) (pc' := 14) D205_11 rfl gf_11_59_77 H.1 ?_
    refine s_blx (lv' := [(0, vR 77), (1, vI s), (2, vI second)]) (st' := [vI s, vR 92, vI 0, vI second]) B205_14_15 rfl ?_
    refine r_iald (pc' := 16) D205_15 rfl sc_92 H.1 (by omega) ?_
    intro w7 e8 r9
    have b_w7 := H.2 92 (s) 0 24 rfl
    rw [← e8] at b_w7; clear r9
    refine s_blx (lv' := [(0, vR 77), (1, vI s), (2, vI second)]) (st' := [vI (w7 - 1), vI 0, vI second]) B205_16_18 rfl ?_
    refine r_sIp (args := [vI second, vI 0, vI (w7 - 1)]) (rest := []) (pc' := 21) D205_18 rfl ck_11_static_123 TE147 rfl (Nat.le_of_ble_eq_true rfl) ⟨Nat.le_of_ble_eq_true rfl, Nat.le_of_ble_eq_true rfl⟩ (by decide) (dp_0 hd rfl) (k147 E (dp_n hd rfl) H second 0 (w7 - 1) (by omega) (by omega) (by omega)) ?_
    intro v10 q15
    obtain ⟨q12, q13, q14⟩ := q15
    refine r_ifc (tgt := 38) (pc' := 24) D205_21 rfl rfl (by unfold inR; omega) (fun (c16 : v10 = 0) => ?_) (fun (c16 : ¬ (v10 = 0)) => ?_)
    · refine s_blx (lv' := [(0, vR 77), (1, vI s), (2, vI second)]) (st' := [vI (-1)]) B205_38_39 rfl ?_
      exact r_iretI D205_39 rfl (⟨rfl, trivial⟩)
    · refine s_blx (lv' := [(0, vR 77), (1, vI s), (2, vI second)]) (st' := [vR 77]) B205_24_25 rfl ?_
      refine r_gfix (r := 91) (pc' := 28) D205_25 rfl gf_11_56_77 H.1 ?_
      refine s_blx (lv' := [(0, vR 77), (1, vI s), (2, vI second)]) (st' := [vI ((24 * s) + second), vR 91]) B205_28_34 rfl ?_
      refine r_iald (pc' := 35) D205_34 rfl sc_91 H.1 (by omega) ?_
      intro w17 e18 r19
      unfold inR at r19
      refine r_goto (tgt := 39) D205_35 rfl ?_
      exact r_iretI D205_39 rfl (⟨rfl, trivial⟩)
set_option maxRecDepth 4000 in
theorem L_k208 {base : Nat} {X : Nat → Option mC} {G : Nat → Value} (E : EnvOK base X G) {d : Nat} (hd : 1 ≤ d) {M : mH} (H : HI base M) (w : Int) (h0 : -2147483648 ≤ w ∧ w ≤ 2147483647) : ∀ mz : Nat, (∀ (x2 : Int), (0 ≤ x2) → (x2 ≤ 16) → (16 - x2) * 10 + 9 < (mz : Int) → sRn base X G d T208 2 [(0, vR 77), (1, vI w), (2, vI x2)] [] M (s_Q base (pI (fun v M' => M' = M ∧ (v = 0 ∨ v = 1))))) ∧ (∀ (x2 x3 : Int), (0 ≤ x2) → (x2 ≤ 15) → (0 ≤ x3) → (x3 ≤ 8) → (16 - x2) * 10 + 0 + (8 - x3) * 1 + 0 < (mz : Int) → sRn base X G d T208 16 [(0, vR 77), (1, vI w), (2, vI x2), (3, vI x3)] [] M (s_Q base (pI (fun v M' => M' = M ∧ (v = 0 ∨ v = 1))))) := by
  intro mz
  induction mz with
  | zero => exact ⟨fun x2 z0 z1 z2 => by omega, fun x2 x3 z0 z1 z2 z3 z4 => by omega⟩
  | succ mz ih =>
    refine ⟨?_, ?_⟩
    · intro x2 i0 i1 hmu
      refine s_blx (lv' := [(0, vR 77), (1, vI w), (2, vI x2)]) (st' := [vR 77, vI x2]) B208_2_4 rfl ?_
      refine r_gfix (r := 78) (pc' := 7) D208_4 rfl gf_11_13_77 H.1 ?_
      refine s_blx (lv' := [(0, vR 77), (1, vI w), (2, vI x2)]) (st' := [vI 469, vR 78, vI x2]) B208_7_10 rfl ?_
      refine r_iald (pc' := 11) D208_10 rfl sc_78 H.1 (by omega) ?_
      intro w1 e2 r3
      have b_w1 := H.2 78 (469) 0 16 (rk_many (by omega))
      rw [← e2] at b_w1; clear r3
      refine r_icmp (tgt := 57) (pc' := 14) D208_11 rfl rfl (by unfold inR; omega) (fun (c4 : w1 ≤ x2) => ?_) (fun (c4 : ¬ (w1 ≤ x2)) => ?_)
      · refine s_blx (lv' := [(0, vR 77), (1, vI w), (2, vI x2)]) (st' := [vI 0]) B208_57_58 rfl ?_
        exact r_zretI D208_58 rfl (by omega) (⟨rfl, by omega⟩)
      · refine s_blx (lv' := [(3, vI 0), (0, vR 77), (1, vI w), (2, vI x2)]) (st' := []) B208_14_16 rfl ?_
        refine r_loc (lv' := [(0, vR 77), (1, vI w), (2, vI x2), (3, vI 0)]) ⟨rfl, rfl, rfl, rfl, trivial⟩ rfl rfl ?_
        exact ih.2 x2 0 (by omega) (by omega) (by omega) (by omega) (by omega)
    · intro x2 x3 i0 i1 i2 i3 hmu
      refine s_blx (lv' := [(0, vR 77), (1, vI w), (2, vI x2), (3, vI x3)]) (st' := [vI x2, vR 77, vI x3]) B208_16_19 rfl ?_
      refine r_vIp (c := 77) (args := [vI x2]) (rest := [vI x3]) (pc' := 22) D208_19 rfl ck_11_virtual_144 TE156 rfl (Nat.le_of_ble_eq_true rfl) ⟨Nat.le_of_ble_eq_true rfl, Nat.le_of_ble_eq_true rfl⟩ sc_77 ⟨rfl, by decide⟩ H.1 (dp_0 hd rfl) (k156 E (dp_n hd rfl) H x2 (by omega)) ?_
      intro v5 q8
      have q7 := q8; clear q8
      refine r_icmp (tgt := 51) (pc' := 25) D208_22 rfl rfl (by unfold inR; omega) (fun (c9 : v5 ≤ x3) => ?_) (fun (c9 : ¬ (v5 ≤ x3)) => ?_)
      · refine s_blx (lv' := [(2, vI (x2 + 1)), (0, vR 77), (1, vI w), (3, vI x3)]) (st' := []) B208_51_54 rfl ?_
        refine r_goto (tgt := 2) D208_54 rfl ?_
        refine r_loc (lv' := [(0, vR 77), (1, vI w), (2, vI (x2 + 1))]) ⟨rfl, rfl, rfl, trivial⟩ rfl rfl ?_
        exact ih.1 (x2 + 1) (by omega) (by omega) (by omega)
      · refine s_blx (lv' := [(0, vR 77), (1, vI w), (2, vI x2), (3, vI x3)]) (st' := [vI x2, vR 77]) B208_25_27 rfl ?_
        refine r_vIp (c := 77) (args := [vI x2]) (rest := []) (pc' := 30) D208_27 rfl ck_11_virtual_138 TE159 rfl (Nat.le_of_ble_eq_true rfl) ⟨Nat.le_of_ble_eq_true rfl, Nat.le_of_ble_eq_true rfl⟩ sc_77 ⟨rfl, by decide⟩ H.1 (dp_0 hd rfl) (k159 E (dp_n hd rfl) H x2 (by omega)) ?_
        intro v10 q13
        have q12 := q13; clear q13
        refine r_ifc (tgt := 45) (pc' := 33) D208_30 rfl rfl (by unfold inR; omega) (fun (c14 : v10 ≤ 0) => ?_) (fun (c14 : ¬ (v10 ≤ 0)) => ?_)
        · refine s_blx (lv' := [(3, vI (x3 + 1)), (0, vR 77), (1, vI w), (2, vI x2)]) (st' := []) B208_45_48 rfl ?_
          refine r_goto (tgt := 16) D208_48 rfl ?_
          refine r_loc (lv' := [(0, vR 77), (1, vI w), (2, vI x2), (3, vI (x3 + 1))]) ⟨rfl, rfl, rfl, rfl, trivial⟩ rfl rfl ?_
          exact ih.2 x2 (x3 + 1) (by omega) (by omega) (by omega) (by omega) (by omega)
        · refine s_blx (lv' := [(0, vR 77), (1, vI w), (2, vI x2), (3, vI x3)]) (st' := [vI x3, vI x2, vR 77]) B208_33_36 rfl ?_
          refine r_vIp (c := 77) (args := [vI x2, vI x3]) (rest := []) (pc' := 39) D208_36 rfl ck_11_virtual_147 TE157 rfl (Nat.le_of_ble_eq_true rfl) ⟨Nat.le_of_ble_eq_true rfl, Nat.le_of_ble_eq_true rfl⟩ sc_77 ⟨rfl, by decide⟩ H.1 (dp_0 hd rfl) (k157 E (dp_n hd rfl) H x2 x3 (by omega) (by omega)) ?_
          intro v15 q18
          have q17 := q18; clear q18
          refine s_blx (lv' := [(0, vR 77), (1, vI w), (2, vI x2), (3, vI x3)]) (st' := [vI w, vI v15]) B208_39_40 rfl ?_
          refine r_icmp (tgt := 45) (pc' := 43) D208_40 rfl rfl (by unfold inR; omega) (fun (c19 : v15 ≠ w) => ?_) (fun (c19 : ¬ (v15 ≠ w)) => ?_)
          · refine s_blx (lv' := [(3, vI (x3 + 1)), (0, vR 77), (1, vI w), (2, vI x2)]) (st' := []) B208_45_48 rfl ?_
            refine r_goto (tgt := 16) D208_48 rfl ?_
            refine r_loc (lv' := [(0, vR 77), (1, vI w), (2, vI x2), (3, vI (x3 + 1))]) ⟨rfl, rfl, rfl, rfl, trivial⟩ rfl rfl ?_
            exact ih.2 x2 (x3 + 1) (by omega) (by omega) (by omega) (by omega) (by omega)
          · refine s_blx (lv' := [(0, vR 77), (1, vI w), (2, vI x2), (3, vI x3)]) (st' := [vI 1]) B208_43_44 rfl ?_
            exact r_zretI D208_44 rfl (by omega) (⟨rfl, by omega⟩)
set_option maxRecDepth 4000 in
theorem k208 {base : Nat} {X : Nat → Option mC} {G : Nat → Value} (E : EnvOK base X G) {d : Nat} (hd : 1 ≤ d) {M : mH} (H : HI base M) (w : Int) (h0 : -2147483648 ≤ w ∧ w ≤ 2147483647) : sOk base X G d T208 [vR 77, vI w] M (pI (fun v M' => M' = M ∧ (v = 0 ∨ v = 1))) := by
  refine sOk.of (show sRn base X G d T208 0 [(0, vR 77), (1, vI w)] [] M _ from ?_)
  refine s_blx (lv' := [(2, vI 0), (0, vR 77), (1, vI w)]) (st' := []) B208_0_2 rfl ?_
  refine r_loc (lv' := [(0, vR 77), (1, vI w), (2, vI 0)]) ⟨rfl, rfl, rfl, trivial⟩ rfl rfl ?_
  exact (L_k208 E hd H w h0 (((16 - 0) * 10 + 9 : Int) + 1).toNat).1 0 (by omega) (by omega) (by omega)
set_option maxRecDepth 4000 in
theorem L_k210 {base : Nat} {X : Nat → Option mC} {G : Nat → Value} (E : EnvOK base X G) {d : Nat} (hd : 0 ≤ d) {M : mH} (H : HI base M) (a : Int) (b : Int) (c : Int) (d_ : Int) (e : Int) (h0 : -2147483648 ≤ a ∧ a ≤ 2147483647) (h1 : -2147483648 ≤ b ∧ b ≤ 2147483647) (h2 : -2147483648 ≤ c ∧ c ≤ 2147483647) (h3 : -2147483648 ≤ d_ ∧ d_ ≤ 2147483647) (h4 : -2147483648 ≤ e ∧ e ≤ 2147483647) : ∀ mz : Nat, (∀ (x6 : Int) (N : mH), HI base N → Fr [(77, 32), (95, 0), (96, 0)] M N → (gi N 77 31 ≤ 380) → (0 ≤ x6) → (x6 ≤ 20) → (20 - x6) * 1 + 0 < (mz : Int) → sRn base X G d T210 55 [(0, vR 77), (6, vI x6)] [] N (s_Q base (pI (fun v M' => HI base M' ∧ Fr [(77, 32), (95, 0), (96, 0)] M M')))) := by
  have f0 : Fr [(77, 32), (95, 0), (96, 0)] M M := Fr.rf
  intro mz
  induction mz with
  | zero => exact fun x6 N _ _ z0 z1 z2 z3 => by omega
  | succ mz ih =>
    intro x6 N HN fN i0 i1 i2 hmu
    refine s_blx (lv' := [(0, vR 77), (6, vI x6)]) (st' := [vI 20, vI x6]) B210_55_59 rfl ?_
    refine r_icmp (tgt := 101) (pc' := 62) D210_59 rfl rfl (by unfold inR; omega) (fun (c31 : 20 ≤ x6) => ?_) (fun (c31 : ¬ (20 ≤ x6)) => ?_)
    · refine s_blx (lv' := [(0, vR 77), (6, vI x6)]) (st' := [vR 77, vR 77]) B210_101_103 rfl ?_
      refine r_gint (ki := 31) (pc' := 106) D210_103 rfl gf_11_151_77 rfl HN.1 ?_
      intro w32 e33 r34
      have b_w32 := HN.2 77 (31) 0 400 rfl
      rw [← e33] at b_w32; clear r34
      refine s_blx (lv' := [(0, vR 77), (6, vI x6)]) (st' := [vI (w32 + 20), vR 77]) B210_106_109 rfl ?_
      refine r_pint (ki := 31) (pc' := 112) D210_109 rfl pf_11_151_77 rfl HN (by unfold inR; omega) (show 0 ≤ (w32 + 20) ∧ (w32 + 20) ≤ 400 by omega) ?_
      intro M35 u36 H37 p38
      have f39 := fN.wr u36 rfl
      refine s_blx (lv' := [(0, vR 77), (6, vI x6)]) (st' := [vR 77]) B210_112_113 rfl ?_
      refine r_gint (ki := 31) (pc' := 116) D210_113 rfl gf_11_151_77 rfl H37.1 ?_
      intro w40 e41 r42
      have e43 : w32 + 20 = w40 := (e41.trans (p38)).symm
      subst e43
      exact r_iretI D210_116 rfl (⟨H37, f39⟩)
    · refine s_blx (lv' := [(0, vR 77), (6, vI x6)]) (st' := [vR 77]) B210_62_63 rfl ?_
      refine r_gfix (r := 95) (pc' := 66) D210_63 rfl gf_11_69_77 HN.1 ?_
      refine s_blx (lv' := [(0, vR 77), (6, vI x6)]) (st' := [vR 77, vR 95]) B210_66_67 rfl ?_
      refine r_gint (ki := 31) (pc' := 70) D210_67 rfl gf_11_151_77 rfl HN.1 ?_
      intro w44 e45 r46
      have b_w44 := HN.2 77 (31) 0 400 rfl
      rw [← e45] at b_w44; clear r46
      refine s_blx (lv' := [(0, vR 77), (6, vI x6)]) (st' := [vR 77, vI (w44 + x6), vR 95]) B210_70_74 rfl ?_
      refine r_gfix (r := 96) (pc' := 77) D210_74 rfl gf_11_72_77 HN.1 ?_
      refine s_blx (lv' := [(0, vR 77), (6, vI x6)]) (st' := [vI 4, vI x6, vR 96, vI (w44 + x6), vR 95]) B210_77_80 rfl ?_
      refine r_idiv (pc' := 81) D210_80 rfl (by omega) ?_
      refine r_iald (pc' := 82) D210_81 rfl sc_96 HN.1 (by omega) ?_
      intro w47 e48 r49
      unfold inR at r49
      refine s_blx (lv' := [(0, vR 77), (6, vI x6)]) (st' := [vI 4, vI x6, vI 8, vI 24, vI w47, vI (w44 + x6), vR 95]) B210_82_89 rfl ?_
      refine r_irem (pc' := 90) D210_89 rfl (by omega) ?_
      refine s_blx (lv' := [(0, vR 77), (6, vI x6)]) (st' := [vI (24 - (8 * (x6 % 4))), vI w47, vI (w44 + x6), vR 95]) B210_90_92 rfl ?_
      refine r_bin (pc' := 93) D210_92 rfl rfl ?_
      intro z50 r51 _; unfold inR at r51
      refine r_i2b (pc' := 94) D210_93 rfl ?_
      intro z52 r53 r54
      refine r_byast (pc' := 95) D210_94 rfl sc_95 HN (by omega) (by omega) (show (-128) ≤ z52 ∧ z52 ≤ 127 by omega) ?_
      intro M55 u56 H57 p58
      have f59 := fN.wr u56 rfl
      refine s_blx (lv' := [(6, vI (x6 + 1)), (0, vR 77)]) (st' := []) B210_95_98 rfl ?_
      refine r_goto (tgt := 55) D210_98 rfl ?_
      refine r_loc (lv' := [(0, vR 77), (6, vI (x6 + 1))]) ⟨rfl, rfl, trivial⟩ rfl rfl ?_
      have g60 : gi M55 77 31 = w44 := (u56.gi_ne (by omega) (Or.inl (by decide))).trans (e45.symm)
      exact ih (x6 + 1) M55 H57 f59 (by omega) (by omega) (by omega) (by omega)
set_option maxRecDepth 4000 in
theorem k210 {base : Nat} {X : Nat → Option mC} {G : Nat → Value} (E : EnvOK base X G) {d : Nat} (hd : 0 ≤ d) {M : mH} (H : HI base M) (a : Int) (b : Int) (c : Int) (d_ : Int) (e : Int) (h0 : -2147483648 ≤ a ∧ a ≤ 2147483647) (h1 : -2147483648 ≤ b ∧ b ≤ 2147483647) (h2 : -2147483648 ≤ c ∧ c ≤ 2147483647) (h3 : -2147483648 ≤ d_ ∧ d_ ≤ 2147483647) (h4 : -2147483648 ≤ e ∧ e ≤ 2147483647) : sOk base X G d T210 [vR 77, vI a, vI b, vI c, vI d_, vI e] M (pI (fun v M' => HI base M' ∧ Fr [(77, 32), (95, 0), (96, 0)] M M')) := by
  have f0 : Fr [(77, 32), (95, 0), (96, 0)] M M := Fr.rf
  refine sOk.of (show sRn base X G d T210 0 [(0, vR 77), (1, vI a), (2, vI b), (3, vI c), (4, vI d_), (5, vI e)] [] M _ from ?_)
  refine s_blx (lv' := [(0, vR 77), (1, vI a), (2, vI b), (3, vI c), (4, vI d_), (5, vI e)]) (st' := [vR 77]) B210_0_1 rfl ?_
  refine r_gint (ki := 31) (pc' := 4) D210_1 rfl gf_11_151_77 rfl H.1 ?_
  intro w1 e2 r3
  have b_w1 := H.2 77 (31) 0 400 rfl
  rw [← e2] at b_w1; clear r3
  refine s_blx (lv' := [(0, vR 77), (1, vI a), (2, vI b), (3, vI c), (4, vI d_), (5, vI e)]) (st' := [vI 400, vI (w1 + 20)]) B210_4_10 rfl ?_
  refine r_icmp (tgt := 15) (pc' := 13) D210_10 rfl rfl (by unfold inR; omega) (fun (c4 : (w1 + 20) ≤ 400) => ?_) (fun (c4 : ¬ ((w1 + 20) ≤ 400)) => ?_)
  · refine s_blx (lv' := [(0, vR 77), (1, vI a), (2, vI b), (3, vI c), (4, vI d_), (5, vI e)]) (st' := [vR 77]) B210_15_16 rfl ?_
    refine r_gfix (r := 96) (pc' := 19) D210_16 rfl gf_11_72_77 H.1 ?_
    refine s_blx (lv' := [(0, vR 77), (1, vI a), (2, vI b), (3, vI c), (4, vI d_), (5, vI e)]) (st' := [vI a, vI 0, vR 96]) B210_19_21 rfl ?_
    refine r_iast (pc' := 22) D210_21 rfl sc_96 H (by omega) (by unfold inR; omega) trivial ?_
    intro M5 u6 H7 p8
    have f9 := f0.wr u6 rfl
    refine s_blx (lv' := [(0, vR 77), (1, vI a), (2, vI b), (3, vI c), (4, vI d_), (5, vI e)]) (st' := [vR 77]) B210_22_23 rfl ?_
    refine r_gfix (r := 96) (pc' := 26) D210_23 rfl gf_11_72_77 H7.1 ?_
    refine s_blx (lv' := [(0, vR 77), (1, vI a), (2, vI b), (3, vI c), (4, vI d_), (5, vI e)]) (st' := [vI b, vI 1, vR 96]) B210_26_28 rfl ?_
    refine r_iast (pc' := 29) D210_28 rfl sc_96 H7 (by omega) (by unfold inR; omega) trivial ?_
    intro M10 u11 H12 p13
    have f14 := f9.wr u11 rfl
    refine s_blx (lv' := [(0, vR 77), (1, vI a), (2, vI b), (3, vI c), (4, vI d_), (5, vI e)]) (st' := [vR 77]) B210_29_30 rfl ?_
    refine r_gfix (r := 96) (pc' := 33) D210_30 rfl gf_11_72_77 H12.1 ?_
    refine s_blx (lv' := [(0, vR 77), (1, vI a), (2, vI b), (3, vI c), (4, vI d_), (5, vI e)]) (st' := [vI c, vI 2, vR 96]) B210_33_35 rfl ?_
    refine r_iast (pc' := 36) D210_35 rfl sc_96 H12 (by omega) (by unfold inR; omega) trivial ?_
    intro M15 u16 H17 p18
    have f19 := f14.wr u16 rfl
    refine s_blx (lv' := [(0, vR 77), (1, vI a), (2, vI b), (3, vI c), (4, vI d_), (5, vI e)]) (st' := [vR 77]) B210_36_37 rfl ?_
    refine r_gfix (r := 96) (pc' := 40) D210_37 rfl gf_11_72_77 H17.1 ?_
    refine s_blx (lv' := [(0, vR 77), (1, vI a), (2, vI b), (3, vI c), (4, vI d_), (5, vI e)]) (st' := [vI d_, vI 3, vR 96]) B210_40_43 rfl ?_
    refine r_iast (pc' := 44) D210_43 rfl sc_96 H17 (by omega) (by unfold inR; omega) trivial ?_
    intro M20 u21 H22 p23
    have f24 := f19.wr u21 rfl
    refine s_blx (lv' := [(0, vR 77), (1, vI a), (2, vI b), (3, vI c), (4, vI d_), (5, vI e)]) (st' := [vR 77]) B210_44_45 rfl ?_
    refine r_gfix (r := 96) (pc' := 48) D210_45 rfl gf_11_72_77 H22.1 ?_
    refine s_blx (lv' := [(0, vR 77), (1, vI a), (2, vI b), (3, vI c), (4, vI d_), (5, vI e)]) (st' := [vI e, vI 4, vR 96]) B210_48_51 rfl ?_
    refine r_iast (pc' := 52) D210_51 rfl sc_96 H22 (by omega) (by unfold inR; omega) trivial ?_
    intro M25 u26 H27 p28
    have f29 := f24.wr u26 rfl
    refine s_blx (lv' := [(6, vI 0), (0, vR 77), (1, vI a), (2, vI b), (3, vI c), (4, vI d_), (5, vI e)]) (st' := []) B210_52_55 rfl ?_
    refine r_loc (lv' := [(0, vR 77), (6, vI 0)]) ⟨rfl, rfl, trivial⟩ rfl rfl ?_
    have g30 : gi M25 77 31 = w1 := (u26.gi_ne (by decide) (Or.inl (by decide))).trans ((u21.gi_ne (by decide) (Or.inl (by decide))).trans ((u16.gi_ne (by decide) (Or.inl (by decide))).trans ((u11.gi_ne (by decide) (Or.inl (by decide))).trans ((u6.gi_ne (by decide) (Or.inl (by decide))).trans (e2.symm)))))
    exact (L_k210 E hd H a b c d_ e h0 h1 h2 h3 h4 (((20 - 0) * 1 + 0 : Int) + 1).toNat) 0 M25 H27 f29 (by omega) (by omega) (by omega) (by omega)
  · refine s_blx (lv' := [(0, vR 77), (1, vI a), (2, vI b), (3, vI c), (4, vI d_), (5, vI e)]) (st' := [vI (-1)]) B210_13_14 rfl ?_
    exact r_iretI D210_14 rfl (⟨H, f0⟩)
set_option maxRecDepth 4000 in
theorem k211 {base : Nat} {X : Nat → Option mC} {G : Nat → Value} (E : EnvOK base X G) {d : Nat} (hd : 1 ≤ d) {M : mH} (H : HI base M) (n : Int) (h0 : -2147483648 ≤ n ∧ n ≤ 2147483647) : sOk base X G d T211 [vR 77, vI n] M (pI (fun v M' => HI base M' ∧ Fr [(77, 32)] M M')) := by
  have f0 : Fr [(77, 32)] M M := Fr.rf
  refine sOk.of (show sRn base X G d T211 0 [(0, vR 77), (1, vI n)] [] M _ from ?_)
  refine s_blx (lv' := [(0, vR 77), (1, vI n)]) (st' := [vR 77, vI 0, vI n]) B211_0_3 rfl ?_
  refine r_gint (ki := 31) (pc' := 6) D211_3 rfl gf_11_151_77 rfl H.1 ?_
  intro w1 e2 r3
  have b_w1 := H.2 77 (31) 0 400 rfl
  rw [← e2] at b_w1; clear r3
  refine r_sIp (args := [vI n, vI 0, vI w1]) (rest := []) (pc' := 9) D211_6 rfl ck_11_static_123 TE147 rfl (Nat.le_of_ble_eq_true rfl) ⟨Nat.le_of_ble_eq_true rfl, Nat.le_of_ble_eq_true rfl⟩ (by decide) (dp_0 hd rfl) (k147 E (dp_n hd rfl) H n 0 w1 (by omega) (by omega) (by omega)) ?_
  intro v4 q9
  obtain ⟨q6, q7, q8⟩ := q9
  refine r_ifc (tgt := 14) (pc' := 12) D211_9 rfl rfl (by unfold inR; omega) (fun (c10 : v4 ≠ 0) => ?_) (fun (c10 : ¬ (v4 ≠ 0)) => ?_)
  · refine s_blx (lv' := [(0, vR 77), (1, vI n)]) (st' := [vI n, vR 77]) B211_14_16 rfl ?_
    refine r_pint (ki := 31) (pc' := 19) D211_16 rfl pf_11_151_77 rfl H (by unfold inR; omega) (show 0 ≤ n ∧ n ≤ 400 by omega) ?_
    intro M11 u12 H13 p14
    have f15 := f0.wr u12 rfl
    refine s_blx (lv' := [(0, vR 77), (1, vI n)]) (st' := [vI n]) B211_19_20 rfl ?_
    exact r_iretI D211_20 rfl (⟨H13, f15⟩)
  · refine s_blx (lv' := [(0, vR 77), (1, vI n)]) (st' := [vI (-1)]) B211_12_13 rfl ?_
    exact r_iretI D211_13 rfl (⟨H, f0⟩)
set_option maxRecDepth 4000 in
theorem k212 {base : Nat} {X : Nat → Option mC} {G : Nat → Value} (E : EnvOK base X G) {d : Nat} (hd : 0 ≤ d) {M : mH} (H : HI base M) (b : Int) (h0 : -2147483648 ≤ b ∧ b ≤ 2147483647) : sOk base X G d T212 [vI b] M (pI (fun v M' => M' = M ∧ (v = 0 ∨ v = 1))) := by
  refine sOk.of (show sRn base X G d T212 0 [(0, vI b)] [] M _ from ?_)
  refine s_blx (lv' := [(0, vI b)]) (st' := [vI 97, vI b]) B212_0_3 rfl ?_
  refine r_icmp (tgt := 16) (pc' := 6) D212_3 rfl rfl (by unfold inR; omega) (fun (c1 : b < 97) => ?_) (fun (c1 : ¬ (b < 97)) => ?_)
  · refine s_blx (lv' := [(0, vI b)]) (st' := [vI 0]) B212_16_17 rfl ?_
    exact r_zretI D212_17 rfl (by omega) (⟨rfl, by omega⟩)
  · refine s_blx (lv' := [(0, vI b)]) (st' := [vI 122, vI b]) B212_6_9 rfl ?_
    refine r_icmp (tgt := 16) (pc' := 12) D212_9 rfl rfl (by unfold inR; omega) (fun (c2 : 122 < b) => ?_) (fun (c2 : ¬ (122 < b)) => ?_)
    · refine s_blx (lv' := [(0, vI b)]) (st' := [vI 0]) B212_16_17 rfl ?_
      exact r_zretI D212_17 rfl (by omega) (⟨rfl, by omega⟩)
    · refine s_blx (lv' := [(0, vI b)]) (st' := [vI 1]) B212_12_13 rfl ?_
      refine r_goto (tgt := 17) D212_13 rfl ?_
      exact r_zretI D212_17 rfl (by omega) (⟨rfl, by omega⟩)
set_option maxRecDepth 4000 in
theorem k213 {base : Nat} {X : Nat → Option mC} {G : Nat → Value} (E : EnvOK base X G) {d : Nat} (hd : 0 ≤ d) {M : mH} (H : HI base M) (b : Int) (h0 : -2147483648 ≤ b ∧ b ≤ 2147483647) : sOk base X G d T213 [vI b] M (pI (fun v M' => M' = M ∧ (v = 0 ∨ v = 1))) := by
  refine sOk.of (show sRn base X G d T213 0 [(0, vI b)] [] M _ from ?_)
  refine s_blx (lv' := [(0, vI b)]) (st' := [vI 48, vI b]) B213_0_3 rfl ?_
  refine r_icmp (tgt := 16) (pc' := 6) D213_3 rfl rfl (by unfold inR; omega) (fun (c1 : b < 48) => ?_) (fun (c1 : ¬ (b < 48)) => ?_)
  · refine s_blx (lv' := [(0, vI b)]) (st' := [vI 0]) B213_16_17 rfl ?_
    exact r_zretI D213_17 rfl (by omega) (⟨rfl, by omega⟩)
  · refine s_blx (lv' := [(0, vI b)]) (st' := [vI 57, vI b]) B213_6_9 rfl ?_
    refine r_icmp (tgt := 16) (pc' := 12) D213_9 rfl rfl (by unfold inR; omega) (fun (c2 : 57 < b) => ?_) (fun (c2 : ¬ (57 < b)) => ?_)
    · refine s_blx (lv' := [(0, vI b)]) (st' := [vI 0]) B213_16_17 rfl ?_
      exact r_zretI D213_17 rfl (by omega) (⟨rfl, by omega⟩)
    · refine s_blx (lv' := [(0, vI b)]) (st' := [vI 1]) B213_12_13 rfl ?_
      refine r_goto (tgt := 17) D213_13 rfl ?_
      exact r_zretI D213_17 rfl (by omega) (⟨rfl, by omega⟩)
set_option maxRecDepth 4000 in
theorem k216 {base : Nat} {X : Nat → Option mC} {G : Nat → Value} (E : EnvOK base X G) {d : Nat} (hd : 0 ≤ d) {M : mH} (H : HI base M) : sOk base X G d T216 [vR 77] M (pI (fun v M' => M' = M ∧ (v = 0 ∨ v = 1))) := by
  refine sOk.of (show sRn base X G d T216 0 [(0, vR 77)] [] M _ from ?_)
  refine s_blx (lv' := [(0, vR 77)]) (st' := [vR 77]) B216_0_1 rfl ?_
  refine r_gint (ki := 39) (pc' := 4) D216_1 rfl gf_11_318_77 rfl H.1 ?_
  intro w1 e2 r3
  unfold inR at r3
  refine s_blx (lv' := [(0, vR 77)]) (st' := [vI (-1), vI w1]) B216_4_5 rfl ?_
  refine r_icmp (tgt := 12) (pc' := 8) D216_5 rfl rfl (by unfold inR; omega) (fun (c4 : w1 ≠ (-1)) => ?_) (fun (c4 : ¬ (w1 ≠ (-1))) => ?_)
  · refine s_blx (lv' := [(0, vR 77)]) (st' := [vI 0]) B216_12_13 rfl ?_
    exact r_zretI D216_13 rfl (by omega) (⟨rfl, by omega⟩)
  · refine s_blx (lv' := [(0, vR 77)]) (st' := [vI 1]) B216_8_9 rfl ?_
    refine r_goto (tgt := 13) D216_9 rfl ?_
    exact r_zretI D216_13 rfl (by omega) (⟨rfl, by omega⟩)
set_option maxRecDepth 4000 in
theorem k217 {base : Nat} {X : Nat → Option mC} {G : Nat → Value} (E : EnvOK base X G) {d : Nat} (hd : 1 ≤ d) {M : mH} (H : HI base M) : sOk base X G d T217 [vR 77] M (pV (fun M' => HI base M' ∧ Fr [(77, 40)] M M')) := by
  have f0 : Fr [(77, 40)] M M := Fr.rf
  refine sOk.of (show sRn base X G d T217 0 [(0, vR 77)] [] M _ from ?_)
  refine s_blx (lv' := [(0, vR 77)]) (st' := [vR 77]) B217_0_1 rfl ?_
  refine r_vIp (c := 77) (args := []) (rest := []) (pc' := 4) D217_1 rfl ck_11_virtual_321 TE216 rfl (Nat.le_of_ble_eq_true rfl) ⟨Nat.le_of_ble_eq_true rfl, Nat.le_of_ble_eq_true rfl⟩ sc_77 ⟨rfl, by decide⟩ H.1 (dp_0 hd rfl) (k216 E (dp_n hd rfl) H ) ?_
  intro v1 q4
  have q3 := q4; clear q4
  refine r_ifc (tgt := 20) (pc' := 7) D217_4 rfl rfl (by unfold inR; omega) (fun (c5 : v1 = 0) => ?_) (fun (c5 : ¬ (v1 = 0)) => ?_)
  · exact r_retV D217_20 rfl (⟨H, f0⟩)
  · refine s_blx (lv' := [(0, vR 77)]) (st' := [vR 77, vR 77]) B217_7_9 rfl ?_
    refine r_gfix (r := 99) (pc' := 12) D217_9 rfl gf_11_84_77 H.1 ?_
    refine s_blx (lv' := [(0, vR 77)]) (st' := [vR 77, vR 99, vR 77]) B217_12_13 rfl ?_
    refine r_gint (ki := 37) (pc' := 16) D217_13 rfl gf_11_325_77 rfl H.1 ?_
    intro w6 e7 r8
    have b_w6 := H.2 77 (37) 0 400 rfl
    rw [← e7] at b_w6; clear r8
    refine r_iald (pc' := 17) D217_16 rfl sc_99 H.1 (by omega) ?_
    intro w9 e10 r11
    have b_w9 := H.2 99 (w6) 0 400 rfl
    rw [← e10] at b_w9; clear r11
    refine r_pint (ki := 39) (pc' := 20) D217_17 rfl pf_11_318_77 rfl H (by unfold inR; omega) trivial ?_
    intro M12 u13 H14 p15
    have f16 := f0.wr u13 rfl
    exact r_retV D217_20 rfl (⟨H14, f16⟩)
set_option maxRecDepth 4000 in
theorem k221 {base : Nat} {X : Nat → Option mC} {G : Nat → Value} (E : EnvOK base X G) {d : Nat} (hd : 0 ≤ d) {M : mH} (H : HI base M) (c : Int) (h0 : 0 ≤ c ∧ c ≤ 255) : sOk base X G d T221 [vI c] M (pI (fun v M' => M' = M ∧ v = 100 + c)) := by
  refine sOk.of (show sRn base X G d T221 0 [(0, vI c)] [] M _ from ?_)
  refine s_blx (lv' := [(0, vI c)]) (st' := [vI (100 + c)]) B221_0_4 rfl ?_
  exact r_iretI D221_4 rfl (⟨rfl, by omega⟩)
set_option maxRecDepth 4000 in
theorem k231 {base : Nat} {X : Nat → Option mC} {G : Nat → Value} (E : EnvOK base X G) {d : Nat} (hd : 0 ≤ d) {M : mH} (H : HI base M) : sOk base X G d T231 [vR 77] M (pI (fun v M' => M' = M ∧ True)) := by
  refine sOk.of (show sRn base X G d T231 0 [(0, vR 77)] [] M _ from ?_)
  refine s_blx (lv' := [(0, vR 77)]) (st' := [vR 77]) B231_0_1 rfl ?_
  refine r_gint (ki := 32) (pc' := 4) D231_1 rfl gf_11_75_77 rfl H.1 ?_
  intro w1 e2 r3
  unfold inR at r3
  exact r_iretI D231_4 rfl (⟨rfl, trivial⟩)
set_option maxRecDepth 4000 in
theorem k266 {base : Nat} {X : Nat → Option mC} {G : Nat → Value} (E : EnvOK base X G) {d : Nat} (hd : 0 ≤ d) {M : mH} (H : HI base M) : sOk base X G d T266 [vR 77] M (pI (fun v M' => M' = M ∧ True)) := by
  refine sOk.of (show sRn base X G d T266 0 [(0, vR 77)] [] M _ from ?_)
  refine s_blx (lv' := [(0, vR 77)]) (st' := [vR 77]) B266_0_1 rfl ?_
  refine r_gint (ki := 0) (pc' := 4) D266_1 rfl gf_11_3_77 rfl H.1 ?_
  intro w1 e2 r3
  unfold inR at r3
  exact r_iretI D266_4 rfl (⟨rfl, trivial⟩)
set_option maxRecDepth 4000 in
theorem k265 {base : Nat} {X : Nat → Option mC} {G : Nat → Value} (E : EnvOK base X G) {d : Nat} (hd : 0 ≤ d) {M : mH} (H : HI base M) (what : Int) (h0 : -2147483648 ≤ what ∧ what ≤ 2147483647) : sOk base X G d T265 [vR 77, vI what] M (pI (fun v M' => M' = M ∧ True)) := by
  refine sOk.of (show sRn base X G d T265 0 [(0, vR 77), (1, vI what)] [] M _ from ?_)
  refine s_blx (lv' := [(0, vR 77), (1, vI what)]) (st' := [vI what]) B265_0_1 rfl ?_
  refine r_tsw (tgt := fun k => if k = 0 then 36 else if k = 1 then 45 else if k = 2 then 54 else if k = 3 then 63 else if k = 4 then 72 else 0) (td := 77) D265_1 (by unfold inR; omega) ?_ rfl ?_ ?_
  · intro k h1 h2
    have hk : k = 0 ∨ k = 1 ∨ k = 2 ∨ k = 3 ∨ k = 4 := by omega
    rcases hk with rfl | rfl | rfl | rfl | rfl <;> exact ⟨_, rfl, rfl⟩
  · intro k h1 h2 c1
    have hk : k = 0 ∨ k = 1 ∨ k = 2 ∨ k = 3 ∨ k = 4 := by omega
    clear h1 h2
    rcases hk with rfl | rfl | rfl | rfl | rfl
    · show sRn _ _ _ _ _ 36 _ _ _ _
      refine s_blx (lv' := [(0, vR 77), (1, vI what)]) (st' := [vR 77]) B265_36_37 rfl ?_
      refine r_gfix (r := 78) (pc' := 40) D265_37 rfl gf_11_13_77 H.1 ?_
      refine s_blx (lv' := [(0, vR 77), (1, vI what)]) (st' := [vI 469, vR 78]) B265_40_43 rfl ?_
      refine r_iald (pc' := 44) D265_43 rfl sc_78 H.1 (by omega) ?_
      intro w2 e3 r4
      have b_w2 := H.2 78 (469) 0 16 (rk_many (by omega))
      rw [← e3] at b_w2; clear r4
      exact r_iretI D265_44 rfl (⟨rfl, trivial⟩)
    · show sRn _ _ _ _ _ 45 _ _ _ _
      refine s_blx (lv' := [(0, vR 77), (1, vI what)]) (st' := [vR 77]) B265_45_46 rfl ?_
      refine r_gfix (r := 78) (pc' := 49) D265_46 rfl gf_11_13_77 H.1 ?_
      refine s_blx (lv' := [(0, vR 77), (1, vI what)]) (st' := [vI 470, vR 78]) B265_49_52 rfl ?_
      refine r_iald (pc' := 53) D265_52 rfl sc_78 H.1 (by omega) ?_
      intro w5 e6 r7
      have b_w5 := H.2 78 (470) 0 12 (rk_openmany (by omega))
      rw [← e6] at b_w5; clear r7
      exact r_iretI D265_53 rfl (⟨rfl, trivial⟩)
    · show sRn _ _ _ _ _ 54 _ _ _ _
      refine s_blx (lv' := [(0, vR 77), (1, vI what)]) (st' := [vR 77]) B265_54_55 rfl ?_
      refine r_gfix (r := 78) (pc' := 58) D265_55 rfl gf_11_13_77 H.1 ?_
      refine s_blx (lv' := [(0, vR 77), (1, vI what)]) (st' := [vI 471, vR 78]) B265_58_61 rfl ?_
      refine r_iald (pc' := 62) D265_61 rfl sc_78 H.1 (by omega) ?_
      intro w8 e9 r10
      have b_w8 := H.2 78 (471) 0 8 (rk_told (by omega))
      rw [← e9] at b_w8; clear r10
      exact r_iretI D265_62 rfl (⟨rfl, trivial⟩)
    · show sRn _ _ _ _ _ 63 _ _ _ _
      refine s_blx (lv' := [(0, vR 77), (1, vI what)]) (st' := [vR 77]) B265_63_64 rfl ?_
      refine r_gfix (r := 78) (pc' := 67) D265_64 rfl gf_11_13_77 H.1 ?_
      refine s_blx (lv' := [(0, vR 77), (1, vI what)]) (st' := [vI 472, vR 78]) B265_67_70 rfl ?_
      refine r_iald (pc' := 71) D265_70 rfl sc_78 H.1 (by omega) ?_
      intro w11 e12 r13
      have b_w11 := H.2 78 (472) 0 6 (rk_boxmany (by omega))
      rw [← e12] at b_w11; clear r13
      exact r_iretI D265_71 rfl (⟨rfl, trivial⟩)
    · show sRn _ _ _ _ _ 72 _ _ _ _
      refine s_blx (lv' := [(0, vR 77), (1, vI what)]) (st' := [vR 77]) B265_72_73 rfl ?_
      refine r_gint (ki := 31) (pc' := 76) D265_73 rfl gf_11_151_77 rfl H.1 ?_
      intro w14 e15 r16
      have b_w14 := H.2 77 (31) 0 400 rfl
      rw [← e15] at b_w14; clear r16
      exact r_iretI D265_76 rfl (⟨rfl, trivial⟩)
  · intro c1
    refine s_blx (lv' := [(0, vR 77), (1, vI what)]) (st' := [vI (-1)]) B265_77_78 rfl ?_
    exact r_iretI D265_78 rfl (⟨rfl, trivial⟩)
set_option maxRecDepth 4000 in
theorem k249 {base : Nat} {X : Nat → Option mC} {G : Nat → Value} (E : EnvOK base X G) {d : Nat} (hd : 1 ≤ d) {M : mH} (H : HI base M) (second : Int) (h0 : -2147483648 ≤ second ∧ second ≤ 2147483647) : sOk base X G d T249 [vR 77, vI second] M (pI (fun v M' => M' = M ∧ True)) := by
  refine sOk.of (show sRn base X G d T249 0 [(0, vR 77), (1, vI second)] [] M _ from ?_)
  refine s_blx (lv' := [(0, vR 77), (1, vI second)]) (st' := [vR 77, vI 0, vI second]) B249_0_3 rfl ?_
  refine r_gint (ki := 48) (pc' := 6) D249_3 rfl gf_11_450_77 rfl H.1 ?_
  intro w1 e2 r3
  have b_w1 := H.2 77 (48) 0 24 rfl
  rw [← e2] at b_w1; clear r3
  refine s_blx (lv' := [(0, vR 77), (1, vI second)]) (st' := [vI (w1 - 1), vI 0, vI second]) B249_6_8 rfl ?_
  refine r_sIp (args := [vI second, vI 0, vI (w1 - 1)]) (rest := []) (pc' := 11) D249_8 rfl ck_11_static_123 TE147 rfl (Nat.le_of_ble_eq_true rfl) ⟨Nat.le_of_ble_eq_true rfl, Nat.le_of_ble_eq_true rfl⟩ (by decide) (dp_0 hd rfl) (k147 E (dp_n hd rfl) H second 0 (w1 - 1) (by omega) (by omega) (by omega)) ?_
  intro v4 q9
  obtain ⟨q6, q7, q8⟩ := q9
  refine r_ifc (tgt := 23) (pc' := 14) D249_11 rfl rfl (by unfold inR; omega) (fun (c10 : v4 = 0) => ?_) (fun (c10 : ¬ (v4 = 0)) => ?_)
  · refine s_blx (lv' := [(0, vR 77), (1, vI second)]) (st' := [vI (-1)]) B249_23_24 rfl ?_
    exact r_iretI D249_24 rfl (⟨rfl, trivial⟩)
  · refine s_blx (lv' := [(0, vR 77), (1, vI second)]) (st' := [vR 77]) B249_14_15 rfl ?_
    refine r_gfix (r := 102) (pc' := 18) D249_15 rfl gf_11_93_77 H.1 ?_
    refine s_blx (lv' := [(0, vR 77), (1, vI second)]) (st' := [vI second, vR 102]) B249_18_19 rfl ?_
    refine r_iald (pc' := 20) D249_19 rfl sc_102 H.1 (by omega) ?_
    intro w11 e12 r13
    unfold inR at r13
    refine r_goto (tgt := 24) D249_20 rfl ?_
    exact r_iretI D249_24 rfl (⟨rfl, trivial⟩)
set_option maxRecDepth 4000 in
theorem k251 {base : Nat} {X : Nat → Option mC} {G : Nat → Value} (E : EnvOK base X G) {d : Nat} (hd : 1 ≤ d) {M : mH} (H : HI base M) (lag : Int) (keeps0 : Int) (limit : Int) (h0 : -2147483648 ≤ lag ∧ lag ≤ 2147483647) (h1 : -2147483648 ≤ keeps0 ∧ keeps0 ≤ 2147483647) (h2 : -2147483648 ≤ limit ∧ limit ≤ 2147483647) : sOk base X G d T251 [vR 77, vI lag, vI keeps0, vI limit] M (pI (fun v M' => HI base M' ∧ Fr [(77, 1), (78, 0)] M M')) := by
  have f0 : Fr [(77, 1), (78, 0)] M M := Fr.rf
  refine sOk.of (show sRn base X G d T251 0 [(0, vR 77), (1, vI lag), (2, vI keeps0), (3, vI limit)] [] M _ from ?_)
  refine s_blx (lv' := [(0, vR 77), (1, vI lag), (2, vI keeps0), (3, vI limit)]) (st' := [vI 60, vI 0, vI lag]) B251_0_4 rfl ?_
  refine r_sIp (args := [vI lag, vI 0, vI 60]) (rest := []) (pc' := 7) D251_4 rfl ck_11_static_123 TE147 rfl (Nat.le_of_ble_eq_true rfl) ⟨Nat.le_of_ble_eq_true rfl, Nat.le_of_ble_eq_true rfl⟩ (by decide) (dp_0 hd rfl) (k147 E (dp_n hd rfl) H lag 0 60 (by omega) (by omega) (by omega)) ?_
  intro v1 q6
  obtain ⟨q3, q4, q5⟩ := q6
  refine r_ifc (tgt := 31) (pc' := 10) D251_7 rfl rfl (by unfold inR; omega) (fun (c7 : v1 = 0) => ?_) (fun (c7 : ¬ (v1 = 0)) => ?_)
  · refine s_blx (lv' := [(0, vR 77), (1, vI lag), (2, vI keeps0), (3, vI limit)]) (st' := [vI (-1), vR 77]) B251_31_33 rfl ?_
    refine r_vI (c := 77) (args := [vI (-1)]) (rest := []) (pc' := 36) D251_33 rfl ck_11_virtual_127 TE148 rfl (Nat.le_of_ble_eq_true rfl) ⟨Nat.le_of_ble_eq_true rfl, Nat.le_of_ble_eq_true rfl⟩ sc_77 ⟨rfl, by decide⟩ H.1 (dp_0 hd rfl) (k148 E (dp_n hd rfl) H (-1) (by omega)) ?_
    intro v8 M9 q13
    obtain ⟨H10, f11, q12⟩ := q13
    have f14 := f0.tr (f11.up rfl)
    exact r_iretI D251_36 rfl (⟨H10, f14⟩)
  · refine s_blx (lv' := [(0, vR 77), (1, vI lag), (2, vI keeps0), (3, vI limit)]) (st' := [vI 100, vI 0, vI keeps0]) B251_10_14 rfl ?_
    refine r_sIp (args := [vI keeps0, vI 0, vI 100]) (rest := []) (pc' := 17) D251_14 rfl ck_11_static_123 TE147 rfl (Nat.le_of_ble_eq_true rfl) ⟨Nat.le_of_ble_eq_true rfl, Nat.le_of_ble_eq_true rfl⟩ (by decide) (dp_0 hd rfl) (k147 E (dp_n hd rfl) H keeps0 0 100 (by omega) (by omega) (by omega)) ?_
    intro v15 q20
    obtain ⟨q17, q18, q19⟩ := q20
    refine r_ifc (tgt := 31) (pc' := 20) D251_17 rfl rfl (by unfold inR; omega) (fun (c21 : v15 = 0) => ?_) (fun (c21 : ¬ (v15 = 0)) => ?_)
    · refine s_blx (lv' := [(0, vR 77), (1, vI lag), (2, vI keeps0), (3, vI limit)]) (st' := [vI (-1), vR 77]) B251_31_33 rfl ?_
      refine r_vI (c := 77) (args := [vI (-1)]) (rest := []) (pc' := 36) D251_33 rfl ck_11_virtual_127 TE148 rfl (Nat.le_of_ble_eq_true rfl) ⟨Nat.le_of_ble_eq_true rfl, Nat.le_of_ble_eq_true rfl⟩ sc_77 ⟨rfl, by decide⟩ H.1 (dp_0 hd rfl) (k148 E (dp_n hd rfl) H (-1) (by omega)) ?_
      intro v22 M23 q27
      obtain ⟨H24, f25, q26⟩ := q27
      have f28 := f0.tr (f25.up rfl)
      exact r_iretI D251_36 rfl (⟨H24, f28⟩)
    · refine s_blx (lv' := [(0, vR 77), (1, vI lag), (2, vI keeps0), (3, vI limit)]) (st' := [vI 300, vI 0, vI limit]) B251_20_25 rfl ?_
      refine r_sIp (args := [vI limit, vI 0, vI 300]) (rest := []) (pc' := 28) D251_25 rfl ck_11_static_123 TE147 rfl (Nat.le_of_ble_eq_true rfl) ⟨Nat.le_of_ble_eq_true rfl, Nat.le_of_ble_eq_true rfl⟩ (by decide) (dp_0 hd rfl) (k147 E (dp_n hd rfl) H limit 0 300 (by omega) (by omega) (by omega)) ?_
      intro v29 q34
      obtain ⟨q31, q32, q33⟩ := q34
      refine r_ifc (tgt := 37) (pc' := 31) D251_28 rfl rfl (by unfold inR; omega) (fun (c35 : v29 ≠ 0) => ?_) (fun (c35 : ¬ (v29 ≠ 0)) => ?_)
      · refine s_blx (lv' := [(0, vR 77), (1, vI lag), (2, vI keeps0), (3, vI limit)]) (st' := [vR 77]) B251_37_38 rfl ?_
        refine r_gfix (r := 78) (pc' := 41) D251_38 rfl gf_11_13_77 H.1 ?_
        refine s_blx (lv' := [(0, vR 77), (1, vI lag), (2, vI keeps0), (3, vI limit)]) (st' := [vI 472, vR 78]) B251_41_44 rfl ?_
        refine r_iald (pc' := 45) D251_44 rfl sc_78 H.1 (by omega) ?_
        intro w36 e37 r38
        have b_w36 := H.2 78 (472) 0 6 (rk_boxmany (by omega))
        rw [← e37] at b_w36; clear r38
        refine s_blx (lv' := [(4, vI w36), (0, vR 77), (1, vI lag), (2, vI keeps0), (3, vI limit)]) (st' := [vI 6, vI w36]) B251_45_51 rfl ?_
        refine r_icmp (tgt := 61) (pc' := 54) D251_51 rfl rfl (by unfold inR; omega) (fun (c39 : w36 ≠ 6) => ?_) (fun (c39 : ¬ (w36 ≠ 6)) => ?_)
        · refine s_blx (lv' := [(4, vI w36), (0, vR 77), (1, vI lag), (2, vI keeps0), (3, vI limit)]) (st' := [vR 77]) B251_61_62 rfl ?_
          refine r_gfix (r := 78) (pc' := 65) D251_62 rfl gf_11_13_77 H.1 ?_
          refine s_blx (lv' := [(4, vI w36), (0, vR 77), (1, vI lag), (2, vI keeps0), (3, vI limit)]) (st' := [vI lag, vI (391 + (3 * w36)), vR 78]) B251_65_74 rfl ?_
          refine r_iast (pc' := 75) D251_74 rfl sc_78 H (by omega) (by unfold inR; omega) (by show s_in (rgK _) _; rw [rk_box (by omega)]; show 0 ≤ lag ∧ lag ≤ 300; omega) ?_
          intro M40 u41 H42 p43
          have f44 := f0.wr u41 rfl
          refine s_blx (lv' := [(4, vI w36), (0, vR 77), (1, vI lag), (2, vI keeps0), (3, vI limit)]) (st' := [vR 77]) B251_75_76 rfl ?_
          refine r_gfix (r := 78) (pc' := 79) D251_76 rfl gf_11_13_77 H42.1 ?_
          refine s_blx (lv' := [(4, vI w36), (0, vR 77), (1, vI lag), (2, vI keeps0), (3, vI limit)]) (st' := [vI keeps0, vI ((391 + (3 * w36)) + 1), vR 78]) B251_79_90 rfl ?_
          refine r_iast (pc' := 91) D251_90 rfl sc_78 H42 (by omega) (by unfold inR; omega) (by show s_in (rgK _) _; rw [rk_box (by omega)]; show 0 ≤ keeps0 ∧ keeps0 ≤ 300; omega) ?_
          intro M45 u46 H47 p48
          have f49 := f44.wr u46 rfl
          refine s_blx (lv' := [(4, vI w36), (0, vR 77), (1, vI lag), (2, vI keeps0), (3, vI limit)]) (st' := [vR 77]) B251_91_92 rfl ?_
          refine r_gfix (r := 78) (pc' := 95) D251_92 rfl gf_11_13_77 H47.1 ?_
          refine s_blx (lv' := [(4, vI w36), (0, vR 77), (1, vI lag), (2, vI keeps0), (3, vI limit)]) (st' := [vI limit, vI ((391 + (3 * w36)) + 2), vR 78]) B251_95_106 rfl ?_
          refine r_iast (pc' := 107) D251_106 rfl sc_78 H47 (by omega) (by unfold inR; omega) (by show s_in (rgK _) _; rw [rk_box (by omega)]; show 0 ≤ limit ∧ limit ≤ 300; omega) ?_
          intro M50 u51 H52 p53
          have f54 := f49.wr u51 rfl
          refine s_blx (lv' := [(4, vI w36), (0, vR 77), (1, vI lag), (2, vI keeps0), (3, vI limit)]) (st' := [vR 77]) B251_107_108 rfl ?_
          refine r_gfix (r := 78) (pc' := 111) D251_108 rfl gf_11_13_77 H52.1 ?_
          refine s_blx (lv' := [(4, vI w36), (0, vR 77), (1, vI lag), (2, vI keeps0), (3, vI limit)]) (st' := [vI 472, vR 78, vI 472, vR 78]) B251_111_115 rfl ?_
          refine r_iald (pc' := 116) D251_115 rfl sc_78 H52.1 (by omega) ?_
          intro w55 e56 r57
          have e58 : w36 = w55 := (e56.trans ((u51.gi_ne (by omega) (Or.inr (by omega))).trans ((u46.gi_ne (by omega) (Or.inr (by omega))).trans ((u41.gi_ne (by omega) (Or.inr (by omega))).trans (e37.symm))))).symm
          subst e58
          refine s_blx (lv' := [(4, vI w36), (0, vR 77), (1, vI lag), (2, vI keeps0), (3, vI limit)]) (st' := [vI (w36 + 1), vI 472, vR 78]) B251_116_118 rfl ?_
          refine r_iast (pc' := 119) D251_118 rfl sc_78 H52 (by omega) (by unfold inR; omega) (by show s_in (rgK _) _; rw [rk_boxmany (by omega)]; show 0 ≤ (w36 + 1) ∧ (w36 + 1) ≤ 6; omega) ?_
          intro M59 u60 H61 p62
          have f63 := f54.wr u60 rfl
          refine s_blx (lv' := [(4, vI w36), (0, vR 77), (1, vI lag), (2, vI keeps0), (3, vI limit)]) (st' := [vI w36, vR 77]) B251_119_122 rfl ?_
          refine r_vI (c := 77) (args := [vI w36]) (rest := []) (pc' := 125) D251_122 rfl ck_11_virtual_131 TE149 rfl (Nat.le_of_ble_eq_true rfl) ⟨Nat.le_of_ble_eq_true rfl, Nat.le_of_ble_eq_true rfl⟩ sc_77 ⟨rfl, by decide⟩ H61.1 (dp_0 hd rfl) (k149 E (dp_n hd rfl) H61 w36 (by omega)) ?_
          intro v64 M65 q69
          obtain ⟨H66, f67, q68⟩ := q69
          have f70 := f63.tr (f67.up rfl)
          exact r_iretI D251_125 rfl (⟨H66, f70⟩)
        · refine s_blx (lv' := [(4, vI w36), (0, vR 77), (1, vI lag), (2, vI keeps0), (3, vI limit)]) (st' := [vI (-5), vR 77]) B251_54_57 rfl ?_
          refine r_vI (c := 77) (args := [vI (-5)]) (rest := []) (pc' := 60) D251_57 rfl ck_11_virtual_127 TE148 rfl (Nat.le_of_ble_eq_true rfl) ⟨Nat.le_of_ble_eq_true rfl, Nat.le_of_ble_eq_true rfl⟩ sc_77 ⟨rfl, by decide⟩ H.1 (dp_0 hd rfl) (k148 E (dp_n hd rfl) H (-5) (by omega)) ?_
          intro v71 M72 q76
          obtain ⟨H73, f74, q75⟩ := q76
          have f77 := f0.tr (f74.up rfl)
          exact r_iretI D251_60 rfl (⟨H73, f77⟩)
      · refine s_blx (lv' := [(0, vR 77), (1, vI lag), (2, vI keeps0), (3, vI limit)]) (st' := [vI (-1), vR 77]) B251_31_33 rfl ?_
        refine r_vI (c := 77) (args := [vI (-1)]) (rest := []) (pc' := 36) D251_33 rfl ck_11_virtual_127 TE148 rfl (Nat.le_of_ble_eq_true rfl) ⟨Nat.le_of_ble_eq_true rfl, Nat.le_of_ble_eq_true rfl⟩ sc_77 ⟨rfl, by decide⟩ H.1 (dp_0 hd rfl) (k148 E (dp_n hd rfl) H (-1) (by omega)) ?_
        intro v78 M79 q83
        obtain ⟨H80, f81, q82⟩ := q83
        have f84 := f0.tr (f81.up rfl)
        exact r_iretI D251_36 rfl (⟨H80, f84⟩)
set_option maxRecDepth 4000 in
theorem L_k253 {base : Nat} {X : Nat → Option mC} {G : Nat → Value} (E : EnvOK base X G) {d : Nat} (hd : 0 ≤ d) {M : mH} (H : HI base M) (n : Int) (h0 : 0 ≤ n ∧ n ≤ 6) : ∀ mz : Nat, (∀ (x2 x3 : Int), ((-2147483648) ≤ x2) → (x2 ≤ 2147483647) → (0 ≤ x3) → (x3 ≤ 6) → (6 - x3) * 1 + 0 < (mz : Int) → sRn base X G d T253 4 [(0, vR 77), (1, vI n), (2, vI x2), (3, vI x3)] [] M (s_Q base (pI (fun v M' => M' = M ∧ (v = 0 ∨ v = 1))))) := by
  intro mz
  induction mz with
  | zero => exact fun x2 x3 z0 z1 z2 z3 z4 => by omega
  | succ mz ih =>
    intro x2 x3 i0 i1 i2 i3 hmu
    refine s_blx (lv' := [(0, vR 77), (1, vI n), (2, vI x2), (3, vI x3)]) (st' := [vI n, vI x3]) B253_4_6 rfl ?_
    refine r_icmp (tgt := 26) (pc' := 9) D253_6 rfl rfl (by unfold inR; omega) (fun (c1 : n ≤ x3) => ?_) (fun (c1 : ¬ (n ≤ x3)) => ?_)
    · refine s_blx (lv' := [(0, vR 77), (1, vI n), (2, vI x2), (3, vI x3)]) (st' := [vI n, vI 1, vI x2]) B253_26_29 rfl ?_
      refine r_bin (pc' := 30) D253_29 rfl rfl ?_
      intro z2 r3 _; unfold inR at r3
      refine s_blx (lv' := [(0, vR 77), (1, vI n), (2, vI x2), (3, vI x3)]) (st' := [vI (z2 - 1), vI x2]) B253_30_32 rfl ?_
      refine r_norm ?_
      intro z4 r5 _; unfold inR at r5
      refine r_icmp (tgt := 39) (pc' := 35) D253_32 rfl rfl (by unfold inR; omega) (fun (c6 : x2 ≠ z4) => ?_) (fun (c6 : ¬ (x2 ≠ z4)) => ?_)
      · refine s_blx (lv' := [(0, vR 77), (1, vI n), (2, vI x2), (3, vI x3)]) (st' := [vI 0]) B253_39_40 rfl ?_
        exact r_zretI D253_40 rfl (by omega) (⟨rfl, by omega⟩)
      · refine s_blx (lv' := [(0, vR 77), (1, vI n), (2, vI x2), (3, vI x3)]) (st' := [vI 1]) B253_35_36 rfl ?_
        refine r_goto (tgt := 40) D253_36 rfl ?_
        exact r_zretI D253_40 rfl (by omega) (⟨rfl, by omega⟩)
    · refine s_blx (lv' := [(0, vR 77), (1, vI n), (2, vI x2), (3, vI x3)]) (st' := [vR 77, vI 1, vI x2]) B253_9_12 rfl ?_
      refine r_gfix (r := 104) (pc' := 15) D253_12 rfl gf_11_99_77 H.1 ?_
      refine s_blx (lv' := [(0, vR 77), (1, vI n), (2, vI x2), (3, vI x3)]) (st' := [vI x3, vR 104, vI 1, vI x2]) B253_15_16 rfl ?_
      refine r_iald (pc' := 17) D253_16 rfl sc_104 H.1 (by omega) ?_
      intro w7 e8 r9
      have b_w7 := H.2 104 (x3) 0 5 rfl
      rw [← e8] at b_w7; clear r9
      refine r_bin (pc' := 18) D253_17 rfl rfl ?_
      intro z10 r11 _; unfold inR at r11
      refine r_bin (pc' := 19) D253_18 rfl rfl ?_
      intro z12 r13 _; unfold inR at r13
      refine s_blx (lv' := [(3, vI (x3 + 1)), (2, vI z12), (0, vR 77), (1, vI n)]) (st' := []) B253_19_23 rfl ?_
      refine r_goto (tgt := 4) D253_23 rfl ?_
      refine r_loc (lv' := [(0, vR 77), (1, vI n), (2, vI z12), (3, vI (x3 + 1))]) ⟨rfl, rfl, rfl, rfl, trivial⟩ rfl rfl ?_
      exact ih z12 (x3 + 1) (by omega) (by omega) (by omega) (by omega) (by omega)
set_option maxRecDepth 4000 in
theorem k253 {base : Nat} {X : Nat → Option mC} {G : Nat → Value} (E : EnvOK base X G) {d : Nat} (hd : 0 ≤ d) {M : mH} (H : HI base M) (n : Int) (h0 : 0 ≤ n ∧ n ≤ 6) : sOk base X G d T253 [vR 77, vI n] M (pI (fun v M' => M' = M ∧ (v = 0 ∨ v = 1))) := by
  refine sOk.of (show sRn base X G d T253 0 [(0, vR 77), (1, vI n)] [] M _ from ?_)
  refine s_blx (lv' := [(3, vI 0), (2, vI 0), (0, vR 77), (1, vI n)]) (st' := []) B253_0_4 rfl ?_
  refine r_loc (lv' := [(0, vR 77), (1, vI n), (2, vI 0), (3, vI 0)]) ⟨rfl, rfl, rfl, rfl, trivial⟩ rfl rfl ?_
  exact (L_k253 E hd H n h0 (((6 - 0) * 1 + 0 : Int) + 1).toNat) 0 0 (by omega) (by omega) (by omega) (by omega) (by omega)
set_option maxRecDepth 4000 in
theorem L_k252 {base : Nat} {X : Nat → Option mC} {G : Nat → Value} (E : EnvOK base X G) {d : Nat} (hd : 0 ≤ d) {M : mH} (H : HI base M) : ∀ mz : Nat, (∀ (x1 x2 x3 : Int), ((-2147483648) ≤ x1) → (x1 ≤ 2147483647) → (0 ≤ x2) → (0 ≤ x3) → (x3 ≤ 6) → (6 - x3) * 1 + 0 < (mz : Int) → sRn base X G d T252 8 [(0, vR 77), (1, vI x1), (2, vI x2), (3, vI x3)] [] M (s_Q base (pI (fun v M' => M' = M ∧ (-2147483648 ≤ v ∧ v ≤ 2147483647))))) := by
  intro mz
  induction mz with
  | zero => exact fun x1 x2 x3 z0 z1 z2 z3 z4 z5 => by omega
  | succ mz ih =>
    intro x1 x2 x3 i0 i1 i2 i3 i4 hmu
    refine s_blx (lv' := [(0, vR 77), (1, vI x1), (2, vI x2), (3, vI x3)]) (st' := [vR 77, vI x3]) B252_8_10 rfl ?_
    refine r_gfix (r := 78) (pc' := 13) D252_10 rfl gf_11_13_77 H.1 ?_
    refine s_blx (lv' := [(0, vR 77), (1, vI x1), (2, vI x2), (3, vI x3)]) (st' := [vI 472, vR 78, vI x3]) B252_13_16 rfl ?_
    refine r_iald (pc' := 17) D252_16 rfl sc_78 H.1 (by omega) ?_
    intro w1 e2 r3
    have b_w1 := H.2 78 (472) 0 6 (rk_boxmany (by omega))
    rw [← e2] at b_w1; clear r3
    refine r_icmp (tgt := 82) (pc' := 20) D252_17 rfl rfl (by unfold inR; omega) (fun (c4 : w1 ≤ x3) => ?_) (fun (c4 : ¬ (w1 ≤ x3)) => ?_)
    · refine s_blx (lv' := [(0, vR 77), (1, vI x1), (2, vI x2), (3, vI x3)]) (st' := [vI x1]) B252_82_83 rfl ?_
      exact r_iretI D252_83 rfl (⟨rfl, by omega⟩)
    · refine s_blx (lv' := [(0, vR 77), (1, vI x1), (2, vI x2), (3, vI x3)]) (st' := [vR 77, vI 3, vI 391]) B252_20_25 rfl ?_
      refine r_gfix (r := 104) (pc' := 28) D252_25 rfl gf_11_99_77 H.1 ?_
      refine s_blx (lv' := [(0, vR 77), (1, vI x1), (2, vI x2), (3, vI x3)]) (st' := [vI x3, vR 104, vI 3, vI 391]) B252_28_29 rfl ?_
      refine r_iald (pc' := 30) D252_29 rfl sc_104 H.1 (by omega) ?_
      intro w5 e6 r7
      have b_w5 := H.2 104 (x3) 0 5 rfl
      rw [← e6] at b_w5; clear r7
      refine s_blx (lv' := [(4, vI (391 + (3 * w5))), (0, vR 77), (1, vI x1), (2, vI x2), (3, vI x3)]) (st' := [vR 77, vI x1]) B252_30_36 rfl ?_
      refine r_gfix (r := 78) (pc' := 39) D252_36 rfl gf_11_13_77 H.1 ?_
      refine s_blx (lv' := [(4, vI (391 + (3 * w5))), (0, vR 77), (1, vI x1), (2, vI x2), (3, vI x3)]) (st' := [vI ((391 + (3 * w5)) + 1), vR 78, vI x1]) B252_39_43 rfl ?_
      refine r_iald (pc' := 44) D252_43 rfl sc_78 H.1 (by omega) ?_
      intro w8 e9 r10
      have b_w8 := H.2 78 ((391 + (3 * w5)) + 1) 0 300 (rk_box (by omega))
      rw [← e9] at b_w8; clear r10
      refine s_blx (lv' := [(4, vI (391 + (3 * w5))), (0, vR 77), (1, vI x1), (2, vI x2), (3, vI x3)]) (st' := [vI 100, vI (x1 * w8)]) B252_44_47 rfl ?_
      refine r_idivX (pc' := 48) D252_47 rfl (by unfold inR; omega) ?_
      intro z11 r12; unfold inR at r12
      refine s_blx (lv' := [(1, vI z11), (4, vI (391 + (3 * w5))), (0, vR 77), (2, vI x2), (3, vI x3)]) (st' := [vR 77, vI x2]) B252_48_51 rfl ?_
      refine r_gfix (r := 78) (pc' := 54) D252_51 rfl gf_11_13_77 H.1 ?_
      refine s_blx (lv' := [(1, vI z11), (4, vI (391 + (3 * w5))), (0, vR 77), (2, vI x2), (3, vI x3)]) (st' := [vI ((391 + (3 * w5)) + 2), vR 78, vI x2]) B252_54_58 rfl ?_
      refine r_iald (pc' := 59) D252_58 rfl sc_78 H.1 (by omega) ?_
      intro w13 e14 r15
      have b_w13 := H.2 78 ((391 + (3 * w5)) + 2) 0 300 (rk_box (by omega))
      rw [← e14] at b_w13; clear r15
      refine r_norm2 ?_
      intro z16 r17 _; unfold inR at r17
      refine r_icmp (tgt := 66) (pc' := 62) D252_59 rfl rfl (by unfold inR; omega) (fun (c18 : z16 ≤ w13) => ?_) (fun (c18 : ¬ (z16 ≤ w13)) => ?_)
      · refine s_blx (lv' := [(1, vI z11), (4, vI (391 + (3 * w5))), (0, vR 77), (2, vI x2), (3, vI x3)]) (st' := [vR 77, vI x2]) B252_66_68 rfl ?_
        refine r_gfix (r := 78) (pc' := 71) D252_68 rfl gf_11_13_77 H.1 ?_
        refine s_blx (lv' := [(1, vI z11), (4, vI (391 + (3 * w5))), (0, vR 77), (2, vI x2), (3, vI x3)]) (st' := [vI (391 + (3 * w5)), vR 78, vI x2]) B252_71_73 rfl ?_
        refine r_iald (pc' := 74) D252_73 rfl sc_78 H.1 (by omega) ?_
        intro w19 e20 r21
        have b_w19 := H.2 78 (391 + (3 * w5)) 0 300 (rk_box (by omega))
        rw [← e20] at b_w19; clear r21
        refine s_blx (lv' := [(3, vI (x3 + 1)), (2, vI (x2 + w19)), (1, vI z11), (4, vI (391 + (3 * w5))), (0, vR 77)]) (st' := []) B252_74_79 rfl ?_
        refine r_goto (tgt := 8) D252_79 rfl ?_
        refine r_loc (lv' := [(0, vR 77), (1, vI z11), (2, vI (x2 + w19)), (3, vI (x3 + 1))]) ⟨rfl, rfl, rfl, rfl, trivial⟩ rfl rfl ?_
        exact ih z11 (x2 + w19) (x3 + 1) (by omega) (by omega) (by omega) (by omega) (by omega) (by omega)
      · refine s_blx (lv' := [(1, vI z11), (4, vI (391 + (3 * w5))), (0, vR 77), (2, vI x2), (3, vI x3)]) (st' := [vI 2, vI z11]) B252_62_64 rfl ?_
        refine r_idivX (pc' := 65) D252_64 rfl (by unfold inR; omega) ?_
        intro z22 r23; unfold inR at r23
        refine s_blx (lv' := [(1, vI z22), (4, vI (391 + (3 * w5))), (0, vR 77), (2, vI x2), (3, vI x3)]) (st' := [vR 77, vI x2]) B252_65_68 rfl ?_
        refine r_gfix (r := 78) (pc' := 71) D252_68 rfl gf_11_13_77 H.1 ?_
        refine s_blx (lv' := [(1, vI z22), (4, vI (391 + (3 * w5))), (0, vR 77), (2, vI x2), (3, vI x3)]) (st' := [vI (391 + (3 * w5)), vR 78, vI x2]) B252_71_73 rfl ?_
        refine r_iald (pc' := 74) D252_73 rfl sc_78 H.1 (by omega) ?_
        intro w24 e25 r26
        have b_w24 := H.2 78 (391 + (3 * w5)) 0 300 (rk_box (by omega))
        rw [← e25] at b_w24; clear r26
        refine s_blx (lv' := [(3, vI (x3 + 1)), (2, vI (x2 + w24)), (1, vI z22), (4, vI (391 + (3 * w5))), (0, vR 77)]) (st' := []) B252_74_79 rfl ?_
        refine r_goto (tgt := 8) D252_79 rfl ?_
        refine r_loc (lv' := [(0, vR 77), (1, vI z22), (2, vI (x2 + w24)), (3, vI (x3 + 1))]) ⟨rfl, rfl, rfl, rfl, trivial⟩ rfl rfl ?_
        exact ih z22 (x2 + w24) (x3 + 1) (by omega) (by omega) (by omega) (by omega) (by omega) (by omega)
set_option maxRecDepth 4000 in
theorem k252 {base : Nat} {X : Nat → Option mC} {G : Nat → Value} (E : EnvOK base X G) {d : Nat} (hd : 0 ≤ d) {M : mH} (H : HI base M) : sOk base X G d T252 [vR 77] M (pI (fun v M' => M' = M ∧ (-2147483648 ≤ v ∧ v ≤ 2147483647))) := by
  refine sOk.of (show sRn base X G d T252 0 [(0, vR 77)] [] M _ from ?_)
  refine r_ldcw (e := 1000000) (pc' := 3) D252_0 rfl ci_11_317 (by decide) ?_
  refine s_blx (lv' := [(3, vI 0), (2, vI 0), (1, vI 1000000), (0, vR 77)]) (st' := []) B252_3_8 rfl ?_
  refine r_loc (lv' := [(0, vR 77), (1, vI 1000000), (2, vI 0), (3, vI 0)]) ⟨rfl, rfl, rfl, rfl, trivial⟩ rfl rfl ?_
  exact (L_k252 E hd H (((6 - 0) * 1 + 0 : Int) + 1).toNat) 1000000 0 0 (by omega) (by omega) (by omega) (by omega) (by omega) (by omega)
set_option maxRecDepth 4000 in
theorem k255 {base : Nat} {X : Nat → Option mC} {G : Nat → Value} (E : EnvOK base X G) {d : Nat} (hd : 1 ≤ d) {M : mH} (H : HI base M) (i : Int) (h0 : -2147483648 ≤ i ∧ i ≤ 2147483647) : sOk base X G d T255 [vR 77, vI i] M (pI (fun v M' => M' = M ∧ True)) := by
  refine sOk.of (show sRn base X G d T255 0 [(0, vR 77), (1, vI i)] [] M _ from ?_)
  refine s_blx (lv' := [(0, vR 77), (1, vI i)]) (st' := [vR 77, vI 0, vI i]) B255_0_3 rfl ?_
  refine r_gint (ki := 51) (pc' := 6) D255_3 rfl gf_11_459_77 rfl H.1 ?_
  intro w1 e2 r3
  have b_w1 := H.2 77 (51) 0 6 rfl
  rw [← e2] at b_w1; clear r3
  refine s_blx (lv' := [(0, vR 77), (1, vI i)]) (st' := [vI (w1 - 1), vI 0, vI i]) B255_6_8 rfl ?_
  refine r_sIp (args := [vI i, vI 0, vI (w1 - 1)]) (rest := []) (pc' := 11) D255_8 rfl ck_11_static_123 TE147 rfl (Nat.le_of_ble_eq_true rfl) ⟨Nat.le_of_ble_eq_true rfl, Nat.le_of_ble_eq_true rfl⟩ (by decide) (dp_0 hd rfl) (k147 E (dp_n hd rfl) H i 0 (w1 - 1) (by omega) (by omega) (by omega)) ?_
  intro v4 q9
  obtain ⟨q6, q7, q8⟩ := q9
  refine r_ifc (tgt := 23) (pc' := 14) D255_11 rfl rfl (by unfold inR; omega) (fun (c10 : v4 = 0) => ?_) (fun (c10 : ¬ (v4 = 0)) => ?_)
  · refine s_blx (lv' := [(0, vR 77), (1, vI i)]) (st' := [vI (-1)]) B255_23_24 rfl ?_
    exact r_iretI D255_24 rfl (⟨rfl, trivial⟩)
  · refine s_blx (lv' := [(0, vR 77), (1, vI i)]) (st' := [vR 77]) B255_14_15 rfl ?_
    refine r_gfix (r := 103) (pc' := 18) D255_15 rfl gf_11_96_77 H.1 ?_
    refine s_blx (lv' := [(0, vR 77), (1, vI i)]) (st' := [vI i, vR 103]) B255_18_19 rfl ?_
    refine r_iald (pc' := 20) D255_19 rfl sc_103 H.1 (by omega) ?_
    intro w11 e12 r13
    unfold inR at r13
    refine r_goto (tgt := 24) D255_20 rfl ?_
    exact r_iretI D255_24 rfl (⟨rfl, trivial⟩)
set_option maxRecDepth 4000 in
theorem k256 {base : Nat} {X : Nat → Option mC} {G : Nat → Value} (E : EnvOK base X G) {d : Nat} (hd : 1 ≤ d) {M : mH} (H : HI base M) (minute : Int) (cost : Int) (h0 : -2147483648 ≤ minute ∧ minute ≤ 2147483647) (h1 : -2147483648 ≤ cost ∧ cost ≤ 2147483647) : sOk base X G d T256 [vR 77, vI minute, vI cost] M (pI (fun v M' => HI base M' ∧ Fr [(77, 1), (78, 0)] M M')) := by
  have f0 : Fr [(77, 1), (78, 0)] M M := Fr.rf
  refine sOk.of (show sRn base X G d T256 0 [(0, vR 77), (1, vI minute), (2, vI cost)] [] M _ from ?_)
  refine s_blx (lv' := [(0, vR 77), (1, vI minute), (2, vI cost)]) (st' := [vI 59, vI 0, vI minute]) B256_0_4 rfl ?_
  refine r_sIp (args := [vI minute, vI 0, vI 59]) (rest := []) (pc' := 7) D256_4 rfl ck_11_static_123 TE147 rfl (Nat.le_of_ble_eq_true rfl) ⟨Nat.le_of_ble_eq_true rfl, Nat.le_of_ble_eq_true rfl⟩ (by decide) (dp_0 hd rfl) (k147 E (dp_n hd rfl) H minute 0 59 (by omega) (by omega) (by omega)) ?_
  intro v1 q6
  obtain ⟨q3, q4, q5⟩ := q6
  refine r_ifc (tgt := 21) (pc' := 10) D256_7 rfl rfl (by unfold inR; omega) (fun (c7 : v1 = 0) => ?_) (fun (c7 : ¬ (v1 = 0)) => ?_)
  · refine s_blx (lv' := [(0, vR 77), (1, vI minute), (2, vI cost)]) (st' := [vI (-1), vR 77]) B256_21_23 rfl ?_
    refine r_vI (c := 77) (args := [vI (-1)]) (rest := []) (pc' := 26) D256_23 rfl ck_11_virtual_127 TE148 rfl (Nat.le_of_ble_eq_true rfl) ⟨Nat.le_of_ble_eq_true rfl, Nat.le_of_ble_eq_true rfl⟩ sc_77 ⟨rfl, by decide⟩ H.1 (dp_0 hd rfl) (k148 E (dp_n hd rfl) H (-1) (by omega)) ?_
    intro v8 M9 q13
    obtain ⟨H10, f11, q12⟩ := q13
    have f14 := f0.tr (f11.up rfl)
    exact r_iretI D256_26 rfl (⟨H10, f14⟩)
  · refine s_blx (lv' := [(0, vR 77), (1, vI minute), (2, vI cost)]) (st' := [vI 1000, vI 0, vI cost]) B256_10_15 rfl ?_
    refine r_sIp (args := [vI cost, vI 0, vI 1000]) (rest := []) (pc' := 18) D256_15 rfl ck_11_static_123 TE147 rfl (Nat.le_of_ble_eq_true rfl) ⟨Nat.le_of_ble_eq_true rfl, Nat.le_of_ble_eq_true rfl⟩ (by decide) (dp_0 hd rfl) (k147 E (dp_n hd rfl) H cost 0 1000 (by omega) (by omega) (by omega)) ?_
    intro v15 q20
    obtain ⟨q17, q18, q19⟩ := q20
    refine r_ifc (tgt := 27) (pc' := 21) D256_18 rfl rfl (by unfold inR; omega) (fun (c21 : v15 ≠ 0) => ?_) (fun (c21 : ¬ (v15 ≠ 0)) => ?_)
    · refine s_blx (lv' := [(0, vR 77), (1, vI minute), (2, vI cost)]) (st' := [vR 77]) B256_27_28 rfl ?_
      refine r_gfix (r := 78) (pc' := 31) D256_28 rfl gf_11_13_77 H.1 ?_
      refine s_blx (lv' := [(0, vR 77), (1, vI minute), (2, vI cost)]) (st' := [vI (409 + minute), vR 78]) B256_31_36 rfl ?_
      refine r_iald (pc' := 37) D256_36 rfl sc_78 H.1 (by omega) ?_
      intro w22 e23 r24
      have b_w22 := H.2 78 (409 + minute) 0 1000 (rk_tired (by omega))
      rw [← e23] at b_w22; clear r24
      refine s_blx (lv' := [(3, vI w22), (0, vR 77), (1, vI minute), (2, vI cost)]) (st' := [vR 77]) B256_37_39 rfl ?_
      refine r_gfix (r := 78) (pc' := 42) D256_39 rfl gf_11_13_77 H.1 ?_
      refine s_blx (lv' := [(3, vI w22), (0, vR 77), (1, vI minute), (2, vI cost)]) (st' := [vI cost, vI (409 + minute), vR 78]) B256_42_48 rfl ?_
      refine r_iast (pc' := 49) D256_48 rfl sc_78 H (by omega) (by unfold inR; omega) (by show s_in (rgK _) _; rw [rk_tired (by omega)]; show 0 ≤ cost ∧ cost ≤ 1000; omega) ?_
      intro M25 u26 H27 p28
      have f29 := f0.wr u26 rfl
      refine s_blx (lv' := [(3, vI w22), (0, vR 77), (1, vI minute), (2, vI cost)]) (st' := [vI w22, vR 77]) B256_49_51 rfl ?_
      refine r_vI (c := 77) (args := [vI w22]) (rest := []) (pc' := 54) D256_51 rfl ck_11_virtual_131 TE149 rfl (Nat.le_of_ble_eq_true rfl) ⟨Nat.le_of_ble_eq_true rfl, Nat.le_of_ble_eq_true rfl⟩ sc_77 ⟨rfl, by decide⟩ H27.1 (dp_0 hd rfl) (k149 E (dp_n hd rfl) H27 w22 (by omega)) ?_
      intro v30 M31 q35
      obtain ⟨H32, f33, q34⟩ := q35
      have f36 := f29.tr (f33.up rfl)
      exact r_iretI D256_54 rfl (⟨H32, f36⟩)
    · refine s_blx (lv' := [(0, vR 77), (1, vI minute), (2, vI cost)]) (st' := [vI (-1), vR 77]) B256_21_23 rfl ?_
      refine r_vI (c := 77) (args := [vI (-1)]) (rest := []) (pc' := 26) D256_23 rfl ck_11_virtual_127 TE148 rfl (Nat.le_of_ble_eq_true rfl) ⟨Nat.le_of_ble_eq_true rfl, Nat.le_of_ble_eq_true rfl⟩ sc_77 ⟨rfl, by decide⟩ H.1 (dp_0 hd rfl) (k148 E (dp_n hd rfl) H (-1) (by omega)) ?_
      intro v37 M38 q42
      obtain ⟨H39, f40, q41⟩ := q42
      have f43 := f0.tr (f40.up rfl)
      exact r_iretI D256_26 rfl (⟨H39, f43⟩)
set_option maxRecDepth 4000 in
theorem k258 {base : Nat} {X : Nat → Option mC} {G : Nat → Value} (E : EnvOK base X G) {d : Nat} (hd : 1 ≤ d) {M : mH} (H : HI base M) (i : Int) (h0 : -2147483648 ≤ i ∧ i ≤ 2147483647) : sOk base X G d T258 [vR 77, vI i] M (pI (fun v M' => M' = M ∧ True)) := by
  refine sOk.of (show sRn base X G d T258 0 [(0, vR 77), (1, vI i)] [] M _ from ?_)
  refine s_blx (lv' := [(0, vR 77), (1, vI i)]) (st' := [vR 77]) B258_0_1 rfl ?_
  refine r_gint (ki := 55) (pc' := 4) D258_1 rfl gf_11_111_77 rfl H.1 ?_
  intro w1 e2 r3
  have b_w1 := H.2 77 (55) (-1) 120 rfl
  rw [← e2] at b_w1; clear r3
  refine s_blx (lv' := [(0, vR 77), (1, vI i)]) (st' := [vI (-1), vI w1]) B258_4_5 rfl ?_
  refine r_icmp (tgt := 22) (pc' := 8) D258_5 rfl rfl (by unfold inR; omega) (fun (c4 : w1 = (-1)) => ?_) (fun (c4 : ¬ (w1 = (-1))) => ?_)
  · refine s_blx (lv' := [(0, vR 77), (1, vI i)]) (st' := [vI (-1)]) B258_22_23 rfl ?_
    exact r_iretI D258_23 rfl (⟨rfl, trivial⟩)
  · refine s_blx (lv' := [(0, vR 77), (1, vI i)]) (st' := [vR 77, vI (-1), vI i]) B258_8_11 rfl ?_
    refine r_gint (ki := 55) (pc' := 14) D258_11 rfl gf_11_111_77 rfl H.1 ?_
    intro w5 e6 r7
    have e8 : w1 = w5 := (e6.trans (e2.symm)).symm
    subst e8
    refine s_blx (lv' := [(0, vR 77), (1, vI i)]) (st' := [vI (w1 - 1), vI (-1), vI i]) B258_14_16 rfl ?_
    refine r_sIp (args := [vI i, vI (-1), vI (w1 - 1)]) (rest := []) (pc' := 19) D258_16 rfl ck_11_static_123 TE147 rfl (Nat.le_of_ble_eq_true rfl) ⟨Nat.le_of_ble_eq_true rfl, Nat.le_of_ble_eq_true rfl⟩ (by decide) (dp_0 hd rfl) (k147 E (dp_n hd rfl) H i (-1) (w1 - 1) (by omega) (by omega) (by omega)) ?_
    intro v9 q14
    obtain ⟨q11, q12, q13⟩ := q14
    refine r_ifc (tgt := 24) (pc' := 22) D258_19 rfl rfl (by unfold inR; omega) (fun (c15 : v9 ≠ 0) => ?_) (fun (c15 : ¬ (v9 ≠ 0)) => ?_)
    · refine s_blx (lv' := [(0, vR 77), (1, vI i)]) (st' := [vI (-1), vI i]) B258_24_26 rfl ?_
      refine r_icmp (tgt := 36) (pc' := 29) D258_26 rfl rfl (by unfold inR; omega) (fun (c16 : i ≠ (-1)) => ?_) (fun (c16 : ¬ (i ≠ (-1))) => ?_)
      · refine s_blx (lv' := [(0, vR 77), (1, vI i)]) (st' := [vR 77]) B258_36_37 rfl ?_
        refine r_gfix (r := 107) (pc' := 40) D258_37 rfl gf_11_108_77 H.1 ?_
        refine s_blx (lv' := [(0, vR 77), (1, vI i)]) (st' := [vI i, vR 107]) B258_40_41 rfl ?_
        refine r_iald (pc' := 42) D258_41 rfl sc_107 H.1 (by omega) ?_
        intro w17 e18 r19
        unfold inR at r19
        exact r_iretI D258_42 rfl (⟨rfl, trivial⟩)
      · refine s_blx (lv' := [(0, vR 77), (1, vI i)]) (st' := [vR 77]) B258_29_30 rfl ?_
        refine r_gint (ki := 55) (pc' := 33) D258_30 rfl gf_11_111_77 rfl H.1 ?_
        intro w20 e21 r22
        have e23 : w1 = w20 := (e21.trans (e2.symm)).symm
        subst e23
        refine r_goto (tgt := 42) D258_33 rfl ?_
        exact r_iretI D258_42 rfl (⟨rfl, trivial⟩)
    · refine s_blx (lv' := [(0, vR 77), (1, vI i)]) (st' := [vI (-1)]) B258_22_23 rfl ?_
      exact r_iretI D258_23 rfl (⟨rfl, trivial⟩)
set_option maxRecDepth 4000 in
theorem L_k259 {base : Nat} {X : Nat → Option mC} {G : Nat → Value} (E : EnvOK base X G) {d : Nat} (hd : 1 ≤ d) {M : mH} (H : HI base M) (w : Int) (h0 : 0 ≤ w ∧ w ≤ 29) : ∀ mz : Nat, (∀ (x2 x3 : Int), (0 ≤ x2) → (0 ≤ x3) → (x3 ≤ 16) → (16 - x3) * 10 + 9 < (mz : Int) → sRn base X G d T259 4 [(0, vR 77), (1, vI w), (2, vI x2), (3, vI x3)] [] M (s_Q base (pI (fun v M' => M' = M ∧ (-2147483648 ≤ v ∧ v ≤ 2147483647))))) ∧ (∀ (x2 x3 x4 : Int), (0 ≤ x2) → (0 ≤ x3) → (x3 ≤ 15) → (0 ≤ x4) → (x4 ≤ 8) → (16 - x3) * 10 + 0 + (8 - x4) * 1 + 0 < (mz : Int) → sRn base X G d T259 19 [(0, vR 77), (1, vI w), (2, vI x2), (3, vI x3), (4, vI x4)] [] M (s_Q base (pI (fun v M' => M' = M ∧ (-2147483648 ≤ v ∧ v ≤ 2147483647))))) := by
  intro mz
  induction mz with
  | zero => exact ⟨fun x2 x3 z0 z1 z2 z3 => by omega, fun x2 x3 x4 z0 z1 z2 z3 z4 z5 => by omega⟩
  | succ mz ih =>
    refine ⟨?_, ?_⟩
    · intro x2 x3 i0 i1 i2 hmu
      refine s_blx (lv' := [(0, vR 77), (1, vI w), (2, vI x2), (3, vI x3)]) (st' := [vR 77, vI x3]) B259_4_6 rfl ?_
      refine r_gfix (r := 78) (pc' := 9) D259_6 rfl gf_11_13_77 H.1 ?_
      refine s_blx (lv' := [(0, vR 77), (1, vI w), (2, vI x2), (3, vI x3)]) (st' := [vI 469, vR 78, vI x3]) B259_9_12 rfl ?_
      refine r_iald (pc' := 13) D259_12 rfl sc_78 H.1 (by omega) ?_
      intro w1 e2 r3
      have b_w1 := H.2 78 (469) 0 16 (rk_many (by omega))
      rw [← e2] at b_w1; clear r3
      refine r_icmp (tgt := 64) (pc' := 16) D259_13 rfl rfl (by unfold inR; omega) (fun (c4 : w1 ≤ x3) => ?_) (fun (c4 : ¬ (w1 ≤ x3)) => ?_)
      · refine s_blx (lv' := [(0, vR 77), (1, vI w), (2, vI x2), (3, vI x3)]) (st' := [vR 77, vI x2]) B259_64_66 rfl ?_
        refine r_gfix (r := 78) (pc' := 69) D259_66 rfl gf_11_13_77 H.1 ?_
        refine s_blx (lv' := [(0, vR 77), (1, vI w), (2, vI x2), (3, vI x3)]) (st' := [vI (60 + w), vR 78, vI x2]) B259_69_73 rfl ?_
        refine r_iald (pc' := 74) D259_73 rfl sc_78 H.1 (by omega) ?_
        intro w5 e6 r7
        have b_w5 := H.2 78 (60 + w) 0 9 (rk_spare (by omega))
        rw [← e6] at b_w5; clear r7
        refine s_blx (lv' := [(0, vR 77), (1, vI w), (2, vI x2), (3, vI x3)]) (st' := [vI (x2 * w5)]) B259_74_75 rfl ?_
        refine r_norm ?_
        intro z8 r9 _; unfold inR at r9
        exact r_iretI D259_75 rfl (⟨rfl, by omega⟩)
      · refine s_blx (lv' := [(4, vI 0), (0, vR 77), (1, vI w), (2, vI x2), (3, vI x3)]) (st' := []) B259_16_19 rfl ?_
        refine r_loc (lv' := [(0, vR 77), (1, vI w), (2, vI x2), (3, vI x3), (4, vI 0)]) ⟨rfl, rfl, rfl, rfl, rfl, trivial⟩ rfl rfl ?_
        exact ih.2 x2 x3 0 (by omega) (by omega) (by omega) (by omega) (by omega) (by omega)
    · intro x2 x3 x4 i0 i1 i2 i3 i4 hmu
      refine s_blx (lv' := [(0, vR 77), (1, vI w), (2, vI x2), (3, vI x3), (4, vI x4)]) (st' := [vI x3, vR 77, vI x4]) B259_19_23 rfl ?_
      refine r_vIp (c := 77) (args := [vI x3]) (rest := [vI x4]) (pc' := 26) D259_23 rfl ck_11_virtual_144 TE156 rfl (Nat.le_of_ble_eq_true rfl) ⟨Nat.le_of_ble_eq_true rfl, Nat.le_of_ble_eq_true rfl⟩ sc_77 ⟨rfl, by decide⟩ H.1 (dp_0 hd rfl) (k156 E (dp_n hd rfl) H x3 (by omega)) ?_
      intro v10 q13
      have q12 := q13; clear q13
      refine r_icmp (tgt := 58) (pc' := 29) D259_26 rfl rfl (by unfold inR; omega) (fun (c14 : v10 ≤ x4) => ?_) (fun (c14 : ¬ (v10 ≤ x4)) => ?_)
      · refine s_blx (lv' := [(3, vI (x3 + 1)), (0, vR 77), (1, vI w), (2, vI x2), (4, vI x4)]) (st' := []) B259_58_61 rfl ?_
        refine r_goto (tgt := 4) D259_61 rfl ?_
        refine r_loc (lv' := [(0, vR 77), (1, vI w), (2, vI x2), (3, vI (x3 + 1))]) ⟨rfl, rfl, rfl, rfl, trivial⟩ rfl rfl ?_
        exact ih.1 x2 (x3 + 1) (by omega) (by omega) (by omega) (by omega)
      · refine s_blx (lv' := [(0, vR 77), (1, vI w), (2, vI x2), (3, vI x3), (4, vI x4)]) (st' := [vI x4, vI x3, vR 77, vI x2]) B259_29_34 rfl ?_
        refine r_vIp (c := 77) (args := [vI x3, vI x4]) (rest := [vI x2]) (pc' := 37) D259_34 rfl ck_11_virtual_147 TE157 rfl (Nat.le_of_ble_eq_true rfl) ⟨Nat.le_of_ble_eq_true rfl, Nat.le_of_ble_eq_true rfl⟩ sc_77 ⟨rfl, by decide⟩ H.1 (dp_0 hd rfl) (k157 E (dp_n hd rfl) H x3 x4 (by omega) (by omega)) ?_
        intro v15 q18
        have q17 := q18; clear q18
        refine s_blx (lv' := [(0, vR 77), (1, vI w), (2, vI x2), (3, vI x3), (4, vI x4)]) (st' := [vI w, vI v15, vI x2]) B259_37_38 rfl ?_
        refine r_icmp (tgt := 49) (pc' := 41) D259_38 rfl rfl (by unfold inR; omega) (fun (c19 : v15 ≠ w) => ?_) (fun (c19 : ¬ (v15 ≠ w)) => ?_)
        · refine s_blx (lv' := [(4, vI (x4 + 1)), (2, vI (x2 + 0)), (0, vR 77), (1, vI w), (3, vI x3)]) (st' := []) B259_49_55 rfl ?_
          refine r_goto (tgt := 19) D259_55 rfl ?_
          refine r_loc (lv' := [(0, vR 77), (1, vI w), (2, vI (x2 + 0)), (3, vI x3), (4, vI (x4 + 1))]) ⟨rfl, rfl, rfl, rfl, rfl, trivial⟩ rfl rfl ?_
          exact ih.2 (x2 + 0) x3 (x4 + 1) (by omega) (by omega) (by omega) (by omega) (by omega) (by omega)
        · refine s_blx (lv' := [(0, vR 77), (1, vI w), (2, vI x2), (3, vI x3), (4, vI x4)]) (st' := [vI x3, vR 77, vI x2]) B259_41_43 rfl ?_
          refine r_vIp (c := 77) (args := [vI x3]) (rest := [vI x2]) (pc' := 46) D259_43 rfl ck_11_virtual_138 TE159 rfl (Nat.le_of_ble_eq_true rfl) ⟨Nat.le_of_ble_eq_true rfl, Nat.le_of_ble_eq_true rfl⟩ sc_77 ⟨rfl, by decide⟩ H.1 (dp_0 hd rfl) (k159 E (dp_n hd rfl) H x3 (by omega)) ?_
          intro v20 q23
          have q22 := q23; clear q23
          refine r_goto (tgt := 50) D259_46 rfl ?_
          refine s_blx (lv' := [(4, vI (x4 + 1)), (2, vI (x2 + v20)), (0, vR 77), (1, vI w), (3, vI x3)]) (st' := []) B259_50_55 rfl ?_
          refine r_goto (tgt := 19) D259_55 rfl ?_
          refine r_loc (lv' := [(0, vR 77), (1, vI w), (2, vI (x2 + v20)), (3, vI x3), (4, vI (x4 + 1))]) ⟨rfl, rfl, rfl, rfl, rfl, trivial⟩ rfl rfl ?_
          exact ih.2 (x2 + v20) x3 (x4 + 1) (by omega) (by omega) (by omega) (by omega) (by omega) (by omega)
set_option maxRecDepth 4000 in
theorem k259 {base : Nat} {X : Nat → Option mC} {G : Nat → Value} (E : EnvOK base X G) {d : Nat} (hd : 1 ≤ d) {M : mH} (H : HI base M) (w : Int) (h0 : 0 ≤ w ∧ w ≤ 29) : sOk base X G d T259 [vR 77, vI w] M (pI (fun v M' => M' = M ∧ (-2147483648 ≤ v ∧ v ≤ 2147483647))) := by
  refine sOk.of (show sRn base X G d T259 0 [(0, vR 77), (1, vI w)] [] M _ from ?_)
  refine s_blx (lv' := [(3, vI 0), (2, vI 0), (0, vR 77), (1, vI w)]) (st' := []) B259_0_4 rfl ?_
  refine r_loc (lv' := [(0, vR 77), (1, vI w), (2, vI 0), (3, vI 0)]) ⟨rfl, rfl, rfl, rfl, trivial⟩ rfl rfl ?_
  exact (L_k259 E hd H w h0 (((16 - 0) * 10 + 9 : Int) + 1).toNat).1 0 0 (by omega) (by omega) (by omega) (by omega)
set_option maxRecDepth 4000 in
theorem L_k260 {base : Nat} {X : Nat → Option mC} {G : Nat → Value} (E : EnvOK base X G) {d : Nat} (hd : 2 ≤ d) {M : mH} (H : HI base M) (minutes : Int) (what : Int) (h0 : -2147483648 ≤ minutes ∧ minutes ≤ 2147483647) (h1 : -2147483648 ≤ what ∧ what ≤ 2147483647) : ∀ mz : Nat, (∀ (x3 : Int) (N : mH), HI base N → Fr [(108, 0)] M N → (0 ≤ x3) → (x3 ≤ 241) → (0 ≤ minutes) → (minutes ≤ 240) → (0 ≤ what) → (what ≤ 1) → (241 - x3) * 1 + 7564 < (mz : Int) → sRn base X G d T260 24 [(0, vR 77), (1, vI minutes), (2, vI what), (3, vI x3)] [] N (s_Q base (pI (fun v M' => HI base M' ∧ Fr [(108, 0)] M M')))) ∧ (∀ (x3 : Int) (N : mH), HI base N → Fr [(108, 0)] M N → ((-1) ≤ x3) → (x3 ≤ 29) → (0 ≤ minutes) → (minutes ≤ 240) → (0 ≤ what) → (what ≤ 1) → (x3 + 1) * 243 + 273 < (mz : Int) → sRn base X G d T260 49 [(0, vR 77), (1, vI minutes), (2, vI what), (3, vI x3)] [] N (s_Q base (pI (fun v M' => HI base M' ∧ Fr [(108, 0)] M M')))) ∧ (∀ (x3 x4 x5 : Int) (N : mH), HI base N → Fr [(108, 0)] M N → (0 ≤ x3) → (x3 ≤ 29) → ((-2147483648) ≤ x4) → (x4 ≤ 2147483647) → (0 ≤ x5) → (x5 ≤ 241) → (0 ≤ minutes) → (minutes ≤ 240) → (0 ≤ what) → (what ≤ 1) → (x3 + 1) * 243 + 31 + (241 - x5) * 1 + 0 < (mz : Int) → sRn base X G d T260 63 [(0, vR 77), (1, vI minutes), (2, vI what), (3, vI x3), (4, vI x4), (5, vI x5)] [] N (s_Q base (pI (fun v M' => HI base M' ∧ Fr [(108, 0)] M M')))) ∧ (∀ (x3 x4 x5 : Int) (N : mH), HI base N → Fr [(108, 0)] M N → ((-2147483648) ≤ x3) → (x3 ≤ 2147483647) → ((-60) ≤ x4) → (x4 ≤ 240) → (0 ≤ x5) → (x5 ≤ 30) → (0 ≤ minutes) → (minutes ≤ 240) → (0 ≤ what) → (what ≤ 1) → (30 - x5) * 1 + 0 < (mz : Int) → sRn base X G d T260 181 [(0, vR 77), (1, vI minutes), (2, vI what), (3, vI x3), (4, vI x4), (5, vI x5)] [] N (s_Q base (pI (fun v M' => HI base M' ∧ Fr [(108, 0)] M M')))) := by
  have f0 : Fr [(108, 0)] M M := Fr.rf
  intro mz
  induction mz with
  | zero => exact ⟨fun x3 N _ _ z0 z1 z2 z3 z4 z5 z6 => by omega, fun x3 N _ _ z0 z1 z2 z3 z4 z5 z6 => by omega, fun x3 x4 x5 N _ _ z0 z1 z2 z3 z4 z5 z6 z7 z8 z9 z10 => by omega, fun x3 x4 x5 N _ _ z0 z1 z2 z3 z4 z5 z6 z7 z8 z9 z10 => by omega⟩
  | succ mz ih =>
    refine ⟨?_, ?_, ?_, ?_⟩
    · intro x3 N HN fN i0 i1 i2 i3 i4 i5 hmu
      refine s_blx (lv' := [(0, vR 77), (1, vI minutes), (2, vI what), (3, vI x3)]) (st' := [vI minutes, vI x3]) B260_24_26 rfl ?_
      refine r_icmp (tgt := 46) (pc' := 29) D260_26 rfl rfl (by unfold inR; omega) (fun (c15 : minutes < x3) => ?_) (fun (c15 : ¬ (minutes < x3)) => ?_)
      · refine s_blx (lv' := [(3, vI 29), (0, vR 77), (1, vI minutes), (2, vI what)]) (st' := []) B260_46_49 rfl ?_
        refine r_loc (lv' := [(0, vR 77), (1, vI minutes), (2, vI what), (3, vI 29)]) ⟨rfl, rfl, rfl, rfl, trivial⟩ rfl rfl ?_
        exact ih.2.1 29 N HN fN (by omega) (by omega) (by omega) (by omega) (by omega) (by omega) (by omega)
      · refine s_blx (lv' := [(0, vR 77), (1, vI minutes), (2, vI what), (3, vI x3)]) (st' := [vR 77]) B260_29_30 rfl ?_
        refine r_gfix (r := 108) (pc' := 33) D260_30 rfl gf_11_114_77 HN.1 ?_
        refine s_blx (lv' := [(0, vR 77), (1, vI minutes), (2, vI what), (3, vI x3)]) (st' := [vI 0, vI (7230 + x3), vR 108]) B260_33_39 rfl ?_
        refine r_iast (pc' := 40) D260_39 rfl sc_108 HN (by omega) (by unfold inR; omega) trivial ?_
        intro M16 u17 H18 p19
        have f20 := fN.wr u17 rfl
        refine s_blx (lv' := [(3, vI (x3 + 1)), (0, vR 77), (1, vI minutes), (2, vI what)]) (st' := []) B260_40_43 rfl ?_
        refine r_goto (tgt := 24) D260_43 rfl ?_
        refine r_loc (lv' := [(0, vR 77), (1, vI minutes), (2, vI what), (3, vI (x3 + 1))]) ⟨rfl, rfl, rfl, rfl, trivial⟩ rfl rfl ?_
        exact ih.1 (x3 + 1) M16 H18 f20 (by omega) (by omega) (by omega) (by omega) (by omega) (by omega) (by omega)
    · intro x3 N HN fN i0 i1 i2 i3 i4 i5 hmu
      refine s_blx (lv' := [(0, vR 77), (1, vI minutes), (2, vI what), (3, vI x3)]) (st' := [vI x3]) B260_49_50 rfl ?_
      refine r_ifc (tgt := 173) (pc' := 53) D260_50 rfl rfl (by unfold inR; omega) (fun (c21 : x3 < 0) => ?_) (fun (c21 : ¬ (x3 < 0)) => ?_)
      · refine s_blx (lv' := [(5, vI 0), (4, vI minutes), (3, vI 0), (0, vR 77), (1, vI minutes), (2, vI what)]) (st' := []) B260_173_181 rfl ?_
        refine r_loc (lv' := [(0, vR 77), (1, vI minutes), (2, vI what), (3, vI 0), (4, vI minutes), (5, vI 0)]) ⟨rfl, rfl, rfl, rfl, rfl, rfl, trivial⟩ rfl rfl ?_
        exact ih.2.2.2 0 minutes 0 N HN fN (by omega) (by omega) (by omega) (by omega) (by omega) (by omega) (by omega) (by omega) (by omega) (by omega) (by omega)
      · refine s_blx (lv' := [(0, vR 77), (1, vI minutes), (2, vI what), (3, vI x3)]) (st' := [vI x3, vR 77]) B260_53_55 rfl ?_
        refine r_vIp (c := 77) (args := [vI x3]) (rest := []) (pc' := 58) D260_55 rfl ck_11_virtual_462 TE259 rfl (Nat.le_of_ble_eq_true rfl) ⟨Nat.le_of_ble_eq_true rfl, Nat.le_of_ble_eq_true rfl⟩ sc_77 ⟨rfl, by decide⟩ HN.1 (dp_0 hd rfl) (k259 E (dp_n hd rfl) HN x3 (by omega)) ?_
        intro v22 q25
        have q24 := q25; clear q25
        refine s_blx (lv' := [(5, vI 0), (4, vI v22), (0, vR 77), (1, vI minutes), (2, vI what), (3, vI x3)]) (st' := []) B260_58_63 rfl ?_
        refine r_loc (lv' := [(0, vR 77), (1, vI minutes), (2, vI what), (3, vI x3), (4, vI v22), (5, vI 0)]) ⟨rfl, rfl, rfl, rfl, rfl, rfl, trivial⟩ rfl rfl ?_
        exact ih.2.2.1 x3 v22 0 N HN fN (by omega) (by omega) (by omega) (by omega) (by omega) (by omega) (by omega) (by omega) (by omega) (by omega) (by omega)
    · intro x3 x4 x5 N HN fN i0 i1 i2 i3 i4 i5 i6 i7 i8 i9 hmu
      refine s_blx (lv' := [(0, vR 77), (1, vI minutes), (2, vI what), (3, vI x3), (4, vI x4), (5, vI x5)]) (st' := [vI minutes, vI x5]) B260_63_66 rfl ?_
      refine r_icmp (tgt := 167) (pc' := 69) D260_66 rfl rfl (by unfold inR; omega) (fun (c60 : minutes < x5) => ?_) (fun (c60 : ¬ (minutes < x5)) => ?_)
      · refine s_blx (lv' := [(3, vI (x3 + (-1))), (0, vR 77), (1, vI minutes), (2, vI what), (4, vI x4), (5, vI x5)]) (st' := []) B260_167_170 rfl ?_
        refine r_goto (tgt := 49) D260_170 rfl ?_
        refine r_loc (lv' := [(0, vR 77), (1, vI minutes), (2, vI what), (3, vI (x3 + (-1)))]) ⟨rfl, rfl, rfl, rfl, trivial⟩ rfl rfl ?_
        exact ih.2.1 (x3 + (-1)) N HN fN (by omega) (by omega) (by omega) (by omega) (by omega) (by omega) (by omega)
      · refine s_blx (lv' := [(0, vR 77), (1, vI minutes), (2, vI what), (3, vI x3), (4, vI x4), (5, vI x5)]) (st' := [vR 77]) B260_69_70 rfl ?_
        refine r_gfix (r := 108) (pc' := 73) D260_70 rfl gf_11_114_77 HN.1 ?_
        refine s_blx (lv' := [(0, vR 77), (1, vI minutes), (2, vI what), (3, vI x3), (4, vI x4), (5, vI x5)]) (st' := [vI ((241 * (x3 + 1)) + x5), vR 108]) B260_73_83 rfl ?_
        refine r_iald (pc' := 84) D260_83 rfl sc_108 HN.1 (by omega) ?_
        intro w61 e62 r63
        unfold inR at r63
        refine s_blx (lv' := [(6, vI w61), (0, vR 77), (1, vI minutes), (2, vI what), (3, vI x3), (4, vI x4), (5, vI x5)]) (st' := [vR 77, vI x5]) B260_84_89 rfl ?_
        refine r_gfix (r := 78) (pc' := 92) D260_89 rfl gf_11_13_77 HN.1 ?_
        refine s_blx (lv' := [(6, vI w61), (0, vR 77), (1, vI minutes), (2, vI what), (3, vI x3), (4, vI x4), (5, vI x5)]) (st' := [vI (30 + x3), vR 78, vI x5]) B260_92_96 rfl ?_
        refine r_iald (pc' := 97) D260_96 rfl sc_78 HN.1 (by omega) ?_
        intro w64 e65 r66
        have b_w64 := HN.2 78 (30 + x3) 0 60 (rk_look (by omega))
        rw [← e65] at b_w64; clear r66
        refine r_icmp (tgt := 131) (pc' := 100) D260_97 rfl rfl (by unfold inR; omega) (fun (c67 : x5 < w64) => ?_) (fun (c67 : ¬ (x5 < w64)) => ?_)
        · refine s_blx (lv' := [(7, vI (-1)), (6, vI w61), (0, vR 77), (1, vI minutes), (2, vI what), (3, vI x3), (4, vI x4), (5, vI x5)]) (st' := [vR 77]) B260_131_135 rfl ?_
          refine r_gfix (r := 108) (pc' := 138) D260_135 rfl gf_11_114_77 HN.1 ?_
          refine s_blx (lv' := [(7, vI (-1)), (6, vI w61), (0, vR 77), (1, vI minutes), (2, vI what), (3, vI x3), (4, vI x4), (5, vI x5)]) (st' := [vI w61, vI (-1), vI ((241 * x3) + x5), vR 108]) B260_138_150 rfl ?_
          refine r_icmp (tgt := 158) (pc' := 153) D260_150 rfl rfl (by unfold inR; omega) (fun (c68 : (-1) ≤ w61) => ?_) (fun (c68 : ¬ ((-1) ≤ w61)) => ?_)
          · refine s_blx (lv' := [(7, vI (-1)), (6, vI w61), (0, vR 77), (1, vI minutes), (2, vI what), (3, vI x3), (4, vI x4), (5, vI x5)]) (st' := [vI w61, vI ((241 * x3) + x5), vR 108]) B260_158_160 rfl ?_
            refine r_iast (pc' := 161) D260_160 rfl sc_108 HN (by omega) (by unfold inR; omega) trivial ?_
            intro M69 u70 H71 p72
            have f73 := fN.wr u70 rfl
            refine s_blx (lv' := [(5, vI (x5 + 1)), (7, vI (-1)), (6, vI w61), (0, vR 77), (1, vI minutes), (2, vI what), (3, vI x3), (4, vI x4)]) (st' := []) B260_161_164 rfl ?_
            refine r_goto (tgt := 63) D260_164 rfl ?_
            refine r_loc (lv' := [(0, vR 77), (1, vI minutes), (2, vI what), (3, vI x3), (4, vI x4), (5, vI (x5 + 1))]) ⟨rfl, rfl, rfl, rfl, rfl, rfl, trivial⟩ rfl rfl ?_
            exact ih.2.2.1 x3 x4 (x5 + 1) M69 H71 f73 (by omega) (by omega) (by omega) (by omega) (by omega) (by omega) (by omega) (by omega) (by omega) (by omega) (by omega)
          · refine s_blx (lv' := [(7, vI (-1)), (6, vI w61), (0, vR 77), (1, vI minutes), (2, vI what), (3, vI x3), (4, vI x4), (5, vI x5)]) (st' := [vI (-1), vI ((241 * x3) + x5), vR 108]) B260_153_155 rfl ?_
            refine r_goto (tgt := 160) D260_155 rfl ?_
            refine r_iast (pc' := 161) D260_160 rfl sc_108 HN (by omega) (by unfold inR; omega) trivial ?_
            intro M74 u75 H76 p77
            have f78 := fN.wr u75 rfl
            refine s_blx (lv' := [(5, vI (x5 + 1)), (7, vI (-1)), (6, vI w61), (0, vR 77), (1, vI minutes), (2, vI what), (3, vI x3), (4, vI x4)]) (st' := []) B260_161_164 rfl ?_
            refine r_goto (tgt := 63) D260_164 rfl ?_
            refine r_loc (lv' := [(0, vR 77), (1, vI minutes), (2, vI what), (3, vI x3), (4, vI x4), (5, vI (x5 + 1))]) ⟨rfl, rfl, rfl, rfl, rfl, rfl, trivial⟩ rfl rfl ?_
            exact ih.2.2.1 x3 x4 (x5 + 1) M74 H76 f78 (by omega) (by omega) (by omega) (by omega) (by omega) (by omega) (by omega) (by omega) (by omega) (by omega) (by omega)
        · refine s_blx (lv' := [(6, vI w61), (0, vR 77), (1, vI minutes), (2, vI what), (3, vI x3), (4, vI x4), (5, vI x5)]) (st' := [vR 77, vI x4]) B260_100_103 rfl ?_
          refine r_gfix (r := 108) (pc' := 106) D260_103 rfl gf_11_114_77 HN.1 ?_
          refine s_blx (lv' := [(6, vI w61), (0, vR 77), (1, vI minutes), (2, vI what), (3, vI x3), (4, vI x4), (5, vI x5)]) (st' := [vR 77, vI ((241 * (x3 + 1)) + x5), vR 108, vI x4]) B260_106_117 rfl ?_
          refine r_gfix (r := 78) (pc' := 120) D260_117 rfl gf_11_13_77 HN.1 ?_
          refine s_blx (lv' := [(6, vI w61), (0, vR 77), (1, vI minutes), (2, vI what), (3, vI x3), (4, vI x4), (5, vI x5)]) (st' := [vI (30 + x3), vR 78, vI ((241 * (x3 + 1)) + x5), vR 108, vI x4]) B260_120_124 rfl ?_
          refine r_iald (pc' := 125) D260_124 rfl sc_78 HN.1 (by omega) ?_
          intro w79 e80 r81
          have e82 : w64 = w79 := (e80.trans (e65.symm)).symm
          subst e82
          refine s_blx (lv' := [(6, vI w61), (0, vR 77), (1, vI minutes), (2, vI what), (3, vI x3), (4, vI x4), (5, vI x5)]) (st' := [vI (((241 * (x3 + 1)) + x5) - w64), vR 108, vI x4]) B260_125_126 rfl ?_
          refine r_iald (pc' := 127) D260_126 rfl sc_108 HN.1 (by omega) ?_
          intro w83 e84 r85
          unfold inR at r85
          refine s_blx (lv' := [(6, vI w61), (0, vR 77), (1, vI minutes), (2, vI what), (3, vI x3), (4, vI x4), (5, vI x5)]) (st' := [vI (x4 + w83)]) B260_127_128 rfl ?_
          refine r_goto (tgt := 132) D260_128 rfl ?_
          refine s_blx (lv' := [(7, vI (x4 + w83)), (6, vI w61), (0, vR 77), (1, vI minutes), (2, vI what), (3, vI x3), (4, vI x4), (5, vI x5)]) (st' := [vR 77]) B260_132_135 rfl ?_
          refine r_gfix (r := 108) (pc' := 138) D260_135 rfl gf_11_114_77 HN.1 ?_
          refine s_blx (lv' := [(7, vI (x4 + w83)), (6, vI w61), (0, vR 77), (1, vI minutes), (2, vI what), (3, vI x3), (4, vI x4), (5, vI x5)]) (st' := [vI w61, vI (x4 + w83), vI ((241 * x3) + x5), vR 108]) B260_138_150 rfl ?_
          refine r_norm2 ?_
          intro z86 r87 _; unfold inR at r87
          refine r_icmp (tgt := 158) (pc' := 153) D260_150 rfl rfl (by unfold inR; omega) (fun (c88 : z86 ≤ w61) => ?_) (fun (c88 : ¬ (z86 ≤ w61)) => ?_)
          · refine s_blx (lv' := [(7, vI (x4 + w83)), (6, vI w61), (0, vR 77), (1, vI minutes), (2, vI what), (3, vI x3), (4, vI x4), (5, vI x5)]) (st' := [vI w61, vI ((241 * x3) + x5), vR 108]) B260_158_160 rfl ?_
            refine r_iast (pc' := 161) D260_160 rfl sc_108 HN (by omega) (by unfold inR; omega) trivial ?_
            intro M89 u90 H91 p92
            have f93 := fN.wr u90 rfl
            refine s_blx (lv' := [(5, vI (x5 + 1)), (7, vI (x4 + w83)), (6, vI w61), (0, vR 77), (1, vI minutes), (2, vI what), (3, vI x3), (4, vI x4)]) (st' := []) B260_161_164 rfl ?_
            refine r_goto (tgt := 63) D260_164 rfl ?_
            refine r_loc (lv' := [(0, vR 77), (1, vI minutes), (2, vI what), (3, vI x3), (4, vI x4), (5, vI (x5 + 1))]) ⟨rfl, rfl, rfl, rfl, rfl, rfl, trivial⟩ rfl rfl ?_
            exact ih.2.2.1 x3 x4 (x5 + 1) M89 H91 f93 (by omega) (by omega) (by omega) (by omega) (by omega) (by omega) (by omega) (by omega) (by omega) (by omega) (by omega)
          · refine s_blx (lv' := [(7, vI (x4 + w83)), (6, vI w61), (0, vR 77), (1, vI minutes), (2, vI what), (3, vI x3), (4, vI x4), (5, vI x5)]) (st' := [vI (x4 + w83), vI ((241 * x3) + x5), vR 108]) B260_153_155 rfl ?_
            refine r_goto (tgt := 160) D260_155 rfl ?_
            refine r_norm ?_
            intro z94 r95 _; unfold inR at r95
            refine r_iast (pc' := 161) D260_160 rfl sc_108 HN (by omega) (by unfold inR; omega) trivial ?_
            intro M96 u97 H98 p99
            have f100 := fN.wr u97 rfl
            refine s_blx (lv' := [(5, vI (x5 + 1)), (7, vI (x4 + w83)), (6, vI w61), (0, vR 77), (1, vI minutes), (2, vI what), (3, vI x3), (4, vI x4)]) (st' := []) B260_161_164 rfl ?_
            refine r_goto (tgt := 63) D260_164 rfl ?_
            refine r_loc (lv' := [(0, vR 77), (1, vI minutes), (2, vI what), (3, vI x3), (4, vI x4), (5, vI (x5 + 1))]) ⟨rfl, rfl, rfl, rfl, rfl, rfl, trivial⟩ rfl rfl ?_
            exact ih.2.2.1 x3 x4 (x5 + 1) M96 H98 f100 (by omega) (by omega) (by omega) (by omega) (by omega) (by omega) (by omega) (by omega) (by omega) (by omega) (by omega)
    · intro x3 x4 x5 N HN fN i0 i1 i2 i3 i4 i5 i6 i7 i8 i9 hmu
      refine s_blx (lv' := [(0, vR 77), (1, vI minutes), (2, vI what), (3, vI x3), (4, vI x4), (5, vI x5)]) (st' := [vI 30, vI x5]) B260_181_185 rfl ?_
      refine r_icmp (tgt := 285) (pc' := 188) D260_185 rfl rfl (by unfold inR; omega) (fun (c26 : 30 ≤ x5) => ?_) (fun (c26 : ¬ (30 ≤ x5)) => ?_)
      · refine s_blx (lv' := [(0, vR 77), (1, vI minutes), (2, vI what), (3, vI x3), (4, vI x4), (5, vI x5)]) (st' := [vI what]) B260_285_286 rfl ?_
        refine r_ifc (tgt := 298) (pc' := 289) D260_286 rfl rfl (by unfold inR; omega) (fun (c27 : what ≠ 0) => ?_) (fun (c27 : ¬ (what ≠ 0)) => ?_)
        · refine s_blx (lv' := [(0, vR 77), (1, vI minutes), (2, vI what), (3, vI x3), (4, vI x4), (5, vI x5)]) (st' := [vI x3]) B260_298_299 rfl ?_
          exact r_iretI D260_299 rfl (⟨HN, fN⟩)
        · refine s_blx (lv' := [(0, vR 77), (1, vI minutes), (2, vI what), (3, vI x3), (4, vI x4), (5, vI x5)]) (st' := [vR 77]) B260_289_290 rfl ?_
          refine r_gfix (r := 108) (pc' := 293) D260_290 rfl gf_11_114_77 HN.1 ?_
          refine s_blx (lv' := [(0, vR 77), (1, vI minutes), (2, vI what), (3, vI x3), (4, vI x4), (5, vI x5)]) (st' := [vI minutes, vR 108]) B260_293_294 rfl ?_
          refine r_iald (pc' := 295) D260_294 rfl sc_108 HN.1 (by omega) ?_
          intro w28 e29 r30
          unfold inR at r30
          refine r_goto (tgt := 299) D260_295 rfl ?_
          exact r_iretI D260_299 rfl (⟨HN, fN⟩)
      · refine s_blx (lv' := [(0, vR 77), (1, vI minutes), (2, vI what), (3, vI x3), (4, vI x4), (5, vI x5)]) (st' := [vR 77, vI x4]) B260_188_191 rfl ?_
        refine r_gfix (r := 78) (pc' := 194) D260_191 rfl gf_11_13_77 HN.1 ?_
        refine s_blx (lv' := [(0, vR 77), (1, vI minutes), (2, vI what), (3, vI x3), (4, vI x4), (5, vI x5)]) (st' := [vI (30 + x5), vR 78, vI x4]) B260_194_199 rfl ?_
        refine r_iald (pc' := 200) D260_199 rfl sc_78 HN.1 (by omega) ?_
        intro w31 e32 r33
        have b_w31 := HN.2 78 (30 + x5) 0 60 (rk_look (by omega))
        rw [← e32] at b_w31; clear r33
        refine r_icmp (tgt := 279) (pc' := 203) D260_200 rfl rfl (by unfold inR; omega) (fun (c34 : x4 < w31) => ?_) (fun (c34 : ¬ (x4 < w31)) => ?_)
        · refine s_blx (lv' := [(5, vI (x5 + 1)), (0, vR 77), (1, vI minutes), (2, vI what), (3, vI x3), (4, vI x4)]) (st' := []) B260_279_282 rfl ?_
          refine r_goto (tgt := 181) D260_282 rfl ?_
          refine r_loc (lv' := [(0, vR 77), (1, vI minutes), (2, vI what), (3, vI x3), (4, vI x4), (5, vI (x5 + 1))]) ⟨rfl, rfl, rfl, rfl, rfl, rfl, trivial⟩ rfl rfl ?_
          exact ih.2.2.2 x3 x4 (x5 + 1) N HN fN (by omega) (by omega) (by omega) (by omega) (by omega) (by omega) (by omega) (by omega) (by omega) (by omega) (by omega)
        · refine s_blx (lv' := [(0, vR 77), (1, vI minutes), (2, vI what), (3, vI x3), (4, vI x4), (5, vI x5)]) (st' := [vI x5, vR 77]) B260_203_206 rfl ?_
          refine r_vIp (c := 77) (args := [vI x5]) (rest := []) (pc' := 209) D260_206 rfl ck_11_virtual_462 TE259 rfl (Nat.le_of_ble_eq_true rfl) ⟨Nat.le_of_ble_eq_true rfl, Nat.le_of_ble_eq_true rfl⟩ sc_77 ⟨rfl, by decide⟩ HN.1 (dp_0 hd rfl) (k259 E (dp_n hd rfl) HN x5 (by omega)) ?_
          intro v35 q38
          have q37 := q38; clear q38
          refine s_blx (lv' := [(0, vR 77), (1, vI minutes), (2, vI what), (3, vI x3), (4, vI x4), (5, vI x5)]) (st' := [vR 77, vI v35]) B260_209_210 rfl ?_
          refine r_gfix (r := 108) (pc' := 213) D260_210 rfl gf_11_114_77 HN.1 ?_
          refine s_blx (lv' := [(0, vR 77), (1, vI minutes), (2, vI what), (3, vI x3), (4, vI x4), (5, vI x5)]) (st' := [vR 77, vI ((241 * (x5 + 1)) + x4), vR 108, vI v35]) B260_213_225 rfl ?_
          refine r_gfix (r := 78) (pc' := 228) D260_225 rfl gf_11_13_77 HN.1 ?_
          refine s_blx (lv' := [(0, vR 77), (1, vI minutes), (2, vI what), (3, vI x3), (4, vI x4), (5, vI x5)]) (st' := [vI (30 + x5), vR 78, vI ((241 * (x5 + 1)) + x4), vR 108, vI v35]) B260_228_233 rfl ?_
          refine r_iald (pc' := 234) D260_233 rfl sc_78 HN.1 (by omega) ?_
          intro w39 e40 r41
          have e42 : w31 = w39 := (e40.trans (e32.symm)).symm
          subst e42
          refine s_blx (lv' := [(0, vR 77), (1, vI minutes), (2, vI what), (3, vI x3), (4, vI x4), (5, vI x5)]) (st' := [vI (((241 * (x5 + 1)) + x4) - w31), vR 108, vI v35]) B260_234_235 rfl ?_
          refine r_iald (pc' := 236) D260_235 rfl sc_108 HN.1 (by omega) ?_
          intro w43 e44 r45
          unfold inR at r45
          refine s_blx (lv' := [(0, vR 77), (1, vI minutes), (2, vI what), (3, vI x3), (4, vI x4), (5, vI x5)]) (st' := [vR 77, vI (v35 + w43)]) B260_236_238 rfl ?_
          refine r_gfix (r := 108) (pc' := 241) D260_238 rfl gf_11_114_77 HN.1 ?_
          refine s_blx (lv' := [(0, vR 77), (1, vI minutes), (2, vI what), (3, vI x3), (4, vI x4), (5, vI x5)]) (st' := [vI ((241 * x5) + x4), vR 108, vI (v35 + w43)]) B260_241_250 rfl ?_
          refine r_iald (pc' := 251) D260_250 rfl sc_108 HN.1 (by omega) ?_
          intro w46 e47 r48
          unfold inR at r48
          refine r_norm2 ?_
          intro z49 r50 _; unfold inR at r50
          refine r_icmp (tgt := 257) (pc' := 254) D260_251 rfl rfl (by unfold inR; omega) (fun (c51 : w46 ≤ z49) => ?_) (fun (c51 : ¬ (w46 ≤ z49)) => ?_)
          · refine s_blx (lv' := [(0, vR 77), (1, vI minutes), (2, vI what), (3, vI x3), (4, vI x4), (5, vI x5)]) (st' := [vI x5, vI 1, vI x3]) B260_257_261 rfl ?_
            refine r_bin (pc' := 262) D260_261 rfl rfl ?_
            intro z52 r53 _; unfold inR at r53
            refine r_bin (pc' := 263) D260_262 rfl rfl ?_
            intro z54 r55 _; unfold inR at r55
            refine s_blx (lv' := [(3, vI z54), (0, vR 77), (1, vI minutes), (2, vI what), (4, vI x4), (5, vI x5)]) (st' := [vR 77, vI x4]) B260_263_267 rfl ?_
            refine r_gfix (r := 78) (pc' := 270) D260_267 rfl gf_11_13_77 HN.1 ?_
            refine s_blx (lv' := [(3, vI z54), (0, vR 77), (1, vI minutes), (2, vI what), (4, vI x4), (5, vI x5)]) (st' := [vI (30 + x5), vR 78, vI x4]) B260_270_275 rfl ?_
            refine r_iald (pc' := 276) D260_275 rfl sc_78 HN.1 (by omega) ?_
            intro w56 e57 r58
            have e59 : w31 = w56 := (e57.trans (e32.symm)).symm
            subst e59
            refine s_blx (lv' := [(5, vI (x5 + 1)), (4, vI (x4 - w31)), (3, vI z54), (0, vR 77), (1, vI minutes), (2, vI what)]) (st' := []) B260_276_282 rfl ?_
            refine r_goto (tgt := 181) D260_282 rfl ?_
            refine r_loc (lv' := [(0, vR 77), (1, vI minutes), (2, vI what), (3, vI z54), (4, vI (x4 - w31)), (5, vI (x5 + 1))]) ⟨rfl, rfl, rfl, rfl, rfl, rfl, trivial⟩ rfl rfl ?_
            exact ih.2.2.2 z54 (x4 - w31) (x5 + 1) N HN fN (by omega) (by omega) (by omega) (by omega) (by omega) (by omega) (by omega) (by omega) (by omega) (by omega) (by omega)
          · refine r_goto (tgt := 279) D260_254 rfl ?_
            refine s_blx (lv' := [(5, vI (x5 + 1)), (0, vR 77), (1, vI minutes), (2, vI what), (3, vI x3), (4, vI x4)]) (st' := []) B260_279_282 rfl ?_
            refine r_goto (tgt := 181) D260_282 rfl ?_
            refine r_loc (lv' := [(0, vR 77), (1, vI minutes), (2, vI what), (3, vI x3), (4, vI x4), (5, vI (x5 + 1))]) ⟨rfl, rfl, rfl, rfl, rfl, rfl, trivial⟩ rfl rfl ?_
            exact ih.2.2.2 x3 x4 (x5 + 1) N HN fN (by omega) (by omega) (by omega) (by omega) (by omega) (by omega) (by omega) (by omega) (by omega) (by omega) (by omega)
set_option maxRecDepth 4000 in
theorem k260 {base : Nat} {X : Nat → Option mC} {G : Nat → Value} (E : EnvOK base X G) {d : Nat} (hd : 2 ≤ d) {M : mH} (H : HI base M) (minutes : Int) (what : Int) (h0 : -2147483648 ≤ minutes ∧ minutes ≤ 2147483647) (h1 : -2147483648 ≤ what ∧ what ≤ 2147483647) : sOk base X G d T260 [vR 77, vI minutes, vI what] M (pI (fun v M' => HI base M' ∧ Fr [(108, 0)] M M')) := by
  have f0 : Fr [(108, 0)] M M := Fr.rf
  refine sOk.of (show sRn base X G d T260 0 [(0, vR 77), (1, vI minutes), (2, vI what)] [] M _ from ?_)
  refine s_blx (lv' := [(0, vR 77), (1, vI minutes), (2, vI what)]) (st' := [vI 240, vI 0, vI minutes]) B260_0_5 rfl ?_
  refine r_sIp (args := [vI minutes, vI 0, vI 240]) (rest := []) (pc' := 8) D260_5 rfl ck_11_static_123 TE147 rfl (Nat.le_of_ble_eq_true rfl) ⟨Nat.le_of_ble_eq_true rfl, Nat.le_of_ble_eq_true rfl⟩ (by decide) (dp_0 hd rfl) (k147 E (dp_n hd rfl) H minutes 0 240 (by omega) (by omega) (by omega)) ?_
  intro v1 q6
  obtain ⟨q3, q4, q5⟩ := q6
  refine r_ifc (tgt := 20) (pc' := 11) D260_8 rfl rfl (by unfold inR; omega) (fun (c7 : v1 = 0) => ?_) (fun (c7 : ¬ (v1 = 0)) => ?_)
  · refine s_blx (lv' := [(0, vR 77), (1, vI minutes), (2, vI what)]) (st' := [vI (-1)]) B260_20_21 rfl ?_
    exact r_iretI D260_21 rfl (⟨H, f0⟩)
  · refine s_blx (lv' := [(0, vR 77), (1, vI minutes), (2, vI what)]) (st' := [vI 1, vI 0, vI what]) B260_11_14 rfl ?_
    refine r_sIp (args := [vI what, vI 0, vI 1]) (rest := []) (pc' := 17) D260_14 rfl ck_11_static_123 TE147 rfl (Nat.le_of_ble_eq_true rfl) ⟨Nat.le_of_ble_eq_true rfl, Nat.le_of_ble_eq_true rfl⟩ (by decide) (dp_0 hd rfl) (k147 E (dp_n hd rfl) H what 0 1 (by omega) (by omega) (by omega)) ?_
    intro v8 q13
    obtain ⟨q10, q11, q12⟩ := q13
    refine r_ifc (tgt := 22) (pc' := 20) D260_17 rfl rfl (by unfold inR; omega) (fun (c14 : v8 ≠ 0) => ?_) (fun (c14 : ¬ (v8 ≠ 0)) => ?_)
    · refine s_blx (lv' := [(3, vI 0), (0, vR 77), (1, vI minutes), (2, vI what)]) (st' := []) B260_22_24 rfl ?_
      refine r_loc (lv' := [(0, vR 77), (1, vI minutes), (2, vI what), (3, vI 0)]) ⟨rfl, rfl, rfl, rfl, trivial⟩ rfl rfl ?_
      exact (L_k260 E hd H minutes what h0 h1 (((241 - 0) * 1 + 7564 : Int) + 1).toNat).1 0 M H f0 (by omega) (by omega) (by omega) (by omega) (by omega) (by omega) (by omega)
    · refine s_blx (lv' := [(0, vR 77), (1, vI minutes), (2, vI what)]) (st' := [vI (-1)]) B260_20_21 rfl ?_
      exact r_iretI D260_21 rfl (⟨H, f0⟩)
set_option maxRecDepth 4000 in
theorem L_k263 {base : Nat} {X : Nat → Option mC} {G : Nat → Value} (E : EnvOK base X G) {d : Nat} (hd : 0 ≤ d) {M : mH} (H : HI base M) (t : Int) (u : Int) (h0 : 0 ≤ t ∧ t ≤ 7) (h1 : 0 ≤ u ∧ u ≤ 7) : ∀ mz : Nat, (∀ (x3 x4 : Int), (0 ≤ x3) → (x3 ≤ 1) → (0 ≤ x4) → (x4 ≤ 24) → (24 - x4) * 1 + 0 < (mz : Int) → sRn base X G d T263 24 [(0, vR 77), (1, vI t), (2, vI u), (3, vI x3), (4, vI x4)] [] M (s_Q base (pI (fun v M' => M' = M ∧ (v = 0 ∨ v = 1))))) := by
  intro mz
  induction mz with
  | zero => exact fun x3 x4 z0 z1 z2 z3 z4 => by omega
  | succ mz ih =>
    intro x3 x4 i0 i1 i2 i3 hmu
    refine s_blx (lv' := [(0, vR 77), (1, vI t), (2, vI u), (3, vI x3), (4, vI x4)]) (st' := [vR 77, vI x4]) B263_24_27 rfl ?_
    refine r_gfix (r := 110) (pc' := 30) D263_27 rfl gf_11_120_77 H.1 ?_
    refine s_blx (lv' := [(0, vR 77), (1, vI t), (2, vI u), (3, vI x3), (4, vI x4)]) (st' := [vI t, vR 110, vI x4]) B263_30_31 rfl ?_
    refine r_iald (pc' := 32) D263_31 rfl sc_110 H.1 (by omega) ?_
    intro w8 e9 r10
    have b_w8 := H.2 110 (t) 0 24 rfl
    rw [← e9] at b_w8; clear r10
    refine r_icmp (tgt := 78) (pc' := 35) D263_32 rfl rfl (by unfold inR; omega) (fun (c11 : w8 ≤ x4) => ?_) (fun (c11 : ¬ (w8 ≤ x4)) => ?_)
    · refine s_blx (lv' := [(0, vR 77), (1, vI t), (2, vI u), (3, vI x3), (4, vI x4)]) (st' := [vI x3]) B263_78_79 rfl ?_
      exact r_zretI D263_79 rfl (by omega) (⟨rfl, by omega⟩)
    · refine s_blx (lv' := [(0, vR 77), (1, vI t), (2, vI u), (3, vI x3), (4, vI x4)]) (st' := [vI x3]) B263_35_36 rfl ?_
      refine r_ifc (tgt := 78) (pc' := 39) D263_36 rfl rfl (by unfold inR; omega) (fun (c12 : x3 = 0) => ?_) (fun (c12 : ¬ (x3 = 0)) => ?_)
      · refine s_blx (lv' := [(0, vR 77), (1, vI t), (2, vI u), (3, vI x3), (4, vI x4)]) (st' := [vI x3]) B263_78_79 rfl ?_
        exact r_zretI D263_79 rfl (by omega) (⟨rfl, by omega⟩)
      · refine s_blx (lv' := [(0, vR 77), (1, vI t), (2, vI u), (3, vI x3), (4, vI x4)]) (st' := [vR 77]) B263_39_40 rfl ?_
        refine r_gfix (r := 109) (pc' := 43) D263_40 rfl gf_11_117_77 H.1 ?_
        refine s_blx (lv' := [(0, vR 77), (1, vI t), (2, vI u), (3, vI x3), (4, vI x4)]) (st' := [vI ((24 * t) + x4), vR 109]) B263_43_50 rfl ?_
        refine r_iald (pc' := 51) D263_50 rfl sc_109 H.1 (by omega) ?_
        intro w13 e14 r15
        unfold inR at r15
        refine s_blx (lv' := [(0, vR 77), (1, vI t), (2, vI u), (3, vI x3), (4, vI x4)]) (st' := [vR 77, vI w13]) B263_51_52 rfl ?_
        refine r_gfix (r := 109) (pc' := 55) D263_52 rfl gf_11_117_77 H.1 ?_
        refine s_blx (lv' := [(0, vR 77), (1, vI t), (2, vI u), (3, vI x3), (4, vI x4)]) (st' := [vI ((24 * u) + x4), vR 109, vI w13]) B263_55_62 rfl ?_
        refine r_iald (pc' := 63) D263_62 rfl sc_109 H.1 (by omega) ?_
        intro w16 e17 r18
        unfold inR at r18
        refine r_icmp (tgt := 70) (pc' := 66) D263_63 rfl rfl (by unfold inR; omega) (fun (c19 : w13 ≠ w16) => ?_) (fun (c19 : ¬ (w13 ≠ w16)) => ?_)
        · refine s_blx (lv' := [(4, vI (x4 + 1)), (3, vI 0), (0, vR 77), (1, vI t), (2, vI u)]) (st' := []) B263_70_75 rfl ?_
          refine r_goto (tgt := 24) D263_75 rfl ?_
          refine r_loc (lv' := [(0, vR 77), (1, vI t), (2, vI u), (3, vI 0), (4, vI (x4 + 1))]) ⟨rfl, rfl, rfl, rfl, rfl, trivial⟩ rfl rfl ?_
          exact ih 0 (x4 + 1) (by omega) (by omega) (by omega) (by omega) (by omega)
        · refine s_blx (lv' := [(0, vR 77), (1, vI t), (2, vI u), (3, vI x3), (4, vI x4)]) (st' := [vI 1]) B263_66_67 rfl ?_
          refine r_goto (tgt := 71) D263_67 rfl ?_
          refine s_blx (lv' := [(4, vI (x4 + 1)), (3, vI 1), (0, vR 77), (1, vI t), (2, vI u)]) (st' := []) B263_71_75 rfl ?_
          refine r_goto (tgt := 24) D263_75 rfl ?_
          refine r_loc (lv' := [(0, vR 77), (1, vI t), (2, vI u), (3, vI 1), (4, vI (x4 + 1))]) ⟨rfl, rfl, rfl, rfl, rfl, trivial⟩ rfl rfl ?_
          exact ih 1 (x4 + 1) (by omega) (by omega) (by omega) (by omega) (by omega)
set_option maxRecDepth 4000 in
theorem k263 {base : Nat} {X : Nat → Option mC} {G : Nat → Value} (E : EnvOK base X G) {d : Nat} (hd : 0 ≤ d) {M : mH} (H : HI base M) (t : Int) (u : Int) (h0 : 0 ≤ t ∧ t ≤ 7) (h1 : 0 ≤ u ∧ u ≤ 7) : sOk base X G d T263 [vR 77, vI t, vI u] M (pI (fun v M' => M' = M ∧ (v = 0 ∨ v = 1))) := by
  refine sOk.of (show sRn base X G d T263 0 [(0, vR 77), (1, vI t), (2, vI u)] [] M _ from ?_)
  refine s_blx (lv' := [(0, vR 77), (1, vI t), (2, vI u)]) (st' := [vR 77]) B263_0_1 rfl ?_
  refine r_gfix (r := 110) (pc' := 4) D263_1 rfl gf_11_120_77 H.1 ?_
  refine s_blx (lv' := [(0, vR 77), (1, vI t), (2, vI u)]) (st' := [vI t, vR 110]) B263_4_5 rfl ?_
  refine r_iald (pc' := 6) D263_5 rfl sc_110 H.1 (by omega) ?_
  intro w1 e2 r3
  have b_w1 := H.2 110 (t) 0 24 rfl
  rw [← e2] at b_w1; clear r3
  refine s_blx (lv' := [(0, vR 77), (1, vI t), (2, vI u)]) (st' := [vR 77, vI w1]) B263_6_7 rfl ?_
  refine r_gfix (r := 110) (pc' := 10) D263_7 rfl gf_11_120_77 H.1 ?_
  refine s_blx (lv' := [(0, vR 77), (1, vI t), (2, vI u)]) (st' := [vI u, vR 110, vI w1]) B263_10_11 rfl ?_
  refine r_iald (pc' := 12) D263_11 rfl sc_110 H.1 (by omega) ?_
  intro w4 e5 r6
  have b_w4 := H.2 110 (u) 0 24 rfl
  rw [← e5] at b_w4; clear r6
  refine r_icmp (tgt := 19) (pc' := 15) D263_12 rfl rfl (by unfold inR; omega) (fun (c7 : w1 ≠ w4) => ?_) (fun (c7 : ¬ (w1 ≠ w4)) => ?_)
  · refine s_blx (lv' := [(4, vI 0), (3, vI 0), (0, vR 77), (1, vI t), (2, vI u)]) (st' := []) B263_19_24 rfl ?_
    refine r_loc (lv' := [(0, vR 77), (1, vI t), (2, vI u), (3, vI 0), (4, vI 0)]) ⟨rfl, rfl, rfl, rfl, rfl, trivial⟩ rfl rfl ?_
    exact (L_k263 E hd H t u h0 h1 (((24 - 0) * 1 + 0 : Int) + 1).toNat) 0 0 (by omega) (by omega) (by omega) (by omega) (by omega)
  · refine s_blx (lv' := [(0, vR 77), (1, vI t), (2, vI u)]) (st' := [vI 1]) B263_15_16 rfl ?_
    refine r_goto (tgt := 20) D263_16 rfl ?_
    refine s_blx (lv' := [(4, vI 0), (3, vI 1), (0, vR 77), (1, vI t), (2, vI u)]) (st' := []) B263_20_24 rfl ?_
    refine r_loc (lv' := [(0, vR 77), (1, vI t), (2, vI u), (3, vI 1), (4, vI 0)]) ⟨rfl, rfl, rfl, rfl, rfl, trivial⟩ rfl rfl ?_
    exact (L_k263 E hd H t u h0 h1 (((24 - 0) * 1 + 0 : Int) + 1).toNat) 1 0 (by omega) (by omega) (by omega) (by omega) (by omega)
set_option maxRecDepth 4000 in
theorem L_k151 {base : Nat} {X : Nat → Option mC} {G : Nat → Value} (E : EnvOK base X G) {d : Nat} (hd : 1 ≤ d) {M : mH} (H : HI base M) (k : Int) (h0 : -2147483648 ≤ k ∧ k ≤ 2147483647) : ∀ mz : Nat, (∀ (x2 : Int) (N : mH), HI base N → Fr [(77, 1), (79, 0), (80, 0)] M N → (0 ≤ x2) → (x2 ≤ 6883) → (0 ≤ k) → (k ≤ 1) → (6883 - x2) * 1 + 0 < (mz : Int) → sRn base X G d T151 17 [(0, vR 77), (1, vI k), (2, vI x2)] [] N (s_Q base (pI (fun v M' => HI base M' ∧ Fr [(77, 1), (79, 0), (80, 0)] M M')))) := by
  have f0 : Fr [(77, 1), (79, 0), (80, 0)] M M := Fr.rf
  intro mz
  induction mz with
  | zero => exact fun x2 N _ _ z0 z1 z2 z3 z4 => by omega
  | succ mz ih =>
    intro x2 N HN fN i0 i1 i2 i3 hmu
    refine s_blx (lv' := [(0, vR 77), (1, vI k), (2, vI x2)]) (st' := [vI 6883, vI x2]) B151_17_21 rfl ?_
    refine r_icmp (tgt := 48) (pc' := 24) D151_21 rfl rfl (by unfold inR; omega) (fun (c15 : 6883 ≤ x2) => ?_) (fun (c15 : ¬ (6883 ≤ x2)) => ?_)
    · refine s_blx (lv' := [(0, vR 77), (1, vI k), (2, vI x2)]) (st' := [vR 77]) B151_48_49 rfl ?_
      refine r_gfix (r := 80) (pc' := 52) D151_49 rfl gf_11_20_77 HN.1 ?_
      refine s_blx (lv' := [(0, vR 77), (1, vI k), (2, vI x2)]) (st' := [vI 1, vI k, vR 80]) B151_52_54 rfl ?_
      refine r_zast (pc' := 55) D151_54 rfl sc_80 HN (by omega) (by omega) (show 0 ≤ 1 ∧ 1 ≤ 1 by omega) ?_
      intro M16 u17 H18 p19
      have f20 := fN.wr u17 rfl
      refine s_blx (lv' := [(0, vR 77), (1, vI k), (2, vI x2)]) (st' := [vI 0, vR 77]) B151_55_57 rfl ?_
      refine r_vI (c := 77) (args := [vI 0]) (rest := []) (pc' := 60) D151_57 rfl ck_11_virtual_131 TE149 rfl (Nat.le_of_ble_eq_true rfl) ⟨Nat.le_of_ble_eq_true rfl, Nat.le_of_ble_eq_true rfl⟩ sc_77 ⟨rfl, by decide⟩ H18.1 (dp_0 hd rfl) (k149 E (dp_n hd rfl) H18 0 (by omega)) ?_
      intro v21 M22 q26
      obtain ⟨H23, f24, q25⟩ := q26
      have f27 := f20.tr (f24.up rfl)
      exact r_iretI D151_60 rfl (⟨H23, f27⟩)
    · refine s_blx (lv' := [(0, vR 77), (1, vI k), (2, vI x2)]) (st' := [vR 77]) B151_24_25 rfl ?_
      refine r_gfix (r := 79) (pc' := 28) D151_25 rfl gf_11_17_77 HN.1 ?_
      refine s_blx (lv' := [(0, vR 77), (1, vI k), (2, vI x2)]) (st' := [vR 77, vI ((6883 * k) + x2), vR 79]) B151_28_36 rfl ?_
      refine r_gfix (r := 78) (pc' := 39) D151_36 rfl gf_11_13_77 HN.1 ?_
      refine s_blx (lv' := [(0, vR 77), (1, vI k), (2, vI x2)]) (st' := [vI x2, vR 78, vI ((6883 * k) + x2), vR 79]) B151_39_40 rfl ?_
      refine r_iald (pc' := 41) D151_40 rfl sc_78 HN.1 (by omega) ?_
      intro w28 e29 r30
      unfold inR at r30
      refine r_iast (pc' := 42) D151_41 rfl sc_79 HN (by omega) (by unfold inR; omega) (by rw [rg79 (by omega) (by omega), e29]; exact HN.2.sin 78 _) ?_
      intro M31 u32 H33 p34
      have f35 := fN.wr u32 rfl
      refine s_blx (lv' := [(2, vI (x2 + 1)), (0, vR 77), (1, vI k)]) (st' := []) B151_42_45 rfl ?_
      refine r_goto (tgt := 17) D151_45 rfl ?_
      refine r_loc (lv' := [(0, vR 77), (1, vI k), (2, vI (x2 + 1))]) ⟨rfl, rfl, rfl, trivial⟩ rfl rfl ?_
      exact ih (x2 + 1) M31 H33 f35 (by omega) (by omega) (by omega) (by omega) (by omega)
set_option maxRecDepth 4000 in
theorem k151 {base : Nat} {X : Nat → Option mC} {G : Nat → Value} (E : EnvOK base X G) {d : Nat} (hd : 1 ≤ d) {M : mH} (H : HI base M) (k : Int) (h0 : -2147483648 ≤ k ∧ k ≤ 2147483647) : sOk base X G d T151 [vR 77, vI k] M (pI (fun v M' => HI base M' ∧ Fr [(77, 1), (79, 0), (80, 0)] M M')) := by
  have f0 : Fr [(77, 1), (79, 0), (80, 0)] M M := Fr.rf
  refine sOk.of (show sRn base X G d T151 0 [(0, vR 77), (1, vI k)] [] M _ from ?_)
  refine s_blx (lv' := [(0, vR 77), (1, vI k)]) (st' := [vI 1, vI 0, vI k]) B151_0_3 rfl ?_
  refine r_sIp (args := [vI k, vI 0, vI 1]) (rest := []) (pc' := 6) D151_3 rfl ck_11_static_123 TE147 rfl (Nat.le_of_ble_eq_true rfl) ⟨Nat.le_of_ble_eq_true rfl, Nat.le_of_ble_eq_true rfl⟩ (by decide) (dp_0 hd rfl) (k147 E (dp_n hd rfl) H k 0 1 (by omega) (by omega) (by omega)) ?_
  intro v1 q6
  obtain ⟨q3, q4, q5⟩ := q6
  refine r_ifc (tgt := 15) (pc' := 9) D151_6 rfl rfl (by unfold inR; omega) (fun (c7 : v1 ≠ 0) => ?_) (fun (c7 : ¬ (v1 ≠ 0)) => ?_)
  · refine s_blx (lv' := [(2, vI 0), (0, vR 77), (1, vI k)]) (st' := []) B151_15_17 rfl ?_
    refine r_loc (lv' := [(0, vR 77), (1, vI k), (2, vI 0)]) ⟨rfl, rfl, rfl, trivial⟩ rfl rfl ?_
    exact (L_k151 E hd H k h0 (((6883 - 0) * 1 + 0 : Int) + 1).toNat) 0 M H f0 (by omega) (by omega) (by omega) (by omega) (by omega)
  · refine s_blx (lv' := [(0, vR 77), (1, vI k)]) (st' := [vI (-1), vR 77]) B151_9_11 rfl ?_
    refine r_vI (c := 77) (args := [vI (-1)]) (rest := []) (pc' := 14) D151_11 rfl ck_11_virtual_127 TE148 rfl (Nat.le_of_ble_eq_true rfl) ⟨Nat.le_of_ble_eq_true rfl, Nat.le_of_ble_eq_true rfl⟩ sc_77 ⟨rfl, by decide⟩ H.1 (dp_0 hd rfl) (k148 E (dp_n hd rfl) H (-1) (by omega)) ?_
    intro v8 M9 q13
    obtain ⟨H10, f11, q12⟩ := q13
    have f14 := f0.tr (f11.up rfl)
    exact r_iretI D151_14 rfl (⟨H10, f14⟩)
set_option maxRecDepth 4000 in
theorem L_k152 {base : Nat} {X : Nat → Option mC} {G : Nat → Value} (E : EnvOK base X G) {d : Nat} (hd : 1 ≤ d) {M : mH} (H : HI base M) (k : Int) (h0 : -2147483648 ≤ k ∧ k ≤ 2147483647) : ∀ mz : Nat, (∀ (x2 : Int) (N : mH), HI base N → Fr [(77, 1), (78, 0)] M N → (0 ≤ x2) → (x2 ≤ 6883) → (0 ≤ k) → (k ≤ 1) → (6883 - x2) * 1 + 0 < (mz : Int) → sRn base X G d T152 33 [(0, vR 77), (1, vI k), (2, vI x2)] [] N (s_Q base (pI (fun v M' => HI base M' ∧ Fr [(77, 1), (78, 0)] M M')))) := by
  have f0 : Fr [(77, 1), (78, 0)] M M := Fr.rf
  intro mz
  induction mz with
  | zero => exact fun x2 N _ _ z0 z1 z2 z3 z4 => by omega
  | succ mz ih =>
    intro x2 N HN fN i0 i1 i2 i3 hmu
    refine s_blx (lv' := [(0, vR 77), (1, vI k), (2, vI x2)]) (st' := [vI 6883, vI x2]) B152_33_37 rfl ?_
    refine r_icmp (tgt := 64) (pc' := 40) D152_37 rfl rfl (by unfold inR; omega) (fun (c26 : 6883 ≤ x2) => ?_) (fun (c26 : ¬ (6883 ≤ x2)) => ?_)
    · refine s_blx (lv' := [(0, vR 77), (1, vI k), (2, vI x2)]) (st' := [vI 0, vR 77]) B152_64_66 rfl ?_
      refine r_vI (c := 77) (args := [vI 0]) (rest := []) (pc' := 69) D152_66 rfl ck_11_virtual_131 TE149 rfl (Nat.le_of_ble_eq_true rfl) ⟨Nat.le_of_ble_eq_true rfl, Nat.le_of_ble_eq_true rfl⟩ sc_77 ⟨rfl, by decide⟩ HN.1 (dp_0 hd rfl) (k149 E (dp_n hd rfl) HN 0 (by omega)) ?_
      intro v27 M28 q32
      obtain ⟨H29, f30, q31⟩ := q32
      have f33 := fN.tr (f30.up rfl)
      exact r_iretI D152_69 rfl (⟨H29, f33⟩)
    · refine s_blx (lv' := [(0, vR 77), (1, vI k), (2, vI x2)]) (st' := [vR 77]) B152_40_41 rfl ?_
      refine r_gfix (r := 78) (pc' := 44) D152_41 rfl gf_11_13_77 HN.1 ?_
      refine s_blx (lv' := [(0, vR 77), (1, vI k), (2, vI x2)]) (st' := [vR 77, vI x2, vR 78]) B152_44_46 rfl ?_
      refine r_gfix (r := 79) (pc' := 49) D152_46 rfl gf_11_17_77 HN.1 ?_
      refine s_blx (lv' := [(0, vR 77), (1, vI k), (2, vI x2)]) (st' := [vI ((6883 * k) + x2), vR 79, vI x2, vR 78]) B152_49_56 rfl ?_
      refine r_iald (pc' := 57) D152_56 rfl sc_79 HN.1 (by omega) ?_
      intro w34 e35 r36
      unfold inR at r36
      refine r_iast (pc' := 58) D152_57 rfl sc_78 HN (by omega) (by unfold inR; omega) (by show s_in (rg 78 _) _; rw [e35]; have q := HN.2.sin 79 (6883 * k + x2); rw [rg79 (by omega) (by omega)] at q; exact q) ?_
      intro M37 u38 H39 p40
      have f41 := fN.wr u38 rfl
      refine s_blx (lv' := [(2, vI (x2 + 1)), (0, vR 77), (1, vI k)]) (st' := []) B152_58_61 rfl ?_
      refine r_goto (tgt := 33) D152_61 rfl ?_
      refine r_loc (lv' := [(0, vR 77), (1, vI k), (2, vI (x2 + 1))]) ⟨rfl, rfl, rfl, trivial⟩ rfl rfl ?_
      exact ih (x2 + 1) M37 H39 f41 (by omega) (by omega) (by omega) (by omega) (by omega)
set_option maxRecDepth 4000 in
theorem k152 {base : Nat} {X : Nat → Option mC} {G : Nat → Value} (E : EnvOK base X G) {d : Nat} (hd : 1 ≤ d) {M : mH} (H : HI base M) (k : Int) (h0 : -2147483648 ≤ k ∧ k ≤ 2147483647) : sOk base X G d T152 [vR 77, vI k] M (pI (fun v M' => HI base M' ∧ Fr [(77, 1), (78, 0)] M M')) := by
  have f0 : Fr [(77, 1), (78, 0)] M M := Fr.rf
  refine sOk.of (show sRn base X G d T152 0 [(0, vR 77), (1, vI k)] [] M _ from ?_)
  refine s_blx (lv' := [(0, vR 77), (1, vI k)]) (st' := [vI 1, vI 0, vI k]) B152_0_3 rfl ?_
  refine r_sIp (args := [vI k, vI 0, vI 1]) (rest := []) (pc' := 6) D152_3 rfl ck_11_static_123 TE147 rfl (Nat.le_of_ble_eq_true rfl) ⟨Nat.le_of_ble_eq_true rfl, Nat.le_of_ble_eq_true rfl⟩ (by decide) (dp_0 hd rfl) (k147 E (dp_n hd rfl) H k 0 1 (by omega) (by omega) (by omega)) ?_
  intro v1 q6
  obtain ⟨q3, q4, q5⟩ := q6
  refine r_ifc (tgt := 15) (pc' := 9) D152_6 rfl rfl (by unfold inR; omega) (fun (c7 : v1 ≠ 0) => ?_) (fun (c7 : ¬ (v1 ≠ 0)) => ?_)
  · refine s_blx (lv' := [(0, vR 77), (1, vI k)]) (st' := [vR 77]) B152_15_16 rfl ?_
    refine r_gfix (r := 80) (pc' := 19) D152_16 rfl gf_11_20_77 H.1 ?_
    refine s_blx (lv' := [(0, vR 77), (1, vI k)]) (st' := [vI k, vR 80]) B152_19_20 rfl ?_
    refine r_bald (pc' := 21) D152_20 rfl sc_80 (by decide) H.1 (by omega) ?_
    intro w8 e9 r10
    have b_w8 := H.2 80 (k) 0 1 rfl
    rw [← e9] at b_w8; clear r10
    refine r_ifc (tgt := 31) (pc' := 24) D152_21 rfl rfl (by unfold inR; omega) (fun (c11 : w8 ≠ 0) => ?_) (fun (c11 : ¬ (w8 ≠ 0)) => ?_)
    · refine s_blx (lv' := [(2, vI 0), (0, vR 77), (1, vI k)]) (st' := []) B152_31_33 rfl ?_
      refine r_loc (lv' := [(0, vR 77), (1, vI k), (2, vI 0)]) ⟨rfl, rfl, rfl, trivial⟩ rfl rfl ?_
      exact (L_k152 E hd H k h0 (((6883 - 0) * 1 + 0 : Int) + 1).toNat) 0 M H f0 (by omega) (by omega) (by omega) (by omega) (by omega)
    · refine s_blx (lv' := [(0, vR 77), (1, vI k)]) (st' := [vI (-2), vR 77]) B152_24_27 rfl ?_
      refine r_vI (c := 77) (args := [vI (-2)]) (rest := []) (pc' := 30) D152_27 rfl ck_11_virtual_127 TE148 rfl (Nat.le_of_ble_eq_true rfl) ⟨Nat.le_of_ble_eq_true rfl, Nat.le_of_ble_eq_true rfl⟩ sc_77 ⟨rfl, by decide⟩ H.1 (dp_0 hd rfl) (k148 E (dp_n hd rfl) H (-2) (by omega)) ?_
      intro v12 M13 q17
      obtain ⟨H14, f15, q16⟩ := q17
      have f18 := f0.tr (f15.up rfl)
      exact r_iretI D152_30 rfl (⟨H14, f18⟩)
  · refine s_blx (lv' := [(0, vR 77), (1, vI k)]) (st' := [vI (-1), vR 77]) B152_9_11 rfl ?_
    refine r_vI (c := 77) (args := [vI (-1)]) (rest := []) (pc' := 14) D152_11 rfl ck_11_virtual_127 TE148 rfl (Nat.le_of_ble_eq_true rfl) ⟨Nat.le_of_ble_eq_true rfl, Nat.le_of_ble_eq_true rfl⟩ sc_77 ⟨rfl, by decide⟩ H.1 (dp_0 hd rfl) (k148 E (dp_n hd rfl) H (-1) (by omega)) ?_
    intro v19 M20 q24
    obtain ⟨H21, f22, q23⟩ := q24
    have f25 := f0.tr (f22.up rfl)
    exact r_iretI D152_14 rfl (⟨H21, f25⟩)
set_option maxRecDepth 4000 in
theorem k232 {base : Nat} {X : Nat → Option mC} {G : Nat → Value} (E : EnvOK base X G) {d : Nat} (hd : 0 ≤ d) {M : mH} (H : HI base M) (k : Int) (h0 : 0 ≤ k ∧ k ≤ 3200) : sOk base X G d T232 [vR 77, vI k] M (pI (fun v M' => M' = M ∧ True)) := by
  refine sOk.of (show sRn base X G d T232 0 [(0, vR 77), (1, vI k)] [] M _ from ?_)
  refine s_blx (lv' := [(0, vR 77), (1, vI k)]) (st' := [vR 77, vI k]) B232_0_2 rfl ?_
  refine r_gint (ki := 41) (pc' := 5) D232_2 rfl gf_11_375_77 rfl H.1 ?_
  intro w1 e2 r3
  unfold inR at r3
  refine r_icmp (tgt := 21) (pc' := 8) D232_5 rfl rfl (by unfold inR; omega) (fun (c4 : w1 ≤ k) => ?_) (fun (c4 : ¬ (w1 ≤ k)) => ?_)
  · refine s_blx (lv' := [(0, vR 77), (1, vI k)]) (st' := [vI 0]) B232_21_22 rfl ?_
    exact r_iretI D232_22 rfl (⟨rfl, trivial⟩)
  · refine s_blx (lv' := [(0, vR 77), (1, vI k)]) (st' := [vR 77]) B232_8_9 rfl ?_
    refine r_gfix (r := 78) (pc' := 12) D232_9 rfl gf_11_13_77 H.1 ?_
    refine s_blx (lv' := [(0, vR 77), (1, vI k)]) (st' := [vI (483 + k), vR 78]) B232_12_17 rfl ?_
    refine r_iald (pc' := 18) D232_17 rfl sc_78 H.1 (by omega) ?_
    intro w5 e6 r7
    unfold inR at r7
    refine r_goto (tgt := 22) D232_18 rfl ?_
    exact r_iretI D232_22 rfl (⟨rfl, trivial⟩)
set_option maxRecDepth 4000 in
theorem k234 {base : Nat} {X : Nat → Option mC} {G : Nat → Value} (E : EnvOK base X G) {d : Nat} (hd : 0 ≤ d) {M : mH} (H : HI base M) (v_ : Int) (live : Int) (h0 : (live = 0 ∨ live = 1)) : sOk base X G d T234 [vR 77, vL v_, vI live] M (pL (fun v M' => HI base M' ∧ Fr [(77, 43)] M M')) := by
  have f0 : Fr [(77, 43)] M M := Fr.rf
  refine sOk.of (show sRn base X G d T234 0 [(0, vR 77), (1, vL v_), (3, vI live)] [] M _ from ?_)
  refine s_blx (lv' := [(0, vR 77), (1, vL v_), (3, vI live)]) (st' := [vI live]) B234_0_1 rfl ?_
  refine r_ifc (tgt := 25) (pc' := 4) D234_1 rfl rfl (by unfold inR; omega) (fun (c1 : live = 0) => ?_) (fun (c1 : ¬ (live = 0)) => ?_)
  · refine s_blx (lv' := [(0, vR 77), (1, vL v_), (3, vI live)]) (st' := [vR 77]) B234_25_26 rfl ?_
    refine r_gint (ki := 42) (pc' := 29) D234_26 rfl gf_11_388_77 rfl H.1 ?_
    intro w2 e3 r4
    have b_w2 := H.2 77 (42) 0 1 rfl
    rw [← e3] at b_w2; clear r4
    refine r_ifc (tgt := 36) (pc' := 32) D234_29 rfl rfl (by unfold inR; omega) (fun (c5 : w2 = 0) => ?_) (fun (c5 : ¬ (w2 = 0)) => ?_)
    · refine s_blx (lv' := [(0, vR 77), (1, vL v_), (3, vI live)]) (st' := [vL v_]) B234_36_37 rfl ?_
      exact r_lretL D234_37 rfl (⟨H, f0⟩)
    · refine s_blx (lv' := [(0, vR 77), (1, vL v_), (3, vI live)]) (st' := [vL 0]) B234_32_33 rfl ?_
      refine r_goto (tgt := 37) D234_33 rfl ?_
      exact r_lretL D234_37 rfl (⟨H, f0⟩)
  · refine s_blx (lv' := [(0, vR 77), (1, vL v_), (3, vI live)]) (st' := [vL v_]) B234_4_5 rfl ?_
    refine r_ldc2 (e := 1000000000) (pc' := 8) D234_5 rfl cl_11_384 (by decide) ?_
    refine r_lcmp (pc' := 9) D234_8 rfl ?_
    intro z6 r7 r8
    refine r_ifc (tgt := 20) (pc' := 12) D234_9 rfl rfl (by unfold inR; omega) (fun (c9 : 0 < z6) => ?_) (fun (c9 : ¬ (0 < z6)) => ?_)
    · refine s_blx (lv' := [(0, vR 77), (1, vL v_), (3, vI live)]) (st' := [vI 1, vR 77]) B234_20_22 rfl ?_
      refine r_pbool (ki := 42) (pc' := 25) D234_22 rfl pf_11_388_77 rfl H (by omega) (show 0 ≤ 1 ∧ 1 ≤ 1 by omega) ?_
      intro M10 u11 H12 p13
      have f14 := f0.wr u11 rfl
      refine s_blx (lv' := [(0, vR 77), (1, vL v_), (3, vI live)]) (st' := [vR 77]) B234_25_26 rfl ?_
      refine r_gint (ki := 42) (pc' := 29) D234_26 rfl gf_11_388_77 rfl H12.1 ?_
      intro w15 e16 r17
      have e18 : 1 = w15 := (e16.trans (p13)).symm
      subst e18
      refine r_ifc (tgt := 36) (pc' := 32) D234_29 rfl rfl (by unfold inR; omega) (fun (c19 : 1 = 0) => ?_) (fun (c19 : ¬ (1 = 0)) => ?_)
      · exfalso; omega
      · refine s_blx (lv' := [(0, vR 77), (1, vL v_), (3, vI live)]) (st' := [vL 0]) B234_32_33 rfl ?_
        refine r_goto (tgt := 37) D234_33 rfl ?_
        exact r_lretL D234_37 rfl (⟨H12, f14⟩)
    · refine s_blx (lv' := [(0, vR 77), (1, vL v_), (3, vI live)]) (st' := [vL v_]) B234_12_13 rfl ?_
      refine r_ldc2 (e := (-1000000000)) (pc' := 16) D234_13 rfl cl_11_386 (by decide) ?_
      refine r_lcmp (pc' := 17) D234_16 rfl ?_
      intro z20 r21 r22
      refine r_ifc (tgt := 25) (pc' := 20) D234_17 rfl rfl (by unfold inR; omega) (fun (c23 : 0 ≤ z20) => ?_) (fun (c23 : ¬ (0 ≤ z20)) => ?_)
      · refine s_blx (lv' := [(0, vR 77), (1, vL v_), (3, vI live)]) (st' := [vR 77]) B234_25_26 rfl ?_
        refine r_gint (ki := 42) (pc' := 29) D234_26 rfl gf_11_388_77 rfl H.1 ?_
        intro w24 e25 r26
        have b_w24 := H.2 77 (42) 0 1 rfl
        rw [← e25] at b_w24; clear r26
        refine r_ifc (tgt := 36) (pc' := 32) D234_29 rfl rfl (by unfold inR; omega) (fun (c27 : w24 = 0) => ?_) (fun (c27 : ¬ (w24 = 0)) => ?_)
        · refine s_blx (lv' := [(0, vR 77), (1, vL v_), (3, vI live)]) (st' := [vL v_]) B234_36_37 rfl ?_
          exact r_lretL D234_37 rfl (⟨H, f0⟩)
        · refine s_blx (lv' := [(0, vR 77), (1, vL v_), (3, vI live)]) (st' := [vL 0]) B234_32_33 rfl ?_
          refine r_goto (tgt := 37) D234_33 rfl ?_
          exact r_lretL D234_37 rfl (⟨H, f0⟩)
      · refine s_blx (lv' := [(0, vR 77), (1, vL v_), (3, vI live)]) (st' := [vI 1, vR 77]) B234_20_22 rfl ?_
        refine r_pbool (ki := 42) (pc' := 25) D234_22 rfl pf_11_388_77 rfl H (by omega) (show 0 ≤ 1 ∧ 1 ≤ 1 by omega) ?_
        intro M28 u29 H30 p31
        have f32 := f0.wr u29 rfl
        refine s_blx (lv' := [(0, vR 77), (1, vL v_), (3, vI live)]) (st' := [vR 77]) B234_25_26 rfl ?_
        refine r_gint (ki := 42) (pc' := 29) D234_26 rfl gf_11_388_77 rfl H30.1 ?_
        intro w33 e34 r35
        have e36 : 1 = w33 := (e34.trans (p31)).symm
        subst e36
        refine r_ifc (tgt := 36) (pc' := 32) D234_29 rfl rfl (by unfold inR; omega) (fun (c37 : 1 = 0) => ?_) (fun (c37 : ¬ (1 = 0)) => ?_)
        · exfalso; omega
        · refine s_blx (lv' := [(0, vR 77), (1, vL v_), (3, vI live)]) (st' := [vL 0]) B234_32_33 rfl ?_
          refine r_goto (tgt := 37) D234_33 rfl ?_
          exact r_lretL D234_37 rfl (⟨H30, f32⟩)
set_option maxRecDepth 4000 in
theorem L_k242 {base : Nat} {X : Nat → Option mC} {G : Nat → Value} (E : EnvOK base X G) {d : Nat} (hd : 2 ≤ d) {M : mH} (H : HI base M) (h0 : 0 ≤ gi M 77 13) : ∀ mz : Nat, (∀ (x1 x2 x3 : Int), ((-1) ≤ x1) → (x1 ≤ 7) → (0 ≤ x2) → (x2 ≤ 2147483647) → (0 ≤ x3) → (x3 ≤ 8) → (8 - x3) * 1 + 0 < (mz : Int) → sRn base X G d T242 6 [(0, vR 77), (1, vI x1), (2, vI x2), (3, vI x3)] [] M (s_Q base (pI (fun v M' => M' = M ∧ (-1 ≤ v ∧ v ≤ 7))))) := by
  intro mz
  induction mz with
  | zero => exact fun x1 x2 x3 z0 z1 z2 z3 z4 z5 z6 => by omega
  | succ mz ih =>
    intro x1 x2 x3 i0 i1 i2 i3 i4 i5 hmu
    refine s_blx (lv' := [(0, vR 77), (1, vI x1), (2, vI x2), (3, vI x3)]) (st' := [vI 8, vI x3]) B242_6_9 rfl ?_
    refine r_icmp (tgt := 47) (pc' := 12) D242_9 rfl rfl (by unfold inR; omega) (fun (c1 : 8 ≤ x3) => ?_) (fun (c1 : ¬ (8 ≤ x3)) => ?_)
    · refine s_blx (lv' := [(0, vR 77), (1, vI x1), (2, vI x2), (3, vI x3)]) (st' := [vI x1]) B242_47_48 rfl ?_
      exact r_iretI D242_48 rfl (⟨rfl, by omega⟩)
    · refine s_blx (lv' := [(0, vR 77), (1, vI x1), (2, vI x2), (3, vI x3)]) (st' := [vR 77, vR 77]) B242_12_14 rfl ?_
      refine r_gint (ki := 6) (pc' := 17) D242_14 rfl gf_11_194_77 rfl H.1 ?_
      intro w2 e3 r4
      unfold inR at r4
      refine s_blx (lv' := [(0, vR 77), (1, vI x1), (2, vI x2), (3, vI x3)]) (st' := [vR 77, vI w2, vR 77]) B242_17_18 rfl ?_
      refine r_gint (ki := 13) (pc' := 21) D242_18 rfl gf_11_212_77 rfl H.1 ?_
      intro w5 e6 r7
      have b_w5 := H.2 77 (13) (-1) 2 rfl
      rw [← e6] at b_w5; clear r7
      refine s_blx (lv' := [(0, vR 77), (1, vI x1), (2, vI x2), (3, vI x3)]) (st' := [vI x3, vI w5, vI w2, vR 77]) B242_21_22 rfl ?_
      refine r_vIp (c := 77) (args := [vI w2, vI w5, vI x3]) (rest := []) (pc' := 25) D242_22 rfl ck_11_virtual_177 TE174 rfl (Nat.le_of_ble_eq_true rfl) ⟨Nat.le_of_ble_eq_true rfl, Nat.le_of_ble_eq_true rfl⟩ sc_77 ⟨rfl, by decide⟩ H.1 (dp_0 hd rfl) (k174 E (dp_n hd rfl) H w2 w5 x3 (by omega) (by omega) (by omega)) ?_
      intro v8 q11
      have q10 := q11; clear q11
      refine s_blx (lv' := [(4, vI v8), (0, vR 77), (1, vI x1), (2, vI x2), (3, vI x3)]) (st' := [vI x2, vI v8]) B242_25_30 rfl ?_
      refine r_icmp (tgt := 36) (pc' := 33) D242_30 rfl rfl (by unfold inR; omega) (fun (c12 : x2 < v8) => ?_) (fun (c12 : ¬ (x2 < v8)) => ?_)
      · refine s_blx (lv' := [(3, vI (x3 + 1)), (1, vI x3), (2, vI v8), (4, vI v8), (0, vR 77)]) (st' := []) B242_36_44 rfl ?_
        refine r_goto (tgt := 6) D242_44 rfl ?_
        refine r_loc (lv' := [(0, vR 77), (1, vI x3), (2, vI v8), (3, vI (x3 + 1))]) ⟨rfl, rfl, rfl, rfl, trivial⟩ rfl rfl ?_
        exact ih x3 v8 (x3 + 1) (by omega) (by omega) (by omega) (by omega) (by omega) (by omega) (by omega)
      · refine r_goto (tgt := 41) D242_33 rfl ?_
        refine s_blx (lv' := [(3, vI (x3 + 1)), (4, vI v8), (0, vR 77), (1, vI x1), (2, vI x2)]) (st' := []) B242_41_44 rfl ?_
        refine r_goto (tgt := 6) D242_44 rfl ?_
        refine r_loc (lv' := [(0, vR 77), (1, vI x1), (2, vI x2), (3, vI (x3 + 1))]) ⟨rfl, rfl, rfl, rfl, trivial⟩ rfl rfl ?_
        exact ih x1 x2 (x3 + 1) (by omega) (by omega) (by omega) (by omega) (by omega) (by omega) (by omega)
set_option maxRecDepth 4000 in
theorem k242 {base : Nat} {X : Nat → Option mC} {G : Nat → Value} (E : EnvOK base X G) {d : Nat} (hd : 2 ≤ d) {M : mH} (H : HI base M) (h0 : 0 ≤ gi M 77 13) : sOk base X G d T242 [vR 77] M (pI (fun v M' => M' = M ∧ (-1 ≤ v ∧ v ≤ 7))) := by
  refine sOk.of (show sRn base X G d T242 0 [(0, vR 77)] [] M _ from ?_)
  refine s_blx (lv' := [(3, vI 0), (2, vI 0), (1, vI (-1)), (0, vR 77)]) (st' := []) B242_0_6 rfl ?_
  refine r_loc (lv' := [(0, vR 77), (1, vI (-1)), (2, vI 0), (3, vI 0)]) ⟨rfl, rfl, rfl, rfl, trivial⟩ rfl rfl ?_
  exact (L_k242 E hd H h0 (((8 - 0) * 1 + 0 : Int) + 1).toNat) (-1) 0 0 (by omega) (by omega) (by omega) (by omega) (by omega) (by omega) (by omega)
