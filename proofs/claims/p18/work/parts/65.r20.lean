noncomputable def T246 : mT := (11, yX11_habitOf, cX11_habitOf, 7, (some .int))
set_option maxRecDepth 10000 in
theorem TE246 : sy_m[246]? = some T246 := rfl
theorem B246_0_3 : s_dk T246.2.2.1 0 [.aload_n 0, .iload_n 2, .iload_n 3] 3 = true := by decide +kernel
theorem D246_3 : decode T246.2.2.1 3 = .ok (.invokevirtual 428, 3) := by decide +kernel
theorem ck_11_virtual_428 : m_call 11 (.invokevirtual 428) = some (0, 244, 2) := by decide +kernel
theorem B246_6_12 : s_dk T246.2.2.1 6 [.aload_n 0, .sipush 400, .iload_n 1, .imul] 12 = true := by decide +kernel
theorem D246_12 : decode T246.2.2.1 12 = .ok (.putfield 378, 3) := by decide +kernel
theorem B246_15_17 : s_dk T246.2.2.1 15 [.aload_n 0, .aload_n 0] 17 = true := by decide +kernel
theorem D246_17 : decode T246.2.2.1 17 = .ok (.getfield 378, 3) := by decide +kernel
theorem B246_20_21 : s_dk T246.2.2.1 20 [.aload_n 0] 21 = true := by decide +kernel
theorem D246_21 : decode T246.2.2.1 21 = .ok (.getfield 13, 3) := by decide +kernel
theorem B246_24_29 : s_dk T246.2.2.1 24 [.sipush 475, .iload_n 1, .iadd] 29 = true := by decide +kernel
theorem D246_29 : decode T246.2.2.1 29 = .ok (.iaload, 1) := by decide +kernel
theorem B246_30_31 : s_dk T246.2.2.1 30 [.iadd] 31 = true := by decide +kernel
theorem pf_11_375_77 : s_pf 11 375 77 = some (41, 1) := by decide +kernel
theorem D246_31 : decode T246.2.2.1 31 = .ok (.putfield 375, 3) := by decide +kernel
theorem B246_34_35 : s_dk T246.2.2.1 34 [.aload_n 0] 35 = true := by decide +kernel
theorem D246_35 : decode T246.2.2.1 35 = .ok (.getfield 378, 3) := by decide +kernel
theorem B246_38_39 : s_dk T246.2.2.1 38 [.aload_n 0] 39 = true := by decide +kernel
theorem D246_39 : decode T246.2.2.1 39 = .ok (.getfield 375, 3) := by decide +kernel
theorem D246_42 : decode T246.2.2.1 42 = .ok (.if_icmp .ge 120, 3) := by decide +kernel
theorem B246_162_165 : s_dk T246.2.2.1 162 [.aload_n 0, .iload_n 2, .iconst 1] 165 = true := by decide +kernel
theorem D246_165 : decode T246.2.2.1 165 = .ok (.invokevirtual 240, 3) := by decide +kernel
theorem D246_168 : decode T246.2.2.1 168 = .ok (.ifCond .eq 7, 3) := by decide +kernel
theorem B246_175_178 : s_dk T246.2.2.1 175 [.aload_n 0, .iload_n 2, .iconst 0] 178 = true := by decide +kernel
theorem D246_178 : decode T246.2.2.1 178 = .ok (.invokevirtual 240, 3) := by decide +kernel
theorem D246_181 : decode T246.2.2.1 181 = .ok (.ifCond .eq 7, 3) := by decide +kernel
theorem B246_188_191 : s_dk T246.2.2.1 188 [.aload_n 0, .iload_n 2, .iconst 4] 191 = true := by decide +kernel
theorem D246_191 : decode T246.2.2.1 191 = .ok (.invokevirtual 240, 3) := by decide +kernel
theorem D246_194 : decode T246.2.2.1 194 = .ok (.ifCond .eq 7, 3) := by decide +kernel
theorem B246_201_202 : s_dk T246.2.2.1 201 [.iconst 3] 202 = true := by decide +kernel
theorem D246_202 : decode T246.2.2.1 202 = .ok (.ireturn, 1) := by decide +kernel
theorem B246_197_198 : s_dk T246.2.2.1 197 [.iconst 4] 198 = true := by decide +kernel
theorem D246_198 : decode T246.2.2.1 198 = .ok (.goto 4, 3) := by decide +kernel
theorem B246_184_185 : s_dk T246.2.2.1 184 [.iconst 0] 185 = true := by decide +kernel
theorem D246_185 : decode T246.2.2.1 185 = .ok (.goto 17, 3) := by decide +kernel
theorem B246_171_172 : s_dk T246.2.2.1 171 [.iconst 1] 172 = true := by decide +kernel
theorem D246_172 : decode T246.2.2.1 172 = .ok (.goto 30, 3) := by decide +kernel
theorem B246_45_47 : s_dk T246.2.2.1 45 [.aload_n 0, .iconst 0] 47 = true := by decide +kernel
theorem D246_47 : decode T246.2.2.1 47 = .ok (.putfield 388, 3) := by decide +kernel
theorem B246_50_52 : s_dk T246.2.2.1 50 [.aload_n 0, .aload_n 0] 52 = true := by decide +kernel
theorem D246_52 : decode T246.2.2.1 52 = .ok (.getfield 378, 3) := by decide +kernel
theorem D246_55 : decode T246.2.2.1 55 = .ok (.invokevirtual 381, 3) := by decide +kernel
theorem B246_58_62 : s_dk T246.2.2.1 58 [.istore 4, .aload_n 0, .dup] 62 = true := by decide +kernel
theorem D246_62 : decode T246.2.2.1 62 = .ok (.getfield 378, 3) := by decide +kernel
theorem B246_65_67 : s_dk T246.2.2.1 65 [.iconst 1, .iadd] 67 = true := by decide +kernel
theorem D246_67 : decode T246.2.2.1 67 = .ok (.putfield 378, 3) := by decide +kernel
theorem B246_70_73 : s_dk T246.2.2.1 70 [.aload_n 0, .bipush 7] 73 = true := by decide +kernel
theorem D246_73 : decode T246.2.2.1 73 = .ok (.invokevirtual 402, 3) := by decide +kernel
theorem D246_76 : decode T246.2.2.1 76 = .ok (.ifCond .eq 11, 3) := by decide +kernel
theorem B246_87_88 : s_dk T246.2.2.1 87 [.iconst 1] 88 = true := by decide +kernel
theorem D246_88 : decode T246.2.2.1 88 = .ok (.goto 4, 3) := by decide +kernel
theorem B246_92_96 : s_dk T246.2.2.1 92 [.istore 5, .iload 5] 96 = true := by decide +kernel
theorem D246_96 : decode T246.2.2.1 96 = .ok (.ifCond .eq 14, 3) := by decide +kernel
theorem B246_99_100 : s_dk T246.2.2.1 99 [.aload_n 0] 100 = true := by decide +kernel
theorem D246_100 : decode T246.2.2.1 100 = .ok (.getfield 388, 3) := by decide +kernel
theorem D246_103 : decode T246.2.2.1 103 = .ok (.ifCond .ne 7, 3) := by decide +kernel
theorem B246_106_107 : s_dk T246.2.2.1 106 [.iconst 1] 107 = true := by decide +kernel
theorem D246_107 : decode T246.2.2.1 107 = .ok (.goto 4, 3) := by decide +kernel
theorem B246_111_115 : s_dk T246.2.2.1 111 [.istore 5, .aload_n 0, .dup] 115 = true := by decide +kernel
theorem D246_115 : decode T246.2.2.1 115 = .ok (.getfield 378, 3) := by decide +kernel
theorem B246_118_120 : s_dk T246.2.2.1 118 [.iconst 1, .iadd] 120 = true := by decide +kernel
theorem D246_120 : decode T246.2.2.1 120 = .ok (.putfield 378, 3) := by decide +kernel
theorem B246_123_125 : s_dk T246.2.2.1 123 [.iload 5] 125 = true := by decide +kernel
theorem D246_125 : decode T246.2.2.1 125 = .ok (.ifCond .ne 6, 3) := by decide +kernel
theorem B246_131_135 : s_dk T246.2.2.1 131 [.aload_n 0, .iload 4, .iload_n 2] 135 = true := by decide +kernel
theorem D246_135 : decode T246.2.2.1 135 = .ok (.invokevirtual 431, 3) := by decide +kernel
theorem ck_11_virtual_431 : m_call 11 (.invokevirtual 431) = some (0, 245, 2) := by decide +kernel
theorem B246_138_143 : s_dk T246.2.2.1 138 [.istore 6, .iload 6, .iconst (-1)] 143 = true := by decide +kernel
theorem D246_143 : decode T246.2.2.1 143 = .ok (.if_icmp .eq 16, 3) := by decide +kernel
theorem D246_159 : decode T246.2.2.1 159 = .ok (.goto (-125), 3) := by decide +kernel
theorem B246_146_150 : s_dk T246.2.2.1 146 [.aload_n 0, .iload_n 2, .iload 6] 150 = true := by decide +kernel
theorem D246_150 : decode T246.2.2.1 150 = .ok (.invokevirtual 240, 3) := by decide +kernel
theorem D246_153 : decode T246.2.2.1 153 = .ok (.ifCond .eq 6, 3) := by decide +kernel
theorem B246_156_158 : s_dk T246.2.2.1 156 [.iload 6] 158 = true := by decide +kernel
theorem D246_158 : decode T246.2.2.1 158 = .ok (.ireturn, 1) := by decide +kernel
theorem B246_79_81 : s_dk T246.2.2.1 79 [.aload_n 0, .iconst 1] 81 = true := by decide +kernel
theorem D246_81 : decode T246.2.2.1 81 = .ok (.invokevirtual 418, 3) := by decide +kernel
theorem D246_84 : decode T246.2.2.1 84 = .ok (.ifCond .eq 7, 3) := by decide +kernel
theorem B246_91_96 : s_dk T246.2.2.1 91 [.iconst 0, .istore 5, .iload 5] 96 = true := by decide +kernel
theorem B246_110_115 : s_dk T246.2.2.1 110 [.iconst 0, .istore 5, .aload_n 0, .dup] 115 = true := by decide +kernel
theorem D246_128 : decode T246.2.2.1 128 = .ok (.goto (-94), 3) := by decide +kernel
noncomputable def T247 : mT := (11, yX11_plays, cX11_plays, 9, (some .long))
set_option maxRecDepth 10000 in
theorem TE247 : sy_m[247]? = some T247 := rfl
theorem B247_0_11 : s_dk T247.2.2.1 0 [.iconst 0, .istore_n 3, .iconst 0, .istore 4, .iconst (-1), .istore 5, .lconst 0, .lstore 6] 11 = true := by decide +kernel
theorem B247_11_14 : s_dk T247.2.2.1 11 [.iload 5, .iconst 4] 14 = true := by decide +kernel
theorem D247_14 : decode T247.2.2.1 14 = .ok (.if_icmp .eq 114, 3) := by decide +kernel
theorem B247_17_21 : s_dk T247.2.2.1 17 [.iload 4, .aload_n 0, .iload_n 2] 21 = true := by decide +kernel
theorem D247_21 : decode T247.2.2.1 21 = .ok (.invokevirtual 144, 3) := by decide +kernel
theorem D247_24 : decode T247.2.2.1 24 = .ok (.if_icmp .lt 7, 3) := by decide +kernel
theorem B247_31_38 : s_dk T247.2.2.1 31 [.iconst 0, .istore 8, .aload_n 0, .iload_n 2, .iload 8] 38 = true := by decide +kernel
theorem D247_38 : decode T247.2.2.1 38 = .ok (.ifCond .eq 11, 3) := by decide +kernel
theorem B247_49_55 : s_dk T247.2.2.1 49 [.iload 4, .iconst 1, .iadd, .iload 8] 55 = true := by decide +kernel
theorem D247_55 : decode T247.2.2.1 55 = .ok (.invokevirtual 253, 3) := by decide +kernel
theorem B247_58_63 : s_dk T247.2.2.1 58 [.aload_n 0, .iload_n 1, .iload_n 3, .iload 4] 63 = true := by decide +kernel
theorem D247_63 : decode T247.2.2.1 63 = .ok (.invokevirtual 434, 3) := by decide +kernel
theorem ck_11_virtual_434 : m_call 11 (.invokevirtual 434) = some (0, 246, 3) := by decide +kernel
theorem B247_66_69 : s_dk T247.2.2.1 66 [.istore 5, .aload_n 0] 69 = true := by decide +kernel
theorem gf_11_90_77 : s_gf 11 90 77 = some (44, 104) := by decide +kernel
theorem D247_69 : decode T247.2.2.1 69 = .ok (.getfield 90, 3) := by decide +kernel
theorem B247_72_76 : s_dk T247.2.2.1 72 [.iload 4, .iload 5] 76 = true := by decide +kernel
theorem D247_76 : decode T247.2.2.1 76 = .ok (.iastore, 1) := by decide +kernel
theorem B247_77_84 : s_dk T247.2.2.1 77 [.iinc 4 1, .aload_n 0, .iload_n 3, .iload 5] 84 = true := by decide +kernel
theorem D247_84 : decode T247.2.2.1 84 = .ok (.invokevirtual 240, 3) := by decide +kernel
theorem B247_87_89 : s_dk T247.2.2.1 87 [.pop, .aload_n 0] 89 = true := by decide +kernel
theorem D247_89 : decode T247.2.2.1 89 = .ok (.getfield 215, 3) := by decide +kernel
theorem B247_92_98 : s_dk T247.2.2.1 92 [.istore_n 3, .lload 6, .iload 5, .iconst 4] 98 = true := by decide +kernel
theorem D247_98 : decode T247.2.2.1 98 = .ok (.if_icmp .ne 13, 3) := by decide +kernel
theorem B247_111_112 : s_dk T247.2.2.1 111 [.aload_n 0] 112 = true := by decide +kernel
theorem D247_112 : decode T247.2.2.1 112 = .ok (.getfield 218, 3) := by decide +kernel
theorem B247_115_117 : s_dk T247.2.2.1 115 [.aload_n 0, .iload_n 3] 117 = true := by decide +kernel
theorem D247_117 : decode T247.2.2.1 117 = .ok (.invokevirtual 246, 3) := by decide +kernel
theorem B247_120_121 : s_dk T247.2.2.1 120 [.iadd] 121 = true := by decide +kernel
theorem D247_121 : decode T247.2.2.1 121 = .ok (.i2l, 1) := by decide +kernel
theorem B247_122_125 : s_dk T247.2.2.1 122 [.ladd, .lstore 6] 125 = true := by decide +kernel
theorem D247_125 : decode T247.2.2.1 125 = .ok (.goto (-114), 3) := by decide +kernel
theorem B247_101_104 : s_dk T247.2.2.1 101 [.aload_n 0, .iload_n 3, .iload_n 2] 104 = true := by decide +kernel
theorem D247_104 : decode T247.2.2.1 104 = .ok (.invokevirtual 243, 3) := by decide +kernel
theorem D247_107 : decode T247.2.2.1 107 = .ok (.i2l, 1) := by decide +kernel
theorem D247_108 : decode T247.2.2.1 108 = .ok (.goto 14, 3) := by decide +kernel
theorem B247_27_28 : s_dk T247.2.2.1 27 [.iconst 1] 28 = true := by decide +kernel
theorem D247_28 : decode T247.2.2.1 28 = .ok (.goto 4, 3) := by decide +kernel
theorem B247_32_38 : s_dk T247.2.2.1 32 [.istore 8, .aload_n 0, .iload_n 2, .iload 8] 38 = true := by decide +kernel
theorem B247_41_43 : s_dk T247.2.2.1 41 [.aload_n 0, .iload_n 2] 43 = true := by decide +kernel
theorem D247_43 : decode T247.2.2.1 43 = .ok (.invokevirtual 144, 3) := by decide +kernel
theorem D247_46 : decode T247.2.2.1 46 = .ok (.goto 7, 3) := by decide +kernel
theorem B247_53_55 : s_dk T247.2.2.1 53 [.iload 8] 55 = true := by decide +kernel
theorem B247_128_131 : s_dk T247.2.2.1 128 [.aload_n 0, .iload 4] 131 = true := by decide +kernel
theorem pf_11_437_77 : s_pf 11 437 77 = some (45, 1) := by decide +kernel
theorem D247_131 : decode T247.2.2.1 131 = .ok (.putfield 437, 3) := by decide +kernel
theorem B247_134_136 : s_dk T247.2.2.1 134 [.aload_n 0, .iload_n 3] 136 = true := by decide +kernel
theorem pf_11_440_77 : s_pf 11 440 77 = some (46, 1) := by decide +kernel
theorem D247_136 : decode T247.2.2.1 136 = .ok (.putfield 440, 3) := by decide +kernel
theorem B247_139_141 : s_dk T247.2.2.1 139 [.lload 6] 141 = true := by decide +kernel
theorem D247_141 : decode T247.2.2.1 141 = .ok (.lreturn, 1) := by decide +kernel
noncomputable def T248 : mT := (11, yX11_run, cX11_run, 5, (some .int))
set_option maxRecDepth 10000 in
theorem TE248 : sy_m[248]? = some T248 := rfl
theorem B248_0_2 : s_dk T248.2.2.1 0 [.aload_n 0, .iload_n 1] 2 = true := by decide +kernel
theorem D248_2 : decode T248.2.2.1 2 = .ok (.invokevirtual 443, 3) := by decide +kernel
theorem ck_11_virtual_443 : m_call 11 (.invokevirtual 443) = some (0, 155, 1) := by decide +kernel
theorem D248_5 : decode T248.2.2.1 5 = .ok (.ifCond .eq 11, 3) := by decide +kernel
theorem B248_16_17 : s_dk T248.2.2.1 16 [.iconst (-1)] 17 = true := by decide +kernel
theorem D248_17 : decode T248.2.2.1 17 = .ok (.ireturn, 1) := by decide +kernel
theorem B248_8_10 : s_dk T248.2.2.1 8 [.aload_n 0, .iload_n 2] 10 = true := by decide +kernel
theorem D248_10 : decode T248.2.2.1 10 = .ok (.invokevirtual 164, 3) := by decide +kernel
theorem D248_13 : decode T248.2.2.1 13 = .ok (.ifCond .ne 5, 3) := by decide +kernel
theorem B248_18_21 : s_dk T248.2.2.1 18 [.aload_n 0, .iload_n 1, .iload_n 2] 21 = true := by decide +kernel
theorem D248_21 : decode T248.2.2.1 21 = .ok (.invokevirtual 446, 3) := by decide +kernel
theorem ck_11_virtual_446 : m_call 11 (.invokevirtual 446) = some (0, 247, 2) := by decide +kernel
theorem D248_24 : decode T248.2.2.1 24 = .ok (.l2i, 1) := by decide +kernel
theorem B248_25_28 : s_dk T248.2.2.1 25 [.istore_n 3, .aload_n 0, .aload_n 0] 28 = true := by decide +kernel
theorem gf_11_437_77 : s_gf 11 437 77 = some (45, 1) := by decide +kernel
theorem D248_28 : decode T248.2.2.1 28 = .ok (.getfield 437, 3) := by decide +kernel
theorem pf_11_450_77 : s_pf 11 450 77 = some (48, 1) := by decide +kernel
theorem D248_31 : decode T248.2.2.1 31 = .ok (.putfield 450, 3) := by decide +kernel
theorem B248_34_37 : s_dk T248.2.2.1 34 [.iconst 0, .istore 4] 37 = true := by decide +kernel
theorem B248_37_40 : s_dk T248.2.2.1 37 [.iload 4, .aload_n 0] 40 = true := by decide +kernel
theorem D248_40 : decode T248.2.2.1 40 = .ok (.getfield 437, 3) := by decide +kernel
theorem D248_43 : decode T248.2.2.1 43 = .ok (.if_icmp .ge 23, 3) := by decide +kernel
theorem B248_66_67 : s_dk T248.2.2.1 66 [.iload_n 3] 67 = true := by decide +kernel
theorem D248_67 : decode T248.2.2.1 67 = .ok (.ireturn, 1) := by decide +kernel
theorem B248_46_47 : s_dk T248.2.2.1 46 [.aload_n 0] 47 = true := by decide +kernel
theorem D248_47 : decode T248.2.2.1 47 = .ok (.getfield 93, 3) := by decide +kernel
theorem B248_50_53 : s_dk T248.2.2.1 50 [.iload 4, .aload_n 0] 53 = true := by decide +kernel
theorem D248_53 : decode T248.2.2.1 53 = .ok (.getfield 90, 3) := by decide +kernel
theorem B248_56_58 : s_dk T248.2.2.1 56 [.iload 4] 58 = true := by decide +kernel
theorem D248_58 : decode T248.2.2.1 58 = .ok (.iaload, 1) := by decide +kernel
theorem D248_59 : decode T248.2.2.1 59 = .ok (.iastore, 1) := by decide +kernel
theorem B248_60_63 : s_dk T248.2.2.1 60 [.iinc 4 1] 63 = true := by decide +kernel
theorem D248_63 : decode T248.2.2.1 63 = .ok (.goto (-26), 3) := by decide +kernel
noncomputable def T250 : mT := (11, yX11_worth, cX11_worth, 5, (some .long))
set_option maxRecDepth 10000 in
theorem TE250 : sy_m[250]? = some T250 := rfl
theorem B250_0_2 : s_dk T250.2.2.1 0 [.aload_n 0, .iload_n 1] 2 = true := by decide +kernel
theorem D250_2 : decode T250.2.2.1 2 = .ok (.invokevirtual 443, 3) := by decide +kernel
theorem D250_5 : decode T250.2.2.1 5 = .ok (.ifCond .ne 7, 3) := by decide +kernel
theorem B250_12_17 : s_dk T250.2.2.1 12 [.lconst 0, .lstore_n 2, .iconst 0, .istore 4] 17 = true := by decide +kernel
theorem D250_8 : decode T250.2.2.1 8 = .ok (.ldc2_w 296, 3) := by decide +kernel
theorem D250_11 : decode T250.2.2.1 11 = .ok (.lreturn, 1) := by decide +kernel
theorem B250_17_20 : s_dk T250.2.2.1 17 [.iload 4, .aload_n 0] 20 = true := by decide +kernel
theorem D250_20 : decode T250.2.2.1 20 = .ok (.getfield 13, 3) := by decide +kernel
theorem B250_23_26 : s_dk T250.2.2.1 23 [.sipush 469] 26 = true := by decide +kernel
theorem D250_26 : decode T250.2.2.1 26 = .ok (.iaload, 1) := by decide +kernel
theorem D250_27 : decode T250.2.2.1 27 = .ok (.if_icmp .ge 36, 3) := by decide +kernel
theorem B250_63_64 : s_dk T250.2.2.1 63 [.lload_n 2] 64 = true := by decide +kernel
theorem D250_64 : decode T250.2.2.1 64 = .ok (.lreturn, 1) := by decide +kernel
theorem B250_30_33 : s_dk T250.2.2.1 30 [.aload_n 0, .iload 4] 33 = true := by decide +kernel
theorem D250_33 : decode T250.2.2.1 33 = .ok (.invokevirtual 138, 3) := by decide +kernel
theorem D250_36 : decode T250.2.2.1 36 = .ok (.ifCond .le 21, 3) := by decide +kernel
theorem B250_57_60 : s_dk T250.2.2.1 57 [.iinc 4 1] 60 = true := by decide +kernel
theorem D250_60 : decode T250.2.2.1 60 = .ok (.goto (-43), 3) := by decide +kernel
theorem B250_39_43 : s_dk T250.2.2.1 39 [.lload_n 2, .aload_n 0, .iload 4] 43 = true := by decide +kernel
theorem D250_43 : decode T250.2.2.1 43 = .ok (.invokevirtual 138, 3) := by decide +kernel
theorem D250_46 : decode T250.2.2.1 46 = .ok (.i2l, 1) := by decide +kernel
theorem B250_47_51 : s_dk T250.2.2.1 47 [.aload_n 0, .iload_n 1, .iload 4] 51 = true := by decide +kernel
theorem D250_51 : decode T250.2.2.1 51 = .ok (.invokevirtual 446, 3) := by decide +kernel
theorem B250_54_60 : s_dk T250.2.2.1 54 [.lmul, .ladd, .lstore_n 2, .iinc 4 1] 60 = true := by decide +kernel
noncomputable def T261 : mT := (11, yX11_whose, cX11_whose, 7, (some .int))
set_option maxRecDepth 10000 in
theorem TE261 : sy_m[261]? = some T261 := rfl
theorem B261_0_2 : s_dk T261.2.2.1 0 [.aload_n 0, .iload_n 1] 2 = true := by decide +kernel
theorem D261_2 : decode T261.2.2.1 2 = .ok (.invokevirtual 443, 3) := by decide +kernel
theorem D261_5 : decode T261.2.2.1 5 = .ok (.ifCond .eq 42, 3) := by decide +kernel
theorem B261_47_48 : s_dk T261.2.2.1 47 [.iconst (-1)] 48 = true := by decide +kernel
theorem D261_48 : decode T261.2.2.1 48 = .ok (.ireturn, 1) := by decide +kernel
theorem B261_8_10 : s_dk T261.2.2.1 8 [.aload_n 0, .iload_n 2] 10 = true := by decide +kernel
theorem D261_10 : decode T261.2.2.1 10 = .ok (.invokevirtual 164, 3) := by decide +kernel
theorem D261_13 : decode T261.2.2.1 13 = .ok (.ifCond .eq 34, 3) := by decide +kernel
theorem B261_16_19 : s_dk T261.2.2.1 16 [.iload_n 3, .iconst 0, .iconst 2] 19 = true := by decide +kernel
theorem D261_19 : decode T261.2.2.1 19 = .ok (.invokestatic 123, 3) := by decide +kernel
theorem D261_22 : decode T261.2.2.1 22 = .ok (.ifCond .eq 25, 3) := by decide +kernel
theorem B261_25_30 : s_dk T261.2.2.1 25 [.iload 4, .iconst 0, .bipush 7] 30 = true := by decide +kernel
theorem D261_30 : decode T261.2.2.1 30 = .ok (.invokestatic 123, 3) := by decide +kernel
theorem D261_33 : decode T261.2.2.1 33 = .ok (.ifCond .eq 14, 3) := by decide +kernel
theorem B261_36_41 : s_dk T261.2.2.1 36 [.iload 5, .iconst 0, .bipush 7] 41 = true := by decide +kernel
theorem D261_41 : decode T261.2.2.1 41 = .ok (.invokestatic 123, 3) := by decide +kernel
theorem D261_44 : decode T261.2.2.1 44 = .ok (.ifCond .ne 5, 3) := by decide +kernel
theorem B261_49_52 : s_dk T261.2.2.1 49 [.aload_n 0, .iload_n 1, .iload_n 2] 52 = true := by decide +kernel
theorem D261_52 : decode T261.2.2.1 52 = .ok (.invokevirtual 446, 3) := by decide +kernel
theorem B261_55_57 : s_dk T261.2.2.1 55 [.pop2, .aload_n 0] 57 = true := by decide +kernel
theorem D261_57 : decode T261.2.2.1 57 = .ok (.getfield 27, 3) := by decide +kernel
theorem B261_60_62 : s_dk T261.2.2.1 60 [.iconst 3, .aload_n 0] 62 = true := by decide +kernel
theorem gf_11_440_77 : s_gf 11 440 77 = some (46, 1) := by decide +kernel
theorem D261_62 : decode T261.2.2.1 62 = .ok (.getfield 440, 3) := by decide +kernel
theorem B261_65_68 : s_dk T261.2.2.1 65 [.imul, .aload_n 0, .iload_n 3] 68 = true := by decide +kernel
theorem D261_68 : decode T261.2.2.1 68 = .ok (.invokevirtual 209, 3) := by decide +kernel
theorem B261_71_72 : s_dk T261.2.2.1 71 [.iadd] 72 = true := by decide +kernel
theorem D261_72 : decode T261.2.2.1 72 = .ok (.iaload, 1) := by decide +kernel
theorem B261_73_80 : s_dk T261.2.2.1 73 [.istore 6, .iload 4, .aload_n 0, .iload_n 2, .iload_n 3] 80 = true := by decide +kernel
theorem D261_80 : decode T261.2.2.1 80 = .ok (.invokevirtual 161, 3) := by decide +kernel
theorem D261_83 : decode T261.2.2.1 83 = .ok (.if_icmp .eq 7, 3) := by decide +kernel
theorem B261_90_96 : s_dk T261.2.2.1 90 [.iconst 0, .iload 6, .aload_n 0, .iload_n 2, .iload_n 3] 96 = true := by decide +kernel
theorem D261_96 : decode T261.2.2.1 96 = .ok (.invokevirtual 161, 3) := by decide +kernel
theorem D261_99 : decode T261.2.2.1 99 = .ok (.if_icmp .eq 7, 3) := by decide +kernel
theorem B261_106_112 : s_dk T261.2.2.1 106 [.iconst 0, .iadd, .iload 5, .iload 6] 112 = true := by decide +kernel
theorem D261_112 : decode T261.2.2.1 112 = .ok (.if_icmp .eq 7, 3) := by decide +kernel
theorem B261_119_121 : s_dk T261.2.2.1 119 [.iconst 0, .iadd] 121 = true := by decide +kernel
theorem D261_121 : decode T261.2.2.1 121 = .ok (.ireturn, 1) := by decide +kernel
theorem B261_115_116 : s_dk T261.2.2.1 115 [.iconst 4] 116 = true := by decide +kernel
theorem D261_116 : decode T261.2.2.1 116 = .ok (.goto 4, 3) := by decide +kernel
theorem B261_120_121 : s_dk T261.2.2.1 120 [.iadd] 121 = true := by decide +kernel
theorem B261_102_103 : s_dk T261.2.2.1 102 [.iconst 2] 103 = true := by decide +kernel
theorem D261_103 : decode T261.2.2.1 103 = .ok (.goto 4, 3) := by decide +kernel
theorem B261_107_112 : s_dk T261.2.2.1 107 [.iadd, .iload 5, .iload 6] 112 = true := by decide +kernel
theorem B261_86_87 : s_dk T261.2.2.1 86 [.iconst 1] 87 = true := by decide +kernel
theorem D261_87 : decode T261.2.2.1 87 = .ok (.goto 4, 3) := by decide +kernel
theorem B261_91_96 : s_dk T261.2.2.1 91 [.iload 6, .aload_n 0, .iload_n 2, .iload_n 3] 96 = true := by decide +kernel
noncomputable def T262 : mT := (11, yX11_read, cX11_read, 7, (some .int))
set_option maxRecDepth 10000 in
theorem TE262 : sy_m[262]? = some T262 := rfl
theorem B262_0_1 : s_dk T262.2.2.1 0 [.aload_n 0] 1 = true := by decide +kernel
theorem D262_1 : decode T262.2.2.1 1 = .ok (.getfield 151, 3) := by decide +kernel
theorem B262_4_7 : s_dk T262.2.2.1 4 [.istore_n 2, .aload_n 0, .iconst 0] 7 = true := by decide +kernel
theorem D262_7 : decode T262.2.2.1 7 = .ok (.putfield 151, 3) := by decide +kernel
theorem B262_10_12 : s_dk T262.2.2.1 10 [.aload_n 0, .iload_n 1] 12 = true := by decide +kernel
theorem D262_12 : decode T262.2.2.1 12 = .ok (.invokevirtual 164, 3) := by decide +kernel
theorem D262_15 : decode T262.2.2.1 15 = .ok (.ifCond .ne 5, 3) := by decide +kernel
theorem B262_20_25 : s_dk T262.2.2.1 20 [.iconst 0, .istore_n 3, .iconst 0, .istore 4] 25 = true := by decide +kernel
theorem B262_18_19 : s_dk T262.2.2.1 18 [.iconst (-1)] 19 = true := by decide +kernel
theorem D262_19 : decode T262.2.2.1 19 = .ok (.ireturn, 1) := by decide +kernel
theorem B262_25_28 : s_dk T262.2.2.1 25 [.iload 4, .aload_n 0] 28 = true := by decide +kernel
theorem D262_28 : decode T262.2.2.1 28 = .ok (.getfield 13, 3) := by decide +kernel
theorem B262_31_34 : s_dk T262.2.2.1 31 [.sipush 471] 34 = true := by decide +kernel
theorem D262_34 : decode T262.2.2.1 34 = .ok (.iaload, 1) := by decide +kernel
theorem D262_35 : decode T262.2.2.1 35 = .ok (.if_icmp .ge 105, 3) := by decide +kernel
theorem B262_140_141 : s_dk T262.2.2.1 140 [.iload_n 3] 141 = true := by decide +kernel
theorem D262_141 : decode T262.2.2.1 141 = .ok (.ireturn, 1) := by decide +kernel
theorem B262_38_42 : s_dk T262.2.2.1 38 [.aload_n 0, .iload 4, .iload_n 1] 42 = true := by decide +kernel
theorem D262_42 : decode T262.2.2.1 42 = .ok (.invokevirtual 446, 3) := by decide +kernel
theorem B262_45_47 : s_dk T262.2.2.1 45 [.pop2, .aload_n 0] 47 = true := by decide +kernel
theorem D262_47 : decode T262.2.2.1 47 = .ok (.getfield 437, 3) := by decide +kernel
theorem B262_50_51 : s_dk T262.2.2.1 50 [.iload_n 2] 51 = true := by decide +kernel
theorem D262_51 : decode T262.2.2.1 51 = .ok (.if_icmp .ne 7, 3) := by decide +kernel
theorem B262_58_64 : s_dk T262.2.2.1 58 [.iconst 0, .istore 5, .iconst 0, .istore 6] 64 = true := by decide +kernel
theorem B262_54_55 : s_dk T262.2.2.1 54 [.iconst 1] 55 = true := by decide +kernel
theorem D262_55 : decode T262.2.2.1 55 = .ok (.goto 4, 3) := by decide +kernel
theorem B262_59_64 : s_dk T262.2.2.1 59 [.istore 5, .iconst 0, .istore 6] 64 = true := by decide +kernel
theorem B262_64_67 : s_dk T262.2.2.1 64 [.iload 6, .iload_n 2] 67 = true := by decide +kernel
theorem D262_67 : decode T262.2.2.1 67 = .ok (.if_icmp .ge 55, 3) := by decide +kernel
theorem B262_122_124 : s_dk T262.2.2.1 122 [.iload 5] 124 = true := by decide +kernel
theorem D262_124 : decode T262.2.2.1 124 = .ok (.ifCond .eq 10, 3) := by decide +kernel
theorem B262_134_137 : s_dk T262.2.2.1 134 [.iinc 4 1] 137 = true := by decide +kernel
theorem D262_137 : decode T262.2.2.1 137 = .ok (.goto (-112), 3) := by decide +kernel
theorem B262_70_72 : s_dk T262.2.2.1 70 [.iload 5] 72 = true := by decide +kernel
theorem D262_72 : decode T262.2.2.1 72 = .ok (.ifCond .eq 50, 3) := by decide +kernel
theorem B262_127_131 : s_dk T262.2.2.1 127 [.iload_n 3, .iconst 1, .iload 4] 131 = true := by decide +kernel
theorem D262_131 : decode T262.2.2.1 131 = .ok (.ishl, 1) := by decide +kernel
theorem D262_132 : decode T262.2.2.1 132 = .ok (.ior, 1) := by decide +kernel
theorem B262_133_137 : s_dk T262.2.2.1 133 [.istore_n 3, .iinc 4 1] 137 = true := by decide +kernel
theorem B262_75_76 : s_dk T262.2.2.1 75 [.aload_n 0] 76 = true := by decide +kernel
theorem D262_76 : decode T262.2.2.1 76 = .ok (.getfield 69, 3) := by decide +kernel
theorem B262_79_81 : s_dk T262.2.2.1 79 [.iload 6] 81 = true := by decide +kernel
theorem D262_81 : decode T262.2.2.1 81 = .ok (.baload, 1) := by decide +kernel
theorem B262_82_85 : s_dk T262.2.2.1 82 [.sipush 255] 85 = true := by decide +kernel
theorem D262_85 : decode T262.2.2.1 85 = .ok (.iand, 1) := by decide +kernel
theorem B262_86_89 : s_dk T262.2.2.1 86 [.sipush 255] 89 = true := by decide +kernel
theorem D262_89 : decode T262.2.2.1 89 = .ok (.if_icmp .eq 20, 3) := by decide +kernel
theorem B262_109_110 : s_dk T262.2.2.1 109 [.iconst 1] 110 = true := by decide +kernel
theorem D262_110 : decode T262.2.2.1 110 = .ok (.goto 4, 3) := by decide +kernel
theorem B262_114_119 : s_dk T262.2.2.1 114 [.istore 5, .iinc 6 1] 119 = true := by decide +kernel
theorem D262_119 : decode T262.2.2.1 119 = .ok (.goto (-55), 3) := by decide +kernel
theorem B262_92_93 : s_dk T262.2.2.1 92 [.aload_n 0] 93 = true := by decide +kernel
theorem D262_93 : decode T262.2.2.1 93 = .ok (.getfield 69, 3) := by decide +kernel
theorem B262_96_98 : s_dk T262.2.2.1 96 [.iload 6] 98 = true := by decide +kernel
theorem D262_98 : decode T262.2.2.1 98 = .ok (.baload, 1) := by decide +kernel
theorem B262_99_100 : s_dk T262.2.2.1 99 [.aload_n 0] 100 = true := by decide +kernel
theorem D262_100 : decode T262.2.2.1 100 = .ok (.getfield 90, 3) := by decide +kernel
theorem B262_103_105 : s_dk T262.2.2.1 103 [.iload 6] 105 = true := by decide +kernel
theorem D262_105 : decode T262.2.2.1 105 = .ok (.iaload, 1) := by decide +kernel
theorem D262_106 : decode T262.2.2.1 106 = .ok (.if_icmp .ne 7, 3) := by decide +kernel
theorem B262_113_119 : s_dk T262.2.2.1 113 [.iconst 0, .istore 5, .iinc 6 1] 119 = true := by decide +kernel
noncomputable def T264 : mT := (11, yX11_parting, cX11_parting, 8, (some .int))
set_option maxRecDepth 10000 in
theorem TE264 : sy_m[264]? = some T264 := rfl
theorem B264_0_3 : s_dk T264.2.2.1 0 [.iload_n 1, .iconst 0, .iconst 1] 3 = true := by decide +kernel
theorem D264_3 : decode T264.2.2.1 3 = .ok (.invokestatic 123, 3) := by decide +kernel
theorem D264_6 : decode T264.2.2.1 6 = .ok (.ifCond .ne 5, 3) := by decide +kernel
theorem B264_11_18 : s_dk T264.2.2.1 11 [.iconst (-1), .istore_n 2, .iconst 0, .istore_n 3, .iconst 0, .istore 4] 18 = true := by decide +kernel
theorem B264_9_10 : s_dk T264.2.2.1 9 [.iconst (-1)] 10 = true := by decide +kernel
theorem D264_10 : decode T264.2.2.1 10 = .ok (.ireturn, 1) := by decide +kernel
theorem B264_18_21 : s_dk T264.2.2.1 18 [.iload 4, .aload_n 0] 21 = true := by decide +kernel
theorem D264_21 : decode T264.2.2.1 21 = .ok (.getfield 13, 3) := by decide +kernel
theorem B264_24_27 : s_dk T264.2.2.1 24 [.sipush 469] 27 = true := by decide +kernel
theorem D264_27 : decode T264.2.2.1 27 = .ok (.iaload, 1) := by decide +kernel
theorem D264_28 : decode T264.2.2.1 28 = .ok (.if_icmp .ge 156, 3) := by decide +kernel
theorem B264_184_185 : s_dk T264.2.2.1 184 [.iload_n 1] 185 = true := by decide +kernel
theorem D264_185 : decode T264.2.2.1 185 = .ok (.ifCond .eq 8, 3) := by decide +kernel
theorem B264_193_194 : s_dk T264.2.2.1 193 [.iload_n 2] 194 = true := by decide +kernel
theorem D264_194 : decode T264.2.2.1 194 = .ok (.goto 4, 3) := by decide +kernel
theorem D264_198 : decode T264.2.2.1 198 = .ok (.ireturn, 1) := by decide +kernel
theorem B264_188_190 : s_dk T264.2.2.1 188 [.iload_n 2, .iconst (-1)] 190 = true := by decide +kernel
theorem D264_190 : decode T264.2.2.1 190 = .ok (.if_icmp .ne 7, 3) := by decide +kernel
theorem B264_31_34 : s_dk T264.2.2.1 31 [.aload_n 0, .iload 4] 34 = true := by decide +kernel
theorem D264_34 : decode T264.2.2.1 34 = .ok (.invokevirtual 138, 3) := by decide +kernel
theorem D264_37 : decode T264.2.2.1 37 = .ok (.ifCond .ne 6, 3) := by decide +kernel
theorem B264_43_49 : s_dk T264.2.2.1 43 [.iconst 0, .istore 5, .iconst 0, .istore 6] 49 = true := by decide +kernel
theorem D264_40 : decode T264.2.2.1 40 = .ok (.goto 138, 3) := by decide +kernel
theorem B264_178_181 : s_dk T264.2.2.1 178 [.iinc 4 1] 181 = true := by decide +kernel
theorem D264_181 : decode T264.2.2.1 181 = .ok (.goto (-163), 3) := by decide +kernel
theorem B264_49_52 : s_dk T264.2.2.1 49 [.iload 6, .aload_n 0] 52 = true := by decide +kernel
theorem D264_52 : decode T264.2.2.1 52 = .ok (.getfield 13, 3) := by decide +kernel
theorem B264_55_58 : s_dk T264.2.2.1 55 [.sipush 471] 58 = true := by decide +kernel
theorem D264_58 : decode T264.2.2.1 58 = .ok (.iaload, 1) := by decide +kernel
theorem D264_59 : decode T264.2.2.1 59 = .ok (.if_icmp .ge 104, 3) := by decide +kernel
theorem B264_163_166 : s_dk T264.2.2.1 163 [.iload 5, .iload_n 3] 166 = true := by decide +kernel
theorem D264_166 : decode T264.2.2.1 166 = .ok (.if_icmp .gt 6, 3) := by decide +kernel
theorem D264_169 : decode T264.2.2.1 169 = .ok (.goto 9, 3) := by decide +kernel
theorem B264_62_67 : s_dk T264.2.2.1 62 [.aload_n 0, .iload 6, .iload 4] 67 = true := by decide +kernel
theorem D264_67 : decode T264.2.2.1 67 = .ok (.invokevirtual 446, 3) := by decide +kernel
theorem B264_70_72 : s_dk T264.2.2.1 70 [.pop2, .aload_n 0] 72 = true := by decide +kernel
theorem D264_72 : decode T264.2.2.1 72 = .ok (.getfield 120, 3) := by decide +kernel
theorem B264_75_78 : s_dk T264.2.2.1 75 [.iload 6, .aload_n 0] 78 = true := by decide +kernel
theorem D264_78 : decode T264.2.2.1 78 = .ok (.getfield 437, 3) := by decide +kernel
theorem D264_81 : decode T264.2.2.1 81 = .ok (.iastore, 1) := by decide +kernel
theorem B264_82_85 : s_dk T264.2.2.1 82 [.iconst 0, .istore 7] 85 = true := by decide +kernel
theorem B264_85_88 : s_dk T264.2.2.1 85 [.iload 7, .aload_n 0] 88 = true := by decide +kernel
theorem D264_88 : decode T264.2.2.1 88 = .ok (.getfield 437, 3) := by decide +kernel
theorem D264_91 : decode T264.2.2.1 91 = .ok (.if_icmp .ge 29, 3) := by decide +kernel
theorem B264_120_123 : s_dk T264.2.2.1 120 [.iconst 0, .istore 7] 123 = true := by decide +kernel
theorem B264_94_95 : s_dk T264.2.2.1 94 [.aload_n 0] 95 = true := by decide +kernel
theorem D264_95 : decode T264.2.2.1 95 = .ok (.getfield 117, 3) := by decide +kernel
theorem B264_98_107 : s_dk T264.2.2.1 98 [.bipush 24, .iload 6, .imul, .iload 7, .iadd, .aload_n 0] 107 = true := by decide +kernel
theorem D264_107 : decode T264.2.2.1 107 = .ok (.getfield 90, 3) := by decide +kernel
theorem B264_110_112 : s_dk T264.2.2.1 110 [.iload 7] 112 = true := by decide +kernel
theorem D264_112 : decode T264.2.2.1 112 = .ok (.iaload, 1) := by decide +kernel
theorem D264_113 : decode T264.2.2.1 113 = .ok (.iastore, 1) := by decide +kernel
theorem B264_114_117 : s_dk T264.2.2.1 114 [.iinc 7 1] 117 = true := by decide +kernel
theorem D264_117 : decode T264.2.2.1 117 = .ok (.goto (-32), 3) := by decide +kernel
theorem B264_123_127 : s_dk T264.2.2.1 123 [.iload 7, .iload 6] 127 = true := by decide +kernel
theorem D264_127 : decode T264.2.2.1 127 = .ok (.if_icmp .ge 30, 3) := by decide +kernel
theorem B264_157_160 : s_dk T264.2.2.1 157 [.iinc 6 1] 160 = true := by decide +kernel
theorem D264_160 : decode T264.2.2.1 160 = .ok (.goto (-111), 3) := by decide +kernel
theorem B264_130_137 : s_dk T264.2.2.1 130 [.iload 5, .aload_n 0, .iload 6, .iload 7] 137 = true := by decide +kernel
theorem D264_137 : decode T264.2.2.1 137 = .ok (.invokevirtual 465, 3) := by decide +kernel
theorem ck_11_virtual_465 : m_call 11 (.invokevirtual 465) = some (0, 263, 2) := by decide +kernel
theorem D264_140 : decode T264.2.2.1 140 = .ok (.ifCond .eq 7, 3) := by decide +kernel
theorem B264_147_154 : s_dk T264.2.2.1 147 [.iconst 1, .iadd, .istore 5, .iinc 7 1] 154 = true := by decide +kernel
theorem D264_154 : decode T264.2.2.1 154 = .ok (.goto (-31), 3) := by decide +kernel
theorem B264_143_144 : s_dk T264.2.2.1 143 [.iconst 0] 144 = true := by decide +kernel
theorem D264_144 : decode T264.2.2.1 144 = .ok (.goto 4, 3) := by decide +kernel
theorem B264_148_154 : s_dk T264.2.2.1 148 [.iadd, .istore 5, .iinc 7 1] 154 = true := by decide +kernel
theorem B264_172_181 : s_dk T264.2.2.1 172 [.iload 5, .istore_n 3, .iload 4, .istore_n 2, .iinc 4 1] 181 = true := by decide +kernel
theorem B264_197_198 : s_dk T264.2.2.1 197 [.iload_n 3] 198 = true := by decide +kernel
set_option maxRecDepth 4000 in
set_option maxHeartbeats 4000000 in
theorem k154k {base : Nat} {X : Nat → Option mC} {G : Nat → Value} (E : EnvOK base X G) {d : Nat} (hd : 1 ≤ d) {M : mH} (H : HI base M) (s : Int) (K : Int → Int) (h0 : KK K M) (h1 : -2147483648 ≤ s ∧ s ≤ 2147483647) : sOk base X G d T154 [vR 77, vI s] M (pI (fun v M' => M' = M ∧ (v = 0 ∨ v = 1) ∧ (v = 1 → 0 ≤ s ∧ s < K 469 ∧ s ≤ 15))) := by
  refine sOk.of (show sRn base X G d T154 0 [(0, vR 77), (1, vI s)] [] M _ from ?_)
  refine s_blx (lv' := [(0, vR 77), (1, vI s)]) (st' := [vR 77, vI 0, vI s]) B154_0_3 rfl ?_
  refine r_gfix (r := 78) (pc' := 6) D154_3 rfl gf_11_13_77 H.1 ?_
  refine s_blx (lv' := [(0, vR 77), (1, vI s)]) (st' := [vI 469, vR 78, vI 0, vI s]) B154_6_9 rfl ?_
  refine r_iald (pc' := 10) D154_9 rfl sc_78 H.1 (by omega) ?_
  intro w1 e2 r3
  have kk_w1 := (h0) (469)
  have b_w1 := H.2 78 (469) 0 16 (rk_many (by omega))
  rw [← e2] at b_w1; clear r3
  refine s_blx (lv' := [(0, vR 77), (1, vI s)]) (st' := [vI (w1 - 1), vI 0, vI s]) B154_10_12 rfl ?_
  refine r_sIp (args := [vI s, vI 0, vI (w1 - 1)]) (rest := []) (pc' := 15) D154_12 rfl ck_11_static_123 TE147 rfl (Nat.le_of_ble_eq_true rfl) ⟨Nat.le_of_ble_eq_true rfl, Nat.le_of_ble_eq_true rfl⟩ (by decide) (dp_0 hd rfl) (k147 E (dp_n hd rfl) H s 0 (w1 - 1) (by omega) (by omega) (by omega)) ?_
  intro v4 q9
  obtain ⟨q6, q7, q8⟩ := q9
  exact r_zretI D154_15 rfl (by omega) (⟨rfl, by omega, by omega⟩)
set_option maxRecDepth 4000 in
set_option maxHeartbeats 4000000 in
theorem k155k {base : Nat} {X : Nat → Option mC} {G : Nat → Value} (E : EnvOK base X G) {d : Nat} (hd : 1 ≤ d) {M : mH} (H : HI base M) (t : Int) (K : Int → Int) (h0 : KK K M) (h1 : -2147483648 ≤ t ∧ t ≤ 2147483647) : sOk base X G d T155 [vR 77, vI t] M (pI (fun v M' => M' = M ∧ (v = 0 ∨ v = 1) ∧ (v = 1 → 0 ≤ t ∧ t < K 471 ∧ t ≤ 7))) := by
  refine sOk.of (show sRn base X G d T155 0 [(0, vR 77), (1, vI t)] [] M _ from ?_)
  refine s_blx (lv' := [(0, vR 77), (1, vI t)]) (st' := [vR 77, vI 0, vI t]) B155_0_3 rfl ?_
  refine r_gfix (r := 78) (pc' := 6) D155_3 rfl gf_11_13_77 H.1 ?_
  refine s_blx (lv' := [(0, vR 77), (1, vI t)]) (st' := [vI 471, vR 78, vI 0, vI t]) B155_6_9 rfl ?_
  refine r_iald (pc' := 10) D155_9 rfl sc_78 H.1 (by omega) ?_
  intro w1 e2 r3
  have kk_w1 := (h0) (471)
  have b_w1 := H.2 78 (471) 0 8 (rk_told (by omega))
  rw [← e2] at b_w1; clear r3
  refine s_blx (lv' := [(0, vR 77), (1, vI t)]) (st' := [vI (w1 - 1), vI 0, vI t]) B155_10_12 rfl ?_
  refine r_sIp (args := [vI t, vI 0, vI (w1 - 1)]) (rest := []) (pc' := 15) D155_12 rfl ck_11_static_123 TE147 rfl (Nat.le_of_ble_eq_true rfl) ⟨Nat.le_of_ble_eq_true rfl, Nat.le_of_ble_eq_true rfl⟩ (by decide) (dp_0 hd rfl) (k147 E (dp_n hd rfl) H t 0 (w1 - 1) (by omega) (by omega) (by omega)) ?_
  intro v4 q9
  obtain ⟨q6, q7, q8⟩ := q9
  exact r_zretI D155_15 rfl (by omega) (⟨rfl, by omega, by omega⟩)
set_option maxRecDepth 4000 in
set_option maxHeartbeats 4000000 in
theorem k160k {base : Nat} {X : Nat → Option mC} {G : Nat → Value} (E : EnvOK base X G) {d : Nat} (hd : 2 ≤ d) {M : mH} (H : HI base M) (s : Int) (K : Int → Int) (h0 : KK K M) (h1 : -2147483648 ≤ s ∧ s ≤ 2147483647) : sOk base X G d T160 [vR 77, vI s] M (pI (fun v M' => M' = M ∧ (v = 0 ∨ v = 1) ∧ (v = 1 → 0 ≤ s ∧ s < K 469 ∧ s ≤ 15 ∧ 1 ≤ K (135 + 16 * s + 12 + K 474)))) := by
  refine sOk.of (show sRn base X G d T160 0 [(0, vR 77), (1, vI s)] [] M _ from ?_)
  refine s_blx (lv' := [(0, vR 77), (1, vI s)]) (st' := [vI s, vR 77]) B160_0_2 rfl ?_
  refine r_vIp (c := 77) (args := [vI s]) (rest := []) (pc' := 5) D160_2 rfl ck_11_virtual_134 TE154 rfl (Nat.le_of_ble_eq_true rfl) ⟨Nat.le_of_ble_eq_true rfl, Nat.le_of_ble_eq_true rfl⟩ sc_77 ⟨rfl, by decide⟩ H.1 (dp_0 hd rfl) (k154k E (dp_n hd rfl) H s K (h0) (by omega)) ?_
  intro v1 q5
  obtain ⟨q3, q4⟩ := q5
  refine r_ifc (tgt := 20) (pc' := 8) D160_5 rfl rfl (by unfold inR; omega) (fun (c6 : v1 = 0) => ?_) (fun (c6 : ¬ (v1 = 0)) => ?_)
  · refine s_blx (lv' := [(0, vR 77), (1, vI s)]) (st' := [vI 0]) B160_20_21 rfl ?_
    exact r_zretI D160_21 rfl (by omega) (⟨rfl, by omega, by omega⟩)
  · refine s_blx (lv' := [(0, vR 77), (1, vI s)]) (st' := [vI s, vR 77]) B160_8_10 rfl ?_
    refine r_vIp (c := 77) (args := [vI s]) (rest := []) (pc' := 13) D160_10 rfl ck_11_virtual_138 TE159 rfl (Nat.le_of_ble_eq_true rfl) ⟨Nat.le_of_ble_eq_true rfl, Nat.le_of_ble_eq_true rfl⟩ sc_77 ⟨rfl, by decide⟩ H.1 (dp_0 hd rfl) (k159f E (dp_n hd rfl) H s K (h0) (by omega)) ?_
    intro v7 q11
    obtain ⟨q9, q10⟩ := q11
    refine r_ifc (tgt := 20) (pc' := 16) D160_13 rfl rfl (by unfold inR; omega) (fun (c12 : v7 ≤ 0) => ?_) (fun (c12 : ¬ (v7 ≤ 0)) => ?_)
    · refine s_blx (lv' := [(0, vR 77), (1, vI s)]) (st' := [vI 0]) B160_20_21 rfl ?_
      exact r_zretI D160_21 rfl (by omega) (⟨rfl, by omega, by omega⟩)
    · refine s_blx (lv' := [(0, vR 77), (1, vI s)]) (st' := [vI 1]) B160_16_17 rfl ?_
      refine r_goto (tgt := 21) D160_17 rfl ?_
      exact r_zretI D160_21 rfl (by omega) (⟨rfl, by omega, by omega⟩)
set_option maxRecDepth 4000 in
set_option maxHeartbeats 4000000 in
theorem L_k246k {base : Nat} {X : Nat → Option mC} {G : Nat → Value} (E : EnvOK base X G) {d : Nat} (hd : 68 ≤ d) {M : mH} (H : HI base M) (text : Int) (said : Int) (second : Int) (K : Int → Int) (mk : Int) (zz : Int) (wh : Int) (ov : Int) (U : Int → Int) (A : Int → Int) (O : Int → Int) (h0 : TB M) (h1 : KK K M) (h2 : GK M) (h3 : C3 84 U M) (h4 : C3 83 A M) (h5 : C3 85 O M) (h6 : gi M 77 9 = ov) (h7 : 0 ≤ ov ∧ ov ≤ 1) (h8 : gi M 77 6 = zz) (h9 : gi M 77 8 = wh) (h10 : 1 ≤ wh ∧ wh ≤ 2147483647) (h11 : -2147483648 ≤ zz ∧ zz ≤ 2147483647) (h12 : bt zz mk) (h13 : 0 ≤ mk ∧ mk ≤ 15) (h14 : mk < K 469) (h15 : 1 ≤ K (135 + 16 * mk + 12 + K 474)) (h16 : 0 ≤ text ∧ text < K 471) (h17 : text ≤ 7) (h18 : 0 ≤ said ∧ said ≤ 1110) (h19 : -2147483648 ≤ second ∧ second ≤ 2147483647) : ∀ mz : Nat, (∀ (a e g0 : Int) (F C : Int → Int) (N : mH), HI base N → Fr [(77, 14), (77, 15), (77, 16), (77, 41), (77, 42), (77, 43), (100, 0)] M N → (KC C N) → (∀ j : Int, a ≤ j → j < e → F (j + 1) = dl (F j) (C j) ∧ F (j + 1) ≠ 0) → (F e = 2 ∨ F e = 20 ∨ F e = 2001) → (gi N 77 41 = e) → (0 ≤ a ∧ e ≤ 3200) → (gi N 77 40 = g0) → (a ≤ g0 ∧ g0 ≤ e + 1) → (g0 < e → F g0 = 1) → (gi N 77 9 = ov) → (gi N 77 6 = zz) → (3201 - g0) * 1 + 0 < (mz : Int) → sRn base X G d T246 34 [(0, vR 77), (2, vI said)] [] N (s_Q base (pI (fun v M' => HI base M' ∧ Fr [(77, 14), (77, 15), (77, 16), (77, 41), (77, 42), (77, 43), (100, 0)] M M' ∧ (LG (K 473) ov U A O said v) ∧ ((0 ≤ v ∧ v ≤ 4) ∨ (10 ≤ v ∧ v ≤ 17) ∨ (20 ≤ v ∧ v ≤ 22)))))) := by
  have f0 : Fr [(77, 14), (77, 15), (77, 16), (77, 41), (77, 42), (77, 43), (100, 0)] M M := Fr.rf
  intro mz
  induction mz with
  | zero => exact fun a e g0 F C N _ _ z0 z1 z2 z3 z4 z5 z6 z7 z8 z9 z10 => by omega
  | succ mz ih =>
    intro a e g0 F C N HN fN i0 i1 i2 i3 i4 i5 i6 i7 i8 i9 hmu
    refine s_blx (lv' := [(0, vR 77), (2, vI said)]) (st' := [vR 77]) B246_34_35 rfl ?_
    refine r_gint (ki := 40) (pc' := 38) D246_35 rfl gf_11_378_77 rfl HN.1 ?_
    intro w31 e32 r33
    have e34 : g0 = w31 := (e32.trans (i5)).symm
    subst e34
    refine s_blx (lv' := [(0, vR 77), (2, vI said)]) (st' := [vR 77, vI g0]) B246_38_39 rfl ?_
    refine r_gint (ki := 41) (pc' := 42) D246_39 rfl gf_11_375_77 rfl HN.1 ?_
    intro w35 e36 r37
    have e38 : e = w35 := (e36.trans (i3)).symm
    subst e38
    refine r_icmp (tgt := 162) (pc' := 45) D246_42 rfl rfl (by unfold inR; omega) (fun (c39 : e ≤ g0) => ?_) (fun (c39 : ¬ (e ≤ g0)) => ?_)
    · refine s_blx (lv' := [(0, vR 77), (2, vI said)]) (st' := [vI 1, vI said, vR 77]) B246_162_165 rfl ?_
      have kord165 := ((h1.fr fN rfl)) 473
      have g40 : gi N 77 9 = ov := i8
      refine r_vI (c := 77) (args := [vI said, vI 1]) (rest := []) (pc' := 168) D246_165 rfl ck_11_virtual_240 TE188 rfl (Nat.le_of_ble_eq_true rfl) ⟨Nat.le_of_ble_eq_true rfl, Nat.le_of_ble_eq_true rfl⟩ sc_77 ⟨rfl, by decide⟩ HN.1 (dp_0 hd rfl) (k188f E (dp_n hd rfl) HN said 1 (K 473) ov U A O ((h0.fr fN rfl)) ((h3.fr fN rfl)) ((h4.fr fN rfl)) ((h5.fr fN rfl)) (by omega) (by omega) (by omega) (by omega) (by omega) (by omega) (by omega)) ?_
      intro v41 M42 q50
      obtain ⟨H43, f44, q45, q46, q47, q48, q49⟩ := q50
      have f51 := fN.tr (f44.up rfl)
      have hp52 := i0.fr f44 (by decide)
      obtain ⟨t53, ht54⟩ : ∃ q, q = gi M42 77 14 := ⟨_, rfl⟩
      have b_t53 := H43.2 77 14 0 1110 rfl
      rw [← ht54] at b_t53
      rw [← ht54] at q48
      rw [← ht54] at q49
      have kl1 := q46
      have kn1 := q47
      clear q46 q47 q48 q49
      refine r_ifc (tgt := 175) (pc' := 171) D246_168 rfl rfl (by unfold inR; omega) (fun (c55 : v41 = 0) => ?_) (fun (c55 : ¬ (v41 = 0)) => ?_)
      · refine s_blx (lv' := [(0, vR 77), (2, vI said)]) (st' := [vI 0, vI said, vR 77]) B246_175_178 rfl ?_
        have kord178 := ((h1.fr f51 rfl)) 473
        have g56 : gi M42 78 473 = gi N 78 473 := (f44.g rfl).trans (rfl)
        have g57 : gi M42 77 9 = ov := (f44.g rfl).trans (i8)
        refine r_vI (c := 77) (args := [vI said, vI 0]) (rest := []) (pc' := 181) D246_178 rfl ck_11_virtual_240 TE188 rfl (Nat.le_of_ble_eq_true rfl) ⟨Nat.le_of_ble_eq_true rfl, Nat.le_of_ble_eq_true rfl⟩ sc_77 ⟨rfl, by decide⟩ H43.1 (dp_0 hd rfl) (k188f E (dp_n hd rfl) H43 said 0 (K 473) ov U A O ((h0.fr f51 rfl)) ((h3.fr f51 rfl)) ((h4.fr f51 rfl)) ((h5.fr f51 rfl)) (by omega) (by omega) (by omega) (by omega) (by omega) (by omega) (by omega)) ?_
        intro v58 M59 q67
        obtain ⟨H60, f61, q62, q63, q64, q65, q66⟩ := q67
        have f68 := f51.tr (f61.up rfl)
        have hp69 := hp52.fr f61 (by decide)
        obtain ⟨t70, ht71⟩ : ∃ q, q = gi M59 77 14 := ⟨_, rfl⟩
        have b_t70 := H60.2 77 14 0 1110 rfl
        rw [← ht71] at b_t70
        rw [← ht71] at q65
        rw [← ht71] at q66
        have kl0 := q63
        have kn0 := q64
        clear q63 q64 q65 q66
        refine r_ifc (tgt := 188) (pc' := 184) D246_181 rfl rfl (by unfold inR; omega) (fun (c72 : v58 = 0) => ?_) (fun (c72 : ¬ (v58 = 0)) => ?_)
        · refine s_blx (lv' := [(0, vR 77), (2, vI said)]) (st' := [vI 4, vI said, vR 77]) B246_188_191 rfl ?_
          have kord191 := ((h1.fr f68 rfl)) 473
          have g73 : gi M59 78 473 = gi N 78 473 := (f61.g rfl).trans ((f44.g rfl).trans (rfl))
          have g74 : gi M59 77 9 = ov := (f61.g rfl).trans ((f44.g rfl).trans (i8))
          refine r_vI (c := 77) (args := [vI said, vI 4]) (rest := []) (pc' := 194) D246_191 rfl ck_11_virtual_240 TE188 rfl (Nat.le_of_ble_eq_true rfl) ⟨Nat.le_of_ble_eq_true rfl, Nat.le_of_ble_eq_true rfl⟩ sc_77 ⟨rfl, by decide⟩ H60.1 (dp_0 hd rfl) (k188f E (dp_n hd rfl) H60 said 4 (K 473) ov U A O ((h0.fr f68 rfl)) ((h3.fr f68 rfl)) ((h4.fr f68 rfl)) ((h5.fr f68 rfl)) (by omega) (by omega) (by omega) (by omega) (by omega) (by omega) (by omega)) ?_
          intro v75 M76 q84
          obtain ⟨H77, f78, q79, q80, q81, q82, q83⟩ := q84
          have f85 := f68.tr (f78.up rfl)
          have hp86 := hp69.fr f78 (by decide)
          obtain ⟨t87, ht88⟩ : ∃ q, q = gi M76 77 14 := ⟨_, rfl⟩
          have b_t87 := H77.2 77 14 0 1110 rfl
          rw [← ht88] at b_t87
          rw [← ht88] at q82
          rw [← ht88] at q83
          have kl4 := q80
          have kn4 := q81
          clear q80 q81 q82 q83
          refine r_ifc (tgt := 201) (pc' := 197) D246_194 rfl rfl (by unfold inR; omega) (fun (c89 : v75 = 0) => ?_) (fun (c89 : ¬ (v75 = 0)) => ?_)
          · refine s_blx (lv' := [(0, vR 77), (2, vI said)]) (st' := [vI 3]) B246_201_202 rfl ?_
            exact r_iretI D246_202 rfl (⟨H77, f85, by first | exact kl1 (by omega) | exact kl0 (by omega) | exact kl4 (by omega) | exact LG_3 (fun h => kn4 (by omega) ((LG_4 rfl).mpr ⟨(by have z : ¬ ov = 0 := (fun z => kn0 (by omega) ((LG_0 rfl).mpr z)); omega), h⟩)) rfl, by omega⟩)
          · refine s_blx (lv' := [(0, vR 77), (2, vI said)]) (st' := [vI 4]) B246_197_198 rfl ?_
            refine r_goto (tgt := 202) D246_198 rfl ?_
            exact r_iretI D246_202 rfl (⟨H77, f85, by first | exact kl1 (by omega) | exact kl0 (by omega) | exact kl4 (by omega) | exact LG_3 (fun h => kn4 (by omega) ((LG_4 rfl).mpr ⟨(by have z : ¬ ov = 0 := (fun z => kn0 (by omega) ((LG_0 rfl).mpr z)); omega), h⟩)) rfl, by omega⟩)
        · refine s_blx (lv' := [(0, vR 77), (2, vI said)]) (st' := [vI 0]) B246_184_185 rfl ?_
          refine r_goto (tgt := 202) D246_185 rfl ?_
          exact r_iretI D246_202 rfl (⟨H60, f68, by first | exact kl1 (by omega) | exact kl0 (by omega) | exact kl4 (by omega) | exact LG_3 (fun h => kn4 (by omega) ((LG_4 rfl).mpr ⟨(by have z : ¬ ov = 0 := (fun z => kn0 (by omega) ((LG_0 rfl).mpr z)); omega), h⟩)) rfl, by omega⟩)
      · refine s_blx (lv' := [(0, vR 77), (2, vI said)]) (st' := [vI 1]) B246_171_172 rfl ?_
        refine r_goto (tgt := 202) D246_172 rfl ?_
        exact r_iretI D246_202 rfl (⟨H43, f51, by first | exact kl1 (by omega) | exact kl0 (by omega) | exact kl4 (by omega) | exact LG_3 (fun h => kn4 (by omega) ((LG_4 rfl).mpr ⟨(by have z : ¬ ov = 0 := (fun z => kn0 (by omega) ((LG_0 rfl).mpr z)); omega), h⟩)) rfl, by omega⟩)
    · refine s_blx (lv' := [(0, vR 77), (2, vI said)]) (st' := [vI 0, vR 77]) B246_45_47 rfl ?_
      refine r_pbool (ki := 42) (pc' := 50) D246_47 rfl pf_11_388_77 rfl HN (by omega) (show 0 ≤ 0 ∧ 0 ≤ 1 by omega) ?_
      intro M90 u91 H92 p93
      have f94 := fN.wr u91 rfl
      have hp95 := i0.wr u91 (by decide)
      refine s_blx (lv' := [(0, vR 77), (2, vI said)]) (st' := [vR 77, vR 77]) B246_50_52 rfl ?_
      refine r_gint (ki := 40) (pc' := 55) D246_52 rfl gf_11_378_77 rfl H92.1 ?_
      intro w96 e97 r98
      have e99 : g0 = w96 := (e97.trans ((u91.gi_ne (by decide) (Or.inr (by decide))).trans (i5))).symm
      subst e99
      have g100 : gi M90 77 41 = e := (u91.gi_ne (by decide) (Or.inr (by decide))).trans (i3)
      refine r_vIp (c := 77) (args := [vI g0]) (rest := []) (pc' := 58) D246_55 rfl ck_11_virtual_381 TE232 rfl (Nat.le_of_ble_eq_true rfl) ⟨Nat.le_of_ble_eq_true rfl, Nat.le_of_ble_eq_true rfl⟩ sc_77 ⟨rfl, by decide⟩ H92.1 (dp_0 hd rfl) (k232x E (dp_n hd rfl) H92 g0 e C (hp95) (by omega) (by omega) (by omega)) ?_
      intro v101 q106
      obtain ⟨q103, q104, q105⟩ := q106
      have kd := i1 g0 (by omega) (by omega)
      have kf0 := i7 (by omega)
      have kh := e_H (x := F g0) (c := C g0) kf0 (by omega)
      have k2 := d_h (x := F g0) (c := C g0) kf0 kh.1 kh.2
      have kf2 : F (g0 + 1) = 2 := by omega
      have kif := d_if (x := F (g0 + 1)) kf2
      refine s_blx (lv' := [(4, vI v101), (0, vR 77), (2, vI said)]) (st' := [vR 77, vR 77]) B246_58_62 rfl ?_
      refine r_gint (ki := 40) (pc' := 65) D246_62 rfl gf_11_378_77 rfl H92.1 ?_
      intro w107 e108 r109
      have e110 : g0 = w107 := (e108.trans ((u91.gi_ne (by decide) (Or.inr (by decide))).trans (i5))).symm
      subst e110
      refine s_blx (lv' := [(4, vI v101), (0, vR 77), (2, vI said)]) (st' := [vI (g0 + 1), vR 77]) B246_65_67 rfl ?_
      refine r_pint (ki := 40) (pc' := 70) D246_67 rfl pf_11_378_77 rfl H92 (by unfold inR; omega) trivial ?_
      intro M111 u112 H113 p114
      have f115 := f94.wr u112 rfl
      have hp116 := hp95.wr u112 (by decide)
      refine s_blx (lv' := [(4, vI v101), (0, vR 77), (2, vI said)]) (st' := [vI 7, vR 77]) B246_70_73 rfl ?_
      have g117 : gi M111 77 41 = e := (u112.gi_ne (by decide) (Or.inr (by decide))).trans ((u91.gi_ne (by decide) (Or.inr (by decide))).trans (i3))
      have g118 : gi M111 77 40 = g0 + 1 := p114
      refine r_vI (c := 77) (args := [vI 7]) (rest := []) (pc' := 76) D246_73 rfl ck_11_virtual_402 TE233 rfl (Nat.le_of_ble_eq_true rfl) ⟨Nat.le_of_ble_eq_true rfl, Nat.le_of_ble_eq_true rfl⟩ sc_77 ⟨rfl, by decide⟩ H113.1 (dp_0 hd rfl) (k233x E (dp_n hd rfl) H113 7 a e (g0 + 1) F C (hp116) (i1) (by omega) (by omega) (by omega) (by omega) (by omega) (by omega) (by omega)) ?_
      intro v119 M120 q127
      obtain ⟨H121, f122, q123, q124, q125, q126⟩ := q127
      have f128 := f115.tr (f122.up rfl)
      have hp129 := hp116.fr f122 (by decide)
      obtain ⟨t130, ht131⟩ : ∃ q, q = gi M120 77 40 := ⟨_, rfl⟩
      have b_t130 := (H121.1.int sc_77 (i := 40) (by decide) (by decide) rfl).2
      unfold inR at b_t130; rw [← ht131] at b_t130
      rw [← ht131] at q124
      rw [← ht131] at q125
      rw [← ht131] at q126
      refine r_ifc (tgt := 87) (pc' := 79) D246_76 rfl rfl (by unfold inR; omega) (fun (c132 : v119 = 0) => ?_) (fun (c132 : ¬ (v119 = 0)) => ?_)
      · refine s_blx (lv' := [(4, vI v101), (0, vR 77), (2, vI said)]) (st' := [vI 1]) B246_87_88 rfl ?_
        refine r_goto (tgt := 92) D246_88 rfl ?_
        refine s_blx (lv' := [(5, vI 1), (4, vI v101), (0, vR 77), (2, vI said)]) (st' := [vI 1]) B246_92_96 rfl ?_
        refine r_ifc (tgt := 110) (pc' := 99) D246_96 rfl rfl (by unfold inR; omega) (fun (c133 : 1 = 0) => ?_) (fun (c133 : ¬ (1 = 0)) => ?_)
        · exfalso; omega
        · refine s_blx (lv' := [(5, vI 1), (4, vI v101), (0, vR 77), (2, vI said)]) (st' := [vR 77]) B246_99_100 rfl ?_
          refine r_gint (ki := 42) (pc' := 103) D246_100 rfl gf_11_388_77 rfl H121.1 ?_
          intro w134 e135 r136
          have e137 : 0 = w134 := (e135.trans ((f122.g rfl).trans ((u112.gi_ne (by decide) (Or.inr (by decide))).trans (p93)))).symm
          subst e137
          refine r_ifc (tgt := 110) (pc' := 106) D246_103 rfl rfl (by unfold inR; omega) (fun (c138 : 0 ≠ 0) => ?_) (fun (c138 : ¬ (0 ≠ 0)) => ?_)
          · exfalso; omega
          · refine s_blx (lv' := [(5, vI 1), (4, vI v101), (0, vR 77), (2, vI said)]) (st' := [vI 1]) B246_106_107 rfl ?_
            refine r_goto (tgt := 111) D246_107 rfl ?_
            refine s_blx (lv' := [(5, vI 1), (4, vI v101), (0, vR 77), (2, vI said)]) (st' := [vR 77, vR 77]) B246_111_115 rfl ?_
            refine r_gint (ki := 40) (pc' := 118) D246_115 rfl gf_11_378_77 rfl H121.1 ?_
            intro w139 e140 r141
            have e142 : t130 = w139 := (e140.trans (ht131.symm)).symm
            subst e142
            refine s_blx (lv' := [(5, vI 1), (4, vI v101), (0, vR 77), (2, vI said)]) (st' := [vI (t130 + 1), vR 77]) B246_118_120 rfl ?_
            have kF := cl_next (F := F) (C := C) (e := e) (t := t130) (fun h => i1 _ (by omega) h) (by omega)
            refine r_pint (ki := 40) (pc' := 123) D246_120 rfl pf_11_378_77 rfl H121 (by unfold inR; omega) trivial ?_
            intro M143 u144 H145 p146
            have f147 := f128.wr u144 rfl
            have hp148 := hp129.wr u144 (by decide)
            refine s_blx (lv' := [(5, vI 1), (4, vI v101), (0, vR 77), (2, vI said)]) (st' := [vI 1]) B246_123_125 rfl ?_
            refine r_ifc (tgt := 131) (pc' := 128) D246_125 rfl rfl (by unfold inR; omega) (fun (c149 : 1 ≠ 0) => ?_) (fun (c149 : ¬ (1 ≠ 0)) => ?_)
            · refine s_blx (lv' := [(5, vI 1), (4, vI v101), (0, vR 77), (2, vI said)]) (st' := [vI said, vI v101, vR 77]) B246_131_135 rfl ?_
              have g150 : gi M143 77 6 = zz := (u144.gi_ne (by decide) (Or.inr (by decide))).trans ((f122.g rfl).trans ((u112.gi_ne (by decide) (Or.inr (by decide))).trans ((u91.gi_ne (by decide) (Or.inr (by decide))).trans (i9))))
              refine r_vIp (c := 77) (args := [vI v101, vI said]) (rest := []) (pc' := 138) D246_135 rfl ck_11_virtual_431 TE245 rfl (Nat.le_of_ble_eq_true rfl) ⟨Nat.le_of_ble_eq_true rfl, Nat.le_of_ble_eq_true rfl⟩ sc_77 ⟨rfl, by decide⟩ H145.1 (dp_0 hd rfl) (k245k E (dp_n hd rfl) H145 v101 said K mk zz ((h0.fr f147 rfl)) ((h1.fr f147 rfl)) (by omega) (by omega) (by omega) (by omega) (h12) (by omega) (by omega) (by omega)) ?_
              intro v151 q155
              obtain ⟨q153, q154⟩ := q155
              refine s_blx (lv' := [(6, vI v151), (5, vI 1), (4, vI v101), (0, vR 77), (2, vI said)]) (st' := [vI (-1), vI v151]) B246_138_143 rfl ?_
              refine r_icmp (tgt := 159) (pc' := 146) D246_143 rfl rfl (by unfold inR; omega) (fun (c156 : v151 = (-1)) => ?_) (fun (c156 : ¬ (v151 = (-1))) => ?_)
              · refine r_goto (tgt := 34) D246_159 rfl ?_
                refine r_loc (lv' := [(0, vR 77), (2, vI said)]) ⟨rfl, rfl, trivial⟩ rfl rfl ?_
                have g157 : gi M143 77 41 = e := (u144.gi_ne (by decide) (Or.inr (by decide))).trans ((f122.g rfl).trans ((u112.gi_ne (by decide) (Or.inr (by decide))).trans ((u91.gi_ne (by decide) (Or.inr (by decide))).trans (i3))))
                have g158 : gi M143 77 40 = t130 + 1 := p146
                have g159 : gi M143 77 9 = ov := (u144.gi_ne (by decide) (Or.inr (by decide))).trans ((f122.g rfl).trans ((u112.gi_ne (by decide) (Or.inr (by decide))).trans ((u91.gi_ne (by decide) (Or.inr (by decide))).trans (i8))))
                have g160 : gi M143 77 6 = zz := (u144.gi_ne (by decide) (Or.inr (by decide))).trans ((f122.g rfl).trans ((u112.gi_ne (by decide) (Or.inr (by decide))).trans ((u91.gi_ne (by decide) (Or.inr (by decide))).trans (i9))))
                exact ih a e (t130 + 1) F C M143 H145 f147 (hp148) (i1) (by omega) (by omega) (by omega) (by omega) (by omega) (by omega) (by omega) (by omega) (by omega)
              · refine s_blx (lv' := [(6, vI v151), (5, vI 1), (4, vI v101), (0, vR 77), (2, vI said)]) (st' := [vI v151, vI said, vR 77]) B246_146_150 rfl ?_
                have kord150 := ((h1.fr f147 rfl)) 473
                have g161 : gi M143 78 473 = gi N 78 473 := (u144.gi_ne (by decide) (Or.inl (by decide))).trans ((f122.g rfl).trans ((u112.gi_ne (by decide) (Or.inl (by decide))).trans ((u91.gi_ne (by decide) (Or.inl (by decide))).trans (rfl))))
                have g162 : gi M143 77 9 = ov := (u144.gi_ne (by decide) (Or.inr (by decide))).trans ((f122.g rfl).trans ((u112.gi_ne (by decide) (Or.inr (by decide))).trans ((u91.gi_ne (by decide) (Or.inr (by decide))).trans (i8))))
                refine r_vI (c := 77) (args := [vI said, vI v151]) (rest := []) (pc' := 153) D246_150 rfl ck_11_virtual_240 TE188 rfl (Nat.le_of_ble_eq_true rfl) ⟨Nat.le_of_ble_eq_true rfl, Nat.le_of_ble_eq_true rfl⟩ sc_77 ⟨rfl, by decide⟩ H145.1 (dp_0 hd rfl) (k188f E (dp_n hd rfl) H145 said v151 (K 473) ov U A O ((h0.fr f147 rfl)) ((h3.fr f147 rfl)) ((h4.fr f147 rfl)) ((h5.fr f147 rfl)) (by omega) (by omega) (by omega) (by omega) (by omega) (by omega) (by omega)) ?_
                intro v163 M164 q172
                obtain ⟨H165, f166, q167, q168, q169, q170, q171⟩ := q172
                have f173 := f147.tr (f166.up rfl)
                have hp174 := hp148.fr f166 (by decide)
                obtain ⟨t175, ht176⟩ : ∃ q, q = gi M164 77 14 := ⟨_, rfl⟩
                have b_t175 := H165.2 77 14 0 1110 rfl
                rw [← ht176] at b_t175
                rw [← ht176] at q170
                rw [← ht176] at q171
                have kld := q168
                have knd := q169
                clear q168 q169 q170 q171
                refine r_ifc (tgt := 159) (pc' := 156) D246_153 rfl rfl (by unfold inR; omega) (fun (c177 : v163 = 0) => ?_) (fun (c177 : ¬ (v163 = 0)) => ?_)
                · refine r_goto (tgt := 34) D246_159 rfl ?_
                  refine r_loc (lv' := [(0, vR 77), (2, vI said)]) ⟨rfl, rfl, trivial⟩ rfl rfl ?_
                  have g178 : gi M164 77 41 = e := (f166.g rfl).trans ((u144.gi_ne (by decide) (Or.inr (by decide))).trans ((f122.g rfl).trans ((u112.gi_ne (by decide) (Or.inr (by decide))).trans ((u91.gi_ne (by decide) (Or.inr (by decide))).trans (i3)))))
                  have g179 : gi M164 77 40 = t130 + 1 := (f166.g rfl).trans (p146)
                  have g180 : gi M164 77 9 = ov := (f166.g rfl).trans ((u144.gi_ne (by decide) (Or.inr (by decide))).trans ((f122.g rfl).trans ((u112.gi_ne (by decide) (Or.inr (by decide))).trans ((u91.gi_ne (by decide) (Or.inr (by decide))).trans (i8)))))
                  have g181 : gi M164 77 6 = zz := (f166.g rfl).trans ((u144.gi_ne (by decide) (Or.inr (by decide))).trans ((f122.g rfl).trans ((u112.gi_ne (by decide) (Or.inr (by decide))).trans ((u91.gi_ne (by decide) (Or.inr (by decide))).trans (i9)))))
                  exact ih a e (t130 + 1) F C M164 H165 f173 (hp174) (i1) (by omega) (by omega) (by omega) (by omega) (by omega) (by omega) (by omega) (by omega) (by omega)
                · refine s_blx (lv' := [(6, vI v151), (5, vI 1), (4, vI v101), (0, vR 77), (2, vI said)]) (st' := [vI v151]) B246_156_158 rfl ?_
                  exact r_iretI D246_158 rfl (⟨H165, f173, kld (by omega), by omega⟩)
            · exfalso; omega
      · refine s_blx (lv' := [(4, vI v101), (0, vR 77), (2, vI said)]) (st' := [vI 1, vR 77]) B246_79_81 rfl ?_
        have g182 : gi M120 77 41 = e := (f122.g rfl).trans ((u112.gi_ne (by decide) (Or.inr (by decide))).trans ((u91.gi_ne (by decide) (Or.inr (by decide))).trans (i3)))
        have g183 : gi M120 77 40 = t130 := ht131.symm
        refine r_vI (c := 77) (args := [vI 1]) (rest := []) (pc' := 84) D246_81 rfl ck_11_virtual_418 TE238 rfl (Nat.le_of_ble_eq_true rfl) ⟨Nat.le_of_ble_eq_true rfl, Nat.le_of_ble_eq_true rfl⟩ sc_77 ⟨rfl, by decide⟩ H121.1 (dp_0 hd rfl) (k238x E (dp_n hd rfl) H121 1 0 a e t130 F C (by omega) (hp129) (i1) (by omega) (by omega) (by omega) (by omega) (by omega) (by omega) (by omega)) ?_
        intro v184 M185 q192
        obtain ⟨H186, f187, q188, q189, q190, q191⟩ := q192
        have f193 := f128.tr (f187.up rfl)
        have hp194 := hp129.fr f187 (by decide)
        obtain ⟨t195, ht196⟩ : ∃ q, q = gi M185 77 40 := ⟨_, rfl⟩
        have b_t195 := (H186.1.int sc_77 (i := 40) (by decide) (by decide) rfl).2
        unfold inR at b_t195; rw [← ht196] at b_t195
        rw [← ht196] at q189
        rw [← ht196] at q190
        rw [← ht196] at q191
        refine r_ifc (tgt := 91) (pc' := 87) D246_84 rfl rfl (by unfold inR; omega) (fun (c197 : v184 = 0) => ?_) (fun (c197 : ¬ (v184 = 0)) => ?_)
        · refine s_blx (lv' := [(5, vI 0), (4, vI v101), (0, vR 77), (2, vI said)]) (st' := [vI 0]) B246_91_96 rfl ?_
          refine r_ifc (tgt := 110) (pc' := 99) D246_96 rfl rfl (by unfold inR; omega) (fun (c198 : 0 = 0) => ?_) (fun (c198 : ¬ (0 = 0)) => ?_)
          · refine s_blx (lv' := [(5, vI 0), (4, vI v101), (0, vR 77), (2, vI said)]) (st' := [vR 77, vR 77]) B246_110_115 rfl ?_
            refine r_gint (ki := 40) (pc' := 118) D246_115 rfl gf_11_378_77 rfl H186.1 ?_
            intro w199 e200 r201
            have e202 : t195 = w199 := (e200.trans (ht196.symm)).symm
            subst e202
            refine s_blx (lv' := [(5, vI 0), (4, vI v101), (0, vR 77), (2, vI said)]) (st' := [vI (t195 + 1), vR 77]) B246_118_120 rfl ?_
            have kF := cl_next (F := F) (C := C) (e := e) (t := t195) (fun h => i1 _ (by omega) h) (by omega)
            refine r_pint (ki := 40) (pc' := 123) D246_120 rfl pf_11_378_77 rfl H186 (by unfold inR; omega) trivial ?_
            intro M203 u204 H205 p206
            have f207 := f193.wr u204 rfl
            have hp208 := hp194.wr u204 (by decide)
            refine s_blx (lv' := [(5, vI 0), (4, vI v101), (0, vR 77), (2, vI said)]) (st' := [vI 0]) B246_123_125 rfl ?_
            refine r_ifc (tgt := 131) (pc' := 128) D246_125 rfl rfl (by unfold inR; omega) (fun (c209 : 0 ≠ 0) => ?_) (fun (c209 : ¬ (0 ≠ 0)) => ?_)
            · exfalso; omega
            · refine r_goto (tgt := 34) D246_128 rfl ?_
              refine r_loc (lv' := [(0, vR 77), (2, vI said)]) ⟨rfl, rfl, trivial⟩ rfl rfl ?_
              have g210 : gi M203 77 41 = e := (u204.gi_ne (by decide) (Or.inr (by decide))).trans ((f187.g rfl).trans ((f122.g rfl).trans ((u112.gi_ne (by decide) (Or.inr (by decide))).trans ((u91.gi_ne (by decide) (Or.inr (by decide))).trans (i3)))))
              have g211 : gi M203 77 40 = t195 + 1 := p206
              have g212 : gi M203 77 9 = ov := (u204.gi_ne (by decide) (Or.inr (by decide))).trans ((f187.g rfl).trans ((f122.g rfl).trans ((u112.gi_ne (by decide) (Or.inr (by decide))).trans ((u91.gi_ne (by decide) (Or.inr (by decide))).trans (i8)))))
              have g213 : gi M203 77 6 = zz := (u204.gi_ne (by decide) (Or.inr (by decide))).trans ((f187.g rfl).trans ((f122.g rfl).trans ((u112.gi_ne (by decide) (Or.inr (by decide))).trans ((u91.gi_ne (by decide) (Or.inr (by decide))).trans (i9)))))
              exact ih a e (t195 + 1) F C M203 H205 f207 (hp208) (i1) (by omega) (by omega) (by omega) (by omega) (by omega) (by omega) (by omega) (by omega) (by omega)
          · exfalso; omega
        · refine s_blx (lv' := [(4, vI v101), (0, vR 77), (2, vI said)]) (st' := [vI 1]) B246_87_88 rfl ?_
          refine r_goto (tgt := 92) D246_88 rfl ?_
          refine s_blx (lv' := [(5, vI 1), (4, vI v101), (0, vR 77), (2, vI said)]) (st' := [vI 1]) B246_92_96 rfl ?_
          refine r_ifc (tgt := 110) (pc' := 99) D246_96 rfl rfl (by unfold inR; omega) (fun (c214 : 1 = 0) => ?_) (fun (c214 : ¬ (1 = 0)) => ?_)
          · exfalso; omega
          · refine s_blx (lv' := [(5, vI 1), (4, vI v101), (0, vR 77), (2, vI said)]) (st' := [vR 77]) B246_99_100 rfl ?_
            refine r_gint (ki := 42) (pc' := 103) D246_100 rfl gf_11_388_77 rfl H186.1 ?_
            intro w215 e216 r217
            have b_w215 := H186.2 77 (42) 0 1 rfl
            rw [← e216] at b_w215; clear r217
            refine r_ifc (tgt := 110) (pc' := 106) D246_103 rfl rfl (by unfold inR; omega) (fun (c218 : w215 ≠ 0) => ?_) (fun (c218 : ¬ (w215 ≠ 0)) => ?_)
            · refine s_blx (lv' := [(5, vI 0), (4, vI v101), (0, vR 77), (2, vI said)]) (st' := [vR 77, vR 77]) B246_110_115 rfl ?_
              refine r_gint (ki := 40) (pc' := 118) D246_115 rfl gf_11_378_77 rfl H186.1 ?_
              intro w219 e220 r221
              have e222 : t195 = w219 := (e220.trans (ht196.symm)).symm
              subst e222
              refine s_blx (lv' := [(5, vI 0), (4, vI v101), (0, vR 77), (2, vI said)]) (st' := [vI (t195 + 1), vR 77]) B246_118_120 rfl ?_
              have kF := cl_next (F := F) (C := C) (e := e) (t := t195) (fun h => i1 _ (by omega) h) (by omega)
              refine r_pint (ki := 40) (pc' := 123) D246_120 rfl pf_11_378_77 rfl H186 (by unfold inR; omega) trivial ?_
              intro M223 u224 H225 p226
              have f227 := f193.wr u224 rfl
              have hp228 := hp194.wr u224 (by decide)
              refine s_blx (lv' := [(5, vI 0), (4, vI v101), (0, vR 77), (2, vI said)]) (st' := [vI 0]) B246_123_125 rfl ?_
              refine r_ifc (tgt := 131) (pc' := 128) D246_125 rfl rfl (by unfold inR; omega) (fun (c229 : 0 ≠ 0) => ?_) (fun (c229 : ¬ (0 ≠ 0)) => ?_)
              · exfalso; omega
              · refine r_goto (tgt := 34) D246_128 rfl ?_
                refine r_loc (lv' := [(0, vR 77), (2, vI said)]) ⟨rfl, rfl, trivial⟩ rfl rfl ?_
                have g230 : gi M223 77 41 = e := (u224.gi_ne (by decide) (Or.inr (by decide))).trans ((f187.g rfl).trans ((f122.g rfl).trans ((u112.gi_ne (by decide) (Or.inr (by decide))).trans ((u91.gi_ne (by decide) (Or.inr (by decide))).trans (i3)))))
                have g231 : gi M223 77 40 = t195 + 1 := p226
                have g232 : gi M223 77 9 = ov := (u224.gi_ne (by decide) (Or.inr (by decide))).trans ((f187.g rfl).trans ((f122.g rfl).trans ((u112.gi_ne (by decide) (Or.inr (by decide))).trans ((u91.gi_ne (by decide) (Or.inr (by decide))).trans (i8)))))
                have g233 : gi M223 77 6 = zz := (u224.gi_ne (by decide) (Or.inr (by decide))).trans ((f187.g rfl).trans ((f122.g rfl).trans ((u112.gi_ne (by decide) (Or.inr (by decide))).trans ((u91.gi_ne (by decide) (Or.inr (by decide))).trans (i9)))))
                exact ih a e (t195 + 1) F C M223 H225 f227 (hp228) (i1) (by omega) (by omega) (by omega) (by omega) (by omega) (by omega) (by omega) (by omega) (by omega)
            · refine s_blx (lv' := [(5, vI 1), (4, vI v101), (0, vR 77), (2, vI said)]) (st' := [vI 1]) B246_106_107 rfl ?_
              refine r_goto (tgt := 111) D246_107 rfl ?_
              refine s_blx (lv' := [(5, vI 1), (4, vI v101), (0, vR 77), (2, vI said)]) (st' := [vR 77, vR 77]) B246_111_115 rfl ?_
              refine r_gint (ki := 40) (pc' := 118) D246_115 rfl gf_11_378_77 rfl H186.1 ?_
              intro w234 e235 r236
              have e237 : t195 = w234 := (e235.trans (ht196.symm)).symm
              subst e237
              refine s_blx (lv' := [(5, vI 1), (4, vI v101), (0, vR 77), (2, vI said)]) (st' := [vI (t195 + 1), vR 77]) B246_118_120 rfl ?_
              have kF := cl_next (F := F) (C := C) (e := e) (t := t195) (fun h => i1 _ (by omega) h) (by omega)
              refine r_pint (ki := 40) (pc' := 123) D246_120 rfl pf_11_378_77 rfl H186 (by unfold inR; omega) trivial ?_
              intro M238 u239 H240 p241
              have f242 := f193.wr u239 rfl
              have hp243 := hp194.wr u239 (by decide)
              refine s_blx (lv' := [(5, vI 1), (4, vI v101), (0, vR 77), (2, vI said)]) (st' := [vI 1]) B246_123_125 rfl ?_
              refine r_ifc (tgt := 131) (pc' := 128) D246_125 rfl rfl (by unfold inR; omega) (fun (c244 : 1 ≠ 0) => ?_) (fun (c244 : ¬ (1 ≠ 0)) => ?_)
              · refine s_blx (lv' := [(5, vI 1), (4, vI v101), (0, vR 77), (2, vI said)]) (st' := [vI said, vI v101, vR 77]) B246_131_135 rfl ?_
                have g245 : gi M238 77 6 = zz := (u239.gi_ne (by decide) (Or.inr (by decide))).trans ((f187.g rfl).trans ((f122.g rfl).trans ((u112.gi_ne (by decide) (Or.inr (by decide))).trans ((u91.gi_ne (by decide) (Or.inr (by decide))).trans (i9)))))
                refine r_vIp (c := 77) (args := [vI v101, vI said]) (rest := []) (pc' := 138) D246_135 rfl ck_11_virtual_431 TE245 rfl (Nat.le_of_ble_eq_true rfl) ⟨Nat.le_of_ble_eq_true rfl, Nat.le_of_ble_eq_true rfl⟩ sc_77 ⟨rfl, by decide⟩ H240.1 (dp_0 hd rfl) (k245k E (dp_n hd rfl) H240 v101 said K mk zz ((h0.fr f242 rfl)) ((h1.fr f242 rfl)) (by omega) (by omega) (by omega) (by omega) (h12) (by omega) (by omega) (by omega)) ?_
                intro v246 q250
                obtain ⟨q248, q249⟩ := q250
                refine s_blx (lv' := [(6, vI v246), (5, vI 1), (4, vI v101), (0, vR 77), (2, vI said)]) (st' := [vI (-1), vI v246]) B246_138_143 rfl ?_
                refine r_icmp (tgt := 159) (pc' := 146) D246_143 rfl rfl (by unfold inR; omega) (fun (c251 : v246 = (-1)) => ?_) (fun (c251 : ¬ (v246 = (-1))) => ?_)
                · refine r_goto (tgt := 34) D246_159 rfl ?_
                  refine r_loc (lv' := [(0, vR 77), (2, vI said)]) ⟨rfl, rfl, trivial⟩ rfl rfl ?_
                  have g252 : gi M238 77 41 = e := (u239.gi_ne (by decide) (Or.inr (by decide))).trans ((f187.g rfl).trans ((f122.g rfl).trans ((u112.gi_ne (by decide) (Or.inr (by decide))).trans ((u91.gi_ne (by decide) (Or.inr (by decide))).trans (i3)))))
                  have g253 : gi M238 77 40 = t195 + 1 := p241
                  have g254 : gi M238 77 9 = ov := (u239.gi_ne (by decide) (Or.inr (by decide))).trans ((f187.g rfl).trans ((f122.g rfl).trans ((u112.gi_ne (by decide) (Or.inr (by decide))).trans ((u91.gi_ne (by decide) (Or.inr (by decide))).trans (i8)))))
                  have g255 : gi M238 77 6 = zz := (u239.gi_ne (by decide) (Or.inr (by decide))).trans ((f187.g rfl).trans ((f122.g rfl).trans ((u112.gi_ne (by decide) (Or.inr (by decide))).trans ((u91.gi_ne (by decide) (Or.inr (by decide))).trans (i9)))))
                  exact ih a e (t195 + 1) F C M238 H240 f242 (hp243) (i1) (by omega) (by omega) (by omega) (by omega) (by omega) (by omega) (by omega) (by omega) (by omega)
                · refine s_blx (lv' := [(6, vI v246), (5, vI 1), (4, vI v101), (0, vR 77), (2, vI said)]) (st' := [vI v246, vI said, vR 77]) B246_146_150 rfl ?_
                  have kord150 := ((h1.fr f242 rfl)) 473
                  have g256 : gi M238 78 473 = gi N 78 473 := (u239.gi_ne (by decide) (Or.inl (by decide))).trans ((f187.g rfl).trans ((f122.g rfl).trans ((u112.gi_ne (by decide) (Or.inl (by decide))).trans ((u91.gi_ne (by decide) (Or.inl (by decide))).trans (rfl)))))
                  have g257 : gi M238 77 9 = ov := (u239.gi_ne (by decide) (Or.inr (by decide))).trans ((f187.g rfl).trans ((f122.g rfl).trans ((u112.gi_ne (by decide) (Or.inr (by decide))).trans ((u91.gi_ne (by decide) (Or.inr (by decide))).trans (i8)))))
                  refine r_vI (c := 77) (args := [vI said, vI v246]) (rest := []) (pc' := 153) D246_150 rfl ck_11_virtual_240 TE188 rfl (Nat.le_of_ble_eq_true rfl) ⟨Nat.le_of_ble_eq_true rfl, Nat.le_of_ble_eq_true rfl⟩ sc_77 ⟨rfl, by decide⟩ H240.1 (dp_0 hd rfl) (k188f E (dp_n hd rfl) H240 said v246 (K 473) ov U A O ((h0.fr f242 rfl)) ((h3.fr f242 rfl)) ((h4.fr f242 rfl)) ((h5.fr f242 rfl)) (by omega) (by omega) (by omega) (by omega) (by omega) (by omega) (by omega)) ?_
                  intro v258 M259 q267
                  obtain ⟨H260, f261, q262, q263, q264, q265, q266⟩ := q267
                  have f268 := f242.tr (f261.up rfl)
                  have hp269 := hp243.fr f261 (by decide)
                  obtain ⟨t270, ht271⟩ : ∃ q, q = gi M259 77 14 := ⟨_, rfl⟩
                  have b_t270 := H260.2 77 14 0 1110 rfl
                  rw [← ht271] at b_t270
                  rw [← ht271] at q265
                  rw [← ht271] at q266
                  have kld := q263
                  have knd := q264
                  clear q263 q264 q265 q266
                  refine r_ifc (tgt := 159) (pc' := 156) D246_153 rfl rfl (by unfold inR; omega) (fun (c272 : v258 = 0) => ?_) (fun (c272 : ¬ (v258 = 0)) => ?_)
                  · refine r_goto (tgt := 34) D246_159 rfl ?_
                    refine r_loc (lv' := [(0, vR 77), (2, vI said)]) ⟨rfl, rfl, trivial⟩ rfl rfl ?_
                    have g273 : gi M259 77 41 = e := (f261.g rfl).trans ((u239.gi_ne (by decide) (Or.inr (by decide))).trans ((f187.g rfl).trans ((f122.g rfl).trans ((u112.gi_ne (by decide) (Or.inr (by decide))).trans ((u91.gi_ne (by decide) (Or.inr (by decide))).trans (i3))))))
                    have g274 : gi M259 77 40 = t195 + 1 := (f261.g rfl).trans (p241)
                    have g275 : gi M259 77 9 = ov := (f261.g rfl).trans ((u239.gi_ne (by decide) (Or.inr (by decide))).trans ((f187.g rfl).trans ((f122.g rfl).trans ((u112.gi_ne (by decide) (Or.inr (by decide))).trans ((u91.gi_ne (by decide) (Or.inr (by decide))).trans (i8))))))
                    have g276 : gi M259 77 6 = zz := (f261.g rfl).trans ((u239.gi_ne (by decide) (Or.inr (by decide))).trans ((f187.g rfl).trans ((f122.g rfl).trans ((u112.gi_ne (by decide) (Or.inr (by decide))).trans ((u91.gi_ne (by decide) (Or.inr (by decide))).trans (i9))))))
                    exact ih a e (t195 + 1) F C M259 H260 f268 (hp269) (i1) (by omega) (by omega) (by omega) (by omega) (by omega) (by omega) (by omega) (by omega) (by omega)
                  · refine s_blx (lv' := [(6, vI v246), (5, vI 1), (4, vI v101), (0, vR 77), (2, vI said)]) (st' := [vI v246]) B246_156_158 rfl ?_
                    exact r_iretI D246_158 rfl (⟨H260, f268, kld (by omega), by omega⟩)
              · exfalso; omega
set_option maxRecDepth 4000 in
set_option maxHeartbeats 4000000 in
theorem k246k {base : Nat} {X : Nat → Option mC} {G : Nat → Value} (E : EnvOK base X G) {d : Nat} (hd : 68 ≤ d) {M : mH} (H : HI base M) (text : Int) (said : Int) (second : Int) (K : Int → Int) (mk : Int) (zz : Int) (wh : Int) (ov : Int) (U : Int → Int) (A : Int → Int) (O : Int → Int) (h0 : TB M) (h1 : KK K M) (h2 : GK M) (h3 : C3 84 U M) (h4 : C3 83 A M) (h5 : C3 85 O M) (h6 : gi M 77 9 = ov) (h7 : 0 ≤ ov ∧ ov ≤ 1) (h8 : gi M 77 6 = zz) (h9 : gi M 77 8 = wh) (h10 : 1 ≤ wh ∧ wh ≤ 2147483647) (h11 : -2147483648 ≤ zz ∧ zz ≤ 2147483647) (h12 : bt zz mk) (h13 : 0 ≤ mk ∧ mk ≤ 15) (h14 : mk < K 469) (h15 : 1 ≤ K (135 + 16 * mk + 12 + K 474)) (h16 : 0 ≤ text ∧ text < K 471) (h17 : text ≤ 7) (h18 : 0 ≤ said ∧ said ≤ 1110) (h19 : -2147483648 ≤ second ∧ second ≤ 2147483647) : sOk base X G d T246 [vR 77, vI text, vI said, vI second] M (pI (fun v M' => HI base M' ∧ Fr [(77, 14), (77, 15), (77, 16), (77, 41), (77, 42), (77, 43), (100, 0)] M M' ∧ (LG (K 473) ov U A O said v) ∧ ((0 ≤ v ∧ v ≤ 4) ∨ (10 ≤ v ∧ v ≤ 17) ∨ (20 ≤ v ∧ v ≤ 22)))) := by
  have f0 : Fr [(77, 14), (77, 15), (77, 16), (77, 41), (77, 42), (77, 43), (100, 0)] M M := Fr.rf
  refine sOk.of (show sRn base X G d T246 0 [(0, vR 77), (1, vI text), (2, vI said), (3, vI second)] [] M _ from ?_)
  refine s_blx (lv' := [(0, vR 77), (1, vI text), (2, vI said), (3, vI second)]) (st' := [vI second, vI said, vR 77]) B246_0_3 rfl ?_
  have g1 : gi M 77 6 = zz := h8
  have g2 : gi M 77 8 = wh := h9
  refine r_vV (c := 77) (args := [vI said, vI second]) (rest := []) (pc' := 6) D246_3 rfl ck_11_virtual_428 TE244 rfl (Nat.le_of_ble_eq_true rfl) ⟨Nat.le_of_ble_eq_true rfl, Nat.le_of_ble_eq_true rfl⟩ sc_77 ⟨rfl, by decide⟩ H.1 (dp_0 hd rfl) (k244k E (dp_n hd rfl) H said second K mk zz wh (h0) (h1) (by omega) (by omega) (by omega) (by omega) (by omega) (by omega) (h12) (by omega) (by omega) (by omega)) ?_
  intro M4 q7
  obtain ⟨H5, f6⟩ := q7
  have f8 := f0.tr (f6.up rfl)
  refine s_blx (lv' := [(0, vR 77), (1, vI text), (2, vI said), (3, vI second)]) (st' := [vI (400 * text), vR 77]) B246_6_12 rfl ?_
  refine r_pint (ki := 40) (pc' := 15) D246_12 rfl pf_11_378_77 rfl H5 (by unfold inR; omega) trivial ?_
  intro M9 u10 H11 p12
  have f13 := f8.wr u10 rfl
  refine s_blx (lv' := [(0, vR 77), (1, vI text), (2, vI said), (3, vI second)]) (st' := [vR 77, vR 77]) B246_15_17 rfl ?_
  refine r_gint (ki := 40) (pc' := 20) D246_17 rfl gf_11_378_77 rfl H11.1 ?_
  intro w14 e15 r16
  have e17 : 400 * text = w14 := (e15.trans (p12)).symm
  subst e17
  refine s_blx (lv' := [(0, vR 77), (1, vI text), (2, vI said), (3, vI second)]) (st' := [vR 77, vI (400 * text), vR 77]) B246_20_21 rfl ?_
  refine r_gfix (r := 78) (pc' := 24) D246_21 rfl gf_11_13_77 H11.1 ?_
  refine s_blx (lv' := [(0, vR 77), (1, vI text), (2, vI said), (3, vI second)]) (st' := [vI (475 + text), vR 78, vI (400 * text), vR 77]) B246_24_29 rfl ?_
  refine r_iald (pc' := 30) D246_29 rfl sc_78 H11.1 (by omega) ?_
  intro w18 e19 r20
  have kk_w18 := ((h1.fr f13 rfl)) (475 + text)
  have b_w18 := H11.2 78 (475 + text) 0 400 (rk_sizes (by omega))
  rw [← e19] at b_w18; clear r20
  have kac := ((h2.fr f13 rfl)) text (by omega) (by rw [((h1.fr f13 rfl)) 471]; omega)
  rw [← e19] at kac
  obtain ⟨F, C, hC, hF0, hGE, hEE⟩ := ac_fun kac
  obtain ⟨e, he⟩ : ∃ q : Int, q = 400 * text + w18 := ⟨_, rfl⟩
  rw [← he] at hGE hEE
  obtain ⟨a, ha⟩ : ∃ q : Int, q = 400 * text := ⟨_, rfl⟩
  rw [← ha] at hGE hF0
  clear kac
  refine s_blx (lv' := [(0, vR 77), (1, vI text), (2, vI said), (3, vI second)]) (st' := [vI ((400 * text) + w18), vR 77]) B246_30_31 rfl ?_
  refine r_pint (ki := 41) (pc' := 34) D246_31 rfl pf_11_375_77 rfl H11 (by unfold inR; omega) trivial ?_
  intro M21 u22 H23 p24
  have f25 := f13.wr u22 rfl
  have hp26 := hC.wr u22 (by decide)
  have kge : gi M21 77 41 = e := by rw [p24]; exact he.symm
  have kgo : gi M21 77 40 = a := (((u22.gi_ne (by decide) (Or.inr (by decide))).trans (p12))).trans ha.symm
  refine r_loc (lv' := [(0, vR 77), (2, vI said)]) ⟨rfl, rfl, trivial⟩ rfl rfl ?_
  have g27 : gi M21 77 41 = e := kge
  have g28 : gi M21 77 40 = a := kgo
  have g29 : gi M21 77 9 = ov := (u22.gi_ne (by decide) (Or.inr (by decide))).trans ((u10.gi_ne (by decide) (Or.inr (by decide))).trans ((f6.g rfl).trans (h6)))
  have g30 : gi M21 77 6 = zz := (u22.gi_ne (by decide) (Or.inr (by decide))).trans ((u10.gi_ne (by decide) (Or.inr (by decide))).trans ((f6.g rfl).trans (h8)))
  exact (L_k246k E hd H text said second K mk zz wh ov U A O h0 h1 h2 h3 h4 h5 h6 h7 h8 h9 h10 h11 h12 h13 h14 h15 h16 h17 h18 h19 (((3201 - a) * 1 + 0 : Int) + 1).toNat) a e a F C M21 H23 f25 (hp26) (hGE) (by omega) (by omega) (by omega) (by omega) (by omega) (by omega) (by omega) (by omega) (by omega)
set_option maxRecDepth 4000 in
set_option maxHeartbeats 4000000 in
theorem L_k247k {base : Nat} {X : Nat → Option mC} {G : Nat → Value} (E : EnvOK base X G) {d : Nat} (hd : 69 ≤ d) {M : mH} (H : HI base M) (text : Int) (s : Int) (K : Int → Int) (h0 : TB M) (h1 : KK K M) (h2 : GK M) (h3 : 0 ≤ text ∧ text < K 471) (h4 : text ≤ 7) (h5 : 0 ≤ s ∧ s ≤ 15) (h6 : s < K 469) (h7 : 1 ≤ K (135 + 16 * s + 12 + K 474)) : ∀ mz : Nat, (∀ (x3 x4 x5 x6 : Int) (N : mH), HI base N → Fr [(77, 7), (77, 8), (77, 9), (77, 10), (77, 14), (77, 15), (77, 16), (77, 41), (77, 42), (77, 43), (77, 46), (77, 47), (83, 0), (84, 0), (85, 0), (100, 0), (101, 0)] M N → (0 ≤ x3 ∧ x3 ≤ 1110) → (0 ≤ x4 ∧ x4 ≤ 12) → (x5 ≠ 4 → x4 ≤ K (135 + 16 * s) ∨ x4 + mu (K 473) (suF K s (K (135 + 16 * s)) 1) x3 ≤ K (135 + 16 * s) + 3) → (-1 ≤ x5 ∧ x5 ≤ 22) → (0 ≤ x3) → (x3 ≤ 1110) → (0 ≤ x4) → (x4 ≤ 13) → (12 - x4) * 1 + 0 < (mz : Int) → sRn base X G d T247 11 [(0, vR 77), (1, vI text), (2, vI s), (3, vI x3), (4, vI x4), (5, vI x5), (6, vL x6)] [] N (s_Q base (pL (fun v M' => HI base M' ∧ Fr [(77, 7), (77, 8), (77, 9), (77, 10), (77, 14), (77, 15), (77, 16), (77, 41), (77, 42), (77, 43), (77, 46), (77, 47), (83, 0), (84, 0), (85, 0), (100, 0), (101, 0)] M M')))) := by
  have f0 : Fr [(77, 7), (77, 8), (77, 9), (77, 10), (77, 14), (77, 15), (77, 16), (77, 41), (77, 42), (77, 43), (77, 46), (77, 47), (83, 0), (84, 0), (85, 0), (100, 0), (101, 0)] M M := Fr.rf
  intro mz
  induction mz with
  | zero => exact fun x3 x4 x5 x6 N _ _ z0 z1 z2 z3 z4 z5 z6 z7 z8 => by omega
  | succ mz ih =>
    intro x3 x4 x5 x6 N HN fN i0 i1 i2 i3 i4 i5 i6 i7 hmu
    refine s_blx (lv' := [(0, vR 77), (1, vI text), (2, vI s), (3, vI x3), (4, vI x4), (5, vI x5), (6, vL x6)]) (st' := [vI 4, vI x5]) B247_11_14 rfl ?_
    refine r_icmp (tgt := 128) (pc' := 17) D247_14 rfl rfl (by unfold inR; omega) (fun (c1 : x5 = 4) => ?_) (fun (c1 : ¬ (x5 = 4)) => ?_)
    · refine s_blx (lv' := [(0, vR 77), (1, vI text), (2, vI s), (3, vI x3), (4, vI x4), (5, vI x5), (6, vL x6)]) (st' := [vI x4, vR 77]) B247_128_131 rfl ?_
      refine r_pint (ki := 45) (pc' := 134) D247_131 rfl pf_11_437_77 rfl HN (by unfold inR; omega) (show 0 ≤ x4 ∧ x4 ≤ 24 by omega) ?_
      intro M2 u3 H4 p5
      have f6 := fN.wr u3 rfl
      refine s_blx (lv' := [(0, vR 77), (1, vI text), (2, vI s), (3, vI x3), (4, vI x4), (5, vI x5), (6, vL x6)]) (st' := [vI x3, vR 77]) B247_134_136 rfl ?_
      refine r_pint (ki := 46) (pc' := 139) D247_136 rfl pf_11_440_77 rfl H4 (by unfold inR; omega) (show 0 ≤ x3 ∧ x3 ≤ 1110 by omega) ?_
      intro M7 u8 H9 p10
      have f11 := f6.wr u8 rfl
      refine s_blx (lv' := [(0, vR 77), (1, vI text), (2, vI s), (3, vI x3), (4, vI x4), (5, vI x5), (6, vL x6)]) (st' := [vL x6]) B247_139_141 rfl ?_
      exact r_lretL D247_141 rfl (⟨H9, f11⟩)
    · refine s_blx (lv' := [(0, vR 77), (1, vI text), (2, vI s), (3, vI x3), (4, vI x4), (5, vI x5), (6, vL x6)]) (st' := [vI s, vR 77, vI x4]) B247_17_21 rfl ?_
      refine r_vIp (c := 77) (args := [vI s]) (rest := [vI x4]) (pc' := 24) D247_21 rfl ck_11_virtual_144 TE156 rfl (Nat.le_of_ble_eq_true rfl) ⟨Nat.le_of_ble_eq_true rfl, Nat.le_of_ble_eq_true rfl⟩ sc_77 ⟨rfl, by decide⟩ HN.1 (dp_0 hd rfl) (k156f E (dp_n hd rfl) HN s K ((h1.fr fN rfl)) (by omega)) ?_
      intro v12 q16
      obtain ⟨q14, q15⟩ := q16
      have kl := q15; clear q15
      have kmu := mu_le (K 473) (suF K s (K (135 + 16 * s)) 1) x3
      refine r_icmp (tgt := 31) (pc' := 27) D247_24 rfl rfl (by unfold inR; omega) (fun (c17 : x4 < v12) => ?_) (fun (c17 : ¬ (x4 < v12)) => ?_)
      · refine s_blx (lv' := [(8, vI 0), (0, vR 77), (1, vI text), (2, vI s), (3, vI x3), (4, vI x4), (5, vI x5), (6, vL x6)]) (st' := [vI 0, vI s, vR 77]) B247_31_38 rfl ?_
        refine r_ifc (tgt := 49) (pc' := 41) D247_38 rfl rfl (by unfold inR; omega) (fun (c18 : 0 = 0) => ?_) (fun (c18 : ¬ (0 = 0)) => ?_)
        · refine s_blx (lv' := [(8, vI 0), (0, vR 77), (1, vI text), (2, vI s), (3, vI x3), (4, vI x4), (5, vI x5), (6, vL x6)]) (st' := [vI 0, vI (x4 + 1), vI s, vR 77]) B247_49_55 rfl ?_
          refine r_vV (c := 77) (args := [vI s, vI (x4 + 1), vI 0]) (rest := []) (pc' := 58) D247_55 rfl ck_11_virtual_253 TE183 rfl (Nat.le_of_ble_eq_true rfl) ⟨Nat.le_of_ble_eq_true rfl, Nat.le_of_ble_eq_true rfl⟩ sc_77 ⟨rfl, by decide⟩ HN.1 (dp_0 hd rfl) (k183f E (dp_n hd rfl) HN s (x4 + 1) 0 K (by omega) ((h1.fr fN rfl)) (by omega) (by omega)) ?_
          intro M20 q28
          obtain ⟨H21, f22, q23, q24, q25, q26, q27⟩ := q28
          have f29 := fN.tr (f22.up rfl)
          obtain ⟨t30, ht31⟩ : ∃ q, q = gi M20 77 9 := ⟨_, rfl⟩
          have b_t30 := H21.2 77 9 0 1 rfl
          rw [← ht31] at b_t30
          obtain ⟨t32, ht33⟩ : ∃ q, q = gi M20 77 6 := ⟨_, rfl⟩
          have b_t32 := (H21.1.int sc_77 (i := 6) (by decide) (by decide) rfl).2
          unfold inR at b_t32; rw [← ht33] at b_t32
          obtain ⟨t34, ht35⟩ : ∃ q, q = gi M20 77 8 := ⟨_, rfl⟩
          have b_t34 := (H21.1.int sc_77 (i := 8) (by decide) (by decide) rfl).2
          unfold inR at b_t34; rw [← ht35] at b_t34
          rw [← ht31] at q23
          rw [← ht33] at q24
          rw [← ht33] at q25
          rw [← ht35] at q27
          have kc3 := q26; clear q26
          have c84 : C3 84 (suF K s (x4 + 1) 0) M20 := fun j a b => (kc3 j a b).2.1
          have c83 : C3 83 (caF K s (x4 + 1) 0) M20 := fun j a b => (kc3 j a b).1
          have c85 : C3 85 (onF K s (x4 + 1) 0) M20 := fun j a b => (kc3 j a b).2.2
          have ksc : SC K s (x4 + 1) 0 s := ⟨by omega, ⟨by omega, fun _ _ _ => rfl⟩, by omega⟩
          have kwh := q27 ksc (by omega)
          have km := ((h1.fr f29 rfl)).many H21
          have kbt : bt t32 s := by rw [q24]; exact (stF_bt _ (by omega) s (by omega) (by omega)).mpr ⟨by omega, ksc⟩
          clear q27 q25
          refine s_blx (lv' := [(8, vI 0), (0, vR 77), (1, vI text), (2, vI s), (3, vI x3), (4, vI x4), (5, vI x5), (6, vL x6)]) (st' := [vI x4, vI x3, vI text, vR 77]) B247_58_63 rfl ?_
          have g36 : gi M20 77 9 = t30 := ht31.symm
          have g37 : gi M20 77 6 = t32 := ht33.symm
          have g38 : gi M20 77 8 = t34 := ht35.symm
          refine r_vI (c := 77) (args := [vI text, vI x3, vI x4]) (rest := []) (pc' := 66) D247_63 rfl ck_11_virtual_434 TE246 rfl (Nat.le_of_ble_eq_true rfl) ⟨Nat.le_of_ble_eq_true rfl, Nat.le_of_ble_eq_true rfl⟩ sc_77 ⟨rfl, by decide⟩ H21.1 (dp_0 hd rfl) (k246k E (dp_n hd rfl) H21 text x3 x4 K s t32 t34 0 (suF K s (x4 + 1) 0) (caF K s (x4 + 1) 0) (onF K s (x4 + 1) 0) ((h0.fr f29 rfl)) ((h1.fr f29 rfl)) ((h2.fr f29 rfl)) (c84) (c83) (c85) (by omega) (by omega) (by omega) (by omega) (by omega) (by omega) (kbt) (by omega) (by omega) (by omega) (by omega) (by omega) (by omega) (by omega)) ?_
          intro v39 M40 q45
          obtain ⟨H41, f42, q43, q44⟩ := q45
          have f46 := f29.tr (f42.up rfl)
          have hp47 := c84.fr f42 (by decide)
          have hp48 := c83.fr f42 (by decide)
          have hp49 := c85.fr f42 (by decide)
          have klg := q43; clear q43
          refine s_blx (lv' := [(5, vI v39), (8, vI 0), (0, vR 77), (1, vI text), (2, vI s), (3, vI x3), (4, vI x4), (6, vL x6)]) (st' := [vR 77]) B247_66_69 rfl ?_
          refine r_gfix (r := 101) (pc' := 72) D247_69 rfl gf_11_90_77 H41.1 ?_
          refine s_blx (lv' := [(5, vI v39), (8, vI 0), (0, vR 77), (1, vI text), (2, vI s), (3, vI x3), (4, vI x4), (6, vL x6)]) (st' := [vI v39, vI x4, vR 101]) B247_72_76 rfl ?_
          refine r_norm ?_
          intro z50 r51 _; unfold inR at r51
          refine r_iast (pc' := 77) D247_76 rfl sc_101 H41 (by omega) (by unfold inR; omega) trivial ?_
          intro M52 u53 H54 p55
          have f56 := f46.wr u53 rfl
          have hp57 := hp47.wr u53 (by decide)
          have hp58 := hp48.wr u53 (by decide)
          have hp59 := hp49.wr u53 (by decide)
          refine s_blx (lv' := [(4, vI (x4 + 1)), (5, vI v39), (8, vI 0), (0, vR 77), (1, vI text), (2, vI s), (3, vI x3), (6, vL x6)]) (st' := [vI v39, vI x3, vR 77]) B247_77_84 rfl ?_
          have kord := ((h1.fr f56 rfl)) 473
          have g60 : gi M52 78 473 = gi N 78 473 := (u53.gi_ne (by omega) (Or.inl (by decide))).trans ((f42.g rfl).trans ((f22.g rfl).trans (rfl)))
          have g61 : gi M52 77 9 = t30 := (u53.gi_ne (by omega) (Or.inl (by decide))).trans ((f42.g rfl).trans (ht31.symm))
          refine r_vI (c := 77) (args := [vI x3, vI v39]) (rest := []) (pc' := 87) D247_84 rfl ck_11_virtual_240 TE188 rfl (Nat.le_of_ble_eq_true rfl) ⟨Nat.le_of_ble_eq_true rfl, Nat.le_of_ble_eq_true rfl⟩ sc_77 ⟨rfl, by decide⟩ H54.1 (dp_0 hd rfl) (k188f E (dp_n hd rfl) H54 x3 v39 (K 473) 0 (suF K s (x4 + 1) 0) (caF K s (x4 + 1) 0) (onF K s (x4 + 1) 0) ((h0.fr f56 rfl)) (hp57) (hp58) (hp59) (by omega) (by omega) (by omega) (by omega) (by omega) (by omega) (by omega)) ?_
          intro v62 M63 q71
          obtain ⟨H64, f65, q66, q67, q68, q69, q70⟩ := q71
          have f72 := f56.tr (f65.up rfl)
          have hp73 := hp57.fr f65 (by decide)
          have hp74 := hp58.fr f65 (by decide)
          have hp75 := hp59.fr f65 (by decide)
          obtain ⟨t76, ht77⟩ : ∃ q, q = gi M63 77 14 := ⟨_, rfl⟩
          have b_t76 := H64.2 77 14 0 1110 rfl
          rw [← ht77] at b_t76
          rw [← ht77] at q69
          rw [← ht77] at q70
          have kst : K (135 + 16 * s) ≤ x4 → v39 = 4 ∨ mu (K 473) (suF K s (K (135 + 16 * s)) 1) t76 = mu (K 473) (suF K s (K (135 + 16 * s)) 1) x3 - 1 := by first | exact fun h => absurd h (by omega) | (intro h; have y0 := q68; have yv : v62 = 1 := (by have y1 : v62 ≠ 0 := (fun z => y0 z klg); omega); have y3 := q69 yv; have z1 := klg; rw [kl2] at y3 z1; rcases y3 with e | e | e; exact absurd ((LG_0 e).mp z1) (by omega); exact Or.inl e; exact Or.inr e)
          refine s_blx (lv' := [(4, vI (x4 + 1)), (5, vI v39), (8, vI 0), (0, vR 77), (1, vI text), (2, vI s), (3, vI x3), (6, vL x6)]) (st' := [vR 77]) B247_87_89 rfl ?_
          refine r_gint (ki := 14) (pc' := 92) D247_89 rfl gf_11_215_77 rfl H64.1 ?_
          intro w78 e79 r80
          have e81 : t76 = w78 := (e79.trans (ht77.symm)).symm
          subst e81
          refine s_blx (lv' := [(3, vI t76), (4, vI (x4 + 1)), (5, vI v39), (8, vI 0), (0, vR 77), (1, vI text), (2, vI s), (6, vL x6)]) (st' := [vI 4, vI v39, vL x6]) B247_92_98 rfl ?_
          refine r_norm2 ?_
          intro z82 r83 _; unfold inR at r83
          refine r_icmp (tgt := 111) (pc' := 101) D247_98 rfl rfl (by unfold inR; omega) (fun (c84 : z82 ≠ 4) => ?_) (fun (c84 : ¬ (z82 ≠ 4)) => ?_)
          · refine s_blx (lv' := [(3, vI t76), (4, vI (x4 + 1)), (5, vI v39), (8, vI 0), (0, vR 77), (1, vI text), (2, vI s), (6, vL x6)]) (st' := [vR 77, vL x6]) B247_111_112 rfl ?_
            refine r_gint (ki := 15) (pc' := 115) D247_112 rfl gf_11_218_77 rfl H64.1 ?_
            intro w85 e86 r87
            unfold inR at r87
            refine s_blx (lv' := [(3, vI t76), (4, vI (x4 + 1)), (5, vI v39), (8, vI 0), (0, vR 77), (1, vI text), (2, vI s), (6, vL x6)]) (st' := [vI t76, vR 77, vI w85, vL x6]) B247_115_117 rfl ?_
            refine r_vIp (c := 77) (args := [vI t76]) (rest := [vI w85, vL x6]) (pc' := 120) D247_117 rfl ck_11_virtual_246 TE190 rfl (Nat.le_of_ble_eq_true rfl) ⟨Nat.le_of_ble_eq_true rfl, Nat.le_of_ble_eq_true rfl⟩ sc_77 ⟨rfl, by decide⟩ H64.1 (dp_0 hd rfl) (k190 E (dp_n hd rfl) H64 t76 (by omega)) ?_
            intro v88 q91
            have q90 := q91; clear q91
            refine s_blx (lv' := [(3, vI t76), (4, vI (x4 + 1)), (5, vI v39), (8, vI 0), (0, vR 77), (1, vI text), (2, vI s), (6, vL x6)]) (st' := [vI (w85 + v88), vL x6]) B247_120_121 rfl ?_
            refine r_norm ?_
            intro z92 r93 _; unfold inR at r93
            refine r_i2l (pc' := 122) D247_121 rfl (by unfold inR; omega) ?_
            refine s_blx (lv' := [(6, vL (x6 + z92)), (3, vI t76), (4, vI (x4 + 1)), (5, vI v39), (8, vI 0), (0, vR 77), (1, vI text), (2, vI s)]) (st' := []) B247_122_125 rfl ?_
            refine r_goto (tgt := 11) D247_125 rfl ?_
            refine r_loc (lv' := [(0, vR 77), (1, vI text), (2, vI s), (3, vI t76), (4, vI (x4 + 1)), (5, vI v39), (6, vL (x6 + z92))]) ⟨rfl, rfl, rfl, rfl, rfl, rfl, rfl, trivial⟩ rfl rfl ?_
            exact ih t76 (x4 + 1) v39 (x6 + z92) M63 H64 f72 (by omega) (by omega) (by omega) (by omega) (by omega) (by omega) (by omega) (by omega) (by omega)
          · refine s_blx (lv' := [(3, vI t76), (4, vI (x4 + 1)), (5, vI v39), (8, vI 0), (0, vR 77), (1, vI text), (2, vI s), (6, vL x6)]) (st' := [vI s, vI t76, vR 77, vL x6]) B247_101_104 rfl ?_
            refine r_vIp (c := 77) (args := [vI t76, vI s]) (rest := [vL x6]) (pc' := 107) D247_104 rfl ck_11_virtual_243 TE191 rfl (Nat.le_of_ble_eq_true rfl) ⟨Nat.le_of_ble_eq_true rfl, Nat.le_of_ble_eq_true rfl⟩ sc_77 ⟨rfl, by decide⟩ H64.1 (dp_0 hd rfl) (k191 E (dp_n hd rfl) H64 t76 s (by omega) (by omega)) ?_
            intro v94 q97
            have q96 := q97; clear q97
            refine r_i2l (pc' := 108) D247_107 rfl (by unfold inR; omega) ?_
            refine r_goto (tgt := 122) D247_108 rfl ?_
            refine s_blx (lv' := [(6, vL (x6 + v94)), (3, vI t76), (4, vI (x4 + 1)), (5, vI v39), (8, vI 0), (0, vR 77), (1, vI text), (2, vI s)]) (st' := []) B247_122_125 rfl ?_
            refine r_goto (tgt := 11) D247_125 rfl ?_
            refine r_loc (lv' := [(0, vR 77), (1, vI text), (2, vI s), (3, vI t76), (4, vI (x4 + 1)), (5, vI v39), (6, vL (x6 + v94))]) ⟨rfl, rfl, rfl, rfl, rfl, rfl, rfl, trivial⟩ rfl rfl ?_
            exact ih t76 (x4 + 1) v39 (x6 + v94) M63 H64 f72 (by omega) (by omega) (by omega) (by omega) (by omega) (by omega) (by omega) (by omega) (by omega)
        · exfalso; omega
      · refine s_blx (lv' := [(0, vR 77), (1, vI text), (2, vI s), (3, vI x3), (4, vI x4), (5, vI x5), (6, vL x6)]) (st' := [vI 1]) B247_27_28 rfl ?_
        refine r_goto (tgt := 32) D247_28 rfl ?_
        refine s_blx (lv' := [(8, vI 1), (0, vR 77), (1, vI text), (2, vI s), (3, vI x3), (4, vI x4), (5, vI x5), (6, vL x6)]) (st' := [vI 1, vI s, vR 77]) B247_32_38 rfl ?_
        refine r_ifc (tgt := 49) (pc' := 41) D247_38 rfl rfl (by unfold inR; omega) (fun (c98 : 1 = 0) => ?_) (fun (c98 : ¬ (1 = 0)) => ?_)
        · exfalso; omega
        · refine s_blx (lv' := [(8, vI 1), (0, vR 77), (1, vI text), (2, vI s), (3, vI x3), (4, vI x4), (5, vI x5), (6, vL x6)]) (st' := [vI s, vR 77, vI s, vR 77]) B247_41_43 rfl ?_
          refine r_vIp (c := 77) (args := [vI s]) (rest := [vI s, vR 77]) (pc' := 46) D247_43 rfl ck_11_virtual_144 TE156 rfl (Nat.le_of_ble_eq_true rfl) ⟨Nat.le_of_ble_eq_true rfl, Nat.le_of_ble_eq_true rfl⟩ sc_77 ⟨rfl, by decide⟩ HN.1 (dp_0 hd rfl) (k156f E (dp_n hd rfl) HN s K ((h1.fr fN rfl)) (by omega)) ?_
          intro v99 q103
          obtain ⟨q101, q102⟩ := q103
          have kl2 := q102; clear q102
          refine r_goto (tgt := 53) D247_46 rfl ?_
          refine s_blx (lv' := [(8, vI 1), (0, vR 77), (1, vI text), (2, vI s), (3, vI x3), (4, vI x4), (5, vI x5), (6, vL x6)]) (st' := [vI 1, vI v99, vI s, vR 77]) B247_53_55 rfl ?_
          refine r_vV (c := 77) (args := [vI s, vI v99, vI 1]) (rest := []) (pc' := 58) D247_55 rfl ck_11_virtual_253 TE183 rfl (Nat.le_of_ble_eq_true rfl) ⟨Nat.le_of_ble_eq_true rfl, Nat.le_of_ble_eq_true rfl⟩ sc_77 ⟨rfl, by decide⟩ HN.1 (dp_0 hd rfl) (k183f E (dp_n hd rfl) HN s v99 1 K (by omega) ((h1.fr fN rfl)) (by omega) (by omega)) ?_
          intro M105 q113
          obtain ⟨H106, f107, q108, q109, q110, q111, q112⟩ := q113
          have f114 := fN.tr (f107.up rfl)
          obtain ⟨t115, ht116⟩ : ∃ q, q = gi M105 77 9 := ⟨_, rfl⟩
          have b_t115 := H106.2 77 9 0 1 rfl
          rw [← ht116] at b_t115
          obtain ⟨t117, ht118⟩ : ∃ q, q = gi M105 77 6 := ⟨_, rfl⟩
          have b_t117 := (H106.1.int sc_77 (i := 6) (by decide) (by decide) rfl).2
          unfold inR at b_t117; rw [← ht118] at b_t117
          obtain ⟨t119, ht120⟩ : ∃ q, q = gi M105 77 8 := ⟨_, rfl⟩
          have b_t119 := (H106.1.int sc_77 (i := 8) (by decide) (by decide) rfl).2
          unfold inR at b_t119; rw [← ht120] at b_t119
          rw [← ht116] at q108
          rw [← ht118] at q109
          rw [← ht118] at q110
          rw [← ht120] at q112
          have kc3 := q111; clear q111
          have c84 : C3 84 (suF K s v99 1) M105 := fun j a b => (kc3 j a b).2.1
          have c83 : C3 83 (caF K s v99 1) M105 := fun j a b => (kc3 j a b).1
          have c85 : C3 85 (onF K s v99 1) M105 := fun j a b => (kc3 j a b).2.2
          have ksc : SC K s v99 1 s := ⟨by omega, ⟨by omega, fun _ _ _ => rfl⟩, by omega⟩
          have kwh := q112 ksc (by omega)
          have km := ((h1.fr f114 rfl)).many H106
          have kbt : bt t117 s := by rw [q109]; exact (stF_bt _ (by omega) s (by omega) (by omega)).mpr ⟨by omega, ksc⟩
          clear q112 q110
          refine s_blx (lv' := [(8, vI 1), (0, vR 77), (1, vI text), (2, vI s), (3, vI x3), (4, vI x4), (5, vI x5), (6, vL x6)]) (st' := [vI x4, vI x3, vI text, vR 77]) B247_58_63 rfl ?_
          have g121 : gi M105 77 9 = t115 := ht116.symm
          have g122 : gi M105 77 6 = t117 := ht118.symm
          have g123 : gi M105 77 8 = t119 := ht120.symm
          refine r_vI (c := 77) (args := [vI text, vI x3, vI x4]) (rest := []) (pc' := 66) D247_63 rfl ck_11_virtual_434 TE246 rfl (Nat.le_of_ble_eq_true rfl) ⟨Nat.le_of_ble_eq_true rfl, Nat.le_of_ble_eq_true rfl⟩ sc_77 ⟨rfl, by decide⟩ H106.1 (dp_0 hd rfl) (k246k E (dp_n hd rfl) H106 text x3 x4 K s t117 t119 1 (suF K s v99 1) (caF K s v99 1) (onF K s v99 1) ((h0.fr f114 rfl)) ((h1.fr f114 rfl)) ((h2.fr f114 rfl)) (c84) (c83) (c85) (by omega) (by omega) (by omega) (by omega) (by omega) (by omega) (kbt) (by omega) (by omega) (by omega) (by omega) (by omega) (by omega) (by omega)) ?_
          intro v124 M125 q130
          obtain ⟨H126, f127, q128, q129⟩ := q130
          have f131 := f114.tr (f127.up rfl)
          have hp132 := c84.fr f127 (by decide)
          have hp133 := c83.fr f127 (by decide)
          have hp134 := c85.fr f127 (by decide)
          have klg := q128; clear q128
          refine s_blx (lv' := [(5, vI v124), (8, vI 1), (0, vR 77), (1, vI text), (2, vI s), (3, vI x3), (4, vI x4), (6, vL x6)]) (st' := [vR 77]) B247_66_69 rfl ?_
          refine r_gfix (r := 101) (pc' := 72) D247_69 rfl gf_11_90_77 H126.1 ?_
          refine s_blx (lv' := [(5, vI v124), (8, vI 1), (0, vR 77), (1, vI text), (2, vI s), (3, vI x3), (4, vI x4), (6, vL x6)]) (st' := [vI v124, vI x4, vR 101]) B247_72_76 rfl ?_
          refine r_norm ?_
          intro z135 r136 _; unfold inR at r136
          refine r_iast (pc' := 77) D247_76 rfl sc_101 H126 (by omega) (by unfold inR; omega) trivial ?_
          intro M137 u138 H139 p140
          have f141 := f131.wr u138 rfl
          have hp142 := hp132.wr u138 (by decide)
          have hp143 := hp133.wr u138 (by decide)
          have hp144 := hp134.wr u138 (by decide)
          refine s_blx (lv' := [(4, vI (x4 + 1)), (5, vI v124), (8, vI 1), (0, vR 77), (1, vI text), (2, vI s), (3, vI x3), (6, vL x6)]) (st' := [vI v124, vI x3, vR 77]) B247_77_84 rfl ?_
          have kord := ((h1.fr f141 rfl)) 473
          have g145 : gi M137 78 473 = gi N 78 473 := (u138.gi_ne (by omega) (Or.inl (by decide))).trans ((f127.g rfl).trans ((f107.g rfl).trans (rfl)))
          have g146 : gi M137 77 9 = t115 := (u138.gi_ne (by omega) (Or.inl (by decide))).trans ((f127.g rfl).trans (ht116.symm))
          refine r_vI (c := 77) (args := [vI x3, vI v124]) (rest := []) (pc' := 87) D247_84 rfl ck_11_virtual_240 TE188 rfl (Nat.le_of_ble_eq_true rfl) ⟨Nat.le_of_ble_eq_true rfl, Nat.le_of_ble_eq_true rfl⟩ sc_77 ⟨rfl, by decide⟩ H139.1 (dp_0 hd rfl) (k188f E (dp_n hd rfl) H139 x3 v124 (K 473) 1 (suF K s v99 1) (caF K s v99 1) (onF K s v99 1) ((h0.fr f141 rfl)) (hp142) (hp143) (hp144) (by omega) (by omega) (by omega) (by omega) (by omega) (by omega) (by omega)) ?_
          intro v147 M148 q156
          obtain ⟨H149, f150, q151, q152, q153, q154, q155⟩ := q156
          have f157 := f141.tr (f150.up rfl)
          have hp158 := hp142.fr f150 (by decide)
          have hp159 := hp143.fr f150 (by decide)
          have hp160 := hp144.fr f150 (by decide)
          obtain ⟨t161, ht162⟩ : ∃ q, q = gi M148 77 14 := ⟨_, rfl⟩
          have b_t161 := H149.2 77 14 0 1110 rfl
          rw [← ht162] at b_t161
          rw [← ht162] at q154
          rw [← ht162] at q155
          have kst : K (135 + 16 * s) ≤ x4 → v124 = 4 ∨ mu (K 473) (suF K s (K (135 + 16 * s)) 1) t161 = mu (K 473) (suF K s (K (135 + 16 * s)) 1) x3 - 1 := by first | exact fun h => absurd h (by omega) | (intro h; have y0 := q153; have yv : v147 = 1 := (by have y1 : v147 ≠ 0 := (fun z => y0 z klg); omega); have y3 := q154 yv; have z1 := klg; rw [kl2] at y3 z1; rcases y3 with e | e | e; exact absurd ((LG_0 e).mp z1) (by omega); exact Or.inl e; exact Or.inr e)
          refine s_blx (lv' := [(4, vI (x4 + 1)), (5, vI v124), (8, vI 1), (0, vR 77), (1, vI text), (2, vI s), (3, vI x3), (6, vL x6)]) (st' := [vR 77]) B247_87_89 rfl ?_
          refine r_gint (ki := 14) (pc' := 92) D247_89 rfl gf_11_215_77 rfl H149.1 ?_
          intro w163 e164 r165
          have e166 : t161 = w163 := (e164.trans (ht162.symm)).symm
          subst e166
          refine s_blx (lv' := [(3, vI t161), (4, vI (x4 + 1)), (5, vI v124), (8, vI 1), (0, vR 77), (1, vI text), (2, vI s), (6, vL x6)]) (st' := [vI 4, vI v124, vL x6]) B247_92_98 rfl ?_
          refine r_norm2 ?_
          intro z167 r168 _; unfold inR at r168
          refine r_icmp (tgt := 111) (pc' := 101) D247_98 rfl rfl (by unfold inR; omega) (fun (c169 : z167 ≠ 4) => ?_) (fun (c169 : ¬ (z167 ≠ 4)) => ?_)
          · refine s_blx (lv' := [(3, vI t161), (4, vI (x4 + 1)), (5, vI v124), (8, vI 1), (0, vR 77), (1, vI text), (2, vI s), (6, vL x6)]) (st' := [vR 77, vL x6]) B247_111_112 rfl ?_
            refine r_gint (ki := 15) (pc' := 115) D247_112 rfl gf_11_218_77 rfl H149.1 ?_
            intro w170 e171 r172
            unfold inR at r172
            refine s_blx (lv' := [(3, vI t161), (4, vI (x4 + 1)), (5, vI v124), (8, vI 1), (0, vR 77), (1, vI text), (2, vI s), (6, vL x6)]) (st' := [vI t161, vR 77, vI w170, vL x6]) B247_115_117 rfl ?_
            refine r_vIp (c := 77) (args := [vI t161]) (rest := [vI w170, vL x6]) (pc' := 120) D247_117 rfl ck_11_virtual_246 TE190 rfl (Nat.le_of_ble_eq_true rfl) ⟨Nat.le_of_ble_eq_true rfl, Nat.le_of_ble_eq_true rfl⟩ sc_77 ⟨rfl, by decide⟩ H149.1 (dp_0 hd rfl) (k190 E (dp_n hd rfl) H149 t161 (by omega)) ?_
            intro v173 q176
            have q175 := q176; clear q176
            refine s_blx (lv' := [(3, vI t161), (4, vI (x4 + 1)), (5, vI v124), (8, vI 1), (0, vR 77), (1, vI text), (2, vI s), (6, vL x6)]) (st' := [vI (w170 + v173), vL x6]) B247_120_121 rfl ?_
            refine r_norm ?_
            intro z177 r178 _; unfold inR at r178
            refine r_i2l (pc' := 122) D247_121 rfl (by unfold inR; omega) ?_
            refine s_blx (lv' := [(6, vL (x6 + z177)), (3, vI t161), (4, vI (x4 + 1)), (5, vI v124), (8, vI 1), (0, vR 77), (1, vI text), (2, vI s)]) (st' := []) B247_122_125 rfl ?_
            refine r_goto (tgt := 11) D247_125 rfl ?_
            refine r_loc (lv' := [(0, vR 77), (1, vI text), (2, vI s), (3, vI t161), (4, vI (x4 + 1)), (5, vI v124), (6, vL (x6 + z177))]) ⟨rfl, rfl, rfl, rfl, rfl, rfl, rfl, trivial⟩ rfl rfl ?_
            exact ih t161 (x4 + 1) v124 (x6 + z177) M148 H149 f157 (by omega) (by omega) (by omega) (by omega) (by omega) (by omega) (by omega) (by omega) (by omega)
          · refine s_blx (lv' := [(3, vI t161), (4, vI (x4 + 1)), (5, vI v124), (8, vI 1), (0, vR 77), (1, vI text), (2, vI s), (6, vL x6)]) (st' := [vI s, vI t161, vR 77, vL x6]) B247_101_104 rfl ?_
            refine r_vIp (c := 77) (args := [vI t161, vI s]) (rest := [vL x6]) (pc' := 107) D247_104 rfl ck_11_virtual_243 TE191 rfl (Nat.le_of_ble_eq_true rfl) ⟨Nat.le_of_ble_eq_true rfl, Nat.le_of_ble_eq_true rfl⟩ sc_77 ⟨rfl, by decide⟩ H149.1 (dp_0 hd rfl) (k191 E (dp_n hd rfl) H149 t161 s (by omega) (by omega)) ?_
            intro v179 q182
            have q181 := q182; clear q182
            refine r_i2l (pc' := 108) D247_107 rfl (by unfold inR; omega) ?_
            refine r_goto (tgt := 122) D247_108 rfl ?_
            refine s_blx (lv' := [(6, vL (x6 + v179)), (3, vI t161), (4, vI (x4 + 1)), (5, vI v124), (8, vI 1), (0, vR 77), (1, vI text), (2, vI s)]) (st' := []) B247_122_125 rfl ?_
            refine r_goto (tgt := 11) D247_125 rfl ?_
            refine r_loc (lv' := [(0, vR 77), (1, vI text), (2, vI s), (3, vI t161), (4, vI (x4 + 1)), (5, vI v124), (6, vL (x6 + v179))]) ⟨rfl, rfl, rfl, rfl, rfl, rfl, rfl, trivial⟩ rfl rfl ?_
            exact ih t161 (x4 + 1) v124 (x6 + v179) M148 H149 f157 (by omega) (by omega) (by omega) (by omega) (by omega) (by omega) (by omega) (by omega) (by omega)
set_option maxRecDepth 4000 in
set_option maxHeartbeats 4000000 in
theorem k247k {base : Nat} {X : Nat → Option mC} {G : Nat → Value} (E : EnvOK base X G) {d : Nat} (hd : 69 ≤ d) {M : mH} (H : HI base M) (text : Int) (s : Int) (K : Int → Int) (h0 : TB M) (h1 : KK K M) (h2 : GK M) (h3 : 0 ≤ text ∧ text < K 471) (h4 : text ≤ 7) (h5 : 0 ≤ s ∧ s ≤ 15) (h6 : s < K 469) (h7 : 1 ≤ K (135 + 16 * s + 12 + K 474)) : sOk base X G d T247 [vR 77, vI text, vI s] M (pL (fun v M' => HI base M' ∧ Fr [(77, 7), (77, 8), (77, 9), (77, 10), (77, 14), (77, 15), (77, 16), (77, 41), (77, 42), (77, 43), (77, 46), (77, 47), (83, 0), (84, 0), (85, 0), (100, 0), (101, 0)] M M')) := by
  have f0 : Fr [(77, 7), (77, 8), (77, 9), (77, 10), (77, 14), (77, 15), (77, 16), (77, 41), (77, 42), (77, 43), (77, 46), (77, 47), (83, 0), (84, 0), (85, 0), (100, 0), (101, 0)] M M := Fr.rf
  refine sOk.of (show sRn base X G d T247 0 [(0, vR 77), (1, vI text), (2, vI s)] [] M _ from ?_)
  have klen := H.2 78 (135 + 16 * s) 0 8 (rk_len (by omega))
  rw [h1 (135 + 16 * s)] at klen
  refine s_blx (lv' := [(6, vL 0), (5, vI (-1)), (4, vI 0), (3, vI 0), (0, vR 77), (1, vI text), (2, vI s)]) (st' := []) B247_0_11 rfl ?_
  refine r_loc (lv' := [(0, vR 77), (1, vI text), (2, vI s), (3, vI 0), (4, vI 0), (5, vI (-1)), (6, vL 0)]) ⟨rfl, rfl, rfl, rfl, rfl, rfl, rfl, trivial⟩ rfl rfl ?_
  exact (L_k247k E hd H text s K h0 h1 h2 h3 h4 h5 h6 h7 (((12 - 0) * 1 + 0 : Int) + 1).toNat) 0 0 (-1) 0 M H f0 (by omega) (by omega) (by omega) (by omega) (by omega) (by omega) (by omega) (by omega) (by omega)
set_option maxRecDepth 4000 in
set_option maxHeartbeats 4000000 in
theorem L_k248k {base : Nat} {X : Nat → Option mC} {G : Nat → Value} (E : EnvOK base X G) {d : Nat} (hd : 70 ≤ d) {M : mH} (H : HI base M) (text : Int) (s : Int) (K : Int → Int) (h0 : TB M) (h1 : KK K M) (h2 : GK M) (h3 : -2147483648 ≤ text ∧ text ≤ 2147483647) (h4 : -2147483648 ≤ s ∧ s ≤ 2147483647) : ∀ mz : Nat, (∀ (x3 x4 : Int) (N : mH), HI base N → Fr [(77, 7), (77, 8), (77, 9), (77, 10), (77, 14), (77, 15), (77, 16), (77, 41), (77, 42), (77, 43), (77, 46), (77, 47), (77, 49), (83, 0), (84, 0), (85, 0), (100, 0), (101, 0), (102, 0)] M N → ((-2147483648) ≤ x3) → (x3 ≤ 2147483647) → (0 ≤ x4) → (x4 ≤ 24) → (0 ≤ text) → (text ≤ 7) → (0 ≤ s) → (s ≤ 15) → (24 - x4) * 1 + 0 < (mz : Int) → sRn base X G d T248 37 [(0, vR 77), (3, vI x3), (4, vI x4)] [] N (s_Q base (pI (fun v M' => HI base M' ∧ Fr [(77, 7), (77, 8), (77, 9), (77, 10), (77, 14), (77, 15), (77, 16), (77, 41), (77, 42), (77, 43), (77, 46), (77, 47), (77, 49), (83, 0), (84, 0), (85, 0), (100, 0), (101, 0), (102, 0)] M M' ∧ (-2147483648 ≤ v ∧ v ≤ 2147483647))))) := by
  have f0 : Fr [(77, 7), (77, 8), (77, 9), (77, 10), (77, 14), (77, 15), (77, 16), (77, 41), (77, 42), (77, 43), (77, 46), (77, 47), (77, 49), (83, 0), (84, 0), (85, 0), (100, 0), (101, 0), (102, 0)] M M := Fr.rf
  intro mz
  induction mz with
  | zero => exact fun x3 x4 N _ _ z0 z1 z2 z3 z4 z5 z6 z7 z8 => by omega
  | succ mz ih =>
    intro x3 x4 N HN fN i0 i1 i2 i3 i4 i5 i6 i7 hmu
    refine s_blx (lv' := [(0, vR 77), (3, vI x3), (4, vI x4)]) (st' := [vR 77, vI x4]) B248_37_40 rfl ?_
    refine r_gint (ki := 45) (pc' := 43) D248_40 rfl gf_11_437_77 rfl HN.1 ?_
    intro w29 e30 r31
    have b_w29 := HN.2 77 (45) 0 24 rfl
    rw [← e30] at b_w29; clear r31
    refine r_icmp (tgt := 66) (pc' := 46) D248_43 rfl rfl (by unfold inR; omega) (fun (c32 : w29 ≤ x4) => ?_) (fun (c32 : ¬ (w29 ≤ x4)) => ?_)
    · refine s_blx (lv' := [(0, vR 77), (3, vI x3), (4, vI x4)]) (st' := [vI x3]) B248_66_67 rfl ?_
      exact r_iretI D248_67 rfl (⟨HN, fN, by omega⟩)
    · refine s_blx (lv' := [(0, vR 77), (3, vI x3), (4, vI x4)]) (st' := [vR 77]) B248_46_47 rfl ?_
      refine r_gfix (r := 102) (pc' := 50) D248_47 rfl gf_11_93_77 HN.1 ?_
      refine s_blx (lv' := [(0, vR 77), (3, vI x3), (4, vI x4)]) (st' := [vR 77, vI x4, vR 102]) B248_50_53 rfl ?_
      refine r_gfix (r := 101) (pc' := 56) D248_53 rfl gf_11_90_77 HN.1 ?_
      refine s_blx (lv' := [(0, vR 77), (3, vI x3), (4, vI x4)]) (st' := [vI x4, vR 101, vI x4, vR 102]) B248_56_58 rfl ?_
      refine r_iald (pc' := 59) D248_58 rfl sc_101 HN.1 (by omega) ?_
      intro w33 e34 r35
      unfold inR at r35
      refine r_iast (pc' := 60) D248_59 rfl sc_102 HN (by omega) (by unfold inR; omega) trivial ?_
      intro M36 u37 H38 p39
      have f40 := fN.wr u37 rfl
      refine s_blx (lv' := [(4, vI (x4 + 1)), (0, vR 77), (3, vI x3)]) (st' := []) B248_60_63 rfl ?_
      refine r_goto (tgt := 37) D248_63 rfl ?_
      refine r_loc (lv' := [(0, vR 77), (3, vI x3), (4, vI (x4 + 1))]) ⟨rfl, rfl, rfl, trivial⟩ rfl rfl ?_
      exact ih x3 (x4 + 1) M36 H38 f40 (by omega) (by omega) (by omega) (by omega) (by omega) (by omega) (by omega) (by omega) (by omega)
set_option maxRecDepth 4000 in
set_option maxHeartbeats 4000000 in
theorem k248k {base : Nat} {X : Nat → Option mC} {G : Nat → Value} (E : EnvOK base X G) {d : Nat} (hd : 70 ≤ d) {M : mH} (H : HI base M) (text : Int) (s : Int) (K : Int → Int) (h0 : TB M) (h1 : KK K M) (h2 : GK M) (h3 : -2147483648 ≤ text ∧ text ≤ 2147483647) (h4 : -2147483648 ≤ s ∧ s ≤ 2147483647) : sOk base X G d T248 [vR 77, vI text, vI s] M (pI (fun v M' => HI base M' ∧ Fr [(77, 7), (77, 8), (77, 9), (77, 10), (77, 14), (77, 15), (77, 16), (77, 41), (77, 42), (77, 43), (77, 46), (77, 47), (77, 49), (83, 0), (84, 0), (85, 0), (100, 0), (101, 0), (102, 0)] M M' ∧ (-2147483648 ≤ v ∧ v ≤ 2147483647))) := by
  have f0 : Fr [(77, 7), (77, 8), (77, 9), (77, 10), (77, 14), (77, 15), (77, 16), (77, 41), (77, 42), (77, 43), (77, 46), (77, 47), (77, 49), (83, 0), (84, 0), (85, 0), (100, 0), (101, 0), (102, 0)] M M := Fr.rf
  refine sOk.of (show sRn base X G d T248 0 [(0, vR 77), (1, vI text), (2, vI s)] [] M _ from ?_)
  refine s_blx (lv' := [(0, vR 77), (1, vI text), (2, vI s)]) (st' := [vI text, vR 77]) B248_0_2 rfl ?_
  refine r_vIp (c := 77) (args := [vI text]) (rest := []) (pc' := 5) D248_2 rfl ck_11_virtual_443 TE155 rfl (Nat.le_of_ble_eq_true rfl) ⟨Nat.le_of_ble_eq_true rfl, Nat.le_of_ble_eq_true rfl⟩ sc_77 ⟨rfl, by decide⟩ H.1 (dp_0 hd rfl) (k155k E (dp_n hd rfl) H text K (h1) (by omega)) ?_
  intro v1 q5
  obtain ⟨q3, q4⟩ := q5
  refine r_ifc (tgt := 16) (pc' := 8) D248_5 rfl rfl (by unfold inR; omega) (fun (c6 : v1 = 0) => ?_) (fun (c6 : ¬ (v1 = 0)) => ?_)
  · refine s_blx (lv' := [(0, vR 77), (1, vI text), (2, vI s)]) (st' := [vI (-1)]) B248_16_17 rfl ?_
    exact r_iretI D248_17 rfl (⟨H, f0, by omega⟩)
  · refine s_blx (lv' := [(0, vR 77), (1, vI text), (2, vI s)]) (st' := [vI s, vR 77]) B248_8_10 rfl ?_
    refine r_vIp (c := 77) (args := [vI s]) (rest := []) (pc' := 13) D248_10 rfl ck_11_virtual_164 TE160 rfl (Nat.le_of_ble_eq_true rfl) ⟨Nat.le_of_ble_eq_true rfl, Nat.le_of_ble_eq_true rfl⟩ sc_77 ⟨rfl, by decide⟩ H.1 (dp_0 hd rfl) (k160k E (dp_n hd rfl) H s K (h1) (by omega)) ?_
    intro v7 q11
    obtain ⟨q9, q10⟩ := q11
    refine r_ifc (tgt := 18) (pc' := 16) D248_13 rfl rfl (by unfold inR; omega) (fun (c12 : v7 ≠ 0) => ?_) (fun (c12 : ¬ (v7 ≠ 0)) => ?_)
    · refine s_blx (lv' := [(0, vR 77), (1, vI text), (2, vI s)]) (st' := [vI s, vI text, vR 77]) B248_18_21 rfl ?_
      refine r_vL (c := 77) (args := [vI text, vI s]) (rest := []) (pc' := 24) D248_21 rfl ck_11_virtual_446 TE247 rfl (Nat.le_of_ble_eq_true rfl) ⟨Nat.le_of_ble_eq_true rfl, Nat.le_of_ble_eq_true rfl⟩ sc_77 ⟨rfl, by decide⟩ H.1 (dp_0 hd rfl) (k247k E (dp_n hd rfl) H text s K (h0) (h1) (h2) (by omega) (by omega) (by omega) (by omega) (by omega)) ?_
      intro v13 M14 q17
      obtain ⟨H15, f16⟩ := q17
      have f18 := f0.tr (f16.up rfl)
      refine r_l2i (pc' := 25) D248_24 rfl ?_
      refine r_norm ?_
      intro z19 r20 _; unfold inR at r20
      refine s_blx (lv' := [(3, vI z19), (0, vR 77), (1, vI text), (2, vI s)]) (st' := [vR 77, vR 77]) B248_25_28 rfl ?_
      refine r_gint (ki := 45) (pc' := 31) D248_28 rfl gf_11_437_77 rfl H15.1 ?_
      intro w21 e22 r23
      have b_w21 := H15.2 77 (45) 0 24 rfl
      rw [← e22] at b_w21; clear r23
      refine r_pint (ki := 48) (pc' := 34) D248_31 rfl pf_11_450_77 rfl H15 (by unfold inR; omega) (show 0 ≤ w21 ∧ w21 ≤ 24 by omega) ?_
      intro M24 u25 H26 p27
      have f28 := f18.wr u25 rfl
      refine s_blx (lv' := [(4, vI 0), (3, vI z19), (0, vR 77), (1, vI text), (2, vI s)]) (st' := []) B248_34_37 rfl ?_
      refine r_loc (lv' := [(0, vR 77), (3, vI z19), (4, vI 0)]) ⟨rfl, rfl, rfl, trivial⟩ rfl rfl ?_
      exact (L_k248k E hd H text s K h0 h1 h2 h3 h4 (((24 - 0) * 1 + 0 : Int) + 1).toNat) z19 0 M24 H26 f28 (by omega) (by omega) (by omega) (by omega) (by omega) (by omega) (by omega) (by omega) (by omega)
    · refine s_blx (lv' := [(0, vR 77), (1, vI text), (2, vI s)]) (st' := [vI (-1)]) B248_16_17 rfl ?_
      exact r_iretI D248_17 rfl (⟨H, f0, by omega⟩)
set_option maxRecDepth 4000 in
set_option maxHeartbeats 4000000 in
theorem L_k250k {base : Nat} {X : Nat → Option mC} {G : Nat → Value} (E : EnvOK base X G) {d : Nat} (hd : 70 ≤ d) {M : mH} (H : HI base M) (text : Int) (K : Int → Int) (h0 : TB M) (h1 : KK K M) (h2 : GK M) (h3 : -2147483648 ≤ text ∧ text ≤ 2147483647) : ∀ mz : Nat, (∀ (x2 x4 : Int) (N : mH), HI base N → Fr [(77, 7), (77, 8), (77, 9), (77, 10), (77, 14), (77, 15), (77, 16), (77, 41), (77, 42), (77, 43), (77, 46), (77, 47), (83, 0), (84, 0), (85, 0), (100, 0), (101, 0)] M N → (0 ≤ text ∧ text < K 471) → (text ≤ 7) → (0 ≤ x4) → (x4 ≤ 16) → (0 ≤ text) → (text ≤ 7) → (16 - x4) * 1 + 0 < (mz : Int) → sRn base X G d T250 17 [(0, vR 77), (1, vI text), (2, vL x2), (4, vI x4)] [] N (s_Q base (pL (fun v M' => HI base M' ∧ Fr [(77, 7), (77, 8), (77, 9), (77, 10), (77, 14), (77, 15), (77, 16), (77, 41), (77, 42), (77, 43), (77, 46), (77, 47), (83, 0), (84, 0), (85, 0), (100, 0), (101, 0)] M M')))) := by
  have f0 : Fr [(77, 7), (77, 8), (77, 9), (77, 10), (77, 14), (77, 15), (77, 16), (77, 41), (77, 42), (77, 43), (77, 46), (77, 47), (83, 0), (84, 0), (85, 0), (100, 0), (101, 0)] M M := Fr.rf
  intro mz
  induction mz with
  | zero => exact fun x2 x4 N _ _ z0 z1 z2 z3 z4 z5 z6 => by omega
  | succ mz ih =>
    intro x2 x4 N HN fN i0 i1 i2 i3 i4 i5 hmu
    refine s_blx (lv' := [(0, vR 77), (1, vI text), (2, vL x2), (4, vI x4)]) (st' := [vR 77, vI x4]) B250_17_20 rfl ?_
    refine r_gfix (r := 78) (pc' := 23) D250_20 rfl gf_11_13_77 HN.1 ?_
    refine s_blx (lv' := [(0, vR 77), (1, vI text), (2, vL x2), (4, vI x4)]) (st' := [vI 469, vR 78, vI x4]) B250_23_26 rfl ?_
    refine r_iald (pc' := 27) D250_26 rfl sc_78 HN.1 (by omega) ?_
    intro w7 e8 r9
    have kk_w7 := ((h1.fr fN rfl)) (469)
    have b_w7 := HN.2 78 (469) 0 16 (rk_many (by omega))
    rw [← e8] at b_w7; clear r9
    refine r_icmp (tgt := 63) (pc' := 30) D250_27 rfl rfl (by unfold inR; omega) (fun (c10 : w7 ≤ x4) => ?_) (fun (c10 : ¬ (w7 ≤ x4)) => ?_)
    · refine s_blx (lv' := [(0, vR 77), (1, vI text), (2, vL x2), (4, vI x4)]) (st' := [vL x2]) B250_63_64 rfl ?_
      exact r_lretL D250_64 rfl (⟨HN, fN⟩)
    · refine s_blx (lv' := [(0, vR 77), (1, vI text), (2, vL x2), (4, vI x4)]) (st' := [vI x4, vR 77]) B250_30_33 rfl ?_
      refine r_vIp (c := 77) (args := [vI x4]) (rest := []) (pc' := 36) D250_33 rfl ck_11_virtual_138 TE159 rfl (Nat.le_of_ble_eq_true rfl) ⟨Nat.le_of_ble_eq_true rfl, Nat.le_of_ble_eq_true rfl⟩ sc_77 ⟨rfl, by decide⟩ HN.1 (dp_0 hd rfl) (k159f E (dp_n hd rfl) HN x4 K ((h1.fr fN rfl)) (by omega)) ?_
      intro v11 q15
      obtain ⟨q13, q14⟩ := q15
      have kw := q14; clear q14
      refine r_ifc (tgt := 57) (pc' := 39) D250_36 rfl rfl (by unfold inR; omega) (fun (c16 : v11 ≤ 0) => ?_) (fun (c16 : ¬ (v11 ≤ 0)) => ?_)
      · refine s_blx (lv' := [(4, vI (x4 + 1)), (0, vR 77), (1, vI text), (2, vL x2)]) (st' := []) B250_57_60 rfl ?_
        refine r_goto (tgt := 17) D250_60 rfl ?_
        refine r_loc (lv' := [(0, vR 77), (1, vI text), (2, vL x2), (4, vI (x4 + 1))]) ⟨rfl, rfl, rfl, rfl, trivial⟩ rfl rfl ?_
        exact ih x2 (x4 + 1) N HN fN (by omega) (by omega) (by omega) (by omega) (by omega) (by omega) (by omega)
      · refine s_blx (lv' := [(0, vR 77), (1, vI text), (2, vL x2), (4, vI x4)]) (st' := [vI x4, vR 77, vL x2]) B250_39_43 rfl ?_
        refine r_vIp (c := 77) (args := [vI x4]) (rest := [vL x2]) (pc' := 46) D250_43 rfl ck_11_virtual_138 TE159 rfl (Nat.le_of_ble_eq_true rfl) ⟨Nat.le_of_ble_eq_true rfl, Nat.le_of_ble_eq_true rfl⟩ sc_77 ⟨rfl, by decide⟩ HN.1 (dp_0 hd rfl) (k159f E (dp_n hd rfl) HN x4 K ((h1.fr fN rfl)) (by omega)) ?_
        intro v17 q21
        obtain ⟨q19, q20⟩ := q21
        refine r_i2l (pc' := 47) D250_46 rfl (by unfold inR; omega) ?_
        refine s_blx (lv' := [(0, vR 77), (1, vI text), (2, vL x2), (4, vI x4)]) (st' := [vI x4, vI text, vR 77, vL v17, vL x2]) B250_47_51 rfl ?_
        refine r_vL (c := 77) (args := [vI text, vI x4]) (rest := [vL v17, vL x2]) (pc' := 54) D250_51 rfl ck_11_virtual_446 TE247 rfl (Nat.le_of_ble_eq_true rfl) ⟨Nat.le_of_ble_eq_true rfl, Nat.le_of_ble_eq_true rfl⟩ sc_77 ⟨rfl, by decide⟩ HN.1 (dp_0 hd rfl) (k247k E (dp_n hd rfl) HN text x4 K ((h0.fr fN rfl)) ((h1.fr fN rfl)) ((h2.fr fN rfl)) (by omega) (by omega) (by omega) (by omega) (by omega)) ?_
        intro v22 M23 q26
        obtain ⟨H24, f25⟩ := q26
        have f27 := fN.tr (f25.up rfl)
        refine s_blx (lv' := [(4, vI (x4 + 1)), (2, vL (x2 + (v17 * v22))), (0, vR 77), (1, vI text)]) (st' := []) B250_54_60 rfl ?_
        refine r_goto (tgt := 17) D250_60 rfl ?_
        refine r_loc (lv' := [(0, vR 77), (1, vI text), (2, vL (x2 + (v17 * v22))), (4, vI (x4 + 1))]) ⟨rfl, rfl, rfl, rfl, trivial⟩ rfl rfl ?_
        exact ih (x2 + (v17 * v22)) (x4 + 1) M23 H24 f27 (by omega) (by omega) (by omega) (by omega) (by omega) (by omega) (by omega)
set_option maxRecDepth 4000 in
set_option maxHeartbeats 4000000 in
theorem k250k {base : Nat} {X : Nat → Option mC} {G : Nat → Value} (E : EnvOK base X G) {d : Nat} (hd : 70 ≤ d) {M : mH} (H : HI base M) (text : Int) (K : Int → Int) (h0 : TB M) (h1 : KK K M) (h2 : GK M) (h3 : -2147483648 ≤ text ∧ text ≤ 2147483647) : sOk base X G d T250 [vR 77, vI text] M (pL (fun v M' => HI base M' ∧ Fr [(77, 7), (77, 8), (77, 9), (77, 10), (77, 14), (77, 15), (77, 16), (77, 41), (77, 42), (77, 43), (77, 46), (77, 47), (83, 0), (84, 0), (85, 0), (100, 0), (101, 0)] M M')) := by
  have f0 : Fr [(77, 7), (77, 8), (77, 9), (77, 10), (77, 14), (77, 15), (77, 16), (77, 41), (77, 42), (77, 43), (77, 46), (77, 47), (83, 0), (84, 0), (85, 0), (100, 0), (101, 0)] M M := Fr.rf
  refine sOk.of (show sRn base X G d T250 0 [(0, vR 77), (1, vI text)] [] M _ from ?_)
  refine s_blx (lv' := [(0, vR 77), (1, vI text)]) (st' := [vI text, vR 77]) B250_0_2 rfl ?_
  refine r_vIp (c := 77) (args := [vI text]) (rest := []) (pc' := 5) D250_2 rfl ck_11_virtual_443 TE155 rfl (Nat.le_of_ble_eq_true rfl) ⟨Nat.le_of_ble_eq_true rfl, Nat.le_of_ble_eq_true rfl⟩ sc_77 ⟨rfl, by decide⟩ H.1 (dp_0 hd rfl) (k155k E (dp_n hd rfl) H text K (h1) (by omega)) ?_
  intro v1 q5
  obtain ⟨q3, q4⟩ := q5
  refine r_ifc (tgt := 12) (pc' := 8) D250_5 rfl rfl (by unfold inR; omega) (fun (c6 : v1 ≠ 0) => ?_) (fun (c6 : ¬ (v1 ≠ 0)) => ?_)
  · refine s_blx (lv' := [(4, vI 0), (2, vL 0), (0, vR 77), (1, vI text)]) (st' := []) B250_12_17 rfl ?_
    refine r_loc (lv' := [(0, vR 77), (1, vI text), (2, vL 0), (4, vI 0)]) ⟨rfl, rfl, rfl, rfl, trivial⟩ rfl rfl ?_
    exact (L_k250k E hd H text K h0 h1 h2 h3 (((16 - 0) * 1 + 0 : Int) + 1).toNat) 0 0 M H f0 (by omega) (by omega) (by omega) (by omega) (by omega) (by omega) (by omega)
  · refine r_ldc2 (e := (-1)) (pc' := 11) D250_8 rfl cl_11_296 (by decide) ?_
    exact r_lretL D250_11 rfl (⟨H, f0⟩)
set_option maxRecDepth 4000 in
set_option maxHeartbeats 4000000 in
theorem k261k {base : Nat} {X : Nat → Option mC} {G : Nat → Value} (E : EnvOK base X G) {d : Nat} (hd : 70 ≤ d) {M : mH} (H : HI base M) (text : Int) (s : Int) (slot : Int) (meant : Int) (third : Int) (K : Int → Int) (h0 : TB M) (h1 : KK K M) (h2 : GK M) (h3 : -2147483648 ≤ text ∧ text ≤ 2147483647) (h4 : -2147483648 ≤ s ∧ s ≤ 2147483647) (h5 : -2147483648 ≤ slot ∧ slot ≤ 2147483647) (h6 : -2147483648 ≤ meant ∧ meant ≤ 2147483647) (h7 : -2147483648 ≤ third ∧ third ≤ 2147483647) : sOk base X G d T261 [vR 77, vI text, vI s, vI slot, vI meant, vI third] M (pI (fun v M' => HI base M' ∧ Fr [(77, 7), (77, 8), (77, 9), (77, 10), (77, 14), (77, 15), (77, 16), (77, 41), (77, 42), (77, 43), (77, 46), (77, 47), (83, 0), (84, 0), (85, 0), (100, 0), (101, 0)] M M')) := by
  have f0 : Fr [(77, 7), (77, 8), (77, 9), (77, 10), (77, 14), (77, 15), (77, 16), (77, 41), (77, 42), (77, 43), (77, 46), (77, 47), (83, 0), (84, 0), (85, 0), (100, 0), (101, 0)] M M := Fr.rf
  refine sOk.of (show sRn base X G d T261 0 [(0, vR 77), (1, vI text), (2, vI s), (3, vI slot), (4, vI meant), (5, vI third)] [] M _ from ?_)
  refine s_blx (lv' := [(0, vR 77), (1, vI text), (2, vI s), (3, vI slot), (4, vI meant), (5, vI third)]) (st' := [vI text, vR 77]) B261_0_2 rfl ?_
  refine r_vIp (c := 77) (args := [vI text]) (rest := []) (pc' := 5) D261_2 rfl ck_11_virtual_443 TE155 rfl (Nat.le_of_ble_eq_true rfl) ⟨Nat.le_of_ble_eq_true rfl, Nat.le_of_ble_eq_true rfl⟩ sc_77 ⟨rfl, by decide⟩ H.1 (dp_0 hd rfl) (k155k E (dp_n hd rfl) H text K (h1) (by omega)) ?_
  intro v1 q5
  obtain ⟨q3, q4⟩ := q5
  refine r_ifc (tgt := 47) (pc' := 8) D261_5 rfl rfl (by unfold inR; omega) (fun (c6 : v1 = 0) => ?_) (fun (c6 : ¬ (v1 = 0)) => ?_)
  · refine s_blx (lv' := [(0, vR 77), (1, vI text), (2, vI s), (3, vI slot), (4, vI meant), (5, vI third)]) (st' := [vI (-1)]) B261_47_48 rfl ?_
    exact r_iretI D261_48 rfl (⟨H, f0⟩)
  · refine s_blx (lv' := [(0, vR 77), (1, vI text), (2, vI s), (3, vI slot), (4, vI meant), (5, vI third)]) (st' := [vI s, vR 77]) B261_8_10 rfl ?_
    refine r_vIp (c := 77) (args := [vI s]) (rest := []) (pc' := 13) D261_10 rfl ck_11_virtual_164 TE160 rfl (Nat.le_of_ble_eq_true rfl) ⟨Nat.le_of_ble_eq_true rfl, Nat.le_of_ble_eq_true rfl⟩ sc_77 ⟨rfl, by decide⟩ H.1 (dp_0 hd rfl) (k160k E (dp_n hd rfl) H s K (h1) (by omega)) ?_
    intro v7 q11
    obtain ⟨q9, q10⟩ := q11
    refine r_ifc (tgt := 47) (pc' := 16) D261_13 rfl rfl (by unfold inR; omega) (fun (c12 : v7 = 0) => ?_) (fun (c12 : ¬ (v7 = 0)) => ?_)
    · refine s_blx (lv' := [(0, vR 77), (1, vI text), (2, vI s), (3, vI slot), (4, vI meant), (5, vI third)]) (st' := [vI (-1)]) B261_47_48 rfl ?_
      exact r_iretI D261_48 rfl (⟨H, f0⟩)
    · refine s_blx (lv' := [(0, vR 77), (1, vI text), (2, vI s), (3, vI slot), (4, vI meant), (5, vI third)]) (st' := [vI 2, vI 0, vI slot]) B261_16_19 rfl ?_
      refine r_sIp (args := [vI slot, vI 0, vI 2]) (rest := []) (pc' := 22) D261_19 rfl ck_11_static_123 TE147 rfl (Nat.le_of_ble_eq_true rfl) ⟨Nat.le_of_ble_eq_true rfl, Nat.le_of_ble_eq_true rfl⟩ (by decide) (dp_0 hd rfl) (k147 E (dp_n hd rfl) H slot 0 2 (by omega) (by omega) (by omega)) ?_
      intro v13 q18
      obtain ⟨q15, q16, q17⟩ := q18
      refine r_ifc (tgt := 47) (pc' := 25) D261_22 rfl rfl (by unfold inR; omega) (fun (c19 : v13 = 0) => ?_) (fun (c19 : ¬ (v13 = 0)) => ?_)
      · refine s_blx (lv' := [(0, vR 77), (1, vI text), (2, vI s), (3, vI slot), (4, vI meant), (5, vI third)]) (st' := [vI (-1)]) B261_47_48 rfl ?_
        exact r_iretI D261_48 rfl (⟨H, f0⟩)
      · refine s_blx (lv' := [(0, vR 77), (1, vI text), (2, vI s), (3, vI slot), (4, vI meant), (5, vI third)]) (st' := [vI 7, vI 0, vI meant]) B261_25_30 rfl ?_
        refine r_sIp (args := [vI meant, vI 0, vI 7]) (rest := []) (pc' := 33) D261_30 rfl ck_11_static_123 TE147 rfl (Nat.le_of_ble_eq_true rfl) ⟨Nat.le_of_ble_eq_true rfl, Nat.le_of_ble_eq_true rfl⟩ (by decide) (dp_0 hd rfl) (k147 E (dp_n hd rfl) H meant 0 7 (by omega) (by omega) (by omega)) ?_
        intro v20 q25
        obtain ⟨q22, q23, q24⟩ := q25
        refine r_ifc (tgt := 47) (pc' := 36) D261_33 rfl rfl (by unfold inR; omega) (fun (c26 : v20 = 0) => ?_) (fun (c26 : ¬ (v20 = 0)) => ?_)
        · refine s_blx (lv' := [(0, vR 77), (1, vI text), (2, vI s), (3, vI slot), (4, vI meant), (5, vI third)]) (st' := [vI (-1)]) B261_47_48 rfl ?_
          exact r_iretI D261_48 rfl (⟨H, f0⟩)
        · refine s_blx (lv' := [(0, vR 77), (1, vI text), (2, vI s), (3, vI slot), (4, vI meant), (5, vI third)]) (st' := [vI 7, vI 0, vI third]) B261_36_41 rfl ?_
          refine r_sIp (args := [vI third, vI 0, vI 7]) (rest := []) (pc' := 44) D261_41 rfl ck_11_static_123 TE147 rfl (Nat.le_of_ble_eq_true rfl) ⟨Nat.le_of_ble_eq_true rfl, Nat.le_of_ble_eq_true rfl⟩ (by decide) (dp_0 hd rfl) (k147 E (dp_n hd rfl) H third 0 7 (by omega) (by omega) (by omega)) ?_
          intro v27 q32
          obtain ⟨q29, q30, q31⟩ := q32
          refine r_ifc (tgt := 49) (pc' := 47) D261_44 rfl rfl (by unfold inR; omega) (fun (c33 : v27 ≠ 0) => ?_) (fun (c33 : ¬ (v27 ≠ 0)) => ?_)
          · refine s_blx (lv' := [(0, vR 77), (1, vI text), (2, vI s), (3, vI slot), (4, vI meant), (5, vI third)]) (st' := [vI s, vI text, vR 77]) B261_49_52 rfl ?_
            refine r_vL (c := 77) (args := [vI text, vI s]) (rest := []) (pc' := 55) D261_52 rfl ck_11_virtual_446 TE247 rfl (Nat.le_of_ble_eq_true rfl) ⟨Nat.le_of_ble_eq_true rfl, Nat.le_of_ble_eq_true rfl⟩ sc_77 ⟨rfl, by decide⟩ H.1 (dp_0 hd rfl) (k247k E (dp_n hd rfl) H text s K (h0) (h1) (h2) (by omega) (by omega) (by omega) (by omega) (by omega)) ?_
            intro v34 M35 q38
            obtain ⟨H36, f37⟩ := q38
            have f39 := f0.tr (f37.up rfl)
            refine s_blx (lv' := [(0, vR 77), (1, vI text), (2, vI s), (3, vI slot), (4, vI meant), (5, vI third)]) (st' := [vR 77]) B261_55_57 rfl ?_
            refine r_gfix (r := 82) (pc' := 60) D261_57 rfl gf_11_27_77 H36.1 ?_
            refine s_blx (lv' := [(0, vR 77), (1, vI text), (2, vI s), (3, vI slot), (4, vI meant), (5, vI third)]) (st' := [vR 77, vI 3, vR 82]) B261_60_62 rfl ?_
            refine r_gint (ki := 46) (pc' := 65) D261_62 rfl gf_11_440_77 rfl H36.1 ?_
            intro w40 e41 r42
            have b_w40 := H36.2 77 (46) 0 1110 rfl
            rw [← e41] at b_w40; clear r42
            refine s_blx (lv' := [(0, vR 77), (1, vI text), (2, vI s), (3, vI slot), (4, vI meant), (5, vI third)]) (st' := [vI slot, vR 77, vI (3 * w40), vR 82]) B261_65_68 rfl ?_
            obtain ⟨t43, ht44⟩ : ∃ q, q = gi M35 78 473 := ⟨_, rfl⟩
            have g45 : gi M35 78 473 = t43 := ht44.symm
            refine r_vIp (c := 77) (args := [vI slot]) (rest := [vI (3 * w40), vR 82]) (pc' := 71) D261_68 rfl ck_11_virtual_209 TE185 rfl (Nat.le_of_ble_eq_true rfl) ⟨Nat.le_of_ble_eq_true rfl, Nat.le_of_ble_eq_true rfl⟩ sc_77 ⟨rfl, by decide⟩ H36.1 (dp_0 hd rfl) (k185f E (dp_n hd rfl) H36 slot t43 (by omega) (by omega)) ?_
            intro v46 q50
            obtain ⟨q48, q49⟩ := q50
            refine s_blx (lv' := [(0, vR 77), (1, vI text), (2, vI s), (3, vI slot), (4, vI meant), (5, vI third)]) (st' := [vI ((3 * w40) + v46), vR 82]) B261_71_72 rfl ?_
            refine r_iald (pc' := 73) D261_72 rfl sc_82 H36.1 (by omega) ?_
            intro w51 e52 r53
            have b_w51 := H36.2 82 ((3 * w40) + v46) 0 9 rfl
            rw [← e52] at b_w51; clear r53
            refine s_blx (lv' := [(6, vI w51), (0, vR 77), (1, vI text), (2, vI s), (3, vI slot), (4, vI meant), (5, vI third)]) (st' := [vI slot, vI s, vR 77, vI meant]) B261_73_80 rfl ?_
            refine r_vIp (c := 77) (args := [vI s, vI slot]) (rest := [vI meant]) (pc' := 83) D261_80 rfl ck_11_virtual_161 TE158 rfl (Nat.le_of_ble_eq_true rfl) ⟨Nat.le_of_ble_eq_true rfl, Nat.le_of_ble_eq_true rfl⟩ sc_77 ⟨rfl, by decide⟩ H36.1 (dp_0 hd rfl) (k158f E (dp_n hd rfl) H36 s slot K ((h1.fr f39 rfl)) (by omega) (by omega)) ?_
            intro v54 q58
            obtain ⟨q56, q57⟩ := q58
            refine r_icmp (tgt := 90) (pc' := 86) D261_83 rfl rfl (by unfold inR; omega) (fun (c59 : meant = v54) => ?_) (fun (c59 : ¬ (meant = v54)) => ?_)
            · refine s_blx (lv' := [(6, vI w51), (0, vR 77), (1, vI text), (2, vI s), (3, vI slot), (4, vI meant), (5, vI third)]) (st' := [vI slot, vI s, vR 77, vI w51, vI 0]) B261_90_96 rfl ?_
              refine r_vIp (c := 77) (args := [vI s, vI slot]) (rest := [vI w51, vI 0]) (pc' := 99) D261_96 rfl ck_11_virtual_161 TE158 rfl (Nat.le_of_ble_eq_true rfl) ⟨Nat.le_of_ble_eq_true rfl, Nat.le_of_ble_eq_true rfl⟩ sc_77 ⟨rfl, by decide⟩ H36.1 (dp_0 hd rfl) (k158f E (dp_n hd rfl) H36 s slot K ((h1.fr f39 rfl)) (by omega) (by omega)) ?_
              intro v60 q64
              obtain ⟨q62, q63⟩ := q64
              refine r_icmp (tgt := 106) (pc' := 102) D261_99 rfl rfl (by unfold inR; omega) (fun (c65 : w51 = v60) => ?_) (fun (c65 : ¬ (w51 = v60)) => ?_)
              · refine s_blx (lv' := [(6, vI w51), (0, vR 77), (1, vI text), (2, vI s), (3, vI slot), (4, vI meant), (5, vI third)]) (st' := [vI w51, vI third, vI (0 + 0)]) B261_106_112 rfl ?_
                refine r_icmp (tgt := 119) (pc' := 115) D261_112 rfl rfl (by unfold inR; omega) (fun (c66 : third = w51) => ?_) (fun (c66 : ¬ (third = w51)) => ?_)
                · refine s_blx (lv' := [(6, vI w51), (0, vR 77), (1, vI text), (2, vI s), (3, vI slot), (4, vI meant), (5, vI third)]) (st' := [vI ((0 + 0) + 0)]) B261_119_121 rfl ?_
                  exact r_iretI D261_121 rfl (⟨H36, f39⟩)
                · refine s_blx (lv' := [(6, vI w51), (0, vR 77), (1, vI text), (2, vI s), (3, vI slot), (4, vI meant), (5, vI third)]) (st' := [vI 4, vI (0 + 0)]) B261_115_116 rfl ?_
                  refine r_goto (tgt := 120) D261_116 rfl ?_
                  refine s_blx (lv' := [(6, vI w51), (0, vR 77), (1, vI text), (2, vI s), (3, vI slot), (4, vI meant), (5, vI third)]) (st' := [vI ((0 + 0) + 4)]) B261_120_121 rfl ?_
                  exact r_iretI D261_121 rfl (⟨H36, f39⟩)
              · refine s_blx (lv' := [(6, vI w51), (0, vR 77), (1, vI text), (2, vI s), (3, vI slot), (4, vI meant), (5, vI third)]) (st' := [vI 2, vI 0]) B261_102_103 rfl ?_
                refine r_goto (tgt := 107) D261_103 rfl ?_
                refine s_blx (lv' := [(6, vI w51), (0, vR 77), (1, vI text), (2, vI s), (3, vI slot), (4, vI meant), (5, vI third)]) (st' := [vI w51, vI third, vI (0 + 2)]) B261_107_112 rfl ?_
                refine r_icmp (tgt := 119) (pc' := 115) D261_112 rfl rfl (by unfold inR; omega) (fun (c67 : third = w51) => ?_) (fun (c67 : ¬ (third = w51)) => ?_)
                · refine s_blx (lv' := [(6, vI w51), (0, vR 77), (1, vI text), (2, vI s), (3, vI slot), (4, vI meant), (5, vI third)]) (st' := [vI ((0 + 2) + 0)]) B261_119_121 rfl ?_
                  exact r_iretI D261_121 rfl (⟨H36, f39⟩)
                · refine s_blx (lv' := [(6, vI w51), (0, vR 77), (1, vI text), (2, vI s), (3, vI slot), (4, vI meant), (5, vI third)]) (st' := [vI 4, vI (0 + 2)]) B261_115_116 rfl ?_
                  refine r_goto (tgt := 120) D261_116 rfl ?_
                  refine s_blx (lv' := [(6, vI w51), (0, vR 77), (1, vI text), (2, vI s), (3, vI slot), (4, vI meant), (5, vI third)]) (st' := [vI ((0 + 2) + 4)]) B261_120_121 rfl ?_
                  exact r_iretI D261_121 rfl (⟨H36, f39⟩)
            · refine s_blx (lv' := [(6, vI w51), (0, vR 77), (1, vI text), (2, vI s), (3, vI slot), (4, vI meant), (5, vI third)]) (st' := [vI 1]) B261_86_87 rfl ?_
              refine r_goto (tgt := 91) D261_87 rfl ?_
              refine s_blx (lv' := [(6, vI w51), (0, vR 77), (1, vI text), (2, vI s), (3, vI slot), (4, vI meant), (5, vI third)]) (st' := [vI slot, vI s, vR 77, vI w51, vI 1]) B261_91_96 rfl ?_
              refine r_vIp (c := 77) (args := [vI s, vI slot]) (rest := [vI w51, vI 1]) (pc' := 99) D261_96 rfl ck_11_virtual_161 TE158 rfl (Nat.le_of_ble_eq_true rfl) ⟨Nat.le_of_ble_eq_true rfl, Nat.le_of_ble_eq_true rfl⟩ sc_77 ⟨rfl, by decide⟩ H36.1 (dp_0 hd rfl) (k158f E (dp_n hd rfl) H36 s slot K ((h1.fr f39 rfl)) (by omega) (by omega)) ?_
              intro v68 q72
              obtain ⟨q70, q71⟩ := q72
              refine r_icmp (tgt := 106) (pc' := 102) D261_99 rfl rfl (by unfold inR; omega) (fun (c73 : w51 = v68) => ?_) (fun (c73 : ¬ (w51 = v68)) => ?_)
              · refine s_blx (lv' := [(6, vI w51), (0, vR 77), (1, vI text), (2, vI s), (3, vI slot), (4, vI meant), (5, vI third)]) (st' := [vI w51, vI third, vI (1 + 0)]) B261_106_112 rfl ?_
                refine r_icmp (tgt := 119) (pc' := 115) D261_112 rfl rfl (by unfold inR; omega) (fun (c74 : third = w51) => ?_) (fun (c74 : ¬ (third = w51)) => ?_)
                · refine s_blx (lv' := [(6, vI w51), (0, vR 77), (1, vI text), (2, vI s), (3, vI slot), (4, vI meant), (5, vI third)]) (st' := [vI ((1 + 0) + 0)]) B261_119_121 rfl ?_
                  exact r_iretI D261_121 rfl (⟨H36, f39⟩)
                · refine s_blx (lv' := [(6, vI w51), (0, vR 77), (1, vI text), (2, vI s), (3, vI slot), (4, vI meant), (5, vI third)]) (st' := [vI 4, vI (1 + 0)]) B261_115_116 rfl ?_
                  refine r_goto (tgt := 120) D261_116 rfl ?_
                  refine s_blx (lv' := [(6, vI w51), (0, vR 77), (1, vI text), (2, vI s), (3, vI slot), (4, vI meant), (5, vI third)]) (st' := [vI ((1 + 0) + 4)]) B261_120_121 rfl ?_
                  exact r_iretI D261_121 rfl (⟨H36, f39⟩)
              · refine s_blx (lv' := [(6, vI w51), (0, vR 77), (1, vI text), (2, vI s), (3, vI slot), (4, vI meant), (5, vI third)]) (st' := [vI 2, vI 1]) B261_102_103 rfl ?_
                refine r_goto (tgt := 107) D261_103 rfl ?_
                refine s_blx (lv' := [(6, vI w51), (0, vR 77), (1, vI text), (2, vI s), (3, vI slot), (4, vI meant), (5, vI third)]) (st' := [vI w51, vI third, vI (1 + 2)]) B261_107_112 rfl ?_
                refine r_icmp (tgt := 119) (pc' := 115) D261_112 rfl rfl (by unfold inR; omega) (fun (c75 : third = w51) => ?_) (fun (c75 : ¬ (third = w51)) => ?_)
                · refine s_blx (lv' := [(6, vI w51), (0, vR 77), (1, vI text), (2, vI s), (3, vI slot), (4, vI meant), (5, vI third)]) (st' := [vI ((1 + 2) + 0)]) B261_119_121 rfl ?_
                  exact r_iretI D261_121 rfl (⟨H36, f39⟩)
                · refine s_blx (lv' := [(6, vI w51), (0, vR 77), (1, vI text), (2, vI s), (3, vI slot), (4, vI meant), (5, vI third)]) (st' := [vI 4, vI (1 + 2)]) B261_115_116 rfl ?_
                  refine r_goto (tgt := 120) D261_116 rfl ?_
                  refine s_blx (lv' := [(6, vI w51), (0, vR 77), (1, vI text), (2, vI s), (3, vI slot), (4, vI meant), (5, vI third)]) (st' := [vI ((1 + 2) + 4)]) B261_120_121 rfl ?_
                  exact r_iretI D261_121 rfl (⟨H36, f39⟩)
          · refine s_blx (lv' := [(0, vR 77), (1, vI text), (2, vI s), (3, vI slot), (4, vI meant), (5, vI third)]) (st' := [vI (-1)]) B261_47_48 rfl ?_
            exact r_iretI D261_48 rfl (⟨H, f0⟩)
set_option maxRecDepth 4000 in
set_option maxHeartbeats 4000000 in
theorem L_k262k {base : Nat} {X : Nat → Option mC} {G : Nat → Value} (E : EnvOK base X G) {d : Nat} (hd : 70 ≤ d) {M : mH} (H : HI base M) (s : Int) (K : Int → Int) (h0 : TB M) (h1 : KK K M) (h2 : GK M) (h3 : -2147483648 ≤ s ∧ s ≤ 2147483647) : ∀ mz : Nat, (∀ (x2 x3 x4 : Int) (N : mH), HI base N → Fr [(77, 7), (77, 8), (77, 9), (77, 10), (77, 14), (77, 15), (77, 16), (77, 32), (77, 41), (77, 42), (77, 43), (77, 46), (77, 47), (83, 0), (84, 0), (85, 0), (100, 0), (101, 0)] M N → (0 ≤ s ∧ s ≤ 15) → (s < K 469) → (1 ≤ K (135 + 16 * s + 12 + K 474)) → (0 ≤ x2) → (x2 ≤ 400) → ((-2147483648) ≤ x3) → (x3 ≤ 2147483647) → (0 ≤ x4) → (x4 ≤ 8) → (0 ≤ s) → (s ≤ 15) → (8 - x4) * 402 + 401 < (mz : Int) → sRn base X G d T262 25 [(0, vR 77), (1, vI s), (2, vI x2), (3, vI x3), (4, vI x4)] [] N (s_Q base (pI (fun v M' => HI base M' ∧ Fr [(77, 7), (77, 8), (77, 9), (77, 10), (77, 14), (77, 15), (77, 16), (77, 32), (77, 41), (77, 42), (77, 43), (77, 46), (77, 47), (83, 0), (84, 0), (85, 0), (100, 0), (101, 0)] M M' ∧ (-2147483648 ≤ v ∧ v ≤ 2147483647))))) ∧ (∀ (x2 x3 x4 x5 x6 : Int) (N : mH), HI base N → Fr [(77, 7), (77, 8), (77, 9), (77, 10), (77, 14), (77, 15), (77, 16), (77, 32), (77, 41), (77, 42), (77, 43), (77, 46), (77, 47), (83, 0), (84, 0), (85, 0), (100, 0), (101, 0)] M N → (x5 = 1 → x2 ≤ 24) → (0 ≤ s ∧ s ≤ 15) → (s < K 469) → (1 ≤ K (135 + 16 * s + 12 + K 474)) → (0 ≤ x2) → (x2 ≤ 400) → ((-2147483648) ≤ x3) → (x3 ≤ 2147483647) → (0 ≤ x4) → (x4 ≤ 7) → (0 ≤ x5) → (x5 ≤ 1) → (0 ≤ x6) → (x6 ≤ 400) → (0 ≤ s) → (s ≤ 15) → (8 - x4) * 402 + 0 + (400 - x6) * 1 + 0 < (mz : Int) → sRn base X G d T262 64 [(0, vR 77), (1, vI s), (2, vI x2), (3, vI x3), (4, vI x4), (5, vI x5), (6, vI x6)] [] N (s_Q base (pI (fun v M' => HI base M' ∧ Fr [(77, 7), (77, 8), (77, 9), (77, 10), (77, 14), (77, 15), (77, 16), (77, 32), (77, 41), (77, 42), (77, 43), (77, 46), (77, 47), (83, 0), (84, 0), (85, 0), (100, 0), (101, 0)] M M' ∧ (-2147483648 ≤ v ∧ v ≤ 2147483647))))) := by
  have f0 : Fr [(77, 7), (77, 8), (77, 9), (77, 10), (77, 14), (77, 15), (77, 16), (77, 32), (77, 41), (77, 42), (77, 43), (77, 46), (77, 47), (83, 0), (84, 0), (85, 0), (100, 0), (101, 0)] M M := Fr.rf
  intro mz
  induction mz with
  | zero => exact ⟨fun x2 x3 x4 N _ _ z0 z1 z2 z3 z4 z5 z6 z7 z8 z9 z10 z11 => by omega, fun x2 x3 x4 x5 x6 N _ _ z0 z1 z2 z3 z4 z5 z6 z7 z8 z9 z10 z11 z12 z13 z14 z15 z16 => by omega⟩
  | succ mz ih =>
    refine ⟨?_, ?_⟩
    · intro x2 x3 x4 N HN fN i0 i1 i2 i3 i4 i5 i6 i7 i8 i9 i10 hmu
      refine s_blx (lv' := [(0, vR 77), (1, vI s), (2, vI x2), (3, vI x3), (4, vI x4)]) (st' := [vR 77, vI x4]) B262_25_28 rfl ?_
      refine r_gfix (r := 78) (pc' := 31) D262_28 rfl gf_11_13_77 HN.1 ?_
      refine s_blx (lv' := [(0, vR 77), (1, vI s), (2, vI x2), (3, vI x3), (4, vI x4)]) (st' := [vI 471, vR 78, vI x4]) B262_31_34 rfl ?_
      refine r_iald (pc' := 35) D262_34 rfl sc_78 HN.1 (by omega) ?_
      intro w15 e16 r17
      have kk_w15 := ((h1.fr fN rfl)) (471)
      have b_w15 := HN.2 78 (471) 0 8 (rk_told (by omega))
      rw [← e16] at b_w15; clear r17
      refine r_icmp (tgt := 140) (pc' := 38) D262_35 rfl rfl (by unfold inR; omega) (fun (c18 : w15 ≤ x4) => ?_) (fun (c18 : ¬ (w15 ≤ x4)) => ?_)
      · refine s_blx (lv' := [(0, vR 77), (1, vI s), (2, vI x2), (3, vI x3), (4, vI x4)]) (st' := [vI x3]) B262_140_141 rfl ?_
        exact r_iretI D262_141 rfl (⟨HN, fN, by omega⟩)
      · refine s_blx (lv' := [(0, vR 77), (1, vI s), (2, vI x2), (3, vI x3), (4, vI x4)]) (st' := [vI s, vI x4, vR 77]) B262_38_42 rfl ?_
        refine r_vL (c := 77) (args := [vI x4, vI s]) (rest := []) (pc' := 45) D262_42 rfl ck_11_virtual_446 TE247 rfl (Nat.le_of_ble_eq_true rfl) ⟨Nat.le_of_ble_eq_true rfl, Nat.le_of_ble_eq_true rfl⟩ sc_77 ⟨rfl, by decide⟩ HN.1 (dp_0 hd rfl) (k247k E (dp_n hd rfl) HN x4 s K ((h0.fr fN rfl)) ((h1.fr fN rfl)) ((h2.fr fN rfl)) (by omega) (by omega) (by omega) (by omega) (by omega)) ?_
        intro v19 M20 q23
        obtain ⟨H21, f22⟩ := q23
        have f24 := fN.tr (f22.up rfl)
        refine s_blx (lv' := [(0, vR 77), (1, vI s), (2, vI x2), (3, vI x3), (4, vI x4)]) (st' := [vR 77]) B262_45_47 rfl ?_
        refine r_gint (ki := 45) (pc' := 50) D262_47 rfl gf_11_437_77 rfl H21.1 ?_
        intro w25 e26 r27
        have b_w25 := H21.2 77 (45) 0 24 rfl
        rw [← e26] at b_w25; clear r27
        refine s_blx (lv' := [(0, vR 77), (1, vI s), (2, vI x2), (3, vI x3), (4, vI x4)]) (st' := [vI x2, vI w25]) B262_50_51 rfl ?_
        refine r_icmp (tgt := 58) (pc' := 54) D262_51 rfl rfl (by unfold inR; omega) (fun (c28 : w25 ≠ x2) => ?_) (fun (c28 : ¬ (w25 ≠ x2)) => ?_)
        · refine s_blx (lv' := [(6, vI 0), (5, vI 0), (0, vR 77), (1, vI s), (2, vI x2), (3, vI x3), (4, vI x4)]) (st' := []) B262_58_64 rfl ?_
          refine r_loc (lv' := [(0, vR 77), (1, vI s), (2, vI x2), (3, vI x3), (4, vI x4), (5, vI 0), (6, vI 0)]) ⟨rfl, rfl, rfl, rfl, rfl, rfl, rfl, trivial⟩ rfl rfl ?_
          exact ih.2 x2 x3 x4 0 0 M20 H21 f24 (by omega) (by omega) (by omega) (by omega) (by omega) (by omega) (by omega) (by omega) (by omega) (by omega) (by omega) (by omega) (by omega) (by omega) (by omega) (by omega) (by omega)
        · refine s_blx (lv' := [(0, vR 77), (1, vI s), (2, vI x2), (3, vI x3), (4, vI x4)]) (st' := [vI 1]) B262_54_55 rfl ?_
          refine r_goto (tgt := 59) D262_55 rfl ?_
          refine s_blx (lv' := [(6, vI 0), (5, vI 1), (0, vR 77), (1, vI s), (2, vI x2), (3, vI x3), (4, vI x4)]) (st' := []) B262_59_64 rfl ?_
          refine r_loc (lv' := [(0, vR 77), (1, vI s), (2, vI x2), (3, vI x3), (4, vI x4), (5, vI 1), (6, vI 0)]) ⟨rfl, rfl, rfl, rfl, rfl, rfl, rfl, trivial⟩ rfl rfl ?_
          exact ih.2 x2 x3 x4 1 0 M20 H21 f24 (by omega) (by omega) (by omega) (by omega) (by omega) (by omega) (by omega) (by omega) (by omega) (by omega) (by omega) (by omega) (by omega) (by omega) (by omega) (by omega) (by omega)
    · intro x2 x3 x4 x5 x6 N HN fN i0 i1 i2 i3 i4 i5 i6 i7 i8 i9 i10 i11 i12 i13 i14 i15 hmu
      refine s_blx (lv' := [(0, vR 77), (1, vI s), (2, vI x2), (3, vI x3), (4, vI x4), (5, vI x5), (6, vI x6)]) (st' := [vI x2, vI x6]) B262_64_67 rfl ?_
      refine r_icmp (tgt := 122) (pc' := 70) D262_67 rfl rfl (by unfold inR; omega) (fun (c29 : x2 ≤ x6) => ?_) (fun (c29 : ¬ (x2 ≤ x6)) => ?_)
      · refine s_blx (lv' := [(0, vR 77), (1, vI s), (2, vI x2), (3, vI x3), (4, vI x4), (5, vI x5), (6, vI x6)]) (st' := [vI x5]) B262_122_124 rfl ?_
        refine r_ifc (tgt := 134) (pc' := 127) D262_124 rfl rfl (by unfold inR; omega) (fun (c30 : x5 = 0) => ?_) (fun (c30 : ¬ (x5 = 0)) => ?_)
        · refine s_blx (lv' := [(4, vI (x4 + 1)), (0, vR 77), (1, vI s), (2, vI x2), (3, vI x3), (5, vI x5), (6, vI x6)]) (st' := []) B262_134_137 rfl ?_
          refine r_goto (tgt := 25) D262_137 rfl ?_
          refine r_loc (lv' := [(0, vR 77), (1, vI s), (2, vI x2), (3, vI x3), (4, vI (x4 + 1))]) ⟨rfl, rfl, rfl, rfl, rfl, trivial⟩ rfl rfl ?_
          exact ih.1 x2 x3 (x4 + 1) N HN fN (by omega) (by omega) (by omega) (by omega) (by omega) (by omega) (by omega) (by omega) (by omega) (by omega) (by omega) (by omega)
        · refine s_blx (lv' := [(0, vR 77), (1, vI s), (2, vI x2), (3, vI x3), (4, vI x4), (5, vI x5), (6, vI x6)]) (st' := [vI x4, vI 1, vI x3]) B262_127_131 rfl ?_
          refine r_bin (pc' := 132) D262_131 rfl rfl ?_
          intro z31 r32 _; unfold inR at r32
          refine r_bin (pc' := 133) D262_132 rfl rfl ?_
          intro z33 r34 _; unfold inR at r34
          refine s_blx (lv' := [(4, vI (x4 + 1)), (3, vI z33), (0, vR 77), (1, vI s), (2, vI x2), (5, vI x5), (6, vI x6)]) (st' := []) B262_133_137 rfl ?_
          refine r_goto (tgt := 25) D262_137 rfl ?_
          refine r_loc (lv' := [(0, vR 77), (1, vI s), (2, vI x2), (3, vI z33), (4, vI (x4 + 1))]) ⟨rfl, rfl, rfl, rfl, rfl, trivial⟩ rfl rfl ?_
          exact ih.1 x2 z33 (x4 + 1) N HN fN (by omega) (by omega) (by omega) (by omega) (by omega) (by omega) (by omega) (by omega) (by omega) (by omega) (by omega) (by omega)
      · refine s_blx (lv' := [(0, vR 77), (1, vI s), (2, vI x2), (3, vI x3), (4, vI x4), (5, vI x5), (6, vI x6)]) (st' := [vI x5]) B262_70_72 rfl ?_
        refine r_ifc (tgt := 122) (pc' := 75) D262_72 rfl rfl (by unfold inR; omega) (fun (c35 : x5 = 0) => ?_) (fun (c35 : ¬ (x5 = 0)) => ?_)
        · refine s_blx (lv' := [(0, vR 77), (1, vI s), (2, vI x2), (3, vI x3), (4, vI x4), (5, vI x5), (6, vI x6)]) (st' := [vI x5]) B262_122_124 rfl ?_
          refine r_ifc (tgt := 134) (pc' := 127) D262_124 rfl rfl (by unfold inR; omega) (fun (c36 : x5 = 0) => ?_) (fun (c36 : ¬ (x5 = 0)) => ?_)
          · refine s_blx (lv' := [(4, vI (x4 + 1)), (0, vR 77), (1, vI s), (2, vI x2), (3, vI x3), (5, vI x5), (6, vI x6)]) (st' := []) B262_134_137 rfl ?_
            refine r_goto (tgt := 25) D262_137 rfl ?_
            refine r_loc (lv' := [(0, vR 77), (1, vI s), (2, vI x2), (3, vI x3), (4, vI (x4 + 1))]) ⟨rfl, rfl, rfl, rfl, rfl, trivial⟩ rfl rfl ?_
            exact ih.1 x2 x3 (x4 + 1) N HN fN (by omega) (by omega) (by omega) (by omega) (by omega) (by omega) (by omega) (by omega) (by omega) (by omega) (by omega) (by omega)
          · exfalso; omega
        · refine s_blx (lv' := [(0, vR 77), (1, vI s), (2, vI x2), (3, vI x3), (4, vI x4), (5, vI x5), (6, vI x6)]) (st' := [vR 77]) B262_75_76 rfl ?_
          refine r_gfix (r := 95) (pc' := 79) D262_76 rfl gf_11_69_77 HN.1 ?_
          refine s_blx (lv' := [(0, vR 77), (1, vI s), (2, vI x2), (3, vI x3), (4, vI x4), (5, vI x5), (6, vI x6)]) (st' := [vI x6, vR 95]) B262_79_81 rfl ?_
          refine r_bald (pc' := 82) D262_81 rfl sc_95 (by decide) HN.1 (by omega) ?_
          intro w37 e38 r39
          have b_w37 := HN.2 95 (x6) (-128) 127 rfl
          rw [← e38] at b_w37; clear r39
          refine s_blx (lv' := [(0, vR 77), (1, vI s), (2, vI x2), (3, vI x3), (4, vI x4), (5, vI x5), (6, vI x6)]) (st' := [vI 255, vI w37]) B262_82_85 rfl ?_
          refine r_and255 (pc' := 86) D262_85 rfl ?_
          refine s_blx (lv' := [(0, vR 77), (1, vI s), (2, vI x2), (3, vI x3), (4, vI x4), (5, vI x5), (6, vI x6)]) (st' := [vI 255, vI (w37 % 256)]) B262_86_89 rfl ?_
          refine r_icmp (tgt := 109) (pc' := 92) D262_89 rfl rfl (by unfold inR; omega) (fun (c40 : (w37 % 256) = 255) => ?_) (fun (c40 : ¬ ((w37 % 256) = 255)) => ?_)
          · refine s_blx (lv' := [(0, vR 77), (1, vI s), (2, vI x2), (3, vI x3), (4, vI x4), (5, vI x5), (6, vI x6)]) (st' := [vI 1]) B262_109_110 rfl ?_
            refine r_goto (tgt := 114) D262_110 rfl ?_
            refine s_blx (lv' := [(6, vI (x6 + 1)), (5, vI 1), (0, vR 77), (1, vI s), (2, vI x2), (3, vI x3), (4, vI x4)]) (st' := []) B262_114_119 rfl ?_
            refine r_goto (tgt := 64) D262_119 rfl ?_
            refine r_loc (lv' := [(0, vR 77), (1, vI s), (2, vI x2), (3, vI x3), (4, vI x4), (5, vI 1), (6, vI (x6 + 1))]) ⟨rfl, rfl, rfl, rfl, rfl, rfl, rfl, trivial⟩ rfl rfl ?_
            exact ih.2 x2 x3 x4 1 (x6 + 1) N HN fN (by omega) (by omega) (by omega) (by omega) (by omega) (by omega) (by omega) (by omega) (by omega) (by omega) (by omega) (by omega) (by omega) (by omega) (by omega) (by omega) (by omega)
          · refine s_blx (lv' := [(0, vR 77), (1, vI s), (2, vI x2), (3, vI x3), (4, vI x4), (5, vI x5), (6, vI x6)]) (st' := [vR 77]) B262_92_93 rfl ?_
            refine r_gfix (r := 95) (pc' := 96) D262_93 rfl gf_11_69_77 HN.1 ?_
            refine s_blx (lv' := [(0, vR 77), (1, vI s), (2, vI x2), (3, vI x3), (4, vI x4), (5, vI x5), (6, vI x6)]) (st' := [vI x6, vR 95]) B262_96_98 rfl ?_
            refine r_bald (pc' := 99) D262_98 rfl sc_95 (by decide) HN.1 (by omega) ?_
            intro w41 e42 r43
            have e44 : w37 = w41 := (e42.trans (e38.symm)).symm
            subst e44
            refine s_blx (lv' := [(0, vR 77), (1, vI s), (2, vI x2), (3, vI x3), (4, vI x4), (5, vI x5), (6, vI x6)]) (st' := [vR 77, vI w37]) B262_99_100 rfl ?_
            refine r_gfix (r := 101) (pc' := 103) D262_100 rfl gf_11_90_77 HN.1 ?_
            refine s_blx (lv' := [(0, vR 77), (1, vI s), (2, vI x2), (3, vI x3), (4, vI x4), (5, vI x5), (6, vI x6)]) (st' := [vI x6, vR 101, vI w37]) B262_103_105 rfl ?_
            refine r_iald (pc' := 106) D262_105 rfl sc_101 HN.1 (by omega) ?_
            intro w45 e46 r47
            unfold inR at r47
            refine r_icmp (tgt := 113) (pc' := 109) D262_106 rfl rfl (by unfold inR; omega) (fun (c48 : w37 ≠ w45) => ?_) (fun (c48 : ¬ (w37 ≠ w45)) => ?_)
            · refine s_blx (lv' := [(6, vI (x6 + 1)), (5, vI 0), (0, vR 77), (1, vI s), (2, vI x2), (3, vI x3), (4, vI x4)]) (st' := []) B262_113_119 rfl ?_
              refine r_goto (tgt := 64) D262_119 rfl ?_
              refine r_loc (lv' := [(0, vR 77), (1, vI s), (2, vI x2), (3, vI x3), (4, vI x4), (5, vI 0), (6, vI (x6 + 1))]) ⟨rfl, rfl, rfl, rfl, rfl, rfl, rfl, trivial⟩ rfl rfl ?_
              exact ih.2 x2 x3 x4 0 (x6 + 1) N HN fN (by omega) (by omega) (by omega) (by omega) (by omega) (by omega) (by omega) (by omega) (by omega) (by omega) (by omega) (by omega) (by omega) (by omega) (by omega) (by omega) (by omega)
            · refine s_blx (lv' := [(0, vR 77), (1, vI s), (2, vI x2), (3, vI x3), (4, vI x4), (5, vI x5), (6, vI x6)]) (st' := [vI 1]) B262_109_110 rfl ?_
              refine r_goto (tgt := 114) D262_110 rfl ?_
              refine s_blx (lv' := [(6, vI (x6 + 1)), (5, vI 1), (0, vR 77), (1, vI s), (2, vI x2), (3, vI x3), (4, vI x4)]) (st' := []) B262_114_119 rfl ?_
              refine r_goto (tgt := 64) D262_119 rfl ?_
              refine r_loc (lv' := [(0, vR 77), (1, vI s), (2, vI x2), (3, vI x3), (4, vI x4), (5, vI 1), (6, vI (x6 + 1))]) ⟨rfl, rfl, rfl, rfl, rfl, rfl, rfl, trivial⟩ rfl rfl ?_
              exact ih.2 x2 x3 x4 1 (x6 + 1) N HN fN (by omega) (by omega) (by omega) (by omega) (by omega) (by omega) (by omega) (by omega) (by omega) (by omega) (by omega) (by omega) (by omega) (by omega) (by omega) (by omega) (by omega)
set_option maxRecDepth 4000 in
set_option maxHeartbeats 4000000 in
theorem k262k {base : Nat} {X : Nat → Option mC} {G : Nat → Value} (E : EnvOK base X G) {d : Nat} (hd : 70 ≤ d) {M : mH} (H : HI base M) (s : Int) (K : Int → Int) (h0 : TB M) (h1 : KK K M) (h2 : GK M) (h3 : -2147483648 ≤ s ∧ s ≤ 2147483647) : sOk base X G d T262 [vR 77, vI s] M (pI (fun v M' => HI base M' ∧ Fr [(77, 7), (77, 8), (77, 9), (77, 10), (77, 14), (77, 15), (77, 16), (77, 32), (77, 41), (77, 42), (77, 43), (77, 46), (77, 47), (83, 0), (84, 0), (85, 0), (100, 0), (101, 0)] M M' ∧ (-2147483648 ≤ v ∧ v ≤ 2147483647))) := by
  have f0 : Fr [(77, 7), (77, 8), (77, 9), (77, 10), (77, 14), (77, 15), (77, 16), (77, 32), (77, 41), (77, 42), (77, 43), (77, 46), (77, 47), (83, 0), (84, 0), (85, 0), (100, 0), (101, 0)] M M := Fr.rf
  refine sOk.of (show sRn base X G d T262 0 [(0, vR 77), (1, vI s)] [] M _ from ?_)
  refine s_blx (lv' := [(0, vR 77), (1, vI s)]) (st' := [vR 77]) B262_0_1 rfl ?_
  refine r_gint (ki := 31) (pc' := 4) D262_1 rfl gf_11_151_77 rfl H.1 ?_
  intro w1 e2 r3
  have b_w1 := H.2 77 (31) 0 400 rfl
  rw [← e2] at b_w1; clear r3
  refine s_blx (lv' := [(2, vI w1), (0, vR 77), (1, vI s)]) (st' := [vI 0, vR 77]) B262_4_7 rfl ?_
  refine r_pint (ki := 31) (pc' := 10) D262_7 rfl pf_11_151_77 rfl H (by unfold inR; omega) (show 0 ≤ 0 ∧ 0 ≤ 400 by omega) ?_
  intro M4 u5 H6 p7
  have f8 := f0.wr u5 rfl
  refine s_blx (lv' := [(2, vI w1), (0, vR 77), (1, vI s)]) (st' := [vI s, vR 77]) B262_10_12 rfl ?_
  refine r_vIp (c := 77) (args := [vI s]) (rest := []) (pc' := 15) D262_12 rfl ck_11_virtual_164 TE160 rfl (Nat.le_of_ble_eq_true rfl) ⟨Nat.le_of_ble_eq_true rfl, Nat.le_of_ble_eq_true rfl⟩ sc_77 ⟨rfl, by decide⟩ H6.1 (dp_0 hd rfl) (k160k E (dp_n hd rfl) H6 s K ((h1.fr f8 rfl)) (by omega)) ?_
  intro v9 q13
  obtain ⟨q11, q12⟩ := q13
  refine r_ifc (tgt := 20) (pc' := 18) D262_15 rfl rfl (by unfold inR; omega) (fun (c14 : v9 ≠ 0) => ?_) (fun (c14 : ¬ (v9 ≠ 0)) => ?_)
  · refine s_blx (lv' := [(4, vI 0), (3, vI 0), (2, vI w1), (0, vR 77), (1, vI s)]) (st' := []) B262_20_25 rfl ?_
    refine r_loc (lv' := [(0, vR 77), (1, vI s), (2, vI w1), (3, vI 0), (4, vI 0)]) ⟨rfl, rfl, rfl, rfl, rfl, trivial⟩ rfl rfl ?_
    exact (L_k262k E hd H s K h0 h1 h2 h3 (((8 - 0) * 402 + 401 : Int) + 1).toNat).1 w1 0 0 M4 H6 f8 (by omega) (by omega) (by omega) (by omega) (by omega) (by omega) (by omega) (by omega) (by omega) (by omega) (by omega) (by omega)
  · refine s_blx (lv' := [(2, vI w1), (0, vR 77), (1, vI s)]) (st' := [vI (-1)]) B262_18_19 rfl ?_
    exact r_iretI D262_19 rfl (⟨H6, f8, by omega⟩)
set_option maxRecDepth 4000 in
set_option maxHeartbeats 4000000 in
theorem L_k264k {base : Nat} {X : Nat → Option mC} {G : Nat → Value} (E : EnvOK base X G) {d : Nat} (hd : 70 ≤ d) {M : mH} (H : HI base M) (what : Int) (K : Int → Int) (h0 : TB M) (h1 : KK K M) (h2 : GK M) (h3 : -2147483648 ≤ what ∧ what ≤ 2147483647) : ∀ mz : Nat, (∀ (x2 x3 x4 : Int) (N : mH), HI base N → Fr [(77, 7), (77, 8), (77, 9), (77, 10), (77, 14), (77, 15), (77, 16), (77, 41), (77, 42), (77, 43), (77, 46), (77, 47), (83, 0), (84, 0), (85, 0), (100, 0), (101, 0), (109, 0), (110, 0)] M N → (0 ≤ x4 ∧ x4 ≤ 16) → ((-1) ≤ x2) → (0 ≤ x3) → (0 ≤ x4) → (x4 ≤ 16) → (0 ≤ what) → (what ≤ 1) → (16 - x4) * 316 + 315 < (mz : Int) → sRn base X G d T264 18 [(0, vR 77), (1, vI what), (2, vI x2), (3, vI x3), (4, vI x4)] [] N (s_Q base (pI (fun v M' => HI base M' ∧ Fr [(77, 7), (77, 8), (77, 9), (77, 10), (77, 14), (77, 15), (77, 16), (77, 41), (77, 42), (77, 43), (77, 46), (77, 47), (83, 0), (84, 0), (85, 0), (100, 0), (101, 0), (109, 0), (110, 0)] M M' ∧ (-2147483648 ≤ v ∧ v ≤ 2147483647))))) ∧ (∀ (x2 x3 x4 x5 x6 : Int) (N : mH), HI base N → Fr [(77, 7), (77, 8), (77, 9), (77, 10), (77, 14), (77, 15), (77, 16), (77, 41), (77, 42), (77, 43), (77, 46), (77, 47), (83, 0), (84, 0), (85, 0), (100, 0), (101, 0), (109, 0), (110, 0)] M N → (0 ≤ x4 ∧ x4 ≤ 15) → (x4 < K 469) → (1 ≤ K (135 + 16 * x4 + 12 + K 474)) → (0 ≤ x6 ∧ x6 ≤ 8) → ((-1) ≤ x2) → (0 ≤ x3) → (0 ≤ x4) → (x4 ≤ 15) → (0 ≤ x5) → (0 ≤ x6) → (x6 ≤ 8) → (0 ≤ what) → (what ≤ 1) → (16 - x4) * 316 + 0 + (8 - x6) * 35 + 34 < (mz : Int) → sRn base X G d T264 49 [(0, vR 77), (1, vI what), (2, vI x2), (3, vI x3), (4, vI x4), (5, vI x5), (6, vI x6)] [] N (s_Q base (pI (fun v M' => HI base M' ∧ Fr [(77, 7), (77, 8), (77, 9), (77, 10), (77, 14), (77, 15), (77, 16), (77, 41), (77, 42), (77, 43), (77, 46), (77, 47), (83, 0), (84, 0), (85, 0), (100, 0), (101, 0), (109, 0), (110, 0)] M M' ∧ (-2147483648 ≤ v ∧ v ≤ 2147483647))))) ∧ (∀ (x2 x3 x4 x5 x6 x7 : Int) (N : mH), HI base N → Fr [(77, 7), (77, 8), (77, 9), (77, 10), (77, 14), (77, 15), (77, 16), (77, 41), (77, 42), (77, 43), (77, 46), (77, 47), (83, 0), (84, 0), (85, 0), (100, 0), (101, 0), (109, 0), (110, 0)] M N → (0 ≤ x4 ∧ x4 ≤ 15) → (x4 < K 469) → (1 ≤ K (135 + 16 * x4 + 12 + K 474)) → (0 ≤ x6 ∧ x6 ≤ 7) → (0 ≤ x7 ∧ x7 ≤ 24) → ((-1) ≤ x2) → (0 ≤ x3) → (0 ≤ x4) → (x4 ≤ 15) → (0 ≤ x5) → (0 ≤ x6) → (x6 ≤ 7) → (0 ≤ x7) → (x7 ≤ 24) → (0 ≤ what) → (what ≤ 1) → (16 - x4) * 316 + 0 + (8 - x6) * 35 + 0 + (24 - x7) * 1 + 9 < (mz : Int) → sRn base X G d T264 85 [(0, vR 77), (1, vI what), (2, vI x2), (3, vI x3), (4, vI x4), (5, vI x5), (6, vI x6), (7, vI x7)] [] N (s_Q base (pI (fun v M' => HI base M' ∧ Fr [(77, 7), (77, 8), (77, 9), (77, 10), (77, 14), (77, 15), (77, 16), (77, 41), (77, 42), (77, 43), (77, 46), (77, 47), (83, 0), (84, 0), (85, 0), (100, 0), (101, 0), (109, 0), (110, 0)] M M' ∧ (-2147483648 ≤ v ∧ v ≤ 2147483647))))) ∧ (∀ (x2 x3 x4 x5 x6 x7 : Int) (N : mH), HI base N → Fr [(77, 7), (77, 8), (77, 9), (77, 10), (77, 14), (77, 15), (77, 16), (77, 41), (77, 42), (77, 43), (77, 46), (77, 47), (83, 0), (84, 0), (85, 0), (100, 0), (101, 0), (109, 0), (110, 0)] M N → (0 ≤ x4 ∧ x4 ≤ 15) → (x4 < K 469) → (1 ≤ K (135 + 16 * x4 + 12 + K 474)) → (0 ≤ x6 ∧ x6 ≤ 7) → (0 ≤ x7 ∧ x7 ≤ 8) → ((-1) ≤ x2) → (0 ≤ x3) → (0 ≤ x4) → (x4 ≤ 15) → (0 ≤ x5) → (0 ≤ x6) → (x6 ≤ 7) → (0 ≤ x7) → (x7 ≤ 7) → (0 ≤ what) → (what ≤ 1) → (16 - x4) * 316 + 0 + (8 - x6) * 35 + 0 + (8 - x7) * 1 + 0 < (mz : Int) → sRn base X G d T264 123 [(0, vR 77), (1, vI what), (2, vI x2), (3, vI x3), (4, vI x4), (5, vI x5), (6, vI x6), (7, vI x7)] [] N (s_Q base (pI (fun v M' => HI base M' ∧ Fr [(77, 7), (77, 8), (77, 9), (77, 10), (77, 14), (77, 15), (77, 16), (77, 41), (77, 42), (77, 43), (77, 46), (77, 47), (83, 0), (84, 0), (85, 0), (100, 0), (101, 0), (109, 0), (110, 0)] M M' ∧ (-2147483648 ≤ v ∧ v ≤ 2147483647))))) := by
  have f0 : Fr [(77, 7), (77, 8), (77, 9), (77, 10), (77, 14), (77, 15), (77, 16), (77, 41), (77, 42), (77, 43), (77, 46), (77, 47), (83, 0), (84, 0), (85, 0), (100, 0), (101, 0), (109, 0), (110, 0)] M M := Fr.rf
  intro mz
  induction mz with
  | zero => exact ⟨fun x2 x3 x4 N _ _ z0 z1 z2 z3 z4 z5 z6 z7 => by omega, fun x2 x3 x4 x5 x6 N _ _ z0 z1 z2 z3 z4 z5 z6 z7 z8 z9 z10 z11 z12 z13 => by omega, fun x2 x3 x4 x5 x6 x7 N _ _ z0 z1 z2 z3 z4 z5 z6 z7 z8 z9 z10 z11 z12 z13 z14 z15 z16 => by omega, fun x2 x3 x4 x5 x6 x7 N _ _ z0 z1 z2 z3 z4 z5 z6 z7 z8 z9 z10 z11 z12 z13 z14 z15 z16 => by omega⟩
  | succ mz ih =>
    refine ⟨?_, ?_, ?_, ?_⟩
    · intro x2 x3 x4 N HN fN i0 i1 i2 i3 i4 i5 i6 hmu
      refine s_blx (lv' := [(0, vR 77), (1, vI what), (2, vI x2), (3, vI x3), (4, vI x4)]) (st' := [vR 77, vI x4]) B264_18_21 rfl ?_
      refine r_gfix (r := 78) (pc' := 24) D264_21 rfl gf_11_13_77 HN.1 ?_
      refine s_blx (lv' := [(0, vR 77), (1, vI what), (2, vI x2), (3, vI x3), (4, vI x4)]) (st' := [vI 469, vR 78, vI x4]) B264_24_27 rfl ?_
      refine r_iald (pc' := 28) D264_27 rfl sc_78 HN.1 (by omega) ?_
      intro w8 e9 r10
      have kk_w8 := ((h1.fr fN rfl)) (469)
      have b_w8 := HN.2 78 (469) 0 16 (rk_many (by omega))
      rw [← e9] at b_w8; clear r10
      refine r_icmp (tgt := 184) (pc' := 31) D264_28 rfl rfl (by unfold inR; omega) (fun (c11 : w8 ≤ x4) => ?_) (fun (c11 : ¬ (w8 ≤ x4)) => ?_)
      · refine s_blx (lv' := [(0, vR 77), (1, vI what), (2, vI x2), (3, vI x3), (4, vI x4)]) (st' := [vI what]) B264_184_185 rfl ?_
        refine r_ifc (tgt := 193) (pc' := 188) D264_185 rfl rfl (by unfold inR; omega) (fun (c12 : what = 0) => ?_) (fun (c12 : ¬ (what = 0)) => ?_)
        · refine s_blx (lv' := [(0, vR 77), (1, vI what), (2, vI x2), (3, vI x3), (4, vI x4)]) (st' := [vI x2]) B264_193_194 rfl ?_
          refine r_goto (tgt := 198) D264_194 rfl ?_
          refine r_norm ?_
          intro z13 r14 _; unfold inR at r14
          exact r_iretI D264_198 rfl (⟨HN, fN, by omega⟩)
        · refine s_blx (lv' := [(0, vR 77), (1, vI what), (2, vI x2), (3, vI x3), (4, vI x4)]) (st' := [vI (-1), vI x2]) B264_188_190 rfl ?_
          refine r_norm2 ?_
          intro z15 r16 _; unfold inR at r16
          refine r_icmp (tgt := 197) (pc' := 193) D264_190 rfl rfl (by unfold inR; omega) (fun (c17 : z15 ≠ (-1)) => ?_) (fun (c17 : ¬ (z15 ≠ (-1))) => ?_)
          · refine s_blx (lv' := [(0, vR 77), (1, vI what), (2, vI x2), (3, vI x3), (4, vI x4)]) (st' := [vI x3]) B264_197_198 rfl ?_
            refine r_norm ?_
            intro z18 r19 _; unfold inR at r19
            exact r_iretI D264_198 rfl (⟨HN, fN, by omega⟩)
          · refine s_blx (lv' := [(0, vR 77), (1, vI what), (2, vI x2), (3, vI x3), (4, vI x4)]) (st' := [vI x2]) B264_193_194 rfl ?_
            refine r_goto (tgt := 198) D264_194 rfl ?_
            refine r_norm ?_
            intro z20 r21 _; unfold inR at r21
            exact r_iretI D264_198 rfl (⟨HN, fN, by omega⟩)
      · refine s_blx (lv' := [(0, vR 77), (1, vI what), (2, vI x2), (3, vI x3), (4, vI x4)]) (st' := [vI x4, vR 77]) B264_31_34 rfl ?_
        refine r_vIp (c := 77) (args := [vI x4]) (rest := []) (pc' := 37) D264_34 rfl ck_11_virtual_138 TE159 rfl (Nat.le_of_ble_eq_true rfl) ⟨Nat.le_of_ble_eq_true rfl, Nat.le_of_ble_eq_true rfl⟩ sc_77 ⟨rfl, by decide⟩ HN.1 (dp_0 hd rfl) (k159f E (dp_n hd rfl) HN x4 K ((h1.fr fN rfl)) (by omega)) ?_
        intro v22 q26
        obtain ⟨q24, q25⟩ := q26
        have kw := q25; clear q25
        refine r_ifc (tgt := 43) (pc' := 40) D264_37 rfl rfl (by unfold inR; omega) (fun (c27 : v22 ≠ 0) => ?_) (fun (c27 : ¬ (v22 ≠ 0)) => ?_)
        · refine s_blx (lv' := [(6, vI 0), (5, vI 0), (0, vR 77), (1, vI what), (2, vI x2), (3, vI x3), (4, vI x4)]) (st' := []) B264_43_49 rfl ?_
          refine r_loc (lv' := [(0, vR 77), (1, vI what), (2, vI x2), (3, vI x3), (4, vI x4), (5, vI 0), (6, vI 0)]) ⟨rfl, rfl, rfl, rfl, rfl, rfl, rfl, trivial⟩ rfl rfl ?_
          exact ih.2.1 x2 x3 x4 0 0 N HN fN (by omega) (by omega) (by omega) (by omega) (by omega) (by omega) (by omega) (by omega) (by omega) (by omega) (by omega) (by omega) (by omega) (by omega)
        · refine r_goto (tgt := 178) D264_40 rfl ?_
          refine s_blx (lv' := [(4, vI (x4 + 1)), (0, vR 77), (1, vI what), (2, vI x2), (3, vI x3)]) (st' := []) B264_178_181 rfl ?_
          refine r_goto (tgt := 18) D264_181 rfl ?_
          refine r_loc (lv' := [(0, vR 77), (1, vI what), (2, vI x2), (3, vI x3), (4, vI (x4 + 1))]) ⟨rfl, rfl, rfl, rfl, rfl, trivial⟩ rfl rfl ?_
          exact ih.1 x2 x3 (x4 + 1) N HN fN (by omega) (by omega) (by omega) (by omega) (by omega) (by omega) (by omega) (by omega)
    · intro x2 x3 x4 x5 x6 N HN fN i0 i1 i2 i3 i4 i5 i6 i7 i8 i9 i10 i11 i12 hmu
      refine s_blx (lv' := [(0, vR 77), (1, vI what), (2, vI x2), (3, vI x3), (4, vI x4), (5, vI x5), (6, vI x6)]) (st' := [vR 77, vI x6]) B264_49_52 rfl ?_
      refine r_gfix (r := 78) (pc' := 55) D264_52 rfl gf_11_13_77 HN.1 ?_
      refine s_blx (lv' := [(0, vR 77), (1, vI what), (2, vI x2), (3, vI x3), (4, vI x4), (5, vI x5), (6, vI x6)]) (st' := [vI 471, vR 78, vI x6]) B264_55_58 rfl ?_
      refine r_iald (pc' := 59) D264_58 rfl sc_78 HN.1 (by omega) ?_
      intro w28 e29 r30
      have kk_w28 := ((h1.fr fN rfl)) (471)
      have b_w28 := HN.2 78 (471) 0 8 (rk_told (by omega))
      rw [← e29] at b_w28; clear r30
      refine r_icmp (tgt := 163) (pc' := 62) D264_59 rfl rfl (by unfold inR; omega) (fun (c31 : w28 ≤ x6) => ?_) (fun (c31 : ¬ (w28 ≤ x6)) => ?_)
      · refine s_blx (lv' := [(0, vR 77), (1, vI what), (2, vI x2), (3, vI x3), (4, vI x4), (5, vI x5), (6, vI x6)]) (st' := [vI x3, vI x5]) B264_163_166 rfl ?_
        refine r_norm ?_
        intro z32 r33 _; unfold inR at r33
        refine r_norm2 ?_
        intro z34 r35 _; unfold inR at r35
        refine r_icmp (tgt := 172) (pc' := 169) D264_166 rfl rfl (by unfold inR; omega) (fun (c36 : z32 < z34) => ?_) (fun (c36 : ¬ (z32 < z34)) => ?_)
        · refine s_blx (lv' := [(4, vI (x4 + 1)), (2, vI x4), (3, vI x5), (0, vR 77), (1, vI what), (5, vI x5), (6, vI x6)]) (st' := []) B264_172_181 rfl ?_
          refine r_goto (tgt := 18) D264_181 rfl ?_
          refine r_loc (lv' := [(0, vR 77), (1, vI what), (2, vI x4), (3, vI x5), (4, vI (x4 + 1))]) ⟨rfl, rfl, rfl, rfl, rfl, trivial⟩ rfl rfl ?_
          exact ih.1 x4 x5 (x4 + 1) N HN fN (by omega) (by omega) (by omega) (by omega) (by omega) (by omega) (by omega) (by omega)
        · refine r_goto (tgt := 178) D264_169 rfl ?_
          refine s_blx (lv' := [(4, vI (x4 + 1)), (0, vR 77), (1, vI what), (2, vI x2), (3, vI x3), (5, vI x5), (6, vI x6)]) (st' := []) B264_178_181 rfl ?_
          refine r_goto (tgt := 18) D264_181 rfl ?_
          refine r_loc (lv' := [(0, vR 77), (1, vI what), (2, vI x2), (3, vI x3), (4, vI (x4 + 1))]) ⟨rfl, rfl, rfl, rfl, rfl, trivial⟩ rfl rfl ?_
          exact ih.1 x2 x3 (x4 + 1) N HN fN (by omega) (by omega) (by omega) (by omega) (by omega) (by omega) (by omega) (by omega)
      · refine s_blx (lv' := [(0, vR 77), (1, vI what), (2, vI x2), (3, vI x3), (4, vI x4), (5, vI x5), (6, vI x6)]) (st' := [vI x4, vI x6, vR 77]) B264_62_67 rfl ?_
        refine r_vL (c := 77) (args := [vI x6, vI x4]) (rest := []) (pc' := 70) D264_67 rfl ck_11_virtual_446 TE247 rfl (Nat.le_of_ble_eq_true rfl) ⟨Nat.le_of_ble_eq_true rfl, Nat.le_of_ble_eq_true rfl⟩ sc_77 ⟨rfl, by decide⟩ HN.1 (dp_0 hd rfl) (k247k E (dp_n hd rfl) HN x6 x4 K ((h0.fr fN rfl)) ((h1.fr fN rfl)) ((h2.fr fN rfl)) (by omega) (by omega) (by omega) (by omega) (by omega)) ?_
        intro v37 M38 q41
        obtain ⟨H39, f40⟩ := q41
        have f42 := fN.tr (f40.up rfl)
        refine s_blx (lv' := [(0, vR 77), (1, vI what), (2, vI x2), (3, vI x3), (4, vI x4), (5, vI x5), (6, vI x6)]) (st' := [vR 77]) B264_70_72 rfl ?_
        refine r_gfix (r := 110) (pc' := 75) D264_72 rfl gf_11_120_77 H39.1 ?_
        refine s_blx (lv' := [(0, vR 77), (1, vI what), (2, vI x2), (3, vI x3), (4, vI x4), (5, vI x5), (6, vI x6)]) (st' := [vR 77, vI x6, vR 110]) B264_75_78 rfl ?_
        refine r_gint (ki := 45) (pc' := 81) D264_78 rfl gf_11_437_77 rfl H39.1 ?_
        intro w43 e44 r45
        have b_w43 := H39.2 77 (45) 0 24 rfl
        rw [← e44] at b_w43; clear r45
        refine r_iast (pc' := 82) D264_81 rfl sc_110 H39 (by omega) (by unfold inR; omega) (show 0 ≤ w43 ∧ w43 ≤ 24 by omega) ?_
        intro M46 u47 H48 p49
        have f50 := f42.wr u47 rfl
        refine s_blx (lv' := [(7, vI 0), (0, vR 77), (1, vI what), (2, vI x2), (3, vI x3), (4, vI x4), (5, vI x5), (6, vI x6)]) (st' := []) B264_82_85 rfl ?_
        refine r_loc (lv' := [(0, vR 77), (1, vI what), (2, vI x2), (3, vI x3), (4, vI x4), (5, vI x5), (6, vI x6), (7, vI 0)]) ⟨rfl, rfl, rfl, rfl, rfl, rfl, rfl, rfl, trivial⟩ rfl rfl ?_
        exact ih.2.2.1 x2 x3 x4 x5 x6 0 M46 H48 f50 (by omega) (by omega) (by omega) (by omega) (by omega) (by omega) (by omega) (by omega) (by omega) (by omega) (by omega) (by omega) (by omega) (by omega) (by omega) (by omega) (by omega)
    · intro x2 x3 x4 x5 x6 x7 N HN fN i0 i1 i2 i3 i4 i5 i6 i7 i8 i9 i10 i11 i12 i13 i14 i15 hmu
      refine s_blx (lv' := [(0, vR 77), (1, vI what), (2, vI x2), (3, vI x3), (4, vI x4), (5, vI x5), (6, vI x6), (7, vI x7)]) (st' := [vR 77, vI x7]) B264_85_88 rfl ?_
      refine r_gint (ki := 45) (pc' := 91) D264_88 rfl gf_11_437_77 rfl HN.1 ?_
      intro w51 e52 r53
      have b_w51 := HN.2 77 (45) 0 24 rfl
      rw [← e52] at b_w51; clear r53
      refine r_icmp (tgt := 120) (pc' := 94) D264_91 rfl rfl (by unfold inR; omega) (fun (c54 : w51 ≤ x7) => ?_) (fun (c54 : ¬ (w51 ≤ x7)) => ?_)
      · refine s_blx (lv' := [(7, vI 0), (0, vR 77), (1, vI what), (2, vI x2), (3, vI x3), (4, vI x4), (5, vI x5), (6, vI x6)]) (st' := []) B264_120_123 rfl ?_
        refine r_loc (lv' := [(0, vR 77), (1, vI what), (2, vI x2), (3, vI x3), (4, vI x4), (5, vI x5), (6, vI x6), (7, vI 0)]) ⟨rfl, rfl, rfl, rfl, rfl, rfl, rfl, rfl, trivial⟩ rfl rfl ?_
        exact ih.2.2.2 x2 x3 x4 x5 x6 0 N HN fN (by omega) (by omega) (by omega) (by omega) (by omega) (by omega) (by omega) (by omega) (by omega) (by omega) (by omega) (by omega) (by omega) (by omega) (by omega) (by omega) (by omega)
      · refine s_blx (lv' := [(0, vR 77), (1, vI what), (2, vI x2), (3, vI x3), (4, vI x4), (5, vI x5), (6, vI x6), (7, vI x7)]) (st' := [vR 77]) B264_94_95 rfl ?_
        refine r_gfix (r := 109) (pc' := 98) D264_95 rfl gf_11_117_77 HN.1 ?_
        refine s_blx (lv' := [(0, vR 77), (1, vI what), (2, vI x2), (3, vI x3), (4, vI x4), (5, vI x5), (6, vI x6), (7, vI x7)]) (st' := [vR 77, vI ((24 * x6) + x7), vR 109]) B264_98_107 rfl ?_
        refine r_gfix (r := 101) (pc' := 110) D264_107 rfl gf_11_90_77 HN.1 ?_
        refine s_blx (lv' := [(0, vR 77), (1, vI what), (2, vI x2), (3, vI x3), (4, vI x4), (5, vI x5), (6, vI x6), (7, vI x7)]) (st' := [vI x7, vR 101, vI ((24 * x6) + x7), vR 109]) B264_110_112 rfl ?_
        refine r_iald (pc' := 113) D264_112 rfl sc_101 HN.1 (by omega) ?_
        intro w55 e56 r57
        unfold inR at r57
        refine r_iast (pc' := 114) D264_113 rfl sc_109 HN (by omega) (by unfold inR; omega) trivial ?_
        intro M58 u59 H60 p61
        have f62 := fN.wr u59 rfl
        refine s_blx (lv' := [(7, vI (x7 + 1)), (0, vR 77), (1, vI what), (2, vI x2), (3, vI x3), (4, vI x4), (5, vI x5), (6, vI x6)]) (st' := []) B264_114_117 rfl ?_
        refine r_goto (tgt := 85) D264_117 rfl ?_
        refine r_loc (lv' := [(0, vR 77), (1, vI what), (2, vI x2), (3, vI x3), (4, vI x4), (5, vI x5), (6, vI x6), (7, vI (x7 + 1))]) ⟨rfl, rfl, rfl, rfl, rfl, rfl, rfl, rfl, trivial⟩ rfl rfl ?_
        exact ih.2.2.1 x2 x3 x4 x5 x6 (x7 + 1) M58 H60 f62 (by omega) (by omega) (by omega) (by omega) (by omega) (by omega) (by omega) (by omega) (by omega) (by omega) (by omega) (by omega) (by omega) (by omega) (by omega) (by omega) (by omega)
    · intro x2 x3 x4 x5 x6 x7 N HN fN i0 i1 i2 i3 i4 i5 i6 i7 i8 i9 i10 i11 i12 i13 i14 i15 hmu
      refine s_blx (lv' := [(0, vR 77), (1, vI what), (2, vI x2), (3, vI x3), (4, vI x4), (5, vI x5), (6, vI x6), (7, vI x7)]) (st' := [vI x6, vI x7]) B264_123_127 rfl ?_
      refine r_icmp (tgt := 157) (pc' := 130) D264_127 rfl rfl (by unfold inR; omega) (fun (c63 : x6 ≤ x7) => ?_) (fun (c63 : ¬ (x6 ≤ x7)) => ?_)
      · refine s_blx (lv' := [(6, vI (x6 + 1)), (0, vR 77), (1, vI what), (2, vI x2), (3, vI x3), (4, vI x4), (5, vI x5), (7, vI x7)]) (st' := []) B264_157_160 rfl ?_
        refine r_goto (tgt := 49) D264_160 rfl ?_
        refine r_loc (lv' := [(0, vR 77), (1, vI what), (2, vI x2), (3, vI x3), (4, vI x4), (5, vI x5), (6, vI (x6 + 1))]) ⟨rfl, rfl, rfl, rfl, rfl, rfl, rfl, trivial⟩ rfl rfl ?_
        exact ih.2.1 x2 x3 x4 x5 (x6 + 1) N HN fN (by omega) (by omega) (by omega) (by omega) (by omega) (by omega) (by omega) (by omega) (by omega) (by omega) (by omega) (by omega) (by omega) (by omega)
      · refine s_blx (lv' := [(0, vR 77), (1, vI what), (2, vI x2), (3, vI x3), (4, vI x4), (5, vI x5), (6, vI x6), (7, vI x7)]) (st' := [vI x7, vI x6, vR 77, vI x5]) B264_130_137 rfl ?_
        refine r_vIp (c := 77) (args := [vI x6, vI x7]) (rest := [vI x5]) (pc' := 140) D264_137 rfl ck_11_virtual_465 TE263 rfl (Nat.le_of_ble_eq_true rfl) ⟨Nat.le_of_ble_eq_true rfl, Nat.le_of_ble_eq_true rfl⟩ sc_77 ⟨rfl, by decide⟩ HN.1 (dp_0 hd rfl) (k263 E (dp_n hd rfl) HN x6 x7 (by omega) (by omega)) ?_
        intro v64 q67
        have q66 := q67; clear q67
        refine r_ifc (tgt := 147) (pc' := 143) D264_140 rfl rfl (by unfold inR; omega) (fun (c68 : v64 = 0) => ?_) (fun (c68 : ¬ (v64 = 0)) => ?_)
        · refine s_blx (lv' := [(7, vI (x7 + 1)), (5, vI (x5 + 1)), (0, vR 77), (1, vI what), (2, vI x2), (3, vI x3), (4, vI x4), (6, vI x6)]) (st' := []) B264_147_154 rfl ?_
          refine r_goto (tgt := 123) D264_154 rfl ?_
          refine r_loc (lv' := [(0, vR 77), (1, vI what), (2, vI x2), (3, vI x3), (4, vI x4), (5, vI (x5 + 1)), (6, vI x6), (7, vI (x7 + 1))]) ⟨rfl, rfl, rfl, rfl, rfl, rfl, rfl, rfl, trivial⟩ rfl rfl ?_
          exact ih.2.2.2 x2 x3 x4 (x5 + 1) x6 (x7 + 1) N HN fN (by omega) (by omega) (by omega) (by omega) (by omega) (by omega) (by omega) (by omega) (by omega) (by omega) (by omega) (by omega) (by omega) (by omega) (by omega) (by omega) (by omega)
        · refine s_blx (lv' := [(0, vR 77), (1, vI what), (2, vI x2), (3, vI x3), (4, vI x4), (5, vI x5), (6, vI x6), (7, vI x7)]) (st' := [vI 0, vI x5]) B264_143_144 rfl ?_
          refine r_goto (tgt := 148) D264_144 rfl ?_
          refine s_blx (lv' := [(7, vI (x7 + 1)), (5, vI (x5 + 0)), (0, vR 77), (1, vI what), (2, vI x2), (3, vI x3), (4, vI x4), (6, vI x6)]) (st' := []) B264_148_154 rfl ?_
          refine r_goto (tgt := 123) D264_154 rfl ?_
          refine r_loc (lv' := [(0, vR 77), (1, vI what), (2, vI x2), (3, vI x3), (4, vI x4), (5, vI (x5 + 0)), (6, vI x6), (7, vI (x7 + 1))]) ⟨rfl, rfl, rfl, rfl, rfl, rfl, rfl, rfl, trivial⟩ rfl rfl ?_
          exact ih.2.2.2 x2 x3 x4 (x5 + 0) x6 (x7 + 1) N HN fN (by omega) (by omega) (by omega) (by omega) (by omega) (by omega) (by omega) (by omega) (by omega) (by omega) (by omega) (by omega) (by omega) (by omega) (by omega) (by omega) (by omega)
set_option maxRecDepth 4000 in
set_option maxHeartbeats 4000000 in
theorem k264k {base : Nat} {X : Nat → Option mC} {G : Nat → Value} (E : EnvOK base X G) {d : Nat} (hd : 70 ≤ d) {M : mH} (H : HI base M) (what : Int) (K : Int → Int) (h0 : TB M) (h1 : KK K M) (h2 : GK M) (h3 : -2147483648 ≤ what ∧ what ≤ 2147483647) : sOk base X G d T264 [vR 77, vI what] M (pI (fun v M' => HI base M' ∧ Fr [(77, 7), (77, 8), (77, 9), (77, 10), (77, 14), (77, 15), (77, 16), (77, 41), (77, 42), (77, 43), (77, 46), (77, 47), (83, 0), (84, 0), (85, 0), (100, 0), (101, 0), (109, 0), (110, 0)] M M' ∧ (-2147483648 ≤ v ∧ v ≤ 2147483647))) := by
  have f0 : Fr [(77, 7), (77, 8), (77, 9), (77, 10), (77, 14), (77, 15), (77, 16), (77, 41), (77, 42), (77, 43), (77, 46), (77, 47), (83, 0), (84, 0), (85, 0), (100, 0), (101, 0), (109, 0), (110, 0)] M M := Fr.rf
  refine sOk.of (show sRn base X G d T264 0 [(0, vR 77), (1, vI what)] [] M _ from ?_)
  refine s_blx (lv' := [(0, vR 77), (1, vI what)]) (st' := [vI 1, vI 0, vI what]) B264_0_3 rfl ?_
  refine r_sIp (args := [vI what, vI 0, vI 1]) (rest := []) (pc' := 6) D264_3 rfl ck_11_static_123 TE147 rfl (Nat.le_of_ble_eq_true rfl) ⟨Nat.le_of_ble_eq_true rfl, Nat.le_of_ble_eq_true rfl⟩ (by decide) (dp_0 hd rfl) (k147 E (dp_n hd rfl) H what 0 1 (by omega) (by omega) (by omega)) ?_
  intro v1 q6
  obtain ⟨q3, q4, q5⟩ := q6
  refine r_ifc (tgt := 11) (pc' := 9) D264_6 rfl rfl (by unfold inR; omega) (fun (c7 : v1 ≠ 0) => ?_) (fun (c7 : ¬ (v1 ≠ 0)) => ?_)
  · refine s_blx (lv' := [(4, vI 0), (3, vI 0), (2, vI (-1)), (0, vR 77), (1, vI what)]) (st' := []) B264_11_18 rfl ?_
    refine r_loc (lv' := [(0, vR 77), (1, vI what), (2, vI (-1)), (3, vI 0), (4, vI 0)]) ⟨rfl, rfl, rfl, rfl, rfl, trivial⟩ rfl rfl ?_
    exact (L_k264k E hd H what K h0 h1 h2 h3 (((16 - 0) * 316 + 315 : Int) + 1).toNat).1 (-1) 0 0 M H f0 (by omega) (by omega) (by omega) (by omega) (by omega) (by omega) (by omega) (by omega)
  · refine s_blx (lv' := [(0, vR 77), (1, vI what)]) (st' := [vI (-1)]) B264_9_10 rfl ?_
    exact r_iretI D264_10 rfl (⟨H, f0, by omega⟩)
