def T246 : mT := (11, yX11_habitOf, cX11_habitOf, 7, (some .int))
set_option maxRecDepth 10000 in
theorem TE246 : sy_m[246]? = some T246 := rfl
theorem B246_0_3 : s_dk T246.2.2.1 0 [.aload_n 0, .iload_n 2, .iload_n 3] 3 = true := by decide +kernel
theorem D246_3 : decode T246.2.2.1 3 = .ok (.invokevirtual 428, 3) := by decide +kernel
theorem ck_11_virtual_428 : m_call 11 (.invokevirtual 428) = some (0, 244, 2) := by decide +kernel
theorem B246_6_12 : s_dk T246.2.2.1 6 [.aload_n 0, .sipush 400, .iload_n 1, .imul] 12 = true := by decide +kernel
theorem D246_12 : decode T246.2.2.1 12 = .ok (.putfield 378, 3) := by decide +kernel
theorem B246_15_17 : s_dk T246.2.2.1 15 [.aload_n 0, .aload_n 0] 17 = true := by decide +kernel
theorem D246_17 : decode T246.2.2.1 17 = .ok (.getfield 378, 3) := by decide +kernel
theorem B246_20_21 : s_dk T246.2.2.1 20 [.aload_n 0] 21 = true := by decide +kernel
theorem D246_21 : decode T246.2.2.1 21 = .ok (.getfield 13, 3) := by decide +kernel
theorem B246_24_29 : s_dk T246.2.2.1 24 [.sipush 475, .iload_n 1, .iadd] 29 = true := by decide +kernel
theorem D246_29 : decode T246.2.2.1 29 = .ok (.iaload, 1) := by decide +kernel
theorem B246_30_31 : s_dk T246.2.2.1 30 [.iadd] 31 = true := by decide +kernel
theorem pf_11_375_77 : s_pf 11 375 77 = some (41, 1) := by decide +kernel
theorem D246_31 : decode T246.2.2.1 31 = .ok (.putfield 375, 3) := by decide +kernel
theorem B246_34_35 : s_dk T246.2.2.1 34 [.aload_n 0] 35 = true := by decide +kernel
theorem D246_35 : decode T246.2.2.1 35 = .ok (.getfield 378, 3) := by decide +kernel
theorem B246_38_39 : s_dk T246.2.2.1 38 [.aload_n 0] 39 = true := by decide +kernel
theorem D246_39 : decode T246.2.2.1 39 = .ok (.getfield 375, 3) := by decide +kernel
theorem D246_42 : decode T246.2.2.1 42 = .ok (.if_icmp .ge 120, 3) := by decide +kernel
theorem B246_162_165 : s_dk T246.2.2.1 162 [.aload_n 0, .iload_n 2, .iconst 1] 165 = true := by decide +kernel
theorem D246_165 : decode T246.2.2.1 165 = .ok (.invokevirtual 240, 3) := by decide +kernel
theorem D246_168 : decode T246.2.2.1 168 = .ok (.ifCond .eq 7, 3) := by decide +kernel
theorem B246_175_178 : s_dk T246.2.2.1 175 [.aload_n 0, .iload_n 2, .iconst 0] 178 = true := by decide +kernel
theorem D246_178 : decode T246.2.2.1 178 = .ok (.invokevirtual 240, 3) := by decide +kernel
theorem D246_181 : decode T246.2.2.1 181 = .ok (.ifCond .eq 7, 3) := by decide +kernel
theorem B246_188_191 : s_dk T246.2.2.1 188 [.aload_n 0, .iload_n 2, .iconst 4] 191 = true := by decide +kernel
theorem D246_191 : decode T246.2.2.1 191 = .ok (.invokevirtual 240, 3) := by decide +kernel
theorem D246_194 : decode T246.2.2.1 194 = .ok (.ifCond .eq 7, 3) := by decide +kernel
theorem B246_201_202 : s_dk T246.2.2.1 201 [.iconst 3] 202 = true := by decide +kernel
theorem D246_202 : decode T246.2.2.1 202 = .ok (.ireturn, 1) := by decide +kernel
theorem B246_197_198 : s_dk T246.2.2.1 197 [.iconst 4] 198 = true := by decide +kernel
theorem D246_198 : decode T246.2.2.1 198 = .ok (.goto 4, 3) := by decide +kernel
theorem B246_184_185 : s_dk T246.2.2.1 184 [.iconst 0] 185 = true := by decide +kernel
theorem D246_185 : decode T246.2.2.1 185 = .ok (.goto 17, 3) := by decide +kernel
theorem B246_171_172 : s_dk T246.2.2.1 171 [.iconst 1] 172 = true := by decide +kernel
theorem D246_172 : decode T246.2.2.1 172 = .ok (.goto 30, 3) := by decide +kernel
theorem B246_45_47 : s_dk T246.2.2.1 45 [.aload_n 0, .iconst 0] 47 = true := by decide +kernel
theorem D246_47 : decode T246.2.2.1 47 = .ok (.putfield 388, 3) := by decide +kernel
theorem B246_50_52 : s_dk T246.2.2.1 50 [.aload_n 0, .aload_n 0] 52 = true := by decide +kernel
theorem D246_52 : decode T246.2.2.1 52 = .ok (.getfield 378, 3) := by decide +kernel
theorem D246_55 : decode T246.2.2.1 55 = .ok (.invokevirtual 381, 3) := by decide +kernel
theorem B246_58_62 : s_dk T246.2.2.1 58 [.istore 4, .aload_n 0, .dup] 62 = true := by decide +kernel
theorem D246_62 : decode T246.2.2.1 62 = .ok (.getfield 378, 3) := by decide +kernel
theorem B246_65_67 : s_dk T246.2.2.1 65 [.iconst 1, .iadd] 67 = true := by decide +kernel
theorem D246_67 : decode T246.2.2.1 67 = .ok (.putfield 378, 3) := by decide +kernel
theorem B246_70_73 : s_dk T246.2.2.1 70 [.aload_n 0, .bipush 7] 73 = true := by decide +kernel
theorem D246_73 : decode T246.2.2.1 73 = .ok (.invokevirtual 402, 3) := by decide +kernel
theorem D246_76 : decode T246.2.2.1 76 = .ok (.ifCond .eq 11, 3) := by decide +kernel
theorem B246_87_88 : s_dk T246.2.2.1 87 [.iconst 1] 88 = true := by decide +kernel
theorem D246_88 : decode T246.2.2.1 88 = .ok (.goto 4, 3) := by decide +kernel
theorem B246_92_96 : s_dk T246.2.2.1 92 [.istore 5, .iload 5] 96 = true := by decide +kernel
theorem D246_96 : decode T246.2.2.1 96 = .ok (.ifCond .eq 14, 3) := by decide +kernel
theorem B246_99_100 : s_dk T246.2.2.1 99 [.aload_n 0] 100 = true := by decide +kernel
theorem D246_100 : decode T246.2.2.1 100 = .ok (.getfield 388, 3) := by decide +kernel
theorem D246_103 : decode T246.2.2.1 103 = .ok (.ifCond .ne 7, 3) := by decide +kernel
theorem B246_106_107 : s_dk T246.2.2.1 106 [.iconst 1] 107 = true := by decide +kernel
theorem D246_107 : decode T246.2.2.1 107 = .ok (.goto 4, 3) := by decide +kernel
theorem B246_111_115 : s_dk T246.2.2.1 111 [.istore 5, .aload_n 0, .dup] 115 = true := by decide +kernel
theorem D246_115 : decode T246.2.2.1 115 = .ok (.getfield 378, 3) := by decide +kernel
theorem B246_118_120 : s_dk T246.2.2.1 118 [.iconst 1, .iadd] 120 = true := by decide +kernel
theorem D246_120 : decode T246.2.2.1 120 = .ok (.putfield 378, 3) := by decide +kernel
theorem B246_123_125 : s_dk T246.2.2.1 123 [.iload 5] 125 = true := by decide +kernel
theorem D246_125 : decode T246.2.2.1 125 = .ok (.ifCond .ne 6, 3) := by decide +kernel
theorem B246_131_135 : s_dk T246.2.2.1 131 [.aload_n 0, .iload 4, .iload_n 2] 135 = true := by decide +kernel
theorem D246_135 : decode T246.2.2.1 135 = .ok (.invokevirtual 431, 3) := by decide +kernel
theorem ck_11_virtual_431 : m_call 11 (.invokevirtual 431) = some (0, 245, 2) := by decide +kernel
theorem B246_138_143 : s_dk T246.2.2.1 138 [.istore 6, .iload 6, .iconst (-1)] 143 = true := by decide +kernel
theorem D246_143 : decode T246.2.2.1 143 = .ok (.if_icmp .eq 16, 3) := by decide +kernel
theorem D246_159 : decode T246.2.2.1 159 = .ok (.goto (-125), 3) := by decide +kernel
theorem B246_146_150 : s_dk T246.2.2.1 146 [.aload_n 0, .iload_n 2, .iload 6] 150 = true := by decide +kernel
theorem D246_150 : decode T246.2.2.1 150 = .ok (.invokevirtual 240, 3) := by decide +kernel
theorem D246_153 : decode T246.2.2.1 153 = .ok (.ifCond .eq 6, 3) := by decide +kernel
theorem B246_156_158 : s_dk T246.2.2.1 156 [.iload 6] 158 = true := by decide +kernel
theorem D246_158 : decode T246.2.2.1 158 = .ok (.ireturn, 1) := by decide +kernel
theorem B246_79_81 : s_dk T246.2.2.1 79 [.aload_n 0, .iconst 1] 81 = true := by decide +kernel
theorem D246_81 : decode T246.2.2.1 81 = .ok (.invokevirtual 418, 3) := by decide +kernel
theorem D246_84 : decode T246.2.2.1 84 = .ok (.ifCond .eq 7, 3) := by decide +kernel
theorem B246_91_96 : s_dk T246.2.2.1 91 [.iconst 0, .istore 5, .iload 5] 96 = true := by decide +kernel
theorem B246_110_115 : s_dk T246.2.2.1 110 [.iconst 0, .istore 5, .aload_n 0, .dup] 115 = true := by decide +kernel
theorem D246_128 : decode T246.2.2.1 128 = .ok (.goto (-94), 3) := by decide +kernel
def T247 : mT := (11, yX11_plays, cX11_plays, 9, (some .long))
set_option maxRecDepth 10000 in
theorem TE247 : sy_m[247]? = some T247 := rfl
theorem B247_0_11 : s_dk T247.2.2.1 0 [.iconst 0, .istore_n 3, .iconst 0, .istore 4, .iconst (-1), .istore 5, .lconst 0, .lstore 6] 11 = true := by decide +kernel
theorem B247_11_14 : s_dk T247.2.2.1 11 [.iload 5, .iconst 4] 14 = true := by decide +kernel
theorem D247_14 : decode T247.2.2.1 14 = .ok (.if_icmp .eq 114, 3) := by decide +kernel
theorem B247_17_21 : s_dk T247.2.2.1 17 [.iload 4, .aload_n 0, .iload_n 2] 21 = true := by decide +kernel
theorem D247_21 : decode T247.2.2.1 21 = .ok (.invokevirtual 144, 3) := by decide +kernel
theorem D247_24 : decode T247.2.2.1 24 = .ok (.if_icmp .lt 7, 3) := by decide +kernel
theorem B247_31_38 : s_dk T247.2.2.1 31 [.iconst 0, .istore 8, .aload_n 0, .iload_n 2, .iload 8] 38 = true := by decide +kernel
theorem D247_38 : decode T247.2.2.1 38 = .ok (.ifCond .eq 11, 3) := by decide +kernel
theorem B247_49_55 : s_dk T247.2.2.1 49 [.iload 4, .iconst 1, .iadd, .iload 8] 55 = true := by decide +kernel
theorem D247_55 : decode T247.2.2.1 55 = .ok (.invokevirtual 253, 3) := by decide +kernel
theorem B247_58_63 : s_dk T247.2.2.1 58 [.aload_n 0, .iload_n 1, .iload_n 3, .iload 4] 63 = true := by decide +kernel
theorem D247_63 : decode T247.2.2.1 63 = .ok (.invokevirtual 434, 3) := by decide +kernel
theorem ck_11_virtual_434 : m_call 11 (.invokevirtual 434) = some (0, 246, 3) := by decide +kernel
theorem B247_66_69 : s_dk T247.2.2.1 66 [.istore 5, .aload_n 0] 69 = true := by decide +kernel
theorem gf_11_90_77 : s_gf 11 90 77 = some (44, 104) := by decide +kernel
theorem D247_69 : decode T247.2.2.1 69 = .ok (.getfield 90, 3) := by decide +kernel
theorem B247_72_76 : s_dk T247.2.2.1 72 [.iload 4, .iload 5] 76 = true := by decide +kernel
theorem D247_76 : decode T247.2.2.1 76 = .ok (.iastore, 1) := by decide +kernel
theorem B247_77_84 : s_dk T247.2.2.1 77 [.iinc 4 1, .aload_n 0, .iload_n 3, .iload 5] 84 = true := by decide +kernel
theorem D247_84 : decode T247.2.2.1 84 = .ok (.invokevirtual 240, 3) := by decide +kernel
theorem B247_87_89 : s_dk T247.2.2.1 87 [.pop, .aload_n 0] 89 = true := by decide +kernel
theorem D247_89 : decode T247.2.2.1 89 = .ok (.getfield 215, 3) := by decide +kernel
theorem B247_92_98 : s_dk T247.2.2.1 92 [.istore_n 3, .lload 6, .iload 5, .iconst 4] 98 = true := by decide +kernel
theorem D247_98 : decode T247.2.2.1 98 = .ok (.if_icmp .ne 13, 3) := by decide +kernel
theorem B247_111_112 : s_dk T247.2.2.1 111 [.aload_n 0] 112 = true := by decide +kernel
theorem D247_112 : decode T247.2.2.1 112 = .ok (.getfield 218, 3) := by decide +kernel
theorem B247_115_117 : s_dk T247.2.2.1 115 [.aload_n 0, .iload_n 3] 117 = true := by decide +kernel
theorem D247_117 : decode T247.2.2.1 117 = .ok (.invokevirtual 246, 3) := by decide +kernel
theorem B247_120_121 : s_dk T247.2.2.1 120 [.iadd] 121 = true := by decide +kernel
theorem D247_121 : decode T247.2.2.1 121 = .ok (.i2l, 1) := by decide +kernel
theorem B247_122_125 : s_dk T247.2.2.1 122 [.ladd, .lstore 6] 125 = true := by decide +kernel
theorem D247_125 : decode T247.2.2.1 125 = .ok (.goto (-114), 3) := by decide +kernel
theorem B247_101_104 : s_dk T247.2.2.1 101 [.aload_n 0, .iload_n 3, .iload_n 2] 104 = true := by decide +kernel
theorem D247_104 : decode T247.2.2.1 104 = .ok (.invokevirtual 243, 3) := by decide +kernel
theorem D247_107 : decode T247.2.2.1 107 = .ok (.i2l, 1) := by decide +kernel
theorem D247_108 : decode T247.2.2.1 108 = .ok (.goto 14, 3) := by decide +kernel
theorem B247_27_28 : s_dk T247.2.2.1 27 [.iconst 1] 28 = true := by decide +kernel
theorem D247_28 : decode T247.2.2.1 28 = .ok (.goto 4, 3) := by decide +kernel
theorem B247_32_38 : s_dk T247.2.2.1 32 [.istore 8, .aload_n 0, .iload_n 2, .iload 8] 38 = true := by decide +kernel
theorem B247_41_43 : s_dk T247.2.2.1 41 [.aload_n 0, .iload_n 2] 43 = true := by decide +kernel
theorem D247_43 : decode T247.2.2.1 43 = .ok (.invokevirtual 144, 3) := by decide +kernel
theorem D247_46 : decode T247.2.2.1 46 = .ok (.goto 7, 3) := by decide +kernel
theorem B247_53_55 : s_dk T247.2.2.1 53 [.iload 8] 55 = true := by decide +kernel
theorem B247_128_131 : s_dk T247.2.2.1 128 [.aload_n 0, .iload 4] 131 = true := by decide +kernel
theorem pf_11_437_77 : s_pf 11 437 77 = some (45, 1) := by decide +kernel
theorem D247_131 : decode T247.2.2.1 131 = .ok (.putfield 437, 3) := by decide +kernel
theorem B247_134_136 : s_dk T247.2.2.1 134 [.aload_n 0, .iload_n 3] 136 = true := by decide +kernel
theorem pf_11_440_77 : s_pf 11 440 77 = some (46, 1) := by decide +kernel
theorem D247_136 : decode T247.2.2.1 136 = .ok (.putfield 440, 3) := by decide +kernel
theorem B247_139_141 : s_dk T247.2.2.1 139 [.lload 6] 141 = true := by decide +kernel
theorem D247_141 : decode T247.2.2.1 141 = .ok (.lreturn, 1) := by decide +kernel
def T248 : mT := (11, yX11_run, cX11_run, 5, (some .int))
set_option maxRecDepth 10000 in
theorem TE248 : sy_m[248]? = some T248 := rfl
theorem B248_0_2 : s_dk T248.2.2.1 0 [.aload_n 0, .iload_n 1] 2 = true := by decide +kernel
theorem D248_2 : decode T248.2.2.1 2 = .ok (.invokevirtual 443, 3) := by decide +kernel
theorem ck_11_virtual_443 : m_call 11 (.invokevirtual 443) = some (0, 155, 1) := by decide +kernel
theorem D248_5 : decode T248.2.2.1 5 = .ok (.ifCond .eq 11, 3) := by decide +kernel
theorem B248_16_17 : s_dk T248.2.2.1 16 [.iconst (-1)] 17 = true := by decide +kernel
theorem D248_17 : decode T248.2.2.1 17 = .ok (.ireturn, 1) := by decide +kernel
theorem B248_8_10 : s_dk T248.2.2.1 8 [.aload_n 0, .iload_n 2] 10 = true := by decide +kernel
theorem D248_10 : decode T248.2.2.1 10 = .ok (.invokevirtual 164, 3) := by decide +kernel
theorem D248_13 : decode T248.2.2.1 13 = .ok (.ifCond .ne 5, 3) := by decide +kernel
theorem B248_18_21 : s_dk T248.2.2.1 18 [.aload_n 0, .iload_n 1, .iload_n 2] 21 = true := by decide +kernel
theorem D248_21 : decode T248.2.2.1 21 = .ok (.invokevirtual 446, 3) := by decide +kernel
theorem ck_11_virtual_446 : m_call 11 (.invokevirtual 446) = some (0, 247, 2) := by decide +kernel
theorem D248_24 : decode T248.2.2.1 24 = .ok (.l2i, 1) := by decide +kernel
theorem B248_25_28 : s_dk T248.2.2.1 25 [.istore_n 3, .aload_n 0, .aload_n 0] 28 = true := by decide +kernel
theorem gf_11_437_77 : s_gf 11 437 77 = some (45, 1) := by decide +kernel
theorem D248_28 : decode T248.2.2.1 28 = .ok (.getfield 437, 3) := by decide +kernel
theorem pf_11_450_77 : s_pf 11 450 77 = some (48, 1) := by decide +kernel
theorem D248_31 : decode T248.2.2.1 31 = .ok (.putfield 450, 3) := by decide +kernel
theorem B248_34_37 : s_dk T248.2.2.1 34 [.iconst 0, .istore 4] 37 = true := by decide +kernel
theorem B248_37_40 : s_dk T248.2.2.1 37 [.iload 4, .aload_n 0] 40 = true := by decide +kernel
theorem D248_40 : decode T248.2.2.1 40 = .ok (.getfield 437, 3) := by decide +kernel
theorem D248_43 : decode T248.2.2.1 43 = .ok (.if_icmp .ge 23, 3) := by decide +kernel
theorem B248_66_67 : s_dk T248.2.2.1 66 [.iload_n 3] 67 = true := by decide +kernel
theorem D248_67 : decode T248.2.2.1 67 = .ok (.ireturn, 1) := by decide +kernel
theorem B248_46_47 : s_dk T248.2.2.1 46 [.aload_n 0] 47 = true := by decide +kernel
theorem D248_47 : decode T248.2.2.1 47 = .ok (.getfield 93, 3) := by decide +kernel
theorem B248_50_53 : s_dk T248.2.2.1 50 [.iload 4, .aload_n 0] 53 = true := by decide +kernel
theorem D248_53 : decode T248.2.2.1 53 = .ok (.getfield 90, 3) := by decide +kernel
theorem B248_56_58 : s_dk T248.2.2.1 56 [.iload 4] 58 = true := by decide +kernel
theorem D248_58 : decode T248.2.2.1 58 = .ok (.iaload, 1) := by decide +kernel
theorem D248_59 : decode T248.2.2.1 59 = .ok (.iastore, 1) := by decide +kernel
theorem B248_60_63 : s_dk T248.2.2.1 60 [.iinc 4 1] 63 = true := by decide +kernel
theorem D248_63 : decode T248.2.2.1 63 = .ok (.goto (-26), 3) := by decide +kernel
def T250 : mT := (11, yX11_worth, cX11_worth, 5, (some .long))
set_option maxRecDepth 10000 in
theorem TE250 : sy_m[250]? = some T250 := rfl
theorem B250_0_2 : s_dk T250.2.2.1 0 [.aload_n 0, .iload_n 1] 2 = true := by decide +kernel
theorem D250_2 : decode T250.2.2.1 2 = .ok (.invokevirtual 443, 3) := by decide +kernel
theorem D250_5 : decode T250.2.2.1 5 = .ok (.ifCond .ne 7, 3) := by decide +kernel
theorem B250_12_17 : s_dk T250.2.2.1 12 [.lconst 0, .lstore_n 2, .iconst 0, .istore 4] 17 = true := by decide +kernel
theorem D250_8 : decode T250.2.2.1 8 = .ok (.ldc2_w 296, 3) := by decide +kernel
theorem D250_11 : decode T250.2.2.1 11 = .ok (.lreturn, 1) := by decide +kernel
theorem B250_17_20 : s_dk T250.2.2.1 17 [.iload 4, .aload_n 0] 20 = true := by decide +kernel
theorem D250_20 : decode T250.2.2.1 20 = .ok (.getfield 13, 3) := by decide +kernel
theorem B250_23_26 : s_dk T250.2.2.1 23 [.sipush 469] 26 = true := by decide +kernel
theorem D250_26 : decode T250.2.2.1 26 = .ok (.iaload, 1) := by decide +kernel
theorem D250_27 : decode T250.2.2.1 27 = .ok (.if_icmp .ge 36, 3) := by decide +kernel
theorem B250_63_64 : s_dk T250.2.2.1 63 [.lload_n 2] 64 = true := by decide +kernel
theorem D250_64 : decode T250.2.2.1 64 = .ok (.lreturn, 1) := by decide +kernel
theorem B250_30_33 : s_dk T250.2.2.1 30 [.aload_n 0, .iload 4] 33 = true := by decide +kernel
theorem D250_33 : decode T250.2.2.1 33 = .ok (.invokevirtual 138, 3) := by decide +kernel
theorem D250_36 : decode T250.2.2.1 36 = .ok (.ifCond .le 21, 3) := by decide +kernel
theorem B250_57_60 : s_dk T250.2.2.1 57 [.iinc 4 1] 60 = true := by decide +kernel
theorem D250_60 : decode T250.2.2.1 60 = .ok (.goto (-43), 3) := by decide +kernel
theorem B250_39_43 : s_dk T250.2.2.1 39 [.lload_n 2, .aload_n 0, .iload 4] 43 = true := by decide +kernel
theorem D250_43 : decode T250.2.2.1 43 = .ok (.invokevirtual 138, 3) := by decide +kernel
theorem D250_46 : decode T250.2.2.1 46 = .ok (.i2l, 1) := by decide +kernel
theorem B250_47_51 : s_dk T250.2.2.1 47 [.aload_n 0, .iload_n 1, .iload 4] 51 = true := by decide +kernel
theorem D250_51 : decode T250.2.2.1 51 = .ok (.invokevirtual 446, 3) := by decide +kernel
theorem B250_54_60 : s_dk T250.2.2.1 54 [.lmul, .ladd, .lstore_n 2, .iinc 4 1] 60 = true := by decide +kernel
def T261 : mT := (11, yX11_whose, cX11_whose, 7, (some .int))
set_option maxRecDepth 10000 in
theorem TE261 : sy_m[261]? = some T261 := rfl
theorem B261_0_2 : s_dk T261.2.2.1 0 [.aload_n 0, .iload_n 1] 2 = true := by decide +kernel
theorem D261_2 : decode T261.2.2.1 2 = .ok (.invokevirtual 443, 3) := by decide +kernel
theorem D261_5 : decode T261.2.2.1 5 = .ok (.ifCond .eq 42, 3) := by decide +kernel
theorem B261_47_48 : s_dk T261.2.2.1 47 [.iconst (-1)] 48 = true := by decide +kernel
theorem D261_48 : decode T261.2.2.1 48 = .ok (.ireturn, 1) := by decide +kernel
theorem B261_8_10 : s_dk T261.2.2.1 8 [.aload_n 0, .iload_n 2] 10 = true := by decide +kernel
theorem D261_10 : decode T261.2.2.1 10 = .ok (.invokevirtual 164, 3) := by decide +kernel
theorem D261_13 : decode T261.2.2.1 13 = .ok (.ifCond .eq 34, 3) := by decide +kernel
theorem B261_16_19 : s_dk T261.2.2.1 16 [.iload_n 3, .iconst 0, .iconst 2] 19 = true := by decide +kernel
theorem D261_19 : decode T261.2.2.1 19 = .ok (.invokestatic 123, 3) := by decide +kernel
theorem D261_22 : decode T261.2.2.1 22 = .ok (.ifCond .eq 25, 3) := by decide +kernel
theorem B261_25_30 : s_dk T261.2.2.1 25 [.iload 4, .iconst 0, .bipush 7] 30 = true := by decide +kernel
theorem D261_30 : decode T261.2.2.1 30 = .ok (.invokestatic 123, 3) := by decide +kernel
theorem D261_33 : decode T261.2.2.1 33 = .ok (.ifCond .eq 14, 3) := by decide +kernel
theorem B261_36_41 : s_dk T261.2.2.1 36 [.iload 5, .iconst 0, .bipush 7] 41 = true := by decide +kernel
theorem D261_41 : decode T261.2.2.1 41 = .ok (.invokestatic 123, 3) := by decide +kernel
theorem D261_44 : decode T261.2.2.1 44 = .ok (.ifCond .ne 5, 3) := by decide +kernel
theorem B261_49_52 : s_dk T261.2.2.1 49 [.aload_n 0, .iload_n 1, .iload_n 2] 52 = true := by decide +kernel
theorem D261_52 : decode T261.2.2.1 52 = .ok (.invokevirtual 446, 3) := by decide +kernel
theorem B261_55_57 : s_dk T261.2.2.1 55 [.pop2, .aload_n 0] 57 = true := by decide +kernel
theorem D261_57 : decode T261.2.2.1 57 = .ok (.getfield 27, 3) := by decide +kernel
theorem B261_60_62 : s_dk T261.2.2.1 60 [.iconst 3, .aload_n 0] 62 = true := by decide +kernel
theorem gf_11_440_77 : s_gf 11 440 77 = some (46, 1) := by decide +kernel
theorem D261_62 : decode T261.2.2.1 62 = .ok (.getfield 440, 3) := by decide +kernel
theorem B261_65_68 : s_dk T261.2.2.1 65 [.imul, .aload_n 0, .iload_n 3] 68 = true := by decide +kernel
theorem D261_68 : decode T261.2.2.1 68 = .ok (.invokevirtual 209, 3) := by decide +kernel
theorem B261_71_72 : s_dk T261.2.2.1 71 [.iadd] 72 = true := by decide +kernel
theorem D261_72 : decode T261.2.2.1 72 = .ok (.iaload, 1) := by decide +kernel
theorem B261_73_80 : s_dk T261.2.2.1 73 [.istore 6, .iload 4, .aload_n 0, .iload_n 2, .iload_n 3] 80 = true := by decide +kernel
theorem D261_80 : decode T261.2.2.1 80 = .ok (.invokevirtual 161, 3) := by decide +kernel
theorem D261_83 : decode T261.2.2.1 83 = .ok (.if_icmp .eq 7, 3) := by decide +kernel
theorem B261_90_96 : s_dk T261.2.2.1 90 [.iconst 0, .iload 6, .aload_n 0, .iload_n 2, .iload_n 3] 96 = true := by decide +kernel
theorem D261_96 : decode T261.2.2.1 96 = .ok (.invokevirtual 161, 3) := by decide +kernel
theorem D261_99 : decode T261.2.2.1 99 = .ok (.if_icmp .eq 7, 3) := by decide +kernel
theorem B261_106_112 : s_dk T261.2.2.1 106 [.iconst 0, .iadd, .iload 5, .iload 6] 112 = true := by decide +kernel
theorem D261_112 : decode T261.2.2.1 112 = .ok (.if_icmp .eq 7, 3) := by decide +kernel
theorem B261_119_121 : s_dk T261.2.2.1 119 [.iconst 0, .iadd] 121 = true := by decide +kernel
theorem D261_121 : decode T261.2.2.1 121 = .ok (.ireturn, 1) := by decide +kernel
theorem B261_115_116 : s_dk T261.2.2.1 115 [.iconst 4] 116 = true := by decide +kernel
theorem D261_116 : decode T261.2.2.1 116 = .ok (.goto 4, 3) := by decide +kernel
theorem B261_120_121 : s_dk T261.2.2.1 120 [.iadd] 121 = true := by decide +kernel
theorem B261_102_103 : s_dk T261.2.2.1 102 [.iconst 2] 103 = true := by decide +kernel
theorem D261_103 : decode T261.2.2.1 103 = .ok (.goto 4, 3) := by decide +kernel
theorem B261_107_112 : s_dk T261.2.2.1 107 [.iadd, .iload 5, .iload 6] 112 = true := by decide +kernel
theorem B261_86_87 : s_dk T261.2.2.1 86 [.iconst 1] 87 = true := by decide +kernel
theorem D261_87 : decode T261.2.2.1 87 = .ok (.goto 4, 3) := by decide +kernel
theorem B261_91_96 : s_dk T261.2.2.1 91 [.iload 6, .aload_n 0, .iload_n 2, .iload_n 3] 96 = true := by decide +kernel
def T262 : mT := (11, yX11_read, cX11_read, 7, (some .int))
set_option maxRecDepth 10000 in
theorem TE262 : sy_m[262]? = some T262 := rfl
theorem B262_0_1 : s_dk T262.2.2.1 0 [.aload_n 0] 1 = true := by decide +kernel
theorem D262_1 : decode T262.2.2.1 1 = .ok (.getfield 151, 3) := by decide +kernel
theorem B262_4_7 : s_dk T262.2.2.1 4 [.istore_n 2, .aload_n 0, .iconst 0] 7 = true := by decide +kernel
theorem D262_7 : decode T262.2.2.1 7 = .ok (.putfield 151, 3) := by decide +kernel
theorem B262_10_12 : s_dk T262.2.2.1 10 [.aload_n 0, .iload_n 1] 12 = true := by decide +kernel
theorem D262_12 : decode T262.2.2.1 12 = .ok (.invokevirtual 164, 3) := by decide +kernel
theorem D262_15 : decode T262.2.2.1 15 = .ok (.ifCond .ne 5, 3) := by decide +kernel
theorem B262_20_25 : s_dk T262.2.2.1 20 [.iconst 0, .istore_n 3, .iconst 0, .istore 4] 25 = true := by decide +kernel
theorem B262_18_19 : s_dk T262.2.2.1 18 [.iconst (-1)] 19 = true := by decide +kernel
theorem D262_19 : decode T262.2.2.1 19 = .ok (.ireturn, 1) := by decide +kernel
theorem B262_25_28 : s_dk T262.2.2.1 25 [.iload 4, .aload_n 0] 28 = true := by decide +kernel
theorem D262_28 : decode T262.2.2.1 28 = .ok (.getfield 13, 3) := by decide +kernel
theorem B262_31_34 : s_dk T262.2.2.1 31 [.sipush 471] 34 = true := by decide +kernel
theorem D262_34 : decode T262.2.2.1 34 = .ok (.iaload, 1) := by decide +kernel
theorem D262_35 : decode T262.2.2.1 35 = .ok (.if_icmp .ge 105, 3) := by decide +kernel
theorem B262_140_141 : s_dk T262.2.2.1 140 [.iload_n 3] 141 = true := by decide +kernel
theorem D262_141 : decode T262.2.2.1 141 = .ok (.ireturn, 1) := by decide +kernel
theorem B262_38_42 : s_dk T262.2.2.1 38 [.aload_n 0, .iload 4, .iload_n 1] 42 = true := by decide +kernel
theorem D262_42 : decode T262.2.2.1 42 = .ok (.invokevirtual 446, 3) := by decide +kernel
theorem B262_45_47 : s_dk T262.2.2.1 45 [.pop2, .aload_n 0] 47 = true := by decide +kernel
theorem D262_47 : decode T262.2.2.1 47 = .ok (.getfield 437, 3) := by decide +kernel
theorem B262_50_51 : s_dk T262.2.2.1 50 [.iload_n 2] 51 = true := by decide +kernel
theorem D262_51 : decode T262.2.2.1 51 = .ok (.if_icmp .ne 7, 3) := by decide +kernel
theorem B262_58_64 : s_dk T262.2.2.1 58 [.iconst 0, .istore 5, .iconst 0, .istore 6] 64 = true := by decide +kernel
theorem B262_54_55 : s_dk T262.2.2.1 54 [.iconst 1] 55 = true := by decide +kernel
theorem D262_55 : decode T262.2.2.1 55 = .ok (.goto 4, 3) := by decide +kernel
theorem B262_59_64 : s_dk T262.2.2.1 59 [.istore 5, .iconst 0, .istore 6] 64 = true := by decide +kernel
theorem B262_64_67 : s_dk T262.2.2.1 64 [.iload 6, .iload_n 2] 67 = true := by decide +kernel
theorem D262_67 : decode T262.2.2.1 67 = .ok (.if_icmp .ge 55, 3) := by decide +kernel
theorem B262_122_124 : s_dk T262.2.2.1 122 [.iload 5] 124 = true := by decide +kernel
theorem D262_124 : decode T262.2.2.1 124 = .ok (.ifCond .eq 10, 3) := by decide +kernel
theorem B262_134_137 : s_dk T262.2.2.1 134 [.iinc 4 1] 137 = true := by decide +kernel
theorem D262_137 : decode T262.2.2.1 137 = .ok (.goto (-112), 3) := by decide +kernel
theorem B262_70_72 : s_dk T262.2.2.1 70 [.iload 5] 72 = true := by decide +kernel
theorem D262_72 : decode T262.2.2.1 72 = .ok (.ifCond .eq 50, 3) := by decide +kernel
theorem B262_127_131 : s_dk T262.2.2.1 127 [.iload_n 3, .iconst 1, .iload 4] 131 = true := by decide +kernel
theorem D262_131 : decode T262.2.2.1 131 = .ok (.ishl, 1) := by decide +kernel
theorem D262_132 : decode T262.2.2.1 132 = .ok (.ior, 1) := by decide +kernel
theorem B262_133_137 : s_dk T262.2.2.1 133 [.istore_n 3, .iinc 4 1] 137 = true := by decide +kernel
theorem B262_75_76 : s_dk T262.2.2.1 75 [.aload_n 0] 76 = true := by decide +kernel
theorem D262_76 : decode T262.2.2.1 76 = .ok (.getfield 69, 3) := by decide +kernel
theorem B262_79_81 : s_dk T262.2.2.1 79 [.iload 6] 81 = true := by decide +kernel
theorem D262_81 : decode T262.2.2.1 81 = .ok (.baload, 1) := by decide +kernel
theorem B262_82_85 : s_dk T262.2.2.1 82 [.sipush 255] 85 = true := by decide +kernel
theorem D262_85 : decode T262.2.2.1 85 = .ok (.iand, 1) := by decide +kernel
theorem B262_86_89 : s_dk T262.2.2.1 86 [.sipush 255] 89 = true := by decide +kernel
theorem D262_89 : decode T262.2.2.1 89 = .ok (.if_icmp .eq 20, 3) := by decide +kernel
theorem B262_109_110 : s_dk T262.2.2.1 109 [.iconst 1] 110 = true := by decide +kernel
theorem D262_110 : decode T262.2.2.1 110 = .ok (.goto 4, 3) := by decide +kernel
theorem B262_114_119 : s_dk T262.2.2.1 114 [.istore 5, .iinc 6 1] 119 = true := by decide +kernel
theorem D262_119 : decode T262.2.2.1 119 = .ok (.goto (-55), 3) := by decide +kernel
theorem B262_92_93 : s_dk T262.2.2.1 92 [.aload_n 0] 93 = true := by decide +kernel
theorem D262_93 : decode T262.2.2.1 93 = .ok (.getfield 69, 3) := by decide +kernel
theorem B262_96_98 : s_dk T262.2.2.1 96 [.iload 6] 98 = true := by decide +kernel
theorem D262_98 : decode T262.2.2.1 98 = .ok (.baload, 1) := by decide +kernel
theorem B262_99_100 : s_dk T262.2.2.1 99 [.aload_n 0] 100 = true := by decide +kernel
theorem D262_100 : decode T262.2.2.1 100 = .ok (.getfield 90, 3) := by decide +kernel
theorem B262_103_105 : s_dk T262.2.2.1 103 [.iload 6] 105 = true := by decide +kernel
theorem D262_105 : decode T262.2.2.1 105 = .ok (.iaload, 1) := by decide +kernel
theorem D262_106 : decode T262.2.2.1 106 = .ok (.if_icmp .ne 7, 3) := by decide +kernel
theorem B262_113_119 : s_dk T262.2.2.1 113 [.iconst 0, .istore 5, .iinc 6 1] 119 = true := by decide +kernel
def T264 : mT := (11, yX11_parting, cX11_parting, 8, (some .int))
set_option maxRecDepth 10000 in
theorem TE264 : sy_m[264]? = some T264 := rfl
theorem B264_0_3 : s_dk T264.2.2.1 0 [.iload_n 1, .iconst 0, .iconst 1] 3 = true := by decide +kernel
theorem D264_3 : decode T264.2.2.1 3 = .ok (.invokestatic 123, 3) := by decide +kernel
theorem D264_6 : decode T264.2.2.1 6 = .ok (.ifCond .ne 5, 3) := by decide +kernel
theorem B264_11_18 : s_dk T264.2.2.1 11 [.iconst (-1), .istore_n 2, .iconst 0, .istore_n 3, .iconst 0, .istore 4] 18 = true := by decide +kernel
theorem B264_9_10 : s_dk T264.2.2.1 9 [.iconst (-1)] 10 = true := by decide +kernel
theorem D264_10 : decode T264.2.2.1 10 = .ok (.ireturn, 1) := by decide +kernel
theorem B264_18_21 : s_dk T264.2.2.1 18 [.iload 4, .aload_n 0] 21 = true := by decide +kernel
theorem D264_21 : decode T264.2.2.1 21 = .ok (.getfield 13, 3) := by decide +kernel
theorem B264_24_27 : s_dk T264.2.2.1 24 [.sipush 469] 27 = true := by decide +kernel
theorem D264_27 : decode T264.2.2.1 27 = .ok (.iaload, 1) := by decide +kernel
theorem D264_28 : decode T264.2.2.1 28 = .ok (.if_icmp .ge 156, 3) := by decide +kernel
theorem B264_184_185 : s_dk T264.2.2.1 184 [.iload_n 1] 185 = true := by decide +kernel
theorem D264_185 : decode T264.2.2.1 185 = .ok (.ifCond .eq 8, 3) := by decide +kernel
theorem B264_193_194 : s_dk T264.2.2.1 193 [.iload_n 2] 194 = true := by decide +kernel
theorem D264_194 : decode T264.2.2.1 194 = .ok (.goto 4, 3) := by decide +kernel
theorem D264_198 : decode T264.2.2.1 198 = .ok (.ireturn, 1) := by decide +kernel
theorem B264_188_190 : s_dk T264.2.2.1 188 [.iload_n 2, .iconst (-1)] 190 = true := by decide +kernel
theorem D264_190 : decode T264.2.2.1 190 = .ok (.if_icmp .ne 7, 3) := by decide +kernel
theorem B264_31_34 : s_dk T264.2.2.1 31 [.aload_n 0, .iload 4] 34 = true := by decide +kernel
theorem D264_34 : decode T264.2.2.1 34 = .ok (.invokevirtual 138, 3) := by decide +kernel
theorem D264_37 : decode T264.2.2.1 37 = .ok (.ifCond .ne 6, 3) := by decide +kernel
theorem B264_43_49 : s_dk T264.2.2.1 43 [.iconst 0, .istore 5, .iconst 0, .istore 6] 49 = true := by decide +kernel
theorem D264_40 : decode T264.2.2.1 40 = .ok (.goto 138, 3) := by decide +kernel
theorem B264_178_181 : s_dk T264.2.2.1 178 [.iinc 4 1] 181 = true := by decide +kernel
theorem D264_181 : decode T264.2.2.1 181 = .ok (.goto (-163), 3) := by decide +kernel
theorem B264_49_52 : s_dk T264.2.2.1 49 [.iload 6, .aload_n 0] 52 = true := by decide +kernel
theorem D264_52 : decode T264.2.2.1 52 = .ok (.getfield 13, 3) := by decide +kernel
theorem B264_55_58 : s_dk T264.2.2.1 55 [.sipush 471] 58 = true := by decide +kernel
theorem D264_58 : decode T264.2.2.1 58 = .ok (.iaload, 1) := by decide +kernel
theorem D264_59 : decode T264.2.2.1 59 = .ok (.if_icmp .ge 104, 3) := by decide +kernel
theorem B264_163_166 : s_dk T264.2.2.1 163 [.iload 5, .iload_n 3] 166 = true := by decide +kernel
theorem D264_166 : decode T264.2.2.1 166 = .ok (.if_icmp .gt 6, 3) := by decide +kernel
theorem D264_169 : decode T264.2.2.1 169 = .ok (.goto 9, 3) := by decide +kernel
theorem B264_62_67 : s_dk T264.2.2.1 62 [.aload_n 0, .iload 6, .iload 4] 67 = true := by decide +kernel
theorem D264_67 : decode T264.2.2.1 67 = .ok (.invokevirtual 446, 3) := by decide +kernel
theorem B264_70_72 : s_dk T264.2.2.1 70 [.pop2, .aload_n 0] 72 = true := by decide +kernel
theorem D264_72 : decode T264.2.2.1 72 = .ok (.getfield 120, 3) := by decide +kernel
theorem B264_75_78 : s_dk T264.2.2.1 75 [.iload 6, .aload_n 0] 78 = true := by decide +kernel
theorem D264_78 : decode T264.2.2.1 78 = .ok (.getfield 437, 3) := by decide +kernel
theorem D264_81 : decode T264.2.2.1 81 = .ok (.iastore, 1) := by decide +kernel
theorem B264_82_85 : s_dk T264.2.2.1 82 [.iconst 0, .istore 7] 85 = true := by decide +kernel
theorem B264_85_88 : s_dk T264.2.2.1 85 [.iload 7, .aload_n 0] 88 = true := by decide +kernel
theorem D264_88 : decode T264.2.2.1 88 = .ok (.getfield 437, 3) := by decide +kernel
theorem D264_91 : decode T264.2.2.1 91 = .ok (.if_icmp .ge 29, 3) := by decide +kernel
theorem B264_120_123 : s_dk T264.2.2.1 120 [.iconst 0, .istore 7] 123 = true := by decide +kernel
theorem B264_94_95 : s_dk T264.2.2.1 94 [.aload_n 0] 95 = true := by decide +kernel
theorem D264_95 : decode T264.2.2.1 95 = .ok (.getfield 117, 3) := by decide +kernel
theorem B264_98_107 : s_dk T264.2.2.1 98 [.bipush 24, .iload 6, .imul, .iload 7, .iadd, .aload_n 0] 107 = true := by decide +kernel
theorem D264_107 : decode T264.2.2.1 107 = .ok (.getfield 90, 3) := by decide +kernel
theorem B264_110_112 : s_dk T264.2.2.1 110 [.iload 7] 112 = true := by decide +kernel
theorem D264_112 : decode T264.2.2.1 112 = .ok (.iaload, 1) := by decide +kernel
theorem D264_113 : decode T264.2.2.1 113 = .ok (.iastore, 1) := by decide +kernel
theorem B264_114_117 : s_dk T264.2.2.1 114 [.iinc 7 1] 117 = true := by decide +kernel
theorem D264_117 : decode T264.2.2.1 117 = .ok (.goto (-32), 3) := by decide +kernel
theorem B264_123_127 : s_dk T264.2.2.1 123 [.iload 7, .iload 6] 127 = true := by decide +kernel
theorem D264_127 : decode T264.2.2.1 127 = .ok (.if_icmp .ge 30, 3) := by decide +kernel
theorem B264_157_160 : s_dk T264.2.2.1 157 [.iinc 6 1] 160 = true := by decide +kernel
theorem D264_160 : decode T264.2.2.1 160 = .ok (.goto (-111), 3) := by decide +kernel
theorem B264_130_137 : s_dk T264.2.2.1 130 [.iload 5, .aload_n 0, .iload 6, .iload 7] 137 = true := by decide +kernel
theorem D264_137 : decode T264.2.2.1 137 = .ok (.invokevirtual 465, 3) := by decide +kernel
theorem ck_11_virtual_465 : m_call 11 (.invokevirtual 465) = some (0, 263, 2) := by decide +kernel
theorem D264_140 : decode T264.2.2.1 140 = .ok (.ifCond .eq 7, 3) := by decide +kernel
theorem B264_147_154 : s_dk T264.2.2.1 147 [.iconst 1, .iadd, .istore 5, .iinc 7 1] 154 = true := by decide +kernel
theorem D264_154 : decode T264.2.2.1 154 = .ok (.goto (-31), 3) := by decide +kernel
theorem B264_143_144 : s_dk T264.2.2.1 143 [.iconst 0] 144 = true := by decide +kernel
theorem D264_144 : decode T264.2.2.1 144 = .ok (.goto 4, 3) := by decide +kernel
theorem B264_148_154 : s_dk T264.2.2.1 148 [.iadd, .istore 5, .iinc 7 1] 154 = true := by decide +kernel
theorem B264_172_181 : s_dk T264.2.2.1 172 [.iload 5, .istore_n 3, .iload 4, .istore_n 2, .iinc 4 1] 181 = true := by decide +kernel
theorem B264_197_198 : s_dk T264.2.2.1 197 [.iload_n 3] 198 = true := by decide +kernel
