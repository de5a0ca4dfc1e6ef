def T233 : mT := (11, yX11_passes, cX11_passes, 3, (some .boolean))
set_option maxRecDepth 10000 in
theorem TE233 : sy_m[233]? = some T233 := rfl
theorem B233_0_2 : s_dk T233.2.2.1 0 [.aload_n 0, .aload_n 0] 2 = true := by decide +kernel
theorem gf_11_378_77 : s_gf 11 378 77 = some (40, 1) := by decide +kernel
theorem D233_2 : decode T233.2.2.1 2 = .ok (.getfield 378, 3) := by decide +kernel
theorem D233_5 : decode T233.2.2.1 5 = .ok (.invokevirtual 381, 3) := by decide +kernel
theorem ck_11_virtual_381 : m_call 11 (.invokevirtual 381) = some (0, 232, 1) := by decide +kernel
theorem B233_8_9 : s_dk T233.2.2.1 8 [.iload_n 1] 9 = true := by decide +kernel
theorem D233_9 : decode T233.2.2.1 9 = .ok (.if_icmp .ne 7, 3) := by decide +kernel
theorem B233_16_19 : s_dk T233.2.2.1 16 [.iconst 0, .istore_n 2, .iload_n 2] 19 = true := by decide +kernel
theorem D233_19 : decode T233.2.2.1 19 = .ok (.ifCond .eq 13, 3) := by decide +kernel
theorem B233_32_33 : s_dk T233.2.2.1 32 [.iload_n 2] 33 = true := by decide +kernel
theorem D233_33 : decode T233.2.2.1 33 = .ok (.ireturn, 1) := by decide +kernel
theorem B233_12_13 : s_dk T233.2.2.1 12 [.iconst 1] 13 = true := by decide +kernel
theorem D233_13 : decode T233.2.2.1 13 = .ok (.goto 4, 3) := by decide +kernel
theorem B233_17_19 : s_dk T233.2.2.1 17 [.istore_n 2, .iload_n 2] 19 = true := by decide +kernel
theorem B233_22_24 : s_dk T233.2.2.1 22 [.aload_n 0, .dup] 24 = true := by decide +kernel
theorem D233_24 : decode T233.2.2.1 24 = .ok (.getfield 378, 3) := by decide +kernel
theorem B233_27_29 : s_dk T233.2.2.1 27 [.iconst 1, .iadd] 29 = true := by decide +kernel
theorem pf_11_378_77 : s_pf 11 378 77 = some (40, 1) := by decide +kernel
theorem D233_29 : decode T233.2.2.1 29 = .ok (.putfield 378, 3) := by decide +kernel
def T237 : mT := (11, yX11_partOf, cX11_partOf, 4, (some .long))
set_option maxRecDepth 10000 in
theorem TE237 : sy_m[237]? = some T237 := rfl
theorem B237_0_3 : s_dk T237.2.2.1 0 [.aload_n 0, .bipush 91] 3 = true := by decide +kernel
theorem D237_3 : decode T237.2.2.1 3 = .ok (.invokestatic 346, 3) := by decide +kernel
theorem D237_6 : decode T237.2.2.1 6 = .ok (.invokevirtual 402, 3) := by decide +kernel
theorem ck_11_virtual_402 : m_call 11 (.invokevirtual 402) = some (0, 233, 1) := by decide +kernel
theorem D237_9 : decode T237.2.2.1 9 = .ok (.ifCond .eq 21, 3) := by decide +kernel
theorem B237_30_32 : s_dk T237.2.2.1 30 [.aload_n 0, .aload_n 0] 32 = true := by decide +kernel
theorem D237_32 : decode T237.2.2.1 32 = .ok (.getfield 378, 3) := by decide +kernel
theorem D237_35 : decode T237.2.2.1 35 = .ok (.invokevirtual 381, 3) := by decide +kernel
theorem B237_38_41 : s_dk T237.2.2.1 38 [.istore_n 2, .aload_n 0, .dup] 41 = true := by decide +kernel
theorem D237_41 : decode T237.2.2.1 41 = .ok (.getfield 378, 3) := by decide +kernel
theorem B237_44_46 : s_dk T237.2.2.1 44 [.iconst 1, .iadd] 46 = true := by decide +kernel
theorem D237_46 : decode T237.2.2.1 46 = .ok (.putfield 378, 3) := by decide +kernel
theorem B237_49_50 : s_dk T237.2.2.1 49 [.iload_n 1] 50 = true := by decide +kernel
theorem D237_50 : decode T237.2.2.1 50 = .ok (.ifCond .eq 10, 3) := by decide +kernel
theorem B237_60_61 : s_dk T237.2.2.1 60 [.lconst 0] 61 = true := by decide +kernel
theorem D237_61 : decode T237.2.2.1 61 = .ok (.lreturn, 1) := by decide +kernel
theorem B237_53_54 : s_dk T237.2.2.1 53 [.aload_n 0] 54 = true := by decide +kernel
theorem D237_54 : decode T237.2.2.1 54 = .ok (.getfield 388, 3) := by decide +kernel
theorem D237_57 : decode T237.2.2.1 57 = .ok (.ifCond .eq 5, 3) := by decide +kernel
theorem B237_62_65 : s_dk T237.2.2.1 62 [.iload_n 2, .bipush 50] 65 = true := by decide +kernel
theorem D237_65 : decode T237.2.2.1 65 = .ok (.if_icmp .ne 22, 3) := by decide +kernel
theorem B237_87_88 : s_dk T237.2.2.1 87 [.aload_n 0] 88 = true := by decide +kernel
theorem gf_11_87_77 : s_gf 11 87 77 = some (43, 103) := by decide +kernel
theorem D237_88 : decode T237.2.2.1 88 = .ok (.getfield 87, 3) := by decide +kernel
theorem B237_91_95 : s_dk T237.2.2.1 91 [.iload_n 2, .bipush 13, .isub] 95 = true := by decide +kernel
theorem D237_95 : decode T237.2.2.1 95 = .ok (.iaload, 1) := by decide +kernel
theorem D237_96 : decode T237.2.2.1 96 = .ok (.i2l, 1) := by decide +kernel
theorem D237_97 : decode T237.2.2.1 97 = .ok (.lreturn, 1) := by decide +kernel
theorem B237_68_69 : s_dk T237.2.2.1 68 [.aload_n 0] 69 = true := by decide +kernel
theorem D237_69 : decode T237.2.2.1 69 = .ok (.getfield 13, 3) := by decide +kernel
theorem B237_72_76 : s_dk T237.2.2.1 72 [.sipush 3683, .aload_n 0] 76 = true := by decide +kernel
theorem D237_76 : decode T237.2.2.1 76 = .ok (.getfield 378, 3) := by decide +kernel
theorem B237_79_82 : s_dk T237.2.2.1 79 [.iadd, .iconst 1, .isub] 82 = true := by decide +kernel
theorem D237_82 : decode T237.2.2.1 82 = .ok (.iaload, 1) := by decide +kernel
theorem D237_83 : decode T237.2.2.1 83 = .ok (.i2l, 1) := by decide +kernel
theorem D237_84 : decode T237.2.2.1 84 = .ok (.goto 13, 3) := by decide +kernel
theorem B237_12_14 : s_dk T237.2.2.1 12 [.aload_n 0, .iload_n 1] 14 = true := by decide +kernel
theorem D237_14 : decode T237.2.2.1 14 = .ok (.invokevirtual 405, 3) := by decide +kernel
theorem ck_11_virtual_405 : m_call 11 (.invokevirtual 405) = some (0, 235, 1) := by decide +kernel
def T235 : mT := (11, yX11_sumOf, cX11_sumOf, 7, (some .long))
set_option maxRecDepth 10000 in
theorem TE235 : sy_m[235]? = some T235 := rfl
theorem B237_17_20 : s_dk T237.2.2.1 17 [.lstore_n 2, .aload_n 0, .dup] 20 = true := by decide +kernel
theorem D237_20 : decode T237.2.2.1 20 = .ok (.getfield 378, 3) := by decide +kernel
theorem B237_23_25 : s_dk T237.2.2.1 23 [.iconst 1, .iadd] 25 = true := by decide +kernel
theorem D237_25 : decode T237.2.2.1 25 = .ok (.putfield 378, 3) := by decide +kernel
theorem B237_28_29 : s_dk T237.2.2.1 28 [.lload_n 2] 29 = true := by decide +kernel
theorem D237_29 : decode T237.2.2.1 29 = .ok (.lreturn, 1) := by decide +kernel
def T236 : mT := (11, yX11_termOf, cX11_termOf, 7, (some .long))
set_option maxRecDepth 10000 in
theorem TE236 : sy_m[236]? = some T236 := rfl
theorem B236_0_2 : s_dk T236.2.2.1 0 [.aload_n 0, .iload_n 1] 2 = true := by decide +kernel
theorem D236_2 : decode T236.2.2.1 2 = .ok (.invokevirtual 399, 3) := by decide +kernel
theorem ck_11_virtual_399 : m_call 11 (.invokevirtual 399) = some (0, 237, 1) := by decide +kernel
theorem B236_5_6 : s_dk T236.2.2.1 5 [.lstore_n 2] 6 = true := by decide +kernel
theorem B236_6_8 : s_dk T236.2.2.1 6 [.aload_n 0, .aload_n 0] 8 = true := by decide +kernel
theorem D236_8 : decode T236.2.2.1 8 = .ok (.getfield 378, 3) := by decide +kernel
theorem D236_11 : decode T236.2.2.1 11 = .ok (.invokevirtual 381, 3) := by decide +kernel
theorem B236_14_16 : s_dk T236.2.2.1 14 [.bipush 42] 16 = true := by decide +kernel
theorem D236_16 : decode T236.2.2.1 16 = .ok (.invokestatic 346, 3) := by decide +kernel
theorem D236_19 : decode T236.2.2.1 19 = .ok (.if_icmp .eq 19, 3) := by decide +kernel
theorem B236_38_40 : s_dk T236.2.2.1 38 [.aload_n 0, .aload_n 0] 40 = true := by decide +kernel
theorem D236_40 : decode T236.2.2.1 40 = .ok (.getfield 378, 3) := by decide +kernel
theorem D236_43 : decode T236.2.2.1 43 = .ok (.invokevirtual 381, 3) := by decide +kernel
theorem B236_46_48 : s_dk T236.2.2.1 46 [.bipush 42] 48 = true := by decide +kernel
theorem D236_48 : decode T236.2.2.1 48 = .ok (.invokestatic 346, 3) := by decide +kernel
theorem D236_51 : decode T236.2.2.1 51 = .ok (.if_icmp .ne 7, 3) := by decide +kernel
theorem B236_58_63 : s_dk T236.2.2.1 58 [.iconst 0, .istore 4, .aload_n 0, .dup] 63 = true := by decide +kernel
theorem D236_63 : decode T236.2.2.1 63 = .ok (.getfield 378, 3) := by decide +kernel
theorem B236_66_68 : s_dk T236.2.2.1 66 [.iconst 1, .iadd] 68 = true := by decide +kernel
theorem D236_68 : decode T236.2.2.1 68 = .ok (.putfield 378, 3) := by decide +kernel
theorem B236_71_73 : s_dk T236.2.2.1 71 [.aload_n 0, .iload_n 1] 73 = true := by decide +kernel
theorem D236_73 : decode T236.2.2.1 73 = .ok (.invokevirtual 399, 3) := by decide +kernel
theorem B236_76_80 : s_dk T236.2.2.1 76 [.lstore 5, .iload 4] 80 = true := by decide +kernel
theorem D236_80 : decode T236.2.2.1 80 = .ok (.ifCond .ne 33, 3) := by decide +kernel
theorem B236_83_86 : s_dk T236.2.2.1 83 [.lload 5, .lconst 0] 86 = true := by decide +kernel
theorem D236_86 : decode T236.2.2.1 86 = .ok (.lcmp, 1) := by decide +kernel
theorem D236_87 : decode T236.2.2.1 87 = .ok (.ifCond .ne 26, 3) := by decide +kernel
theorem B236_113_116 : s_dk T236.2.2.1 113 [.aload_n 0, .iload 4] 116 = true := by decide +kernel
theorem D236_116 : decode T236.2.2.1 116 = .ok (.ifCond .eq 10, 3) := by decide +kernel
theorem B236_126_129 : s_dk T236.2.2.1 126 [.lload_n 2, .lload 5] 129 = true := by decide +kernel
theorem D236_129 : decode T236.2.2.1 129 = .ok (.ldiv, 1) := by decide +kernel
theorem B236_130_131 : s_dk T236.2.2.1 130 [.iload_n 1] 131 = true := by decide +kernel
theorem D236_131 : decode T236.2.2.1 131 = .ok (.invokevirtual 395, 3) := by decide +kernel
theorem ck_11_virtual_395 : m_call 11 (.invokevirtual 395) = some (0, 234, 2) := by decide +kernel
theorem B236_134_135 : s_dk T236.2.2.1 134 [.lstore_n 2] 135 = true := by decide +kernel
theorem D236_135 : decode T236.2.2.1 135 = .ok (.goto (-129), 3) := by decide +kernel
theorem B236_90_92 : s_dk T236.2.2.1 90 [.aload_n 0, .aload_n 0] 92 = true := by decide +kernel
theorem D236_92 : decode T236.2.2.1 92 = .ok (.getfield 388, 3) := by decide +kernel
theorem D236_95 : decode T236.2.2.1 95 = .ok (.ifCond .ne 7, 3) := by decide +kernel
theorem B236_102_103 : s_dk T236.2.2.1 102 [.iconst 1] 103 = true := by decide +kernel
theorem D236_103 : decode T236.2.2.1 103 = .ok (.goto 4, 3) := by decide +kernel
theorem D236_107 : decode T236.2.2.1 107 = .ok (.putfield 388, 3) := by decide +kernel
theorem B236_110_116 : s_dk T236.2.2.1 110 [.lconst 1, .lstore 5, .aload_n 0, .iload 4] 116 = true := by decide +kernel
theorem B236_98_99 : s_dk T236.2.2.1 98 [.iload_n 1] 99 = true := by decide +kernel
theorem D236_99 : decode T236.2.2.1 99 = .ok (.ifCond .eq 7, 3) := by decide +kernel
theorem B236_106_107 : s_dk T236.2.2.1 106 [.iconst 0] 107 = true := by decide +kernel
theorem B236_54_55 : s_dk T236.2.2.1 54 [.iconst 1] 55 = true := by decide +kernel
theorem D236_55 : decode T236.2.2.1 55 = .ok (.goto 4, 3) := by decide +kernel
theorem B236_59_63 : s_dk T236.2.2.1 59 [.istore 4, .aload_n 0, .dup] 63 = true := by decide +kernel
theorem B236_119_123 : s_dk T236.2.2.1 119 [.lload_n 2, .lload 5, .lmul] 123 = true := by decide +kernel
theorem D236_123 : decode T236.2.2.1 123 = .ok (.goto 7, 3) := by decide +kernel
theorem B236_22_24 : s_dk T236.2.2.1 22 [.aload_n 0, .aload_n 0] 24 = true := by decide +kernel
theorem D236_24 : decode T236.2.2.1 24 = .ok (.getfield 378, 3) := by decide +kernel
theorem D236_27 : decode T236.2.2.1 27 = .ok (.invokevirtual 381, 3) := by decide +kernel
theorem B236_30_32 : s_dk T236.2.2.1 30 [.bipush 47] 32 = true := by decide +kernel
theorem D236_32 : decode T236.2.2.1 32 = .ok (.invokestatic 346, 3) := by decide +kernel
theorem D236_35 : decode T236.2.2.1 35 = .ok (.if_icmp .ne 103, 3) := by decide +kernel
theorem B236_138_139 : s_dk T236.2.2.1 138 [.lload_n 2] 139 = true := by decide +kernel
theorem D236_139 : decode T236.2.2.1 139 = .ok (.lreturn, 1) := by decide +kernel
theorem B235_0_2 : s_dk T235.2.2.1 0 [.aload_n 0, .iload_n 1] 2 = true := by decide +kernel
theorem D235_2 : decode T235.2.2.1 2 = .ok (.invokevirtual 391, 3) := by decide +kernel
theorem ck_11_virtual_391 : m_call 11 (.invokevirtual 391) = some (0, 236, 1) := by decide +kernel
theorem B235_5_6 : s_dk T235.2.2.1 5 [.lstore_n 2] 6 = true := by decide +kernel
theorem B235_6_8 : s_dk T235.2.2.1 6 [.aload_n 0, .aload_n 0] 8 = true := by decide +kernel
theorem D235_8 : decode T235.2.2.1 8 = .ok (.getfield 378, 3) := by decide +kernel
theorem D235_11 : decode T235.2.2.1 11 = .ok (.invokevirtual 381, 3) := by decide +kernel
theorem B235_14_16 : s_dk T235.2.2.1 14 [.bipush 43] 16 = true := by decide +kernel
theorem D235_16 : decode T235.2.2.1 16 = .ok (.invokestatic 346, 3) := by decide +kernel
theorem D235_19 : decode T235.2.2.1 19 = .ok (.if_icmp .eq 19, 3) := by decide +kernel
theorem B235_38_40 : s_dk T235.2.2.1 38 [.aload_n 0, .aload_n 0] 40 = true := by decide +kernel
theorem D235_40 : decode T235.2.2.1 40 = .ok (.getfield 378, 3) := by decide +kernel
theorem D235_43 : decode T235.2.2.1 43 = .ok (.invokevirtual 381, 3) := by decide +kernel
theorem B235_46_48 : s_dk T235.2.2.1 46 [.bipush 43] 48 = true := by decide +kernel
theorem D235_48 : decode T235.2.2.1 48 = .ok (.invokestatic 346, 3) := by decide +kernel
theorem D235_51 : decode T235.2.2.1 51 = .ok (.if_icmp .ne 7, 3) := by decide +kernel
theorem B235_58_63 : s_dk T235.2.2.1 58 [.iconst 0, .istore 4, .aload_n 0, .dup] 63 = true := by decide +kernel
theorem D235_63 : decode T235.2.2.1 63 = .ok (.getfield 378, 3) := by decide +kernel
theorem B235_66_68 : s_dk T235.2.2.1 66 [.iconst 1, .iadd] 68 = true := by decide +kernel
theorem D235_68 : decode T235.2.2.1 68 = .ok (.putfield 378, 3) := by decide +kernel
theorem B235_71_73 : s_dk T235.2.2.1 71 [.aload_n 0, .iload_n 1] 73 = true := by decide +kernel
theorem D235_73 : decode T235.2.2.1 73 = .ok (.invokevirtual 391, 3) := by decide +kernel
theorem B235_76_81 : s_dk T235.2.2.1 76 [.lstore 5, .aload_n 0, .iload 4] 81 = true := by decide +kernel
theorem D235_81 : decode T235.2.2.1 81 = .ok (.ifCond .eq 10, 3) := by decide +kernel
theorem B235_91_96 : s_dk T235.2.2.1 91 [.lload_n 2, .lload 5, .lsub, .iload_n 1] 96 = true := by decide +kernel
theorem D235_96 : decode T235.2.2.1 96 = .ok (.invokevirtual 395, 3) := by decide +kernel
theorem B235_99_100 : s_dk T235.2.2.1 99 [.lstore_n 2] 100 = true := by decide +kernel
theorem D235_100 : decode T235.2.2.1 100 = .ok (.goto (-94), 3) := by decide +kernel
theorem B235_54_55 : s_dk T235.2.2.1 54 [.iconst 1] 55 = true := by decide +kernel
theorem D235_55 : decode T235.2.2.1 55 = .ok (.goto 4, 3) := by decide +kernel
theorem B235_59_63 : s_dk T235.2.2.1 59 [.istore 4, .aload_n 0, .dup] 63 = true := by decide +kernel
theorem B235_84_88 : s_dk T235.2.2.1 84 [.lload_n 2, .lload 5, .ladd] 88 = true := by decide +kernel
theorem D235_88 : decode T235.2.2.1 88 = .ok (.goto 7, 3) := by decide +kernel
theorem B235_95_96 : s_dk T235.2.2.1 95 [.iload_n 1] 96 = true := by decide +kernel
theorem B235_22_24 : s_dk T235.2.2.1 22 [.aload_n 0, .aload_n 0] 24 = true := by decide +kernel
theorem D235_24 : decode T235.2.2.1 24 = .ok (.getfield 378, 3) := by decide +kernel
theorem D235_27 : decode T235.2.2.1 27 = .ok (.invokevirtual 381, 3) := by decide +kernel
theorem B235_30_32 : s_dk T235.2.2.1 30 [.bipush 45] 32 = true := by decide +kernel
theorem D235_32 : decode T235.2.2.1 32 = .ok (.invokestatic 346, 3) := by decide +kernel
theorem D235_35 : decode T235.2.2.1 35 = .ok (.if_icmp .ne 68, 3) := by decide +kernel
theorem B235_103_104 : s_dk T235.2.2.1 103 [.lload_n 2] 104 = true := by decide +kernel
theorem D235_104 : decode T235.2.2.1 104 = .ok (.lreturn, 1) := by decide +kernel
