def T225 : mT := (11, yX11_readPlain, cX11_readPlain, 4, none)
set_option maxRecDepth 10000 in
theorem TE225 : sy_m[225]? = some T225 := rfl
theorem B225_0_2 : s_dk T225.2.2.1 0 [.iconst 1, .istore_n 2] 2 = true := by decide +kernel
theorem B225_2_3 : s_dk T225.2.2.1 2 [.iload_n 2] 3 = true := by decide +kernel
theorem D225_3 : decode T225.2.2.1 3 = .ok (.ifCond .eq 13, 3) := by decide +kernel
theorem B225_6_9 : s_dk T225.2.2.1 6 [.aload_n 0, .bipush 10] 9 = true := by decide +kernel
theorem D225_9 : decode T225.2.2.1 9 = .ok (.invokevirtual 328, 3) := by decide +kernel
theorem B225_12_13 : s_dk T225.2.2.1 12 [.istore_n 2] 13 = true := by decide +kernel
theorem D225_13 : decode T225.2.2.1 13 = .ok (.goto (-11), 3) := by decide +kernel
theorem B225_16_17 : s_dk T225.2.2.1 16 [.aload_n 0] 17 = true := by decide +kernel
theorem D225_17 : decode T225.2.2.1 17 = .ok (.invokevirtual 321, 3) := by decide +kernel
theorem D225_20 : decode T225.2.2.1 20 = .ok (.ifCond .ne 4, 3) := by decide +kernel
theorem B225_24_25 : s_dk T225.2.2.1 24 [.aload_n 0] 25 = true := by decide +kernel
theorem D225_25 : decode T225.2.2.1 25 = .ok (.getfield 78, 3) := by decide +kernel
theorem B225_28_29 : s_dk T225.2.2.1 28 [.aload_n 0] 29 = true := by decide +kernel
theorem D225_29 : decode T225.2.2.1 29 = .ok (.getfield 325, 3) := by decide +kernel
theorem D225_32 : decode T225.2.2.1 32 = .ok (.iaload, 1) := by decide +kernel
theorem B225_33_37 : s_dk T225.2.2.1 33 [.istore_n 3, .iload_n 3, .bipush 40] 37 = true := by decide +kernel
theorem D225_37 : decode T225.2.2.1 37 = .ok (.invokestatic 346, 3) := by decide +kernel
theorem D225_40 : decode T225.2.2.1 40 = .ok (.if_icmp .ne 50, 3) := by decide +kernel
theorem B225_90_93 : s_dk T225.2.2.1 90 [.iload_n 3, .bipush 11] 93 = true := by decide +kernel
theorem D225_93 : decode T225.2.2.1 93 = .ok (.if_icmp .eq 9, 3) := by decide +kernel
theorem B225_102_103 : s_dk T225.2.2.1 102 [.aload_n 0] 103 = true := by decide +kernel
theorem D225_103 : decode T225.2.2.1 103 = .ok (.invokevirtual 353, 3) := by decide +kernel
theorem D225_106 : decode T225.2.2.1 106 = .ok (.goto 46, 3) := by decide +kernel
theorem D225_152 : decode T225.2.2.1 152 = .ok (.return_, 1) := by decide +kernel
theorem B225_96_99 : s_dk T225.2.2.1 96 [.iload_n 3, .bipush 12] 99 = true := by decide +kernel
theorem D225_99 : decode T225.2.2.1 99 = .ok (.if_icmp .ne 10, 3) := by decide +kernel
theorem B225_109_111 : s_dk T225.2.2.1 109 [.aload_n 0, .iload_n 1] 111 = true := by decide +kernel
theorem D225_111 : decode T225.2.2.1 111 = .ok (.invokevirtual 356, 3) := by decide +kernel
theorem B225_114_117 : s_dk T225.2.2.1 114 [.aload_n 0, .bipush 60] 117 = true := by decide +kernel
theorem D225_117 : decode T225.2.2.1 117 = .ok (.invokestatic 346, 3) := by decide +kernel
theorem D225_120 : decode T225.2.2.1 120 = .ok (.invokevirtual 328, 3) := by decide +kernel
theorem D225_123 : decode T225.2.2.1 123 = .ok (.ifCond .ne 24, 3) := by decide +kernel
theorem B225_147_149 : s_dk T225.2.2.1 147 [.aload_n 0, .iload_n 1] 149 = true := by decide +kernel
theorem D225_149 : decode T225.2.2.1 149 = .ok (.invokevirtual 356, 3) := by decide +kernel
theorem B225_126_129 : s_dk T225.2.2.1 126 [.aload_n 0, .bipush 62] 129 = true := by decide +kernel
theorem D225_129 : decode T225.2.2.1 129 = .ok (.invokestatic 346, 3) := by decide +kernel
theorem D225_132 : decode T225.2.2.1 132 = .ok (.invokevirtual 328, 3) := by decide +kernel
theorem D225_135 : decode T225.2.2.1 135 = .ok (.ifCond .ne 12, 3) := by decide +kernel
theorem B225_138_141 : s_dk T225.2.2.1 138 [.aload_n 0, .bipush 61] 141 = true := by decide +kernel
theorem D225_141 : decode T225.2.2.1 141 = .ok (.invokestatic 346, 3) := by decide +kernel
theorem D225_144 : decode T225.2.2.1 144 = .ok (.invokevirtual 350, 3) := by decide +kernel
theorem B225_43_46 : s_dk T225.2.2.1 43 [.iload_n 1, .bipush 8] 46 = true := by decide +kernel
theorem D225_46 : decode T225.2.2.1 46 = .ok (.if_icmp .ne 7, 3) := by decide +kernel
theorem B225_53_54 : s_dk T225.2.2.1 53 [.aload_n 0] 54 = true := by decide +kernel
theorem D225_54 : decode T225.2.2.1 54 = .ok (.invokevirtual 321, 3) := by decide +kernel
theorem D225_57 : decode T225.2.2.1 57 = .ok (.ifCond .ne 4, 3) := by decide +kernel
theorem B225_61_63 : s_dk T225.2.2.1 61 [.aload_n 0, .dup] 63 = true := by decide +kernel
theorem D225_63 : decode T225.2.2.1 63 = .ok (.getfield 325, 3) := by decide +kernel
theorem B225_66_68 : s_dk T225.2.2.1 66 [.iconst 1, .iadd] 68 = true := by decide +kernel
theorem D225_68 : decode T225.2.2.1 68 = .ok (.putfield 325, 3) := by decide +kernel
theorem B225_71_75 : s_dk T225.2.2.1 71 [.aload_n 0, .iload_n 1, .iconst 1, .iadd] 75 = true := by decide +kernel
theorem D225_75 : decode T225.2.2.1 75 = .ok (.invokevirtual 337, 3) := by decide +kernel
theorem ck_11_virtual_337 : m_call 11 (.invokevirtual 337) = some (0, 223, 1) := by decide +kernel
def T223 : mT := (11, yX11_readTest, cX11_readTest, 2, none)
set_option maxRecDepth 10000 in
theorem TE223 : sy_m[223]? = some T223 := rfl
theorem B225_78_81 : s_dk T225.2.2.1 78 [.aload_n 0, .bipush 41] 81 = true := by decide +kernel
theorem D225_81 : decode T225.2.2.1 81 = .ok (.invokestatic 346, 3) := by decide +kernel
theorem D225_84 : decode T225.2.2.1 84 = .ok (.invokevirtual 350, 3) := by decide +kernel
theorem D225_87 : decode T225.2.2.1 87 = .ok (.goto 65, 3) := by decide +kernel
theorem D225_60 : decode T225.2.2.1 60 = .ok (.return_, 1) := by decide +kernel
theorem B225_49_50 : s_dk T225.2.2.1 49 [.aload_n 0] 50 = true := by decide +kernel
theorem D225_50 : decode T225.2.2.1 50 = .ok (.invokevirtual 331, 3) := by decide +kernel
theorem D225_23 : decode T225.2.2.1 23 = .ok (.return_, 1) := by decide +kernel
def T224 : mT := (11, yX11_readBoth, cX11_readBoth, 2, none)
set_option maxRecDepth 10000 in
theorem TE224 : sy_m[224]? = some T224 := rfl
theorem B224_0_2 : s_dk T224.2.2.1 0 [.aload_n 0, .iload_n 1] 2 = true := by decide +kernel
theorem D224_2 : decode T224.2.2.1 2 = .ok (.invokevirtual 343, 3) := by decide +kernel
theorem ck_11_virtual_343 : m_call 11 (.invokevirtual 343) = some (0, 225, 1) := by decide +kernel
theorem B224_5_8 : s_dk T224.2.2.1 5 [.aload_n 0, .bipush 9] 8 = true := by decide +kernel
theorem D224_8 : decode T224.2.2.1 8 = .ok (.invokevirtual 328, 3) := by decide +kernel
theorem D224_11 : decode T224.2.2.1 11 = .ok (.ifCond .eq 11, 3) := by decide +kernel
theorem D224_22 : decode T224.2.2.1 22 = .ok (.return_, 1) := by decide +kernel
theorem B224_14_16 : s_dk T224.2.2.1 14 [.aload_n 0, .iload_n 1] 16 = true := by decide +kernel
theorem D224_16 : decode T224.2.2.1 16 = .ok (.invokevirtual 343, 3) := by decide +kernel
theorem D224_19 : decode T224.2.2.1 19 = .ok (.goto (-14), 3) := by decide +kernel
theorem B223_0_2 : s_dk T223.2.2.1 0 [.aload_n 0, .iload_n 1] 2 = true := by decide +kernel
theorem D223_2 : decode T223.2.2.1 2 = .ok (.invokevirtual 340, 3) := by decide +kernel
theorem ck_11_virtual_340 : m_call 11 (.invokevirtual 340) = some (0, 224, 1) := by decide +kernel
theorem B223_5_8 : s_dk T223.2.2.1 5 [.aload_n 0, .bipush 8] 8 = true := by decide +kernel
theorem D223_8 : decode T223.2.2.1 8 = .ok (.invokevirtual 328, 3) := by decide +kernel
theorem D223_11 : decode T223.2.2.1 11 = .ok (.ifCond .eq 11, 3) := by decide +kernel
theorem D223_22 : decode T223.2.2.1 22 = .ok (.return_, 1) := by decide +kernel
theorem B223_14_16 : s_dk T223.2.2.1 14 [.aload_n 0, .iload_n 1] 16 = true := by decide +kernel
theorem D223_16 : decode T223.2.2.1 16 = .ok (.invokevirtual 340, 3) := by decide +kernel
theorem D223_19 : decode T223.2.2.1 19 = .ok (.goto (-14), 3) := by decide +kernel
