def T222 : mT := (11, yX11_readClause, cX11_readClause, 1, none)
set_option maxRecDepth 10000 in
theorem TE222 : sy_m[222]? = some T222 := rfl
theorem B222_0_1 : s_dk T222.2.2.1 0 [.aload_n 0] 1 = true := by decide +kernel
theorem D222_1 : decode T222.2.2.1 1 = .ok (.invokevirtual 321, 3) := by decide +kernel
theorem D222_4 : decode T222.2.2.1 4 = .ok (.ifCond .eq 34, 3) := by decide +kernel
theorem B222_38_39 : s_dk T222.2.2.1 38 [.aload_n 0] 39 = true := by decide +kernel
theorem D222_39 : decode T222.2.2.1 39 = .ok (.invokevirtual 321, 3) := by decide +kernel
theorem D222_42 : decode T222.2.2.1 42 = .ok (.ifCond .eq 13, 3) := by decide +kernel
theorem B222_55_58 : s_dk T222.2.2.1 55 [.aload_n 0, .bipush 7] 58 = true := by decide +kernel
theorem D222_58 : decode T222.2.2.1 58 = .ok (.invokevirtual 328, 3) := by decide +kernel
theorem D222_61 : decode T222.2.2.1 61 = .ok (.ifCond .eq 8, 3) := by decide +kernel
theorem D222_69 : decode T222.2.2.1 69 = .ok (.return_, 1) := by decide +kernel
theorem B222_64_66 : s_dk T222.2.2.1 64 [.aload_n 0, .iconst 0] 66 = true := by decide +kernel
theorem D222_66 : decode T222.2.2.1 66 = .ok (.invokevirtual 337, 3) := by decide +kernel
theorem B222_45_47 : s_dk T222.2.2.1 45 [.aload_n 0, .dup] 47 = true := by decide +kernel
theorem D222_47 : decode T222.2.2.1 47 = .ok (.getfield 325, 3) := by decide +kernel
theorem B222_50_52 : s_dk T222.2.2.1 50 [.iconst 1, .iadd] 52 = true := by decide +kernel
theorem D222_52 : decode T222.2.2.1 52 = .ok (.putfield 325, 3) := by decide +kernel
theorem B222_7_8 : s_dk T222.2.2.1 7 [.aload_n 0] 8 = true := by decide +kernel
theorem D222_8 : decode T222.2.2.1 8 = .ok (.getfield 78, 3) := by decide +kernel
theorem B222_11_12 : s_dk T222.2.2.1 11 [.aload_n 0] 12 = true := by decide +kernel
theorem D222_12 : decode T222.2.2.1 12 = .ok (.getfield 325, 3) := by decide +kernel
theorem D222_15 : decode T222.2.2.1 15 = .ok (.iaload, 1) := by decide +kernel
theorem B222_16_17 : s_dk T222.2.2.1 16 [.iconst 1] 17 = true := by decide +kernel
theorem D222_17 : decode T222.2.2.1 17 = .ok (.if_icmp .lt 17, 3) := by decide +kernel
theorem B222_34_35 : s_dk T222.2.2.1 34 [.aload_n 0] 35 = true := by decide +kernel
theorem D222_35 : decode T222.2.2.1 35 = .ok (.invokevirtual 331, 3) := by decide +kernel
theorem B222_20_21 : s_dk T222.2.2.1 20 [.aload_n 0] 21 = true := by decide +kernel
theorem D222_21 : decode T222.2.2.1 21 = .ok (.getfield 78, 3) := by decide +kernel
theorem B222_24_25 : s_dk T222.2.2.1 24 [.aload_n 0] 25 = true := by decide +kernel
theorem D222_25 : decode T222.2.2.1 25 = .ok (.getfield 325, 3) := by decide +kernel
theorem D222_28 : decode T222.2.2.1 28 = .ok (.iaload, 1) := by decide +kernel
theorem B222_29_31 : s_dk T222.2.2.1 29 [.bipush 6] 31 = true := by decide +kernel
theorem D222_31 : decode T222.2.2.1 31 = .ok (.if_icmp .le 7, 3) := by decide +kernel
def T229 : mT := (11, yX11_reads, cX11_reads, 2, (some .boolean))
set_option maxRecDepth 10000 in
theorem TE229 : sy_m[229]? = some T229 := rfl
theorem B229_0_2 : s_dk T229.2.2.1 0 [.aload_n 0, .aload_n 0] 2 = true := by decide +kernel
theorem D229_2 : decode T229.2.2.1 2 = .ok (.getfield 151, 3) := by decide +kernel
theorem D229_5 : decode T229.2.2.1 5 = .ok (.invokevirtual 366, 3) := by decide +kernel
theorem ck_11_virtual_366 : m_call 11 (.invokevirtual 366) = some (0, 215, 1) := by decide +kernel
theorem B229_8_10 : s_dk T229.2.2.1 8 [.aload_n 0, .iconst 0] 10 = true := by decide +kernel
theorem D229_10 : decode T229.2.2.1 10 = .ok (.putfield 151, 3) := by decide +kernel
theorem B229_13_15 : s_dk T229.2.2.1 13 [.aload_n 0, .iconst 0] 15 = true := by decide +kernel
theorem D229_15 : decode T229.2.2.1 15 = .ok (.putfield 325, 3) := by decide +kernel
theorem B229_18_20 : s_dk T229.2.2.1 18 [.aload_n 0, .iconst 0] 20 = true := by decide +kernel
theorem D229_20 : decode T229.2.2.1 20 = .ok (.putfield 334, 3) := by decide +kernel
theorem B229_23_25 : s_dk T229.2.2.1 23 [.aload_n 0, .iconst (-1)] 25 = true := by decide +kernel
theorem D229_25 : decode T229.2.2.1 25 = .ok (.putfield 318, 3) := by decide +kernel
theorem B229_28_29 : s_dk T229.2.2.1 28 [.aload_n 0] 29 = true := by decide +kernel
theorem D229_29 : decode T229.2.2.1 29 = .ok (.invokevirtual 369, 3) := by decide +kernel
theorem ck_11_virtual_369 : m_call 11 (.invokevirtual 369) = some (0, 222, 0) := by decide +kernel
theorem B229_32_34 : s_dk T229.2.2.1 32 [.iconst 1, .istore_n 1] 34 = true := by decide +kernel
theorem B229_34_37 : s_dk T229.2.2.1 34 [.aload_n 0, .bipush 59] 37 = true := by decide +kernel
theorem D229_37 : decode T229.2.2.1 37 = .ok (.invokestatic 346, 3) := by decide +kernel
theorem D229_40 : decode T229.2.2.1 40 = .ok (.invokevirtual 328, 3) := by decide +kernel
theorem D229_43 : decode T229.2.2.1 43 = .ok (.ifCond .eq 30, 3) := by decide +kernel
theorem B229_73_74 : s_dk T229.2.2.1 73 [.aload_n 0] 74 = true := by decide +kernel
theorem D229_74 : decode T229.2.2.1 74 = .ok (.invokevirtual 321, 3) := by decide +kernel
theorem D229_77 : decode T229.2.2.1 77 = .ok (.ifCond .eq 18, 3) := by decide +kernel
theorem B229_95_97 : s_dk T229.2.2.1 95 [.aload_n 0, .aload_n 0] 97 = true := by decide +kernel
theorem D229_97 : decode T229.2.2.1 97 = .ok (.getfield 318, 3) := by decide +kernel
theorem pf_11_75_77 : s_pf 11 75 77 = some (32, 1) := by decide +kernel
theorem D229_100 : decode T229.2.2.1 100 = .ok (.putfield 75, 3) := by decide +kernel
theorem B229_103_104 : s_dk T229.2.2.1 103 [.aload_n 0] 104 = true := by decide +kernel
theorem D229_104 : decode T229.2.2.1 104 = .ok (.invokevirtual 321, 3) := by decide +kernel
theorem D229_107 : decode T229.2.2.1 107 = .ok (.ireturn, 1) := by decide +kernel
theorem B229_80_81 : s_dk T229.2.2.1 80 [.aload_n 0] 81 = true := by decide +kernel
theorem D229_81 : decode T229.2.2.1 81 = .ok (.getfield 325, 3) := by decide +kernel
theorem B229_84_85 : s_dk T229.2.2.1 84 [.aload_n 0] 85 = true := by decide +kernel
theorem D229_85 : decode T229.2.2.1 85 = .ok (.getfield 305, 3) := by decide +kernel
theorem D229_88 : decode T229.2.2.1 88 = .ok (.if_icmp .ge 7, 3) := by decide +kernel
theorem B229_91_92 : s_dk T229.2.2.1 91 [.aload_n 0] 92 = true := by decide +kernel
theorem D229_92 : decode T229.2.2.1 92 = .ok (.invokevirtual 331, 3) := by decide +kernel
theorem B229_46_49 : s_dk T229.2.2.1 46 [.iload_n 1, .bipush 12] 49 = true := by decide +kernel
theorem D229_49 : decode T229.2.2.1 49 = .ok (.if_icmp .ne 7, 3) := by decide +kernel
theorem B229_56_57 : s_dk T229.2.2.1 56 [.aload_n 0] 57 = true := by decide +kernel
theorem D229_57 : decode T229.2.2.1 57 = .ok (.invokevirtual 321, 3) := by decide +kernel
theorem D229_60 : decode T229.2.2.1 60 = .ok (.ifCond .eq 7, 3) := by decide +kernel
theorem B229_67_70 : s_dk T229.2.2.1 67 [.iinc 1 1] 70 = true := by decide +kernel
theorem D229_70 : decode T229.2.2.1 70 = .ok (.goto (-36), 3) := by decide +kernel
theorem B229_63_64 : s_dk T229.2.2.1 63 [.aload_n 0] 64 = true := by decide +kernel
theorem D229_64 : decode T229.2.2.1 64 = .ok (.invokevirtual 369, 3) := by decide +kernel
theorem B229_52_53 : s_dk T229.2.2.1 52 [.aload_n 0] 53 = true := by decide +kernel
theorem D229_53 : decode T229.2.2.1 53 = .ok (.invokevirtual 331, 3) := by decide +kernel
