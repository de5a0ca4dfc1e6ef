noncomputable def T142 : mT := (10, yX10_within, cX10_within, 3, (some .boolean))
set_option maxRecDepth 10000 in
theorem TE142 : sy_m[142]? = some T142 := rfl
theorem B142_0_2 : s_dk T142.2.2.1 0 [.iload_n 0, .iload_n 1] 2 = true := by decide +kernel
theorem D142_2 : decode T142.2.2.1 2 = .ok (.if_icmp .lt 12, 3) := by decide +kernel
theorem B142_14_15 : s_dk T142.2.2.1 14 [.iconst 0] 15 = true := by decide +kernel
theorem D142_15 : decode T142.2.2.1 15 = .ok (.ireturn, 1) := by decide +kernel
theorem B142_5_7 : s_dk T142.2.2.1 5 [.iload_n 0, .iload_n 2] 7 = true := by decide +kernel
theorem D142_7 : decode T142.2.2.1 7 = .ok (.if_icmp .gt 7, 3) := by decide +kernel
theorem B142_10_11 : s_dk T142.2.2.1 10 [.iconst 1] 11 = true := by decide +kernel
theorem D142_11 : decode T142.2.2.1 11 = .ok (.goto 4, 3) := by decide +kernel
noncomputable def T143 : mT := (10, yX10_isSlot, cX10_isSlot, 1, (some .boolean))
set_option maxRecDepth 10000 in
theorem TE143 : sy_m[143]? = some T143 := rfl
theorem B143_0_3 : s_dk T143.2.2.1 0 [.iload_n 0, .iconst 0, .iconst 2] 3 = true := by decide +kernel
theorem D143_3 : decode T143.2.2.1 3 = .ok (.invokestatic 102, 3) := by decide +kernel
theorem ck_10_static_102 : m_call 10 (.invokestatic 102) = some (1, 142, 3) := by decide +kernel
theorem D143_6 : decode T143.2.2.1 6 = .ok (.ireturn, 1) := by decide +kernel
noncomputable def T144 : mT := (10, yX10_isValue, cX10_isValue, 1, (some .boolean))
set_option maxRecDepth 10000 in
theorem TE144 : sy_m[144]? = some T144 := rfl
theorem B144_0_4 : s_dk T144.2.2.1 0 [.iload_n 0, .iconst 0, .bipush 7] 4 = true := by decide +kernel
theorem D144_4 : decode T144.2.2.1 4 = .ok (.invokestatic 102, 3) := by decide +kernel
theorem D144_7 : decode T144.2.2.1 7 = .ok (.ireturn, 1) := by decide +kernel
noncomputable def T145 : mT := (10, yX10_replace, cX10_replace, 4, (some .int))
set_option maxRecDepth 10000 in
theorem TE145 : sy_m[145]? = some T145 := rfl
theorem B145_0_2 : s_dk T145.2.2.1 0 [.aload_n 0, .iload_n 1] 2 = true := by decide +kernel
theorem D145_2 : decode T145.2.2.1 2 = .ok (.iaload, 1) := by decide +kernel
theorem B145_3_7 : s_dk T145.2.2.1 3 [.istore_n 3, .aload_n 0, .iload_n 1, .iload_n 2] 7 = true := by decide +kernel
theorem D145_7 : decode T145.2.2.1 7 = .ok (.iastore, 1) := by decide +kernel
theorem B145_8_9 : s_dk T145.2.2.1 8 [.iload_n 3] 9 = true := by decide +kernel
theorem D145_9 : decode T145.2.2.1 9 = .ok (.ireturn, 1) := by decide +kernel
noncomputable def T146 : mT := (10, yX10_commonDivisor, cX10_commonDivisor, 6, (some .int))
set_option maxRecDepth 10000 in
theorem TE146 : sy_m[146]? = some T146 := rfl
theorem B146_0_7 : s_dk T146.2.2.1 0 [.iload_n 0, .istore_n 2, .iload_n 1, .istore_n 3, .iconst 0, .istore 4] 7 = true := by decide +kernel
theorem B146_7_11 : s_dk T146.2.2.1 7 [.iload 4, .bipush 64] 11 = true := by decide +kernel
theorem D146_11 : decode T146.2.2.1 11 = .ok (.if_icmp .ge 23, 3) := by decide +kernel
theorem B146_14_15 : s_dk T146.2.2.1 14 [.iload_n 3] 15 = true := by decide +kernel
theorem D146_15 : decode T146.2.2.1 15 = .ok (.ifCond .eq 19, 3) := by decide +kernel
theorem B146_34_36 : s_dk T146.2.2.1 34 [.iload_n 2, .iconst 1] 36 = true := by decide +kernel
theorem D146_36 : decode T146.2.2.1 36 = .ok (.invokestatic 342, 3) := by decide +kernel
theorem mc_10_static_342 : m_call 10 (.invokestatic 342) = none := by decide +kernel
theorem sp_10_342 : m_sp 10 342 = some 2 := by decide +kernel
theorem D146_39 : decode T146.2.2.1 39 = .ok (.ireturn, 1) := by decide +kernel
theorem B146_18_20 : s_dk T146.2.2.1 18 [.iload_n 2, .iload_n 3] 20 = true := by decide +kernel
theorem D146_20 : decode T146.2.2.1 20 = .ok (.irem, 1) := by decide +kernel
theorem B146_21_31 : s_dk T146.2.2.1 21 [.istore 5, .iload_n 3, .istore_n 2, .iload 5, .istore_n 3, .iinc 4 1] 31 = true := by decide +kernel
theorem D146_31 : decode T146.2.2.1 31 = .ok (.goto (-24), 3) := by decide +kernel
noncomputable def T133 : mT := (10, yX10_refuse, cX10_refuse, 2, (some .int))
set_option maxRecDepth 10000 in
theorem TE133 : sy_m[133]? = some T133 := rfl
theorem B133_0_2 : s_dk T133.2.2.1 0 [.aload_n 0, .iload_n 1] 2 = true := by decide +kernel
theorem pf_10_31_0 : s_pf 10 31 0 = some (5, 1) := by decide +kernel
theorem D133_2 : decode T133.2.2.1 2 = .ok (.putfield 31, 3) := by decide +kernel
theorem B133_5_6 : s_dk T133.2.2.1 5 [.iload_n 1] 6 = true := by decide +kernel
theorem D133_6 : decode T133.2.2.1 6 = .ok (.ireturn, 1) := by decide +kernel
noncomputable def T134 : mT := (10, yX10_accept, cX10_accept, 2, (some .int))
set_option maxRecDepth 10000 in
theorem TE134 : sy_m[134]? = some T134 := rfl
theorem B134_0_2 : s_dk T134.2.2.1 0 [.aload_n 0, .iconst 0] 2 = true := by decide +kernel
theorem D134_2 : decode T134.2.2.1 2 = .ok (.putfield 31, 3) := by decide +kernel
theorem B134_5_7 : s_dk T134.2.2.1 5 [.aload_n 0, .iconst 1] 7 = true := by decide +kernel
theorem pf_10_57_0 : s_pf 10 57 0 = some (9, 2) := by decide +kernel
theorem D134_7 : decode T134.2.2.1 7 = .ok (.putfield 57, 3) := by decide +kernel
theorem B134_10_11 : s_dk T134.2.2.1 10 [.iload_n 1] 11 = true := by decide +kernel
theorem D134_11 : decode T134.2.2.1 11 = .ok (.ireturn, 1) := by decide +kernel
noncomputable def T135 : mT := (10, yX10_takeTape, cX10_takeTape, 2, (some .int))
set_option maxRecDepth 10000 in
theorem TE135 : sy_m[135]? = some T135 := rfl
theorem B135_0_1 : s_dk T135.2.2.1 0 [.aload_n 0] 1 = true := by decide +kernel
theorem gf_10_24_0 : s_gf 10 24 0 = some (3, 1) := by decide +kernel
theorem D135_1 : decode T135.2.2.1 1 = .ok (.getfield 24, 3) := by decide +kernel
theorem B135_4_7 : s_dk T135.2.2.1 4 [.istore_n 1, .aload_n 0, .iconst 0] 7 = true := by decide +kernel
theorem pf_10_24_0 : s_pf 10 24 0 = some (3, 1) := by decide +kernel
theorem D135_7 : decode T135.2.2.1 7 = .ok (.putfield 24, 3) := by decide +kernel
theorem B135_10_11 : s_dk T135.2.2.1 10 [.iload_n 1] 11 = true := by decide +kernel
theorem D135_11 : decode T135.2.2.1 11 = .ok (.ireturn, 1) := by decide +kernel
noncomputable def T136 : mT := (10, yX10_putBytes, cX10_putBytes, 3, none)
set_option maxRecDepth 10000 in
theorem TE136 : sy_m[136]? = some T136 := rfl
theorem B136_0_3 : s_dk T136.2.2.1 0 [.bipush 24, .istore_n 2] 3 = true := by decide +kernel
theorem B136_3_4 : s_dk T136.2.2.1 3 [.iload_n 2] 4 = true := by decide +kernel
theorem D136_4 : decode T136.2.2.1 4 = .ok (.ifCond .lt 35, 3) := by decide +kernel
theorem B136_7_8 : s_dk T136.2.2.1 7 [.aload_n 0] 8 = true := by decide +kernel
theorem gf_10_20_0 : s_gf 10 20 0 = some (2, 16) := by decide +kernel
theorem D136_8 : decode T136.2.2.1 8 = .ok (.getfield 20, 3) := by decide +kernel
theorem B136_11_12 : s_dk T136.2.2.1 11 [.aload_n 0] 12 = true := by decide +kernel
theorem D136_12 : decode T136.2.2.1 12 = .ok (.getfield 24, 3) := by decide +kernel
theorem B136_15_17 : s_dk T136.2.2.1 15 [.iload_n 1, .iload_n 2] 17 = true := by decide +kernel
theorem D136_17 : decode T136.2.2.1 17 = .ok (.iushr, 1) := by decide +kernel
theorem B136_18_21 : s_dk T136.2.2.1 18 [.sipush 255] 21 = true := by decide +kernel
theorem D136_21 : decode T136.2.2.1 21 = .ok (.iand, 1) := by decide +kernel
theorem D136_22 : decode T136.2.2.1 22 = .ok (.iastore, 1) := by decide +kernel
theorem B136_23_25 : s_dk T136.2.2.1 23 [.aload_n 0, .dup] 25 = true := by decide +kernel
theorem D136_25 : decode T136.2.2.1 25 = .ok (.getfield 24, 3) := by decide +kernel
theorem B136_28_30 : s_dk T136.2.2.1 28 [.iconst 1, .iadd] 30 = true := by decide +kernel
theorem D136_30 : decode T136.2.2.1 30 = .ok (.putfield 24, 3) := by decide +kernel
theorem B136_33_36 : s_dk T136.2.2.1 33 [.iinc 2 (-8)] 36 = true := by decide +kernel
theorem D136_36 : decode T136.2.2.1 36 = .ok (.goto (-33), 3) := by decide +kernel
theorem D136_39 : decode T136.2.2.1 39 = .ok (.return_, 1) := by decide +kernel
noncomputable def T137 : mT := (10, yX10_isRow, cX10_isRow, 3, (some .boolean))
set_option maxRecDepth 10000 in
theorem TE137 : sy_m[137]? = some T137 := rfl
theorem B137_0_4 : s_dk T137.2.2.1 0 [.iload_n 1, .iconst 1, .bipush 8] 4 = true := by decide +kernel
theorem D137_4 : decode T137.2.2.1 4 = .ok (.invokestatic 102, 3) := by decide +kernel
theorem D137_7 : decode T137.2.2.1 7 = .ok (.ifCond .ne 5, 3) := by decide +kernel
theorem B137_12_14 : s_dk T137.2.2.1 12 [.iconst 0, .istore_n 2] 14 = true := by decide +kernel
theorem B137_10_11 : s_dk T137.2.2.1 10 [.iconst 0] 11 = true := by decide +kernel
theorem D137_11 : decode T137.2.2.1 11 = .ok (.ireturn, 1) := by decide +kernel
theorem B137_14_16 : s_dk T137.2.2.1 14 [.iload_n 2, .iload_n 1] 16 = true := by decide +kernel
theorem D137_16 : decode T137.2.2.1 16 = .ok (.if_icmp .ge 22, 3) := by decide +kernel
theorem B137_19_20 : s_dk T137.2.2.1 19 [.aload_n 0] 20 = true := by decide +kernel
theorem D137_20 : decode T137.2.2.1 20 = .ok (.getfield 20, 3) := by decide +kernel
theorem B137_23_24 : s_dk T137.2.2.1 23 [.iload_n 2] 24 = true := by decide +kernel
theorem D137_24 : decode T137.2.2.1 24 = .ok (.iaload, 1) := by decide +kernel
theorem B137_25_27 : s_dk T137.2.2.1 25 [.bipush 30] 27 = true := by decide +kernel
theorem D137_27 : decode T137.2.2.1 27 = .ok (.if_icmp .lt 5, 3) := by decide +kernel
theorem B137_32_35 : s_dk T137.2.2.1 32 [.iinc 2 1] 35 = true := by decide +kernel
theorem D137_35 : decode T137.2.2.1 35 = .ok (.goto (-21), 3) := by decide +kernel
theorem B137_30_31 : s_dk T137.2.2.1 30 [.iconst 0] 31 = true := by decide +kernel
theorem D137_31 : decode T137.2.2.1 31 = .ok (.ireturn, 1) := by decide +kernel
theorem B137_38_39 : s_dk T137.2.2.1 38 [.iconst 1] 39 = true := by decide +kernel
theorem D137_39 : decode T137.2.2.1 39 = .ok (.ireturn, 1) := by decide +kernel
noncomputable def T42 : mT := (6, yX6_doneIn, cX6_doneIn, 1, (some .int))
set_option maxRecDepth 10000 in
theorem TE42 : sy_m[42]? = some T42 := rfl
theorem B42_0_2 : s_dk T42.2.2.1 0 [.iload_n 0, .iconst 1] 2 = true := by decide +kernel
theorem D42_2 : decode T42.2.2.1 2 = .ok (.if_icmp .ge 5, 3) := by decide +kernel
theorem B42_7_10 : s_dk T42.2.2.1 7 [.iload_n 0, .bipush 11] 10 = true := by decide +kernel
theorem D42_10 : decode T42.2.2.1 10 = .ok (.if_icmp .ge 5, 3) := by decide +kernel
theorem B42_15_18 : s_dk T42.2.2.1 15 [.iload_n 0, .bipush 111] 18 = true := by decide +kernel
theorem D42_18 : decode T42.2.2.1 18 = .ok (.if_icmp .ge 7, 3) := by decide +kernel
theorem B42_25_26 : s_dk T42.2.2.1 25 [.iconst 3] 26 = true := by decide +kernel
theorem D42_26 : decode T42.2.2.1 26 = .ok (.ireturn, 1) := by decide +kernel
theorem B42_21_22 : s_dk T42.2.2.1 21 [.iconst 2] 22 = true := by decide +kernel
theorem D42_22 : decode T42.2.2.1 22 = .ok (.goto 4, 3) := by decide +kernel
theorem B42_13_14 : s_dk T42.2.2.1 13 [.iconst 1] 14 = true := by decide +kernel
theorem D42_14 : decode T42.2.2.1 14 = .ok (.ireturn, 1) := by decide +kernel
theorem B42_5_6 : s_dk T42.2.2.1 5 [.iconst 0] 6 = true := by decide +kernel
theorem D42_6 : decode T42.2.2.1 6 = .ok (.ireturn, 1) := by decide +kernel
noncomputable def T43 : mT := (6, yX6_with, cX6_with, 2, (some .int))
set_option maxRecDepth 10000 in
theorem TE43 : sy_m[43]? = some T43 := rfl
theorem B43_0_8 : s_dk T43.2.2.1 0 [.iload_n 0, .bipush 10, .imul, .iconst 1, .iadd, .iload_n 1, .iadd] 8 = true := by decide +kernel
theorem D43_8 : decode T43.2.2.1 8 = .ok (.ireturn, 1) := by decide +kernel
noncomputable def T267 : mT := (17, yJ6_bitCount_0f7a4, cJ6_bitCount_0f7a4, 1, (some .int))
set_option maxRecDepth 10000 in
theorem TE267 : sy_m[267]? = some T267 := rfl
theorem B267_0_3 : s_dk T267.2.2.1 0 [.iload_n 0, .iload_n 0, .iconst 1] 3 = true := by decide +kernel
theorem D267_3 : decode T267.2.2.1 3 = .ok (.iushr, 1) := by decide +kernel
theorem ci_17_265 : m_ci 17 265 = some (1431655765) := by decide +kernel
theorem D267_4 : decode T267.2.2.1 4 = .ok (.ldc_w 265, 3) := by decide +kernel
theorem D267_7 : decode T267.2.2.1 7 = .ok (.iand, 1) := by decide +kernel
theorem B267_8_11 : s_dk T267.2.2.1 8 [.isub, .istore_n 0, .iload_n 0] 11 = true := by decide +kernel
theorem ci_17_266 : m_ci 17 266 = some (858993459) := by decide +kernel
theorem D267_11 : decode T267.2.2.1 11 = .ok (.ldc_w 266, 3) := by decide +kernel
theorem D267_14 : decode T267.2.2.1 14 = .ok (.iand, 1) := by decide +kernel
theorem B267_15_17 : s_dk T267.2.2.1 15 [.iload_n 0, .iconst 2] 17 = true := by decide +kernel
theorem D267_17 : decode T267.2.2.1 17 = .ok (.iushr, 1) := by decide +kernel
theorem D267_18 : decode T267.2.2.1 18 = .ok (.ldc_w 266, 3) := by decide +kernel
theorem D267_21 : decode T267.2.2.1 21 = .ok (.iand, 1) := by decide +kernel
theorem B267_22_27 : s_dk T267.2.2.1 22 [.iadd, .istore_n 0, .iload_n 0, .iload_n 0, .iconst 4] 27 = true := by decide +kernel
theorem D267_27 : decode T267.2.2.1 27 = .ok (.iushr, 1) := by decide +kernel
theorem B267_28_29 : s_dk T267.2.2.1 28 [.iadd] 29 = true := by decide +kernel
theorem ci_17_267 : m_ci 17 267 = some (252645135) := by decide +kernel
theorem D267_29 : decode T267.2.2.1 29 = .ok (.ldc_w 267, 3) := by decide +kernel
theorem D267_32 : decode T267.2.2.1 32 = .ok (.iand, 1) := by decide +kernel
theorem B267_33_38 : s_dk T267.2.2.1 33 [.istore_n 0, .iload_n 0, .iload_n 0, .bipush 8] 38 = true := by decide +kernel
theorem D267_38 : decode T267.2.2.1 38 = .ok (.iushr, 1) := by decide +kernel
theorem B267_39_45 : s_dk T267.2.2.1 39 [.iadd, .istore_n 0, .iload_n 0, .iload_n 0, .bipush 16] 45 = true := by decide +kernel
theorem D267_45 : decode T267.2.2.1 45 = .ok (.iushr, 1) := by decide +kernel
theorem B267_46_51 : s_dk T267.2.2.1 46 [.iadd, .istore_n 0, .iload_n 0, .bipush 63] 51 = true := by decide +kernel
theorem D267_51 : decode T267.2.2.1 51 = .ok (.iand, 1) := by decide +kernel
theorem D267_52 : decode T267.2.2.1 52 = .ok (.ireturn, 1) := by decide +kernel
noncomputable def T59 : mT := (8, yX8_addOpening, cX8_addOpening, 4, (some .int))
set_option maxRecDepth 10000 in
theorem TE59 : sy_m[59]? = some T59 := rfl
theorem B59_0_1 : s_dk T59.2.2.1 0 [.aload_n 0] 1 = true := by decide +kernel
theorem gf_8_22_1 : s_gf 8 22 1 = some (3, 7) := by decide +kernel
theorem D59_1 : decode T59.2.2.1 1 = .ok (.getfield 22, 3) := by decide +kernel
theorem B59_4_5 : s_dk T59.2.2.1 4 [.aload_n 0] 5 = true := by decide +kernel
theorem gf_8_25_1 : s_gf 8 25 1 = some (4, 1) := by decide +kernel
theorem D59_5 : decode T59.2.2.1 5 = .ok (.getfield 25, 3) := by decide +kernel
theorem B59_8_11 : s_dk T59.2.2.1 8 [.iconst 3, .imul, .iload_n 1] 11 = true := by decide +kernel
theorem D59_11 : decode T59.2.2.1 11 = .ok (.iastore, 1) := by decide +kernel
theorem B59_12_13 : s_dk T59.2.2.1 12 [.aload_n 0] 13 = true := by decide +kernel
theorem D59_13 : decode T59.2.2.1 13 = .ok (.getfield 22, 3) := by decide +kernel
theorem B59_16_17 : s_dk T59.2.2.1 16 [.aload_n 0] 17 = true := by decide +kernel
theorem D59_17 : decode T59.2.2.1 17 = .ok (.getfield 25, 3) := by decide +kernel
theorem B59_20_25 : s_dk T59.2.2.1 20 [.iconst 3, .imul, .iconst 1, .iadd, .iload_n 2] 25 = true := by decide +kernel
theorem D59_25 : decode T59.2.2.1 25 = .ok (.iastore, 1) := by decide +kernel
theorem B59_26_27 : s_dk T59.2.2.1 26 [.aload_n 0] 27 = true := by decide +kernel
theorem D59_27 : decode T59.2.2.1 27 = .ok (.getfield 22, 3) := by decide +kernel
theorem B59_30_31 : s_dk T59.2.2.1 30 [.aload_n 0] 31 = true := by decide +kernel
theorem D59_31 : decode T59.2.2.1 31 = .ok (.getfield 25, 3) := by decide +kernel
theorem B59_34_39 : s_dk T59.2.2.1 34 [.iconst 3, .imul, .iconst 2, .iadd, .iload_n 3] 39 = true := by decide +kernel
theorem D59_39 : decode T59.2.2.1 39 = .ok (.iastore, 1) := by decide +kernel
theorem B59_40_42 : s_dk T59.2.2.1 40 [.aload_n 0, .dup] 42 = true := by decide +kernel
theorem D59_42 : decode T59.2.2.1 42 = .ok (.getfield 25, 3) := by decide +kernel
theorem B59_45_47 : s_dk T59.2.2.1 45 [.iconst 1, .iadd] 47 = true := by decide +kernel
theorem pf_8_25_1 : s_pf 8 25 1 = some (4, 1) := by decide +kernel
theorem D59_47 : decode T59.2.2.1 47 = .ok (.putfield 25, 3) := by decide +kernel
theorem B59_50_51 : s_dk T59.2.2.1 50 [.aload_n 0] 51 = true := by decide +kernel
theorem D59_51 : decode T59.2.2.1 51 = .ok (.getfield 25, 3) := by decide +kernel
theorem B59_54_56 : s_dk T59.2.2.1 54 [.iconst 1, .isub] 56 = true := by decide +kernel
theorem D59_56 : decode T59.2.2.1 56 = .ok (.ireturn, 1) := by decide +kernel
noncomputable def T61 : mT := (8, yX8_giveValues, cX8_giveValues, 5, none)
set_option maxRecDepth 10000 in
theorem TE61 : sy_m[61]? = some T61 := rfl
theorem B61_0_1 : s_dk T61.2.2.1 0 [.aload_n 0] 1 = true := by decide +kernel
theorem gf_8_37_1 : s_gf 8 37 1 = some (8, 10) := by decide +kernel
theorem D61_1 : decode T61.2.2.1 1 = .ok (.getfield 37, 3) := by decide +kernel
theorem B61_4_8 : s_dk T61.2.2.1 4 [.iload_n 1, .iconst 3, .imul, .iload_n 2] 8 = true := by decide +kernel
theorem D61_8 : decode T61.2.2.1 8 = .ok (.iastore, 1) := by decide +kernel
theorem B61_9_10 : s_dk T61.2.2.1 9 [.aload_n 0] 10 = true := by decide +kernel
theorem D61_10 : decode T61.2.2.1 10 = .ok (.getfield 37, 3) := by decide +kernel
theorem B61_13_19 : s_dk T61.2.2.1 13 [.iload_n 1, .iconst 3, .imul, .iconst 1, .iadd, .iload_n 3] 19 = true := by decide +kernel
theorem D61_19 : decode T61.2.2.1 19 = .ok (.iastore, 1) := by decide +kernel
theorem B61_20_21 : s_dk T61.2.2.1 20 [.aload_n 0] 21 = true := by decide +kernel
theorem D61_21 : decode T61.2.2.1 21 = .ok (.getfield 37, 3) := by decide +kernel
theorem B61_24_31 : s_dk T61.2.2.1 24 [.iload_n 1, .iconst 3, .imul, .iconst 2, .iadd, .iload 4] 31 = true := by decide +kernel
theorem D61_31 : decode T61.2.2.1 31 = .ok (.iastore, 1) := by decide +kernel
theorem D61_32 : decode T61.2.2.1 32 = .ok (.return_, 1) := by decide +kernel
noncomputable def T63 : mT := (8, yX8_addBox, cX8_addBox, 4, (some .int))
set_option maxRecDepth 10000 in
theorem TE63 : sy_m[63]? = some T63 := rfl
theorem B63_0_1 : s_dk T63.2.2.1 0 [.aload_n 0] 1 = true := by decide +kernel
theorem gf_8_55_1 : s_gf 8 55 1 = some (13, 13) := by decide +kernel
theorem D63_1 : decode T63.2.2.1 1 = .ok (.getfield 55, 3) := by decide +kernel
theorem B63_4_5 : s_dk T63.2.2.1 4 [.aload_n 0] 5 = true := by decide +kernel
theorem gf_8_58_1 : s_gf 8 58 1 = some (14, 1) := by decide +kernel
theorem D63_5 : decode T63.2.2.1 5 = .ok (.getfield 58, 3) := by decide +kernel
theorem B63_8_11 : s_dk T63.2.2.1 8 [.iconst 3, .imul, .iload_n 1] 11 = true := by decide +kernel
theorem D63_11 : decode T63.2.2.1 11 = .ok (.iastore, 1) := by decide +kernel
theorem B63_12_13 : s_dk T63.2.2.1 12 [.aload_n 0] 13 = true := by decide +kernel
theorem D63_13 : decode T63.2.2.1 13 = .ok (.getfield 55, 3) := by decide +kernel
theorem B63_16_17 : s_dk T63.2.2.1 16 [.aload_n 0] 17 = true := by decide +kernel
theorem D63_17 : decode T63.2.2.1 17 = .ok (.getfield 58, 3) := by decide +kernel
theorem B63_20_25 : s_dk T63.2.2.1 20 [.iconst 3, .imul, .iconst 1, .iadd, .iload_n 2] 25 = true := by decide +kernel
theorem D63_25 : decode T63.2.2.1 25 = .ok (.iastore, 1) := by decide +kernel
theorem B63_26_27 : s_dk T63.2.2.1 26 [.aload_n 0] 27 = true := by decide +kernel
theorem D63_27 : decode T63.2.2.1 27 = .ok (.getfield 55, 3) := by decide +kernel
theorem B63_30_31 : s_dk T63.2.2.1 30 [.aload_n 0] 31 = true := by decide +kernel
theorem D63_31 : decode T63.2.2.1 31 = .ok (.getfield 58, 3) := by decide +kernel
theorem B63_34_39 : s_dk T63.2.2.1 34 [.iconst 3, .imul, .iconst 2, .iadd, .iload_n 3] 39 = true := by decide +kernel
theorem D63_39 : decode T63.2.2.1 39 = .ok (.iastore, 1) := by decide +kernel
theorem B63_40_42 : s_dk T63.2.2.1 40 [.aload_n 0, .dup] 42 = true := by decide +kernel
theorem D63_42 : decode T63.2.2.1 42 = .ok (.getfield 58, 3) := by decide +kernel
theorem B63_45_47 : s_dk T63.2.2.1 45 [.iconst 1, .iadd] 47 = true := by decide +kernel
theorem pf_8_58_1 : s_pf 8 58 1 = some (14, 1) := by decide +kernel
theorem D63_47 : decode T63.2.2.1 47 = .ok (.putfield 58, 3) := by decide +kernel
theorem B63_50_51 : s_dk T63.2.2.1 50 [.aload_n 0] 51 = true := by decide +kernel
theorem D63_51 : decode T63.2.2.1 51 = .ok (.getfield 58, 3) := by decide +kernel
theorem B63_54_56 : s_dk T63.2.2.1 54 [.iconst 1, .isub] 56 = true := by decide +kernel
theorem D63_56 : decode T63.2.2.1 56 = .ok (.ireturn, 1) := by decide +kernel
noncomputable def T65 : mT := (8, yX8_isThere, cX8_isThere, 2, (some .boolean))
set_option maxRecDepth 10000 in
theorem TE65 : sy_m[65]? = some T65 := rfl
theorem B65_0_3 : s_dk T65.2.2.1 0 [.iload_n 1, .iconst 0, .aload_n 0] 3 = true := by decide +kernel
theorem gf_8_43_1 : s_gf 8 43 1 = some (10, 1) := by decide +kernel
theorem D65_3 : decode T65.2.2.1 3 = .ok (.getfield 43, 3) := by decide +kernel
theorem B65_6_8 : s_dk T65.2.2.1 6 [.iconst 1, .isub] 8 = true := by decide +kernel
theorem D65_8 : decode T65.2.2.1 8 = .ok (.invokestatic 80, 3) := by decide +kernel
theorem ck_8_static_80 : m_call 8 (.invokestatic 80) = some (4, 142, 3) := by decide +kernel
theorem D65_11 : decode T65.2.2.1 11 = .ok (.ireturn, 1) := by decide +kernel
noncomputable def T67 : mT := (8, yX8_canBeSpoken, cX8_canBeSpoken, 2, (some .boolean))
set_option maxRecDepth 10000 in
theorem TE67 : sy_m[67]? = some T67 := rfl
theorem B67_0_1 : s_dk T67.2.2.1 0 [.iload_n 1] 1 = true := by decide +kernel
theorem D67_1 : decode T67.2.2.1 1 = .ok (.ifCond .lt 31, 3) := by decide +kernel
theorem B67_32_33 : s_dk T67.2.2.1 32 [.iconst 0] 33 = true := by decide +kernel
theorem D67_33 : decode T67.2.2.1 33 = .ok (.ireturn, 1) := by decide +kernel
theorem B67_4_6 : s_dk T67.2.2.1 4 [.iload_n 1, .aload_n 0] 6 = true := by decide +kernel
theorem D67_6 : decode T67.2.2.1 6 = .ok (.getfield 43, 3) := by decide +kernel
theorem D67_9 : decode T67.2.2.1 9 = .ok (.if_icmp .ge 23, 3) := by decide +kernel
theorem B67_12_13 : s_dk T67.2.2.1 12 [.aload_n 0] 13 = true := by decide +kernel
theorem gf_8_40_1 : s_gf 8 40 1 = some (9, 11) := by decide +kernel
theorem D67_13 : decode T67.2.2.1 13 = .ok (.getfield 40, 3) := by decide +kernel
theorem B67_16_20 : s_dk T67.2.2.1 16 [.iload_n 1, .iconst 4, .imul, .aload_n 0] 20 = true := by decide +kernel
theorem gf_8_28_1 : s_gf 8 28 1 = some (5, 1) := by decide +kernel
theorem D67_20 : decode T67.2.2.1 20 = .ok (.getfield 28, 3) := by decide +kernel
theorem B67_23_24 : s_dk T67.2.2.1 23 [.iadd] 24 = true := by decide +kernel
theorem D67_24 : decode T67.2.2.1 24 = .ok (.iaload, 1) := by decide +kernel
theorem D67_25 : decode T67.2.2.1 25 = .ok (.ifCond .le 7, 3) := by decide +kernel
theorem B67_28_29 : s_dk T67.2.2.1 28 [.iconst 1] 29 = true := by decide +kernel
theorem D67_29 : decode T67.2.2.1 29 = .ok (.goto 4, 3) := by decide +kernel
noncomputable def T69 : mT := (8, yX8_timesIn, cX8_timesIn, 5, (some .int))
set_option maxRecDepth 10000 in
theorem TE69 : sy_m[69]? = some T69 := rfl
theorem B69_0_5 : s_dk T69.2.2.1 0 [.iconst 0, .istore_n 3, .iconst 0, .istore 4] 5 = true := by decide +kernel
theorem B69_5_8 : s_dk T69.2.2.1 5 [.iload 4, .aload_n 0] 8 = true := by decide +kernel
theorem gf_8_34_1 : s_gf 8 34 1 = some (7, 9) := by decide +kernel
theorem D69_8 : decode T69.2.2.1 8 = .ok (.getfield 34, 3) := by decide +kernel
theorem B69_11_12 : s_dk T69.2.2.1 11 [.iload_n 1] 12 = true := by decide +kernel
theorem D69_12 : decode T69.2.2.1 12 = .ok (.iaload, 1) := by decide +kernel
theorem D69_13 : decode T69.2.2.1 13 = .ok (.if_icmp .ge 33, 3) := by decide +kernel
theorem B69_46_47 : s_dk T69.2.2.1 46 [.iload_n 3] 47 = true := by decide +kernel
theorem D69_47 : decode T69.2.2.1 47 = .ok (.ireturn, 1) := by decide +kernel
theorem B69_16_18 : s_dk T69.2.2.1 16 [.iload_n 3, .aload_n 0] 18 = true := by decide +kernel
theorem gf_8_31_1 : s_gf 8 31 1 = some (6, 8) := by decide +kernel
theorem D69_18 : decode T69.2.2.1 18 = .ok (.getfield 31, 3) := by decide +kernel
theorem B69_21_28 : s_dk T69.2.2.1 21 [.iload_n 1, .bipush 8, .imul, .iload 4, .iadd] 28 = true := by decide +kernel
theorem D69_28 : decode T69.2.2.1 28 = .ok (.iaload, 1) := by decide +kernel
theorem B69_29_30 : s_dk T69.2.2.1 29 [.iload_n 2] 30 = true := by decide +kernel
theorem D69_30 : decode T69.2.2.1 30 = .ok (.if_icmp .ne 7, 3) := by decide +kernel
theorem B69_37_43 : s_dk T69.2.2.1 37 [.iconst 0, .iadd, .istore_n 3, .iinc 4 1] 43 = true := by decide +kernel
theorem D69_43 : decode T69.2.2.1 43 = .ok (.goto (-38), 3) := by decide +kernel
theorem B69_33_34 : s_dk T69.2.2.1 33 [.iconst 1] 34 = true := by decide +kernel
theorem D69_34 : decode T69.2.2.1 34 = .ok (.goto 4, 3) := by decide +kernel
theorem B69_38_43 : s_dk T69.2.2.1 38 [.iadd, .istore_n 3, .iinc 4 1] 43 = true := by decide +kernel
noncomputable def T68 : mT := (8, yX8_canHear, cX8_canHear, 3, (some .boolean))
set_option maxRecDepth 10000 in
theorem TE68 : sy_m[68]? = some T68 := rfl
theorem B68_0_2 : s_dk T68.2.2.1 0 [.iconst 0, .istore_n 2] 2 = true := by decide +kernel
theorem B68_2_4 : s_dk T68.2.2.1 2 [.iload_n 2, .aload_n 0] 4 = true := by decide +kernel
theorem D68_4 : decode T68.2.2.1 4 = .ok (.getfield 43, 3) := by decide +kernel
theorem D68_7 : decode T68.2.2.1 7 = .ok (.if_icmp .ge 28, 3) := by decide +kernel
theorem B68_35_36 : s_dk T68.2.2.1 35 [.iconst 0] 36 = true := by decide +kernel
theorem D68_36 : decode T68.2.2.1 36 = .ok (.ireturn, 1) := by decide +kernel
theorem B68_10_12 : s_dk T68.2.2.1 10 [.aload_n 0, .iload_n 2] 12 = true := by decide +kernel
theorem D68_12 : decode T68.2.2.1 12 = .ok (.invokevirtual 84, 3) := by decide +kernel
theorem ck_8_virtual_84 : m_call 8 (.invokevirtual 84) = some (0, 67, 1) := by decide +kernel
theorem D68_15 : decode T68.2.2.1 15 = .ok (.ifCond .eq 14, 3) := by decide +kernel
theorem B68_29_32 : s_dk T68.2.2.1 29 [.iinc 2 1] 32 = true := by decide +kernel
theorem D68_32 : decode T68.2.2.1 32 = .ok (.goto (-30), 3) := by decide +kernel
theorem B68_18_21 : s_dk T68.2.2.1 18 [.aload_n 0, .iload_n 2, .iload_n 1] 21 = true := by decide +kernel
theorem D68_21 : decode T68.2.2.1 21 = .ok (.invokevirtual 88, 3) := by decide +kernel
theorem ck_8_virtual_88 : m_call 8 (.invokevirtual 88) = some (0, 69, 2) := by decide +kernel
theorem D68_24 : decode T68.2.2.1 24 = .ok (.ifCond .le 5, 3) := by decide +kernel
theorem B68_27_28 : s_dk T68.2.2.1 27 [.iconst 1] 28 = true := by decide +kernel
theorem D68_28 : decode T68.2.2.1 28 = .ok (.ireturn, 1) := by decide +kernel
noncomputable def T71 : mT := (8, yX8_beginsWith, cX8_beginsWith, 6, (some .boolean))
set_option maxRecDepth 10000 in
theorem TE71 : sy_m[71]? = some T71 := rfl
theorem B71_0_3 : s_dk T71.2.2.1 0 [.iconst 0, .istore 5] 3 = true := by decide +kernel
theorem B71_3_7 : s_dk T71.2.2.1 3 [.iload 5, .iload 4] 7 = true := by decide +kernel
theorem D71_7 : decode T71.2.2.1 7 = .ok (.if_icmp .ge 32, 3) := by decide +kernel
theorem B71_39_40 : s_dk T71.2.2.1 39 [.iconst 1] 40 = true := by decide +kernel
theorem D71_40 : decode T71.2.2.1 40 = .ok (.ireturn, 1) := by decide +kernel
theorem B71_10_11 : s_dk T71.2.2.1 10 [.aload_n 0] 11 = true := by decide +kernel
theorem D71_11 : decode T71.2.2.1 11 = .ok (.getfield 31, 3) := by decide +kernel
theorem B71_14_21 : s_dk T71.2.2.1 14 [.iload_n 1, .bipush 8, .imul, .iload 5, .iadd] 21 = true := by decide +kernel
theorem D71_21 : decode T71.2.2.1 21 = .ok (.iaload, 1) := by decide +kernel
theorem B71_22_27 : s_dk T71.2.2.1 22 [.aload_n 2, .iload_n 3, .iload 5, .iadd] 27 = true := by decide +kernel
theorem D71_27 : decode T71.2.2.1 27 = .ok (.iaload, 1) := by decide +kernel
theorem D71_28 : decode T71.2.2.1 28 = .ok (.if_icmp .eq 5, 3) := by decide +kernel
theorem B71_33_36 : s_dk T71.2.2.1 33 [.iinc 5 1] 36 = true := by decide +kernel
theorem D71_36 : decode T71.2.2.1 36 = .ok (.goto (-33), 3) := by decide +kernel
theorem B71_31_32 : s_dk T71.2.2.1 31 [.iconst 0] 32 = true := by decide +kernel
theorem D71_32 : decode T71.2.2.1 32 = .ok (.ireturn, 1) := by decide +kernel
noncomputable def T64 : mT := (8, yX8_hasRow, cX8_hasRow, 4, (some .boolean))
set_option maxRecDepth 10000 in
theorem TE64 : sy_m[64]? = some T64 := rfl
theorem B64_0_2 : s_dk T64.2.2.1 0 [.iconst 0, .istore_n 3] 2 = true := by decide +kernel
theorem B64_2_4 : s_dk T64.2.2.1 2 [.iload_n 3, .aload_n 0] 4 = true := by decide +kernel
theorem D64_4 : decode T64.2.2.1 4 = .ok (.getfield 43, 3) := by decide +kernel
theorem D64_7 : decode T64.2.2.1 7 = .ok (.if_icmp .ge 32, 3) := by decide +kernel
theorem B64_39_40 : s_dk T64.2.2.1 39 [.iconst 0] 40 = true := by decide +kernel
theorem D64_40 : decode T64.2.2.1 40 = .ok (.ireturn, 1) := by decide +kernel
theorem B64_10_11 : s_dk T64.2.2.1 10 [.aload_n 0] 11 = true := by decide +kernel
theorem D64_11 : decode T64.2.2.1 11 = .ok (.getfield 34, 3) := by decide +kernel
theorem B64_14_15 : s_dk T64.2.2.1 14 [.iload_n 3] 15 = true := by decide +kernel
theorem D64_15 : decode T64.2.2.1 15 = .ok (.iaload, 1) := by decide +kernel
theorem B64_16_17 : s_dk T64.2.2.1 16 [.iload_n 2] 17 = true := by decide +kernel
theorem D64_17 : decode T64.2.2.1 17 = .ok (.if_icmp .ne 16, 3) := by decide +kernel
theorem B64_33_36 : s_dk T64.2.2.1 33 [.iinc 3 1] 36 = true := by decide +kernel
theorem D64_36 : decode T64.2.2.1 36 = .ok (.goto (-34), 3) := by decide +kernel
theorem B64_20_25 : s_dk T64.2.2.1 20 [.aload_n 0, .iload_n 3, .aload_n 1, .iconst 0, .iload_n 2] 25 = true := by decide +kernel
theorem D64_25 : decode T64.2.2.1 25 = .ok (.invokevirtual 76, 3) := by decide +kernel
theorem ck_8_virtual_76 : m_call 8 (.invokevirtual 76) = some (0, 71, 4) := by decide +kernel
theorem D64_28 : decode T64.2.2.1 28 = .ok (.ifCond .eq 5, 3) := by decide +kernel
theorem B64_31_32 : s_dk T64.2.2.1 31 [.iconst 1] 32 = true := by decide +kernel
theorem D64_32 : decode T64.2.2.1 32 = .ok (.ireturn, 1) := by decide +kernel
noncomputable def T70 : mT := (8, yX8_comeBehind, cX8_comeBehind, 5, (some .int))
set_option maxRecDepth 10000 in
theorem TE70 : sy_m[70]? = some T70 := rfl
theorem B70_0_5 : s_dk T70.2.2.1 0 [.iconst 0, .istore_n 3, .iconst 0, .istore 4] 5 = true := by decide +kernel
theorem B70_5_8 : s_dk T70.2.2.1 5 [.iload 4, .aload_n 0] 8 = true := by decide +kernel
theorem D70_8 : decode T70.2.2.1 8 = .ok (.getfield 43, 3) := by decide +kernel
theorem D70_11 : decode T70.2.2.1 11 = .ok (.if_icmp .ge 54, 3) := by decide +kernel
theorem B70_65_66 : s_dk T70.2.2.1 65 [.iload_n 3] 66 = true := by decide +kernel
theorem D70_66 : decode T70.2.2.1 66 = .ok (.ireturn, 1) := by decide +kernel
theorem B70_14_17 : s_dk T70.2.2.1 14 [.aload_n 0, .iload 4] 17 = true := by decide +kernel
theorem D70_17 : decode T70.2.2.1 17 = .ok (.invokevirtual 84, 3) := by decide +kernel
theorem D70_20 : decode T70.2.2.1 20 = .ok (.ifCond .eq 39, 3) := by decide +kernel
theorem B70_59_62 : s_dk T70.2.2.1 59 [.iinc 4 1] 62 = true := by decide +kernel
theorem D70_62 : decode T70.2.2.1 62 = .ok (.goto (-57), 3) := by decide +kernel
theorem B70_23_24 : s_dk T70.2.2.1 23 [.aload_n 0] 24 = true := by decide +kernel
theorem D70_24 : decode T70.2.2.1 24 = .ok (.getfield 34, 3) := by decide +kernel
theorem B70_27_29 : s_dk T70.2.2.1 27 [.iload 4] 29 = true := by decide +kernel
theorem D70_29 : decode T70.2.2.1 29 = .ok (.iaload, 1) := by decide +kernel
theorem B70_30_31 : s_dk T70.2.2.1 30 [.iload_n 2] 31 = true := by decide +kernel
theorem D70_31 : decode T70.2.2.1 31 = .ok (.if_icmp .lt 28, 3) := by decide +kernel
theorem B70_34_38 : s_dk T70.2.2.1 34 [.aload_n 0, .iload 4, .aload_n 0] 38 = true := by decide +kernel
theorem D70_38 : decode T70.2.2.1 38 = .ok (.getfield 31, 3) := by decide +kernel
theorem B70_41_46 : s_dk T70.2.2.1 41 [.iload_n 1, .bipush 8, .imul, .iload_n 2] 46 = true := by decide +kernel
theorem D70_46 : decode T70.2.2.1 46 = .ok (.invokevirtual 76, 3) := by decide +kernel
theorem D70_49 : decode T70.2.2.1 49 = .ok (.ifCond .eq 10, 3) := by decide +kernel
theorem B70_52_56 : s_dk T70.2.2.1 52 [.iload_n 3, .iconst 1, .iload 4] 56 = true := by decide +kernel
theorem D70_56 : decode T70.2.2.1 56 = .ok (.ishl, 1) := by decide +kernel
theorem D70_57 : decode T70.2.2.1 57 = .ok (.ior, 1) := by decide +kernel
theorem B70_58_62 : s_dk T70.2.2.1 58 [.istore_n 3, .iinc 4 1] 62 = true := by decide +kernel
noncomputable def T72 : mT := (8, yX8_firstIn, cX8_firstIn, 3, (some .int))
set_option maxRecDepth 10000 in
theorem TE72 : sy_m[72]? = some T72 := rfl
theorem B72_0_2 : s_dk T72.2.2.1 0 [.iconst 0, .istore_n 2] 2 = true := by decide +kernel
theorem B72_2_4 : s_dk T72.2.2.1 2 [.iload_n 2, .aload_n 0] 4 = true := by decide +kernel
theorem D72_4 : decode T72.2.2.1 4 = .ok (.getfield 43, 3) := by decide +kernel
theorem D72_7 : decode T72.2.2.1 7 = .ok (.if_icmp .ge 20, 3) := by decide +kernel
theorem B72_27_28 : s_dk T72.2.2.1 27 [.aload_n 0] 28 = true := by decide +kernel
theorem D72_28 : decode T72.2.2.1 28 = .ok (.getfield 43, 3) := by decide +kernel
theorem D72_31 : decode T72.2.2.1 31 = .ok (.ireturn, 1) := by decide +kernel
theorem B72_10_12 : s_dk T72.2.2.1 10 [.iload_n 1, .iload_n 2] 12 = true := by decide +kernel
theorem D72_12 : decode T72.2.2.1 12 = .ok (.ishr, 1) := by decide +kernel
theorem B72_13_14 : s_dk T72.2.2.1 13 [.iconst 1] 14 = true := by decide +kernel
theorem D72_14 : decode T72.2.2.1 14 = .ok (.iand, 1) := by decide +kernel
theorem B72_15_16 : s_dk T72.2.2.1 15 [.iconst 1] 16 = true := by decide +kernel
theorem D72_16 : decode T72.2.2.1 16 = .ok (.if_icmp .ne 5, 3) := by decide +kernel
theorem B72_21_24 : s_dk T72.2.2.1 21 [.iinc 2 1] 24 = true := by decide +kernel
theorem D72_24 : decode T72.2.2.1 24 = .ok (.goto (-22), 3) := by decide +kernel
theorem B72_19_20 : s_dk T72.2.2.1 19 [.iload_n 2] 20 = true := by decide +kernel
theorem D72_20 : decode T72.2.2.1 20 = .ok (.ireturn, 1) := by decide +kernel
noncomputable def T73 : mT := (8, yX8_valuesOf, cX8_valuesOf, 5, (some .int))
set_option maxRecDepth 10000 in
theorem TE73 : sy_m[73]? = some T73 := rfl
theorem B73_0_5 : s_dk T73.2.2.1 0 [.iconst 0, .istore_n 3, .iconst 0, .istore 4] 5 = true := by decide +kernel
theorem B73_5_8 : s_dk T73.2.2.1 5 [.iload 4, .aload_n 0] 8 = true := by decide +kernel
theorem D73_8 : decode T73.2.2.1 8 = .ok (.getfield 43, 3) := by decide +kernel
theorem D73_11 : decode T73.2.2.1 11 = .ok (.if_icmp .ge 35, 3) := by decide +kernel
theorem B73_46_47 : s_dk T73.2.2.1 46 [.iload_n 3] 47 = true := by decide +kernel
theorem D73_47 : decode T73.2.2.1 47 = .ok (.ireturn, 1) := by decide +kernel
theorem B73_14_17 : s_dk T73.2.2.1 14 [.iload_n 1, .iload 4] 17 = true := by decide +kernel
theorem D73_17 : decode T73.2.2.1 17 = .ok (.ishr, 1) := by decide +kernel
theorem B73_18_19 : s_dk T73.2.2.1 18 [.iconst 1] 19 = true := by decide +kernel
theorem D73_19 : decode T73.2.2.1 19 = .ok (.iand, 1) := by decide +kernel
theorem B73_20_21 : s_dk T73.2.2.1 20 [.iconst 1] 21 = true := by decide +kernel
theorem D73_21 : decode T73.2.2.1 21 = .ok (.if_icmp .ne 19, 3) := by decide +kernel
theorem B73_40_43 : s_dk T73.2.2.1 40 [.iinc 4 1] 43 = true := by decide +kernel
theorem D73_43 : decode T73.2.2.1 43 = .ok (.goto (-38), 3) := by decide +kernel
theorem B73_24_27 : s_dk T73.2.2.1 24 [.iload_n 3, .iconst 1, .aload_n 0] 27 = true := by decide +kernel
theorem D73_27 : decode T73.2.2.1 27 = .ok (.getfield 37, 3) := by decide +kernel
theorem B73_30_36 : s_dk T73.2.2.1 30 [.iload 4, .iconst 3, .imul, .iload_n 2, .iadd] 36 = true := by decide +kernel
theorem D73_36 : decode T73.2.2.1 36 = .ok (.iaload, 1) := by decide +kernel
theorem D73_37 : decode T73.2.2.1 37 = .ok (.ishl, 1) := by decide +kernel
theorem D73_38 : decode T73.2.2.1 38 = .ok (.ior, 1) := by decide +kernel
theorem B73_39_43 : s_dk T73.2.2.1 39 [.istore_n 3, .iinc 4 1] 43 = true := by decide +kernel
noncomputable def T74 : mT := (8, yX8_having, cX8_having, 5, (some .int))
set_option maxRecDepth 10000 in
theorem TE74 : sy_m[74]? = some T74 := rfl
theorem B74_0_5 : s_dk T74.2.2.1 0 [.iconst 0, .istore_n 3, .iconst 0, .istore 4] 5 = true := by decide +kernel
theorem B74_5_8 : s_dk T74.2.2.1 5 [.iload 4, .aload_n 0] 8 = true := by decide +kernel
theorem D74_8 : decode T74.2.2.1 8 = .ok (.getfield 43, 3) := by decide +kernel
theorem D74_11 : decode T74.2.2.1 11 = .ok (.if_icmp .ge 35, 3) := by decide +kernel
theorem B74_46_47 : s_dk T74.2.2.1 46 [.iload_n 3] 47 = true := by decide +kernel
theorem D74_47 : decode T74.2.2.1 47 = .ok (.ireturn, 1) := by decide +kernel
theorem B74_14_16 : s_dk T74.2.2.1 14 [.iload_n 3, .aload_n 0] 16 = true := by decide +kernel
theorem D74_16 : decode T74.2.2.1 16 = .ok (.getfield 37, 3) := by decide +kernel
theorem B74_19_25 : s_dk T74.2.2.1 19 [.iload 4, .iconst 3, .imul, .iload_n 1, .iadd] 25 = true := by decide +kernel
theorem D74_25 : decode T74.2.2.1 25 = .ok (.iaload, 1) := by decide +kernel
theorem B74_26_27 : s_dk T74.2.2.1 26 [.iload_n 2] 27 = true := by decide +kernel
theorem D74_27 : decode T74.2.2.1 27 = .ok (.if_icmp .ne 10, 3) := by decide +kernel
theorem B74_37_38 : s_dk T74.2.2.1 37 [.iconst 0] 38 = true := by decide +kernel
theorem D74_38 : decode T74.2.2.1 38 = .ok (.ior, 1) := by decide +kernel
theorem B74_39_43 : s_dk T74.2.2.1 39 [.istore_n 3, .iinc 4 1] 43 = true := by decide +kernel
theorem D74_43 : decode T74.2.2.1 43 = .ok (.goto (-38), 3) := by decide +kernel
theorem B74_30_33 : s_dk T74.2.2.1 30 [.iconst 1, .iload 4] 33 = true := by decide +kernel
theorem D74_33 : decode T74.2.2.1 33 = .ok (.ishl, 1) := by decide +kernel
theorem D74_34 : decode T74.2.2.1 34 = .ok (.goto 4, 3) := by decide +kernel
noncomputable def T76 : mT := (8, yX8_weightOf, cX8_weightOf, 4, (some .int))
set_option maxRecDepth 10000 in
theorem TE76 : sy_m[76]? = some T76 := rfl
theorem B76_0_4 : s_dk T76.2.2.1 0 [.iconst 0, .istore_n 2, .iconst 0, .istore_n 3] 4 = true := by decide +kernel
theorem B76_4_6 : s_dk T76.2.2.1 4 [.iload_n 3, .aload_n 0] 6 = true := by decide +kernel
theorem D76_6 : decode T76.2.2.1 6 = .ok (.getfield 43, 3) := by decide +kernel
theorem D76_9 : decode T76.2.2.1 9 = .ok (.if_icmp .ge 34, 3) := by decide +kernel
theorem B76_43_44 : s_dk T76.2.2.1 43 [.iload_n 2] 44 = true := by decide +kernel
theorem D76_44 : decode T76.2.2.1 44 = .ok (.ireturn, 1) := by decide +kernel
theorem B76_12_14 : s_dk T76.2.2.1 12 [.iload_n 1, .iload_n 3] 14 = true := by decide +kernel
theorem D76_14 : decode T76.2.2.1 14 = .ok (.ishr, 1) := by decide +kernel
theorem B76_15_16 : s_dk T76.2.2.1 15 [.iconst 1] 16 = true := by decide +kernel
theorem D76_16 : decode T76.2.2.1 16 = .ok (.iand, 1) := by decide +kernel
theorem B76_17_18 : s_dk T76.2.2.1 17 [.iconst 1] 18 = true := by decide +kernel
theorem D76_18 : decode T76.2.2.1 18 = .ok (.if_icmp .ne 19, 3) := by decide +kernel
theorem B76_37_40 : s_dk T76.2.2.1 37 [.iinc 3 1] 40 = true := by decide +kernel
theorem D76_40 : decode T76.2.2.1 40 = .ok (.goto (-36), 3) := by decide +kernel
theorem B76_21_23 : s_dk T76.2.2.1 21 [.iload_n 2, .aload_n 0] 23 = true := by decide +kernel
theorem D76_23 : decode T76.2.2.1 23 = .ok (.getfield 40, 3) := by decide +kernel
theorem B76_26_30 : s_dk T76.2.2.1 26 [.iload_n 3, .iconst 4, .imul, .aload_n 0] 30 = true := by decide +kernel
theorem D76_30 : decode T76.2.2.1 30 = .ok (.getfield 28, 3) := by decide +kernel
theorem B76_33_34 : s_dk T76.2.2.1 33 [.iadd] 34 = true := by decide +kernel
theorem D76_34 : decode T76.2.2.1 34 = .ok (.iaload, 1) := by decide +kernel
theorem B76_35_40 : s_dk T76.2.2.1 35 [.iadd, .istore_n 2, .iinc 3 1] 40 = true := by decide +kernel
noncomputable def T77 : mT := (8, yX8_openingFor, cX8_openingFor, 7, (some .int))
set_option maxRecDepth 10000 in
theorem TE77 : sy_m[77]? = some T77 := rfl
theorem B77_0_9 : s_dk T77.2.2.1 0 [.iconst (-1), .istore_n 3, .bipush 10, .istore 4, .iconst 0, .istore 5] 9 = true := by decide +kernel
theorem B77_9_12 : s_dk T77.2.2.1 9 [.iload 5, .aload_n 0] 12 = true := by decide +kernel
theorem D77_12 : decode T77.2.2.1 12 = .ok (.getfield 25, 3) := by decide +kernel
theorem D77_15 : decode T77.2.2.1 15 = .ok (.if_icmp .ge 84, 3) := by decide +kernel
theorem B77_99_100 : s_dk T77.2.2.1 99 [.iload_n 3] 100 = true := by decide +kernel
theorem D77_100 : decode T77.2.2.1 100 = .ok (.ireturn, 1) := by decide +kernel
theorem B77_18_19 : s_dk T77.2.2.1 18 [.aload_n 0] 19 = true := by decide +kernel
theorem D77_19 : decode T77.2.2.1 19 = .ok (.getfield 22, 3) := by decide +kernel
theorem B77_22_26 : s_dk T77.2.2.1 22 [.iload 5, .iconst 3, .imul] 26 = true := by decide +kernel
theorem D77_26 : decode T77.2.2.1 26 = .ok (.iaload, 1) := by decide +kernel
theorem B77_27_28 : s_dk T77.2.2.1 27 [.iload_n 1] 28 = true := by decide +kernel
theorem D77_28 : decode T77.2.2.1 28 = .ok (.if_icmp .ne 25, 3) := by decide +kernel
theorem B77_53_58 : s_dk T77.2.2.1 53 [.iconst 0, .istore 6, .iload 6] 58 = true := by decide +kernel
theorem D77_58 : decode T77.2.2.1 58 = .ok (.ifCond .eq 35, 3) := by decide +kernel
theorem B77_93_96 : s_dk T77.2.2.1 93 [.iinc 5 1] 96 = true := by decide +kernel
theorem D77_96 : decode T77.2.2.1 96 = .ok (.goto (-87), 3) := by decide +kernel
theorem B77_31_33 : s_dk T77.2.2.1 31 [.iload_n 2, .aload_n 0] 33 = true := by decide +kernel
theorem D77_33 : decode T77.2.2.1 33 = .ok (.getfield 22, 3) := by decide +kernel
theorem B77_36_42 : s_dk T77.2.2.1 36 [.iload 5, .iconst 3, .imul, .iconst 1, .iadd] 42 = true := by decide +kernel
theorem D77_42 : decode T77.2.2.1 42 = .ok (.iaload, 1) := by decide +kernel
theorem B77_43_44 : s_dk T77.2.2.1 43 [.iconst (-1)] 44 = true := by decide +kernel
theorem D77_44 : decode T77.2.2.1 44 = .ok (.ixor, 1) := by decide +kernel
theorem D77_45 : decode T77.2.2.1 45 = .ok (.iand, 1) := by decide +kernel
theorem D77_46 : decode T77.2.2.1 46 = .ok (.ifCond .ne 7, 3) := by decide +kernel
theorem B77_49_50 : s_dk T77.2.2.1 49 [.iconst 1] 50 = true := by decide +kernel
theorem D77_50 : decode T77.2.2.1 50 = .ok (.goto 4, 3) := by decide +kernel
theorem B77_54_58 : s_dk T77.2.2.1 54 [.istore 6, .iload 6] 58 = true := by decide +kernel
theorem B77_61_62 : s_dk T77.2.2.1 61 [.aload_n 0] 62 = true := by decide +kernel
theorem D77_62 : decode T77.2.2.1 62 = .ok (.getfield 22, 3) := by decide +kernel
theorem B77_65_71 : s_dk T77.2.2.1 65 [.iload 5, .iconst 3, .imul, .iconst 2, .iadd] 71 = true := by decide +kernel
theorem D77_71 : decode T77.2.2.1 71 = .ok (.iaload, 1) := by decide +kernel
theorem B77_72_74 : s_dk T77.2.2.1 72 [.iload 4] 74 = true := by decide +kernel
theorem D77_74 : decode T77.2.2.1 74 = .ok (.if_icmp .ge 19, 3) := by decide +kernel
theorem B77_77_78 : s_dk T77.2.2.1 77 [.aload_n 0] 78 = true := by decide +kernel
theorem D77_78 : decode T77.2.2.1 78 = .ok (.getfield 22, 3) := by decide +kernel
theorem B77_81_87 : s_dk T77.2.2.1 81 [.iload 5, .iconst 3, .imul, .iconst 2, .iadd] 87 = true := by decide +kernel
theorem D77_87 : decode T77.2.2.1 87 = .ok (.iaload, 1) := by decide +kernel
theorem B77_88_96 : s_dk T77.2.2.1 88 [.istore 4, .iload 5, .istore_n 3, .iinc 5 1] 96 = true := by decide +kernel
noncomputable def T278 : mT := (18, yJ7_fill_53178, cJ7_fill_53178, 4, none)
set_option maxRecDepth 10000 in
theorem TE278 : sy_m[278]? = some T278 := rfl
theorem B278_0_3 : s_dk T278.2.2.1 0 [.iconst 0, .istore_n 2, .aload_n 0] 3 = true := by decide +kernel
theorem D278_3 : decode T278.2.2.1 3 = .ok (.arraylength, 1) := by decide +kernel
theorem B278_4_5 : s_dk T278.2.2.1 4 [.istore_n 3] 5 = true := by decide +kernel
theorem B278_5_7 : s_dk T278.2.2.1 5 [.iload_n 2, .iload_n 3] 7 = true := by decide +kernel
theorem D278_7 : decode T278.2.2.1 7 = .ok (.if_icmp .ge 13, 3) := by decide +kernel
theorem B278_10_13 : s_dk T278.2.2.1 10 [.aload_n 0, .iload_n 2, .iload_n 1] 13 = true := by decide +kernel
theorem D278_13 : decode T278.2.2.1 13 = .ok (.iastore, 1) := by decide +kernel
theorem B278_14_17 : s_dk T278.2.2.1 14 [.iinc 2 1] 17 = true := by decide +kernel
theorem D278_17 : decode T278.2.2.1 17 = .ok (.goto (-12), 3) := by decide +kernel
theorem D278_20 : decode T278.2.2.1 20 = .ok (.return_, 1) := by decide +kernel
noncomputable def T75 : mT := (8, yX8_weighValues, cX8_weighValues, 5, none)
set_option maxRecDepth 10000 in
theorem TE75 : sy_m[75]? = some T75 := rfl
theorem B75_0_2 : s_dk T75.2.2.1 0 [.aload_n 3, .iconst 0] 2 = true := by decide +kernel
theorem D75_2 : decode T75.2.2.1 2 = .ok (.invokestatic 92, 3) := by decide +kernel
theorem ck_8_static_92 : m_call 8 (.invokestatic 92) = some (1, 278, 2) := by decide +kernel
theorem B75_5_8 : s_dk T75.2.2.1 5 [.iconst 0, .istore 4] 8 = true := by decide +kernel
theorem B75_8_11 : s_dk T75.2.2.1 8 [.iload 4, .aload_n 0] 11 = true := by decide +kernel
theorem D75_11 : decode T75.2.2.1 11 = .ok (.getfield 43, 3) := by decide +kernel
theorem D75_14 : decode T75.2.2.1 14 = .ok (.if_icmp .ge 49, 3) := by decide +kernel
theorem D75_63 : decode T75.2.2.1 63 = .ok (.return_, 1) := by decide +kernel
theorem B75_17_20 : s_dk T75.2.2.1 17 [.iload_n 1, .iload 4] 20 = true := by decide +kernel
theorem D75_20 : decode T75.2.2.1 20 = .ok (.ishr, 1) := by decide +kernel
theorem B75_21_22 : s_dk T75.2.2.1 21 [.iconst 1] 22 = true := by decide +kernel
theorem D75_22 : decode T75.2.2.1 22 = .ok (.iand, 1) := by decide +kernel
theorem B75_23_24 : s_dk T75.2.2.1 23 [.iconst 1] 24 = true := by decide +kernel
theorem D75_24 : decode T75.2.2.1 24 = .ok (.if_icmp .ne 33, 3) := by decide +kernel
theorem B75_57_60 : s_dk T75.2.2.1 57 [.iinc 4 1] 60 = true := by decide +kernel
theorem D75_60 : decode T75.2.2.1 60 = .ok (.goto (-52), 3) := by decide +kernel
theorem B75_27_29 : s_dk T75.2.2.1 27 [.aload_n 3, .aload_n 0] 29 = true := by decide +kernel
theorem D75_29 : decode T75.2.2.1 29 = .ok (.getfield 37, 3) := by decide +kernel
theorem B75_32_38 : s_dk T75.2.2.1 32 [.iload 4, .iconst 3, .imul, .iload_n 2, .iadd] 38 = true := by decide +kernel
theorem D75_38 : decode T75.2.2.1 38 = .ok (.iaload, 1) := by decide +kernel
theorem B75_39_40 : s_dk T75.2.2.1 39 [.dup2] 40 = true := by decide +kernel
theorem D75_40 : decode T75.2.2.1 40 = .ok (.iaload, 1) := by decide +kernel
theorem B75_41_42 : s_dk T75.2.2.1 41 [.aload_n 0] 42 = true := by decide +kernel
theorem D75_42 : decode T75.2.2.1 42 = .ok (.getfield 40, 3) := by decide +kernel
theorem B75_45_50 : s_dk T75.2.2.1 45 [.iload 4, .iconst 4, .imul, .aload_n 0] 50 = true := by decide +kernel
theorem D75_50 : decode T75.2.2.1 50 = .ok (.getfield 28, 3) := by decide +kernel
theorem B75_53_54 : s_dk T75.2.2.1 53 [.iadd] 54 = true := by decide +kernel
theorem D75_54 : decode T75.2.2.1 54 = .ok (.iaload, 1) := by decide +kernel
theorem B75_55_56 : s_dk T75.2.2.1 55 [.iadd] 56 = true := by decide +kernel
theorem D75_56 : decode T75.2.2.1 56 = .ok (.iastore, 1) := by decide +kernel
noncomputable def T14 : mT := (2, yX2_savedBy, cX2_savedBy, 4, (some .int))
set_option maxRecDepth 10000 in
theorem TE14 : sy_m[14]? = some T14 := rfl
theorem B14_0_4 : s_dk T14.2.2.1 0 [.iconst 0, .istore_n 2, .iconst 0, .istore_n 3] 4 = true := by decide +kernel
theorem B14_4_6 : s_dk T14.2.2.1 4 [.iload_n 3, .aload_n 0] 6 = true := by decide +kernel
theorem gf_2_33_1 : s_gf 2 33 1 = some (10, 1) := by decide +kernel
theorem D14_6 : decode T14.2.2.1 6 = .ok (.getfield 33, 3) := by decide +kernel
theorem D14_9 : decode T14.2.2.1 9 = .ok (.if_icmp .ge 26, 3) := by decide +kernel
theorem B14_35_37 : s_dk T14.2.2.1 35 [.iload_n 2, .aload_n 0] 37 = true := by decide +kernel
theorem gf_2_24_1 : s_gf 2 24 1 = some (0, 5) := by decide +kernel
theorem D14_37 : decode T14.2.2.1 37 = .ok (.getfield 24, 3) := by decide +kernel
theorem B14_40_44 : s_dk T14.2.2.1 40 [.bipush 60, .iload_n 1, .iadd] 44 = true := by decide +kernel
theorem D14_44 : decode T14.2.2.1 44 = .ok (.iaload, 1) := by decide +kernel
theorem B14_45_46 : s_dk T14.2.2.1 45 [.imul] 46 = true := by decide +kernel
theorem D14_46 : decode T14.2.2.1 46 = .ok (.ireturn, 1) := by decide +kernel
theorem B14_12_16 : s_dk T14.2.2.1 12 [.iload_n 2, .aload_n 0, .iconst 1, .iload_n 3] 16 = true := by decide +kernel
theorem D14_16 : decode T14.2.2.1 16 = .ok (.ishl, 1) := by decide +kernel
theorem D14_17 : decode T14.2.2.1 17 = .ok (.invokevirtual 37, 3) := by decide +kernel
theorem ck_2_virtual_37 : m_call 2 (.invokevirtual 37) = some (0, 76, 1) := by decide +kernel
theorem B14_20_23 : s_dk T14.2.2.1 20 [.aload_n 0, .iload_n 3, .iload_n 1] 23 = true := by decide +kernel
theorem D14_23 : decode T14.2.2.1 23 = .ok (.invokevirtual 41, 3) := by decide +kernel
theorem ck_2_virtual_41 : m_call 2 (.invokevirtual 41) = some (0, 69, 2) := by decide +kernel
theorem B14_26_32 : s_dk T14.2.2.1 26 [.imul, .iadd, .istore_n 2, .iinc 3 1] 32 = true := by decide +kernel
theorem D14_32 : decode T14.2.2.1 32 = .ok (.goto (-28), 3) := by decide +kernel
noncomputable def T13 : mT := (2, yX2_find, cX2_find, 7, none)
set_option maxRecDepth 10000 in
theorem TE13 : sy_m[13]? = some T13 := rfl
theorem B13_0_1 : s_dk T13.2.2.1 0 [.aload_n 0] 1 = true := by decide +kernel
theorem gf_2_9_73 : s_gf 2 9 73 = some (0, 77) := by decide +kernel
theorem D13_1 : decode T13.2.2.1 1 = .ok (.getfield 9, 3) := by decide +kernel
theorem B13_4_5 : s_dk T13.2.2.1 4 [.iconst 0] 5 = true := by decide +kernel
theorem D13_5 : decode T13.2.2.1 5 = .ok (.invokestatic 18, 3) := by decide +kernel
theorem ck_2_static_18 : m_call 2 (.invokestatic 18) = some (1, 278, 2) := by decide +kernel
theorem B13_8_9 : s_dk T13.2.2.1 8 [.aload_n 0] 9 = true := by decide +kernel
theorem gf_2_15_73 : s_gf 2 15 73 = some (1, 78) := by decide +kernel
theorem D13_9 : decode T13.2.2.1 9 = .ok (.getfield 15, 3) := by decide +kernel
theorem B13_12_13 : s_dk T13.2.2.1 12 [.iconst 0] 13 = true := by decide +kernel
theorem D13_13 : decode T13.2.2.1 13 = .ok (.invokestatic 18, 3) := by decide +kernel
theorem B13_16_19 : s_dk T13.2.2.1 16 [.bipush 29, .istore_n 3] 19 = true := by decide +kernel
theorem B13_19_20 : s_dk T13.2.2.1 19 [.iload_n 3] 20 = true := by decide +kernel
theorem D13_20 : decode T13.2.2.1 20 = .ok (.ifCond .lt 107, 3) := by decide +kernel
theorem B13_23_24 : s_dk T13.2.2.1 23 [.aload_n 1] 24 = true := by decide +kernel
theorem D13_24 : decode T13.2.2.1 24 = .ok (.getfield 24, 3) := by decide +kernel
theorem B13_27_31 : s_dk T13.2.2.1 27 [.bipush 30, .iload_n 3, .iadd] 31 = true := by decide +kernel
theorem D13_31 : decode T13.2.2.1 31 = .ok (.iaload, 1) := by decide +kernel
theorem B13_32_36 : s_dk T13.2.2.1 32 [.istore 4, .aload_n 1, .iload_n 3] 36 = true := by decide +kernel
theorem D13_36 : decode T13.2.2.1 36 = .ok (.invokestatic 29, 3) := by decide +kernel
theorem ck_2_static_29 : m_call 2 (.invokestatic 29) = some (1, 14, 2) := by decide +kernel
theorem B13_39_44 : s_dk T13.2.2.1 39 [.istore 5, .iload_n 2, .istore 6] 44 = true := by decide +kernel
theorem B13_44_48 : s_dk T13.2.2.1 44 [.iload 6, .iload 4] 48 = true := by decide +kernel
theorem D13_48 : decode T13.2.2.1 48 = .ok (.if_icmp .lt 73, 3) := by decide +kernel
theorem B13_121_124 : s_dk T13.2.2.1 121 [.iinc 3 (-1)] 124 = true := by decide +kernel
theorem D13_124 : decode T13.2.2.1 124 = .ok (.goto (-105), 3) := by decide +kernel
theorem B13_51_52 : s_dk T13.2.2.1 51 [.aload_n 0] 52 = true := by decide +kernel
theorem D13_52 : decode T13.2.2.1 52 = .ok (.getfield 9, 3) := by decide +kernel
theorem B13_55_60 : s_dk T13.2.2.1 55 [.iload 6, .iload 4, .isub] 60 = true := by decide +kernel
theorem D13_60 : decode T13.2.2.1 60 = .ok (.iaload, 1) := by decide +kernel
theorem B13_61_65 : s_dk T13.2.2.1 61 [.iload 5, .iadd, .aload_n 0] 65 = true := by decide +kernel
theorem D13_65 : decode T13.2.2.1 65 = .ok (.getfield 9, 3) := by decide +kernel
theorem B13_68_70 : s_dk T13.2.2.1 68 [.iload 6] 70 = true := by decide +kernel
theorem D13_70 : decode T13.2.2.1 70 = .ok (.iaload, 1) := by decide +kernel
theorem D13_71 : decode T13.2.2.1 71 = .ok (.if_icmp .lt 44, 3) := by decide +kernel
theorem B13_115_118 : s_dk T13.2.2.1 115 [.iinc 6 (-1)] 118 = true := by decide +kernel
theorem D13_118 : decode T13.2.2.1 118 = .ok (.goto (-74), 3) := by decide +kernel
theorem B13_74_75 : s_dk T13.2.2.1 74 [.aload_n 0] 75 = true := by decide +kernel
theorem D13_75 : decode T13.2.2.1 75 = .ok (.getfield 9, 3) := by decide +kernel
theorem B13_78_81 : s_dk T13.2.2.1 78 [.iload 6, .aload_n 0] 81 = true := by decide +kernel
theorem D13_81 : decode T13.2.2.1 81 = .ok (.getfield 9, 3) := by decide +kernel
theorem B13_84_89 : s_dk T13.2.2.1 84 [.iload 6, .iload 4, .isub] 89 = true := by decide +kernel
theorem D13_89 : decode T13.2.2.1 89 = .ok (.iaload, 1) := by decide +kernel
theorem B13_90_93 : s_dk T13.2.2.1 90 [.iload 5, .iadd] 93 = true := by decide +kernel
theorem D13_93 : decode T13.2.2.1 93 = .ok (.iastore, 1) := by decide +kernel
theorem B13_94_95 : s_dk T13.2.2.1 94 [.aload_n 0] 95 = true := by decide +kernel
theorem D13_95 : decode T13.2.2.1 95 = .ok (.getfield 15, 3) := by decide +kernel
theorem B13_98_101 : s_dk T13.2.2.1 98 [.iload 6, .aload_n 0] 101 = true := by decide +kernel
theorem D13_101 : decode T13.2.2.1 101 = .ok (.getfield 15, 3) := by decide +kernel
theorem B13_104_109 : s_dk T13.2.2.1 104 [.iload 6, .iload 4, .isub] 109 = true := by decide +kernel
theorem D13_109 : decode T13.2.2.1 109 = .ok (.iaload, 1) := by decide +kernel
theorem B13_110_112 : s_dk T13.2.2.1 110 [.iconst 1, .iload_n 3] 112 = true := by decide +kernel
theorem D13_112 : decode T13.2.2.1 112 = .ok (.ishl, 1) := by decide +kernel
theorem D13_113 : decode T13.2.2.1 113 = .ok (.ior, 1) := by decide +kernel
theorem D13_114 : decode T13.2.2.1 114 = .ok (.iastore, 1) := by decide +kernel
theorem D13_127 : decode T13.2.2.1 127 = .ok (.return_, 1) := by decide +kernel
noncomputable def T41 : mT := (5, yX5_sitFrom, cX5_sitFrom, 9, none)
set_option maxRecDepth 10000 in
theorem TE41 : sy_m[41]? = some T41 := rfl
theorem B41_0_4 : s_dk T41.2.2.1 0 [.iconst 0, .istore 5, .aload_n 0] 4 = true := by decide +kernel
theorem gf_5_19_69 : s_gf 5 19 69 = some (2, 74) := by decide +kernel
theorem D41_4 : decode T41.2.2.1 4 = .ok (.getfield 19, 3) := by decide +kernel
theorem B41_7_8 : s_dk T41.2.2.1 7 [.iload_n 1] 8 = true := by decide +kernel
theorem ci_5_29 : m_ci 5 29 = some (1073741824) := by decide +kernel
theorem D41_8 : decode T41.2.2.1 8 = .ok (.ldc 29, 2) := by decide +kernel
theorem D41_10 : decode T41.2.2.1 10 = .ok (.iastore, 1) := by decide +kernel
theorem B41_11_12 : s_dk T41.2.2.1 11 [.aload_n 0] 12 = true := by decide +kernel
theorem gf_5_22_69 : s_gf 5 22 69 = some (3, 75) := by decide +kernel
theorem D41_12 : decode T41.2.2.1 12 = .ok (.getfield 22, 3) := by decide +kernel
theorem B41_15_17 : s_dk T41.2.2.1 15 [.iload_n 1, .iconst 1] 17 = true := by decide +kernel
theorem D41_17 : decode T41.2.2.1 17 = .ok (.iastore, 1) := by decide +kernel
theorem B41_18_21 : s_dk T41.2.2.1 18 [.iconst 1, .istore 6] 21 = true := by decide +kernel
theorem B41_21_25 : s_dk T41.2.2.1 21 [.iload 6, .bipush 60] 25 = true := by decide +kernel
theorem D41_25 : decode T41.2.2.1 25 = .ok (.if_icmp .gt 87, 3) := by decide +kernel
theorem B41_28_34 : s_dk T41.2.2.1 28 [.iload_n 1, .iload 6, .iadd, .iload 4] 34 = true := by decide +kernel
theorem D41_34 : decode T41.2.2.1 34 = .ok (.if_icmp .gt 78, 3) := by decide +kernel
theorem D41_112 : decode T41.2.2.1 112 = .ok (.return_, 1) := by decide +kernel
theorem B41_37_44 : s_dk T41.2.2.1 37 [.iload 5, .aload_n 2, .iload 6, .iconst 1, .isub] 44 = true := by decide +kernel
theorem D41_44 : decode T41.2.2.1 44 = .ok (.iaload, 1) := by decide +kernel
theorem B41_45_60 : s_dk T41.2.2.1 45 [.iadd, .istore 5, .iload_n 1, .iload 6, .iadd, .istore 7, .iload 5, .iload 7, .iload 4] 60 = true := by decide +kernel
theorem D41_60 : decode T41.2.2.1 60 = .ok (.if_icmp .ge 15, 3) := by decide +kernel
theorem B41_75_82 : s_dk T41.2.2.1 75 [.iconst 0, .iadd, .istore 8, .iload 8, .aload_n 0] 82 = true := by decide +kernel
theorem D41_82 : decode T41.2.2.1 82 = .ok (.getfield 19, 3) := by decide +kernel
theorem B41_85_86 : s_dk T41.2.2.1 85 [.iload_n 1] 86 = true := by decide +kernel
theorem D41_86 : decode T41.2.2.1 86 = .ok (.iaload, 1) := by decide +kernel
theorem D41_87 : decode T41.2.2.1 87 = .ok (.if_icmp .gt 19, 3) := by decide +kernel
theorem B41_106_109 : s_dk T41.2.2.1 106 [.iinc 6 1] 109 = true := by decide +kernel
theorem D41_109 : decode T41.2.2.1 109 = .ok (.goto (-88), 3) := by decide +kernel
theorem B41_90_91 : s_dk T41.2.2.1 90 [.aload_n 0] 91 = true := by decide +kernel
theorem D41_91 : decode T41.2.2.1 91 = .ok (.getfield 19, 3) := by decide +kernel
theorem B41_94_97 : s_dk T41.2.2.1 94 [.iload_n 1, .iload 8] 97 = true := by decide +kernel
theorem D41_97 : decode T41.2.2.1 97 = .ok (.iastore, 1) := by decide +kernel
theorem B41_98_99 : s_dk T41.2.2.1 98 [.aload_n 0] 99 = true := by decide +kernel
theorem D41_99 : decode T41.2.2.1 99 = .ok (.getfield 22, 3) := by decide +kernel
theorem B41_102_105 : s_dk T41.2.2.1 102 [.iload_n 1, .iload 6] 105 = true := by decide +kernel
theorem D41_105 : decode T41.2.2.1 105 = .ok (.iastore, 1) := by decide +kernel
theorem B41_63_65 : s_dk T41.2.2.1 63 [.iload_n 3, .aload_n 0] 65 = true := by decide +kernel
theorem D41_65 : decode T41.2.2.1 65 = .ok (.getfield 19, 3) := by decide +kernel
theorem B41_68_70 : s_dk T41.2.2.1 68 [.iload 7] 70 = true := by decide +kernel
theorem D41_70 : decode T41.2.2.1 70 = .ok (.iaload, 1) := by decide +kernel
theorem B41_71_72 : s_dk T41.2.2.1 71 [.iadd] 72 = true := by decide +kernel
theorem D41_72 : decode T41.2.2.1 72 = .ok (.goto 4, 3) := by decide +kernel
theorem B41_76_82 : s_dk T41.2.2.1 76 [.iadd, .istore 8, .iload 8, .aload_n 0] 82 = true := by decide +kernel
noncomputable def T40 : mT := (5, yX5_find, cX5_find, 6, (some .int))
set_option maxRecDepth 10000 in
theorem TE40 : sy_m[40]? = some T40 := rfl
theorem B40_0_1 : s_dk T40.2.2.1 0 [.aload_n 0] 1 = true := by decide +kernel
theorem D40_1 : decode T40.2.2.1 1 = .ok (.getfield 19, 3) := by decide +kernel
theorem B40_4_6 : s_dk T40.2.2.1 4 [.iload_n 3, .iconst 0] 6 = true := by decide +kernel
theorem D40_6 : decode T40.2.2.1 6 = .ok (.iastore, 1) := by decide +kernel
theorem B40_7_12 : s_dk T40.2.2.1 7 [.iload_n 3, .iconst 1, .isub, .istore 4] 12 = true := by decide +kernel
theorem B40_12_14 : s_dk T40.2.2.1 12 [.iload 4] 14 = true := by decide +kernel
theorem D40_14 : decode T40.2.2.1 14 = .ok (.ifCond .lt 18, 3) := by decide +kernel
theorem B40_17_23 : s_dk T40.2.2.1 17 [.aload_n 0, .iload 4, .aload_n 1, .iload_n 2, .iload_n 3] 23 = true := by decide +kernel
theorem D40_23 : decode T40.2.2.1 23 = .ok (.invokevirtual 25, 3) := by decide +kernel
theorem ck_5_virtual_25 : m_call 5 (.invokevirtual 25) = some (0, 41, 4) := by decide +kernel
theorem B40_26_29 : s_dk T40.2.2.1 26 [.iinc 4 (-1)] 29 = true := by decide +kernel
theorem D40_29 : decode T40.2.2.1 29 = .ok (.goto (-17), 3) := by decide +kernel
theorem B40_32_34 : s_dk T40.2.2.1 32 [.aload_n 0, .iconst 0] 34 = true := by decide +kernel
theorem pf_5_15_69 : s_pf 5 15 69 = some (1, 1) := by decide +kernel
theorem D40_34 : decode T40.2.2.1 34 = .ok (.putfield 15, 3) := by decide +kernel
theorem B40_37_38 : s_dk T40.2.2.1 37 [.aload_n 0] 38 = true := by decide +kernel
theorem D40_38 : decode T40.2.2.1 38 = .ok (.getfield 22, 3) := by decide +kernel
theorem B40_41_42 : s_dk T40.2.2.1 41 [.iconst 0] 42 = true := by decide +kernel
theorem D40_42 : decode T40.2.2.1 42 = .ok (.iaload, 1) := by decide +kernel
theorem B40_43_48 : s_dk T40.2.2.1 43 [.istore 4, .iconst 0, .istore 5] 48 = true := by decide +kernel
theorem B40_48_52 : s_dk T40.2.2.1 48 [.iload 5, .bipush 120] 52 = true := by decide +kernel
theorem D40_52 : decode T40.2.2.1 52 = .ok (.if_icmp .ge 48, 3) := by decide +kernel
theorem B40_55_58 : s_dk T40.2.2.1 55 [.iload 4, .iload_n 3] 58 = true := by decide +kernel
theorem D40_58 : decode T40.2.2.1 58 = .ok (.if_icmp .ge 42, 3) := by decide +kernel
theorem B40_100_101 : s_dk T40.2.2.1 100 [.aload_n 0] 101 = true := by decide +kernel
theorem D40_101 : decode T40.2.2.1 101 = .ok (.getfield 19, 3) := by decide +kernel
theorem B40_104_105 : s_dk T40.2.2.1 104 [.iconst 0] 105 = true := by decide +kernel
theorem D40_105 : decode T40.2.2.1 105 = .ok (.iaload, 1) := by decide +kernel
theorem D40_106 : decode T40.2.2.1 106 = .ok (.ireturn, 1) := by decide +kernel
theorem B40_61_62 : s_dk T40.2.2.1 61 [.aload_n 0] 62 = true := by decide +kernel
theorem gf_5_9_69 : s_gf 5 9 69 = some (0, 73) := by decide +kernel
theorem D40_62 : decode T40.2.2.1 62 = .ok (.getfield 9, 3) := by decide +kernel
theorem B40_65_66 : s_dk T40.2.2.1 65 [.aload_n 0] 66 = true := by decide +kernel
theorem gf_5_15_69 : s_gf 5 15 69 = some (1, 1) := by decide +kernel
theorem D40_66 : decode T40.2.2.1 66 = .ok (.getfield 15, 3) := by decide +kernel
theorem B40_69_71 : s_dk T40.2.2.1 69 [.iload 4] 71 = true := by decide +kernel
theorem D40_71 : decode T40.2.2.1 71 = .ok (.iastore, 1) := by decide +kernel
theorem B40_72_74 : s_dk T40.2.2.1 72 [.aload_n 0, .dup] 74 = true := by decide +kernel
theorem D40_74 : decode T40.2.2.1 74 = .ok (.getfield 15, 3) := by decide +kernel
theorem B40_77_79 : s_dk T40.2.2.1 77 [.iconst 1, .iadd] 79 = true := by decide +kernel
theorem D40_79 : decode T40.2.2.1 79 = .ok (.putfield 15, 3) := by decide +kernel
theorem B40_82_85 : s_dk T40.2.2.1 82 [.iload 4, .aload_n 0] 85 = true := by decide +kernel
theorem D40_85 : decode T40.2.2.1 85 = .ok (.getfield 22, 3) := by decide +kernel
theorem B40_88_90 : s_dk T40.2.2.1 88 [.iload 4] 90 = true := by decide +kernel
theorem D40_90 : decode T40.2.2.1 90 = .ok (.iaload, 1) := by decide +kernel
theorem B40_91_97 : s_dk T40.2.2.1 91 [.iadd, .istore 4, .iinc 5 1] 97 = true := by decide +kernel
theorem D40_97 : decode T40.2.2.1 97 = .ok (.goto (-49), 3) := by decide +kernel
set_option maxRecDepth 4000 in
theorem k142 {base : Nat} {X : Nat → Option mC} {G : Nat → Value} (E : EnvOK base X G) {d : Nat} (hd : 0 ≤ d) {M : mH} (H : HI base M) (number : Int) (least : Int) (most : Int) (h0 : -2147483648 ≤ number ∧ number ≤ 2147483647) (h1 : -2147483648 ≤ least ∧ least ≤ 2147483647) (h2 : -2147483648 ≤ most ∧ most ≤ 2147483647) : sOk base X G d T142 [vI number, vI least, vI most] M (pI (fun v M' => M' = M ∧ (v = 0 ∨ v = 1) ∧ (v = 1 → least ≤ number ∧ number ≤ most) ∧ (v = 0 → number < least ∨ most < number))) := by
  refine sOk.of (show sRn base X G d T142 0 [(0, vI number), (1, vI least), (2, vI most)] [] M _ from ?_)
  refine s_blx (lv' := [(0, vI number), (1, vI least), (2, vI most)]) (st' := [vI least, vI number]) B142_0_2 rfl ?_
  refine r_icmp (tgt := 14) (pc' := 5) D142_2 rfl rfl (by unfold inR; omega) (fun (c1 : number < least) => ?_) (fun (c1 : ¬ (number < least)) => ?_)
  · refine s_blx (lv' := [(0, vI number), (1, vI least), (2, vI most)]) (st' := [vI 0]) B142_14_15 rfl ?_
    exact r_zretI D142_15 rfl (by omega) (⟨rfl, by omega, by omega, by omega⟩)
  · refine s_blx (lv' := [(0, vI number), (1, vI least), (2, vI most)]) (st' := [vI most, vI number]) B142_5_7 rfl ?_
    refine r_icmp (tgt := 14) (pc' := 10) D142_7 rfl rfl (by unfold inR; omega) (fun (c2 : most < number) => ?_) (fun (c2 : ¬ (most < number)) => ?_)
    · refine s_blx (lv' := [(0, vI number), (1, vI least), (2, vI most)]) (st' := [vI 0]) B142_14_15 rfl ?_
      exact r_zretI D142_15 rfl (by omega) (⟨rfl, by omega, by omega, by omega⟩)
    · refine s_blx (lv' := [(0, vI number), (1, vI least), (2, vI most)]) (st' := [vI 1]) B142_10_11 rfl ?_
      refine r_goto (tgt := 15) D142_11 rfl ?_
      exact r_zretI D142_15 rfl (by omega) (⟨rfl, by omega, by omega, by omega⟩)
set_option maxRecDepth 4000 in
theorem k143 {base : Nat} {X : Nat → Option mC} {G : Nat → Value} (E : EnvOK base X G) {d : Nat} (hd : 1 ≤ d) {M : mH} (H : HI base M) (slot : Int) (h0 : -2147483648 ≤ slot ∧ slot ≤ 2147483647) : sOk base X G d T143 [vI slot] M (pI (fun v M' => M' = M ∧ (v = 0 ∨ v = 1) ∧ (v = 1 → 0 ≤ slot ∧ slot ≤ 2))) := by
  refine sOk.of (show sRn base X G d T143 0 [(0, vI slot)] [] M _ from ?_)
  refine s_blx (lv' := [(0, vI slot)]) (st' := [vI 2, vI 0, vI slot]) B143_0_3 rfl ?_
  refine r_sIp (args := [vI slot, vI 0, vI 2]) (rest := []) (pc' := 6) D143_3 rfl ck_10_static_102 TE142 rfl (Nat.le_of_ble_eq_true rfl) ⟨Nat.le_of_ble_eq_true rfl, Nat.le_of_ble_eq_true rfl⟩ (by decide) (dp_0 hd rfl) (k142 E (dp_n hd rfl) H slot 0 2 (by omega) (by omega) (by omega)) ?_
  intro v1 q6
  obtain ⟨q3, q4, q5⟩ := q6
  exact r_zretI D143_6 rfl (by omega) (⟨rfl, by omega, by omega⟩)
set_option maxRecDepth 4000 in
theorem k144 {base : Nat} {X : Nat → Option mC} {G : Nat → Value} (E : EnvOK base X G) {d : Nat} (hd : 1 ≤ d) {M : mH} (H : HI base M) (value : Int) (h0 : -2147483648 ≤ value ∧ value ≤ 2147483647) : sOk base X G d T144 [vI value] M (pI (fun v M' => M' = M ∧ (v = 0 ∨ v = 1) ∧ (v = 1 → 0 ≤ value ∧ value ≤ 7))) := by
  refine sOk.of (show sRn base X G d T144 0 [(0, vI value)] [] M _ from ?_)
  refine s_blx (lv' := [(0, vI value)]) (st' := [vI 7, vI 0, vI value]) B144_0_4 rfl ?_
  refine r_sIp (args := [vI value, vI 0, vI 7]) (rest := []) (pc' := 7) D144_4 rfl ck_10_static_102 TE142 rfl (Nat.le_of_ble_eq_true rfl) ⟨Nat.le_of_ble_eq_true rfl, Nat.le_of_ble_eq_true rfl⟩ (by decide) (dp_0 hd rfl) (k142 E (dp_n hd rfl) H value 0 7 (by omega) (by omega) (by omega)) ?_
  intro v1 q6
  obtain ⟨q3, q4, q5⟩ := q6
  exact r_zretI D144_7 rfl (by omega) (⟨rfl, by omega, by omega⟩)
set_option maxRecDepth 4000 in
theorem k145_2 {base : Nat} {X : Nat → Option mC} {G : Nat → Value} (E : EnvOK base X G) {d : Nat} (hd : 0 ≤ d) {M : mH} (H : HI base M) (at_ : Int) (value : Int) (h0 : 0 ≤ at_ ∧ at_ ≤ 89) (h1 : 0 ≤ value ∧ value ≤ 60) : sOk base X G d T145 [vR 2, vI at_, vI value] M (pI (fun v M' => HI base M' ∧ Fr [(2, 0)] M M' ∧ (-2147483648 ≤ v ∧ v ≤ 2147483647))) := by
  have f0 : Fr [(2, 0)] M M := Fr.rf
  refine sOk.of (show sRn base X G d T145 0 [(0, vR 2), (1, vI at_), (2, vI value)] [] M _ from ?_)
  refine s_blx (lv' := [(0, vR 2), (1, vI at_), (2, vI value)]) (st' := [vI at_, vR 2]) B145_0_2 rfl ?_
  refine r_iald (pc' := 3) D145_2 rfl sc_2 H.1 (by omega) ?_
  intro w1 e2 r3
  have b_w1 := H.2 2 (at_) 0 60 rfl
  rw [← e2] at b_w1; clear r3
  refine s_blx (lv' := [(3, vI w1), (0, vR 2), (1, vI at_), (2, vI value)]) (st' := [vI value, vI at_, vR 2]) B145_3_7 rfl ?_
  refine r_iast (pc' := 8) D145_7 rfl sc_2 H (by omega) (by unfold inR; omega) (show 0 ≤ value ∧ value ≤ 60 by omega) ?_
  intro M4 u5 H6 p7
  have f8 := f0.wr u5 rfl
  refine s_blx (lv' := [(3, vI w1), (0, vR 2), (1, vI at_), (2, vI value)]) (st' := [vI w1]) B145_8_9 rfl ?_
  exact r_iretI D145_9 rfl (⟨H6, f8, by omega⟩)
set_option maxRecDepth 4000 in
theorem k145_3 {base : Nat} {X : Nat → Option mC} {G : Nat → Value} (E : EnvOK base X G) {d : Nat} (hd : 0 ≤ d) {M : mH} (H : HI base M) (at_ : Int) (value : Int) (h0 : 0 ≤ at_ ∧ at_ ≤ 8) (h1 : 0 ≤ value ∧ value ≤ 1000) : sOk base X G d T145 [vR 3, vI at_, vI value] M (pI (fun v M' => HI base M' ∧ Fr [(3, 0)] M M' ∧ (-2147483648 ≤ v ∧ v ≤ 2147483647))) := by
  have f0 : Fr [(3, 0)] M M := Fr.rf
  refine sOk.of (show sRn base X G d T145 0 [(0, vR 3), (1, vI at_), (2, vI value)] [] M _ from ?_)
  refine s_blx (lv' := [(0, vR 3), (1, vI at_), (2, vI value)]) (st' := [vI at_, vR 3]) B145_0_2 rfl ?_
  refine r_iald (pc' := 3) D145_2 rfl sc_3 H.1 (by omega) ?_
  intro w1 e2 r3
  have b_w1 := H.2 3 (at_) 0 1000 rfl
  rw [← e2] at b_w1; clear r3
  refine s_blx (lv' := [(3, vI w1), (0, vR 3), (1, vI at_), (2, vI value)]) (st' := [vI value, vI at_, vR 3]) B145_3_7 rfl ?_
  refine r_iast (pc' := 8) D145_7 rfl sc_3 H (by omega) (by unfold inR; omega) (show 0 ≤ value ∧ value ≤ 1000 by omega) ?_
  intro M4 u5 H6 p7
  have f8 := f0.wr u5 rfl
  refine s_blx (lv' := [(3, vI w1), (0, vR 3), (1, vI at_), (2, vI value)]) (st' := [vI w1]) B145_8_9 rfl ?_
  exact r_iretI D145_9 rfl (⟨H6, f8, by omega⟩)
set_option maxRecDepth 4000 in
theorem k145_8 {base : Nat} {X : Nat → Option mC} {G : Nat → Value} (E : EnvOK base X G) {d : Nat} (hd : 0 ≤ d) {M : mH} (H : HI base M) (at_ : Int) (value : Int) (h0 : 0 ≤ at_ ∧ at_ ≤ 63) (h1 : 0 ≤ value ∧ value ≤ 100) : sOk base X G d T145 [vR 8, vI at_, vI value] M (pI (fun v M' => HI base M' ∧ Fr [(8, 0)] M M' ∧ (-2147483648 ≤ v ∧ v ≤ 2147483647))) := by
  have f0 : Fr [(8, 0)] M M := Fr.rf
  refine sOk.of (show sRn base X G d T145 0 [(0, vR 8), (1, vI at_), (2, vI value)] [] M _ from ?_)
  refine s_blx (lv' := [(0, vR 8), (1, vI at_), (2, vI value)]) (st' := [vI at_, vR 8]) B145_0_2 rfl ?_
  refine r_iald (pc' := 3) D145_2 rfl sc_8 H.1 (by omega) ?_
  intro w1 e2 r3
  have b_w1 := H.2 8 (at_) 0 100 rfl
  rw [← e2] at b_w1; clear r3
  refine s_blx (lv' := [(3, vI w1), (0, vR 8), (1, vI at_), (2, vI value)]) (st' := [vI value, vI at_, vR 8]) B145_3_7 rfl ?_
  refine r_iast (pc' := 8) D145_7 rfl sc_8 H (by omega) (by unfold inR; omega) (show 0 ≤ value ∧ value ≤ 100 by omega) ?_
  intro M4 u5 H6 p7
  have f8 := f0.wr u5 rfl
  refine s_blx (lv' := [(3, vI w1), (0, vR 8), (1, vI at_), (2, vI value)]) (st' := [vI w1]) B145_8_9 rfl ?_
  exact r_iretI D145_9 rfl (⟨H6, f8, by omega⟩)
set_option maxRecDepth 4000 in
theorem k145_11 {base : Nat} {X : Nat → Option mC} {G : Nat → Value} (E : EnvOK base X G) {d : Nat} (hd : 0 ≤ d) {M : mH} (H : HI base M) (at_ : Int) (value : Int) (h0 : 0 ≤ at_ ∧ at_ ≤ 59) (h1 : 0 ≤ value ∧ value ≤ 1000) : sOk base X G d T145 [vR 11, vI at_, vI value] M (pI (fun v M' => HI base M' ∧ Fr [(11, 0)] M M' ∧ (-2147483648 ≤ v ∧ v ≤ 2147483647))) := by
  have f0 : Fr [(11, 0)] M M := Fr.rf
  refine sOk.of (show sRn base X G d T145 0 [(0, vR 11), (1, vI at_), (2, vI value)] [] M _ from ?_)
  refine s_blx (lv' := [(0, vR 11), (1, vI at_), (2, vI value)]) (st' := [vI at_, vR 11]) B145_0_2 rfl ?_
  refine r_iald (pc' := 3) D145_2 rfl sc_11 H.1 (by omega) ?_
  intro w1 e2 r3
  have b_w1 := H.2 11 (at_) 0 1000 rfl
  rw [← e2] at b_w1; clear r3
  refine s_blx (lv' := [(3, vI w1), (0, vR 11), (1, vI at_), (2, vI value)]) (st' := [vI value, vI at_, vR 11]) B145_3_7 rfl ?_
  refine r_iast (pc' := 8) D145_7 rfl sc_11 H (by omega) (by unfold inR; omega) (show 0 ≤ value ∧ value ≤ 1000 by omega) ?_
  intro M4 u5 H6 p7
  have f8 := f0.wr u5 rfl
  refine s_blx (lv' := [(3, vI w1), (0, vR 11), (1, vI at_), (2, vI value)]) (st' := [vI w1]) B145_8_9 rfl ?_
  exact r_iretI D145_9 rfl (⟨H6, f8, by omega⟩)
set_option maxRecDepth 4000 in
theorem L_k146 {base : Nat} {X : Nat → Option mC} {G : Nat → Value} (E : EnvOK base X G) {d : Nat} (hd : 0 ≤ d) {M : mH} (H : HI base M) (one : Int) (other : Int) (h0 : -2147483648 ≤ one ∧ one ≤ 2147483647) (h1 : -2147483648 ≤ other ∧ other ≤ 2147483647) : ∀ mz : Nat, (∀ (x2 x3 x4 : Int), ((-2147483648) ≤ x2) → (x2 ≤ 2147483647) → ((-2147483648) ≤ x3) → (x3 ≤ 2147483647) → (0 ≤ x4) → (x4 ≤ 64) → (64 - x4) * 1 + 0 < (mz : Int) → sRn base X G d T146 7 [(2, vI x2), (3, vI x3), (4, vI x4)] [] M (s_Q base (pI (fun v M' => M' = M ∧ (1 ≤ v ∧ v ≤ 2147483647))))) := by
  intro mz
  induction mz with
  | zero => exact fun x2 x3 x4 z0 z1 z2 z3 z4 z5 z6 => by omega
  | succ mz ih =>
    intro x2 x3 x4 i0 i1 i2 i3 i4 i5 hmu
    refine s_blx (lv' := [(2, vI x2), (3, vI x3), (4, vI x4)]) (st' := [vI 64, vI x4]) B146_7_11 rfl ?_
    refine r_icmp (tgt := 34) (pc' := 14) D146_11 rfl rfl (by unfold inR; omega) (fun (c1 : 64 ≤ x4) => ?_) (fun (c1 : ¬ (64 ≤ x4)) => ?_)
    · refine s_blx (lv' := [(2, vI x2), (3, vI x3), (4, vI x4)]) (st' := [vI 1, vI x2]) B146_34_36 rfl ?_
      refine r_max (pc' := 39) D146_36 rfl mc_10_static_342 sp_10_342 (Nat.le_of_ble_eq_true rfl) (by unfold inR; omega) ?_
      intro z2 r3 r4 r5
      exact r_iretI D146_39 rfl (⟨rfl, by omega⟩)
    · refine s_blx (lv' := [(2, vI x2), (3, vI x3), (4, vI x4)]) (st' := [vI x3]) B146_14_15 rfl ?_
      refine r_ifc (tgt := 34) (pc' := 18) D146_15 rfl rfl (by unfold inR; omega) (fun (c6 : x3 = 0) => ?_) (fun (c6 : ¬ (x3 = 0)) => ?_)
      · refine s_blx (lv' := [(2, vI x2), (3, vI x3), (4, vI x4)]) (st' := [vI 1, vI x2]) B146_34_36 rfl ?_
        refine r_max (pc' := 39) D146_36 rfl mc_10_static_342 sp_10_342 (Nat.le_of_ble_eq_true rfl) (by unfold inR; omega) ?_
        intro z7 r8 r9 r10
        exact r_iretI D146_39 rfl (⟨rfl, by omega⟩)
      · refine s_blx (lv' := [(2, vI x2), (3, vI x3), (4, vI x4)]) (st' := [vI x3, vI x2]) B146_18_20 rfl ?_
        refine r_iremX (pc' := 21) D146_20 rfl (by unfold inR; omega) ?_
        intro z11 r12; unfold inR at r12
        refine s_blx (lv' := [(4, vI (x4 + 1)), (3, vI z11), (2, vI x3), (5, vI z11)]) (st' := []) B146_21_31 rfl ?_
        refine r_goto (tgt := 7) D146_31 rfl ?_
        refine r_loc (lv' := [(2, vI x3), (3, vI z11), (4, vI (x4 + 1))]) ⟨rfl, rfl, rfl, trivial⟩ rfl rfl ?_
        exact ih x3 z11 (x4 + 1) (by omega) (by omega) (by omega) (by omega) (by omega) (by omega) (by omega)
set_option maxRecDepth 4000 in
theorem k146 {base : Nat} {X : Nat → Option mC} {G : Nat → Value} (E : EnvOK base X G) {d : Nat} (hd : 0 ≤ d) {M : mH} (H : HI base M) (one : Int) (other : Int) (h0 : -2147483648 ≤ one ∧ one ≤ 2147483647) (h1 : -2147483648 ≤ other ∧ other ≤ 2147483647) : sOk base X G d T146 [vI one, vI other] M (pI (fun v M' => M' = M ∧ (1 ≤ v ∧ v ≤ 2147483647))) := by
  refine sOk.of (show sRn base X G d T146 0 [(0, vI one), (1, vI other)] [] M _ from ?_)
  refine s_blx (lv' := [(4, vI 0), (3, vI other), (2, vI one), (0, vI one), (1, vI other)]) (st' := []) B146_0_7 rfl ?_
  refine r_loc (lv' := [(2, vI one), (3, vI other), (4, vI 0)]) ⟨rfl, rfl, rfl, trivial⟩ rfl rfl ?_
  exact (L_k146 E hd H one other h0 h1 (((64 - 0) * 1 + 0 : Int) + 1).toNat) one other 0 (by omega) (by omega) (by omega) (by omega) (by omega) (by omega) (by omega)
set_option maxRecDepth 4000 in
theorem k133 {base : Nat} {X : Nat → Option mC} {G : Nat → Value} (E : EnvOK base X G) {d : Nat} (hd : 0 ≤ d) {M : mH} (H : HI base M) (reason : Int) (h0 : -2147483648 ≤ reason ∧ reason ≤ 2147483647) : sOk base X G d T133 [vR 0, vI reason] M (pI (fun v M' => HI base M' ∧ Fr [(0, 6)] M M' ∧ (v = reason))) := by
  have f0 : Fr [(0, 6)] M M := Fr.rf
  refine sOk.of (show sRn base X G d T133 0 [(0, vR 0), (1, vI reason)] [] M _ from ?_)
  refine s_blx (lv' := [(0, vR 0), (1, vI reason)]) (st' := [vI reason, vR 0]) B133_0_2 rfl ?_
  refine r_pint (ki := 5) (pc' := 5) D133_2 rfl pf_10_31_0 rfl H (by unfold inR; omega) trivial ?_
  intro M1 u2 H3 p4
  have f5 := f0.wr u2 rfl
  refine s_blx (lv' := [(0, vR 0), (1, vI reason)]) (st' := [vI reason]) B133_5_6 rfl ?_
  exact r_iretI D133_6 rfl (⟨H3, f5, by omega⟩)
set_option maxRecDepth 4000 in
theorem k134 {base : Nat} {X : Nat → Option mC} {G : Nat → Value} (E : EnvOK base X G) {d : Nat} (hd : 0 ≤ d) {M : mH} (H : HI base M) (answer : Int) (h0 : -2147483648 ≤ answer ∧ answer ≤ 2147483647) : sOk base X G d T134 [vR 0, vI answer] M (pI (fun v M' => HI base M' ∧ Fr [(0, 6), (0, 10)] M M' ∧ (v = answer))) := by
  have f0 : Fr [(0, 6), (0, 10)] M M := Fr.rf
  refine sOk.of (show sRn base X G d T134 0 [(0, vR 0), (1, vI answer)] [] M _ from ?_)
  refine s_blx (lv' := [(0, vR 0), (1, vI answer)]) (st' := [vI 0, vR 0]) B134_0_2 rfl ?_
  refine r_pint (ki := 5) (pc' := 5) D134_2 rfl pf_10_31_0 rfl H (by unfold inR; omega) trivial ?_
  intro M1 u2 H3 p4
  have f5 := f0.wr u2 rfl
  refine s_blx (lv' := [(0, vR 0), (1, vI answer)]) (st' := [vI 1, vR 0]) B134_5_7 rfl ?_
  refine r_pbool (ki := 9) (pc' := 10) D134_7 rfl pf_10_57_0 rfl H3 (by omega) (show 0 ≤ 1 ∧ 1 ≤ 1 by omega) ?_
  intro M6 u7 H8 p9
  have f10 := f5.wr u7 rfl
  refine s_blx (lv' := [(0, vR 0), (1, vI answer)]) (st' := [vI answer]) B134_10_11 rfl ?_
  exact r_iretI D134_11 rfl (⟨H8, f10, by omega⟩)
set_option maxRecDepth 4000 in
theorem k135 {base : Nat} {X : Nat → Option mC} {G : Nat → Value} (E : EnvOK base X G) {d : Nat} (hd : 0 ≤ d) {M : mH} (H : HI base M) : sOk base X G d T135 [vR 0] M (pI (fun v M' => HI base M' ∧ Fr [(0, 4)] M M' ∧ (0 ≤ v ∧ v ≤ 400))) := by
  have f0 : Fr [(0, 4)] M M := Fr.rf
  refine sOk.of (show sRn base X G d T135 0 [(0, vR 0)] [] M _ from ?_)
  refine s_blx (lv' := [(0, vR 0)]) (st' := [vR 0]) B135_0_1 rfl ?_
  refine r_gint (ki := 3) (pc' := 4) D135_1 rfl gf_10_24_0 rfl H.1 ?_
  intro w1 e2 r3
  have b_w1 := H.2 0 (3) 0 400 rfl
  rw [← e2] at b_w1; clear r3
  refine s_blx (lv' := [(1, vI w1), (0, vR 0)]) (st' := [vI 0, vR 0]) B135_4_7 rfl ?_
  refine r_pint (ki := 3) (pc' := 10) D135_7 rfl pf_10_24_0 rfl H (by unfold inR; omega) (show 0 ≤ 0 ∧ 0 ≤ 400 by omega) ?_
  intro M4 u5 H6 p7
  have f8 := f0.wr u5 rfl
  refine s_blx (lv' := [(1, vI w1), (0, vR 0)]) (st' := [vI w1]) B135_10_11 rfl ?_
  exact r_iretI D135_11 rfl (⟨H6, f8, by omega⟩)
set_option maxRecDepth 4000 in
theorem L_k136 {base : Nat} {X : Nat → Option mC} {G : Nat → Value} (E : EnvOK base X G) {d : Nat} (hd : 0 ≤ d) {M : mH} (H : HI base M) (four : Int) (h0 : -2147483648 ≤ four ∧ four ≤ 2147483647) (h1 : gi M 0 3 ≤ 396) : ∀ mz : Nat, (∀ (x2 : Int) (N : mH), HI base N → Fr [(0, 4), (13, 0)] M N → (x2 % 8 = 0) → (gi N 0 3 * 8 = gi M 0 3 * 8 + (24 - x2)) → ((-8) ≤ x2) → (x2 ≤ 24) → (x2 + 8) * 1 + 0 < (mz : Int) → sRn base X G d T136 3 [(0, vR 0), (1, vI four), (2, vI x2)] [] N (s_Q base (pV (fun M' => HI base M' ∧ Fr [(0, 4), (13, 0)] M M' ∧ (gi M' 0 3 = gi M 0 3 + 4))))) := by
  have f0 : Fr [(0, 4), (13, 0)] M M := Fr.rf
  intro mz
  induction mz with
  | zero => exact fun x2 N _ _ z0 z1 z2 z3 z4 => by omega
  | succ mz ih =>
    intro x2 N HN fN i0 i1 i2 i3 hmu
    refine s_blx (lv' := [(0, vR 0), (1, vI four), (2, vI x2)]) (st' := [vI x2]) B136_3_4 rfl ?_
    refine r_ifc (tgt := 39) (pc' := 7) D136_4 rfl rfl (by unfold inR; omega) (fun (c2 : x2 < 0) => ?_) (fun (c2 : ¬ (x2 < 0)) => ?_)
    · exact r_retV D136_39 rfl (⟨HN, fN, by omega⟩)
    · refine s_blx (lv' := [(0, vR 0), (1, vI four), (2, vI x2)]) (st' := [vR 0]) B136_7_8 rfl ?_
      refine r_gfix (r := 13) (pc' := 11) D136_8 rfl gf_10_20_0 HN.1 ?_
      refine s_blx (lv' := [(0, vR 0), (1, vI four), (2, vI x2)]) (st' := [vR 0, vR 13]) B136_11_12 rfl ?_
      refine r_gint (ki := 3) (pc' := 15) D136_12 rfl gf_10_24_0 rfl HN.1 ?_
      intro w3 e4 r5
      have b_w3 := HN.2 0 (3) 0 400 rfl
      rw [← e4] at b_w3; clear r5
      refine s_blx (lv' := [(0, vR 0), (1, vI four), (2, vI x2)]) (st' := [vI x2, vI four, vI w3, vR 13]) B136_15_17 rfl ?_
      refine r_bin (pc' := 18) D136_17 rfl rfl ?_
      intro z6 r7 _; unfold inR at r7
      refine s_blx (lv' := [(0, vR 0), (1, vI four), (2, vI x2)]) (st' := [vI 255, vI z6, vI w3, vR 13]) B136_18_21 rfl ?_
      refine r_and255 (pc' := 22) D136_21 rfl ?_
      refine r_iast (pc' := 23) D136_22 rfl sc_13 HN (by omega) (by unfold inR; omega) (show 0 ≤ (z6 % 256) ∧ (z6 % 256) ≤ 255 by omega) ?_
      intro M8 u9 H10 p11
      have f12 := fN.wr u9 rfl
      refine s_blx (lv' := [(0, vR 0), (1, vI four), (2, vI x2)]) (st' := [vR 0, vR 0]) B136_23_25 rfl ?_
      refine r_gint (ki := 3) (pc' := 28) D136_25 rfl gf_10_24_0 rfl H10.1 ?_
      intro w13 e14 r15
      have e16 : w3 = w13 := (e14.trans ((u9.gi_ne (by omega) (Or.inl (by decide))).trans (e4.symm))).symm
      subst e16
      refine s_blx (lv' := [(0, vR 0), (1, vI four), (2, vI x2)]) (st' := [vI (w3 + 1), vR 0]) B136_28_30 rfl ?_
      refine r_pint (ki := 3) (pc' := 33) D136_30 rfl pf_10_24_0 rfl H10 (by unfold inR; omega) (show 0 ≤ (w3 + 1) ∧ (w3 + 1) ≤ 400 by omega) ?_
      intro M17 u18 H19 p20
      have f21 := f12.wr u18 rfl
      refine s_blx (lv' := [(2, vI (x2 + (-8))), (0, vR 0), (1, vI four)]) (st' := []) B136_33_36 rfl ?_
      refine r_goto (tgt := 3) D136_36 rfl ?_
      refine r_loc (lv' := [(0, vR 0), (1, vI four), (2, vI (x2 + (-8)))]) ⟨rfl, rfl, rfl, trivial⟩ rfl rfl ?_
      have g22 : gi M17 0 3 = w3 + 1 := p20
      exact ih (x2 + (-8)) M17 H19 f21 (by omega) (by omega) (by omega) (by omega) (by omega)
set_option maxRecDepth 4000 in
theorem k136 {base : Nat} {X : Nat → Option mC} {G : Nat → Value} (E : EnvOK base X G) {d : Nat} (hd : 0 ≤ d) {M : mH} (H : HI base M) (four : Int) (h0 : -2147483648 ≤ four ∧ four ≤ 2147483647) (h1 : gi M 0 3 ≤ 396) : sOk base X G d T136 [vR 0, vI four] M (pV (fun M' => HI base M' ∧ Fr [(0, 4), (13, 0)] M M' ∧ (gi M' 0 3 = gi M 0 3 + 4))) := by
  have f0 : Fr [(0, 4), (13, 0)] M M := Fr.rf
  refine sOk.of (show sRn base X G d T136 0 [(0, vR 0), (1, vI four)] [] M _ from ?_)
  refine s_blx (lv' := [(2, vI 24), (0, vR 0), (1, vI four)]) (st' := []) B136_0_3 rfl ?_
  refine r_loc (lv' := [(0, vR 0), (1, vI four), (2, vI 24)]) ⟨rfl, rfl, rfl, trivial⟩ rfl rfl ?_
  have g1 : gi M 0 3 = gi M 0 3 := rfl
  exact (L_k136 E hd H four h0 h1 (((24 + 8) * 1 + 0 : Int) + 1).toNat) 24 M H f0 (by omega) (by omega) (by omega) (by omega) (by omega)
set_option maxRecDepth 4000 in
theorem L_k137 {base : Nat} {X : Nat → Option mC} {G : Nat → Value} (E : EnvOK base X G) {d : Nat} (hd : 1 ≤ d) {M : mH} (H : HI base M) (length : Int) (h0 : 0 ≤ length ∧ length ≤ 400) : ∀ mz : Nat, (∀ (x2 : Int), (0 ≤ x2) → (x2 ≤ 8) → (1 ≤ length) → (length ≤ 8) → (8 - x2) * 1 + 0 < (mz : Int) → sRn base X G d T137 14 [(0, vR 0), (1, vI length), (2, vI x2)] [] M (s_Q base (pI (fun v M' => M' = M ∧ (v = 0 ∨ v = 1) ∧ (v = 1 → 1 ≤ length ∧ length ≤ 8))))) := by
  intro mz
  induction mz with
  | zero => exact fun x2 z0 z1 z2 z3 z4 => by omega
  | succ mz ih =>
    intro x2 i0 i1 i2 i3 hmu
    refine s_blx (lv' := [(0, vR 0), (1, vI length), (2, vI x2)]) (st' := [vI length, vI x2]) B137_14_16 rfl ?_
    refine r_icmp (tgt := 38) (pc' := 19) D137_16 rfl rfl (by unfold inR; omega) (fun (c8 : length ≤ x2) => ?_) (fun (c8 : ¬ (length ≤ x2)) => ?_)
    · refine s_blx (lv' := [(0, vR 0), (1, vI length), (2, vI x2)]) (st' := [vI 1]) B137_38_39 rfl ?_
      exact r_zretI D137_39 rfl (by omega) (⟨rfl, by omega, by omega⟩)
    · refine s_blx (lv' := [(0, vR 0), (1, vI length), (2, vI x2)]) (st' := [vR 0]) B137_19_20 rfl ?_
      refine r_gfix (r := 13) (pc' := 23) D137_20 rfl gf_10_20_0 H.1 ?_
      refine s_blx (lv' := [(0, vR 0), (1, vI length), (2, vI x2)]) (st' := [vI x2, vR 13]) B137_23_24 rfl ?_
      refine r_iald (pc' := 25) D137_24 rfl sc_13 H.1 (by omega) ?_
      intro w9 e10 r11
      have b_w9 := H.2 13 (x2) 0 255 rfl
      rw [← e10] at b_w9; clear r11
      refine s_blx (lv' := [(0, vR 0), (1, vI length), (2, vI x2)]) (st' := [vI 30, vI w9]) B137_25_27 rfl ?_
      refine r_icmp (tgt := 32) (pc' := 30) D137_27 rfl rfl (by unfold inR; omega) (fun (c12 : w9 < 30) => ?_) (fun (c12 : ¬ (w9 < 30)) => ?_)
      · refine s_blx (lv' := [(2, vI (x2 + 1)), (0, vR 0), (1, vI length)]) (st' := []) B137_32_35 rfl ?_
        refine r_goto (tgt := 14) D137_35 rfl ?_
        refine r_loc (lv' := [(0, vR 0), (1, vI length), (2, vI (x2 + 1))]) ⟨rfl, rfl, rfl, trivial⟩ rfl rfl ?_
        exact ih (x2 + 1) (by omega) (by omega) (by omega) (by omega) (by omega)
      · refine s_blx (lv' := [(0, vR 0), (1, vI length), (2, vI x2)]) (st' := [vI 0]) B137_30_31 rfl ?_
        exact r_zretI D137_31 rfl (by omega) (⟨rfl, by omega, by omega⟩)
set_option maxRecDepth 4000 in
theorem k137 {base : Nat} {X : Nat → Option mC} {G : Nat → Value} (E : EnvOK base X G) {d : Nat} (hd : 1 ≤ d) {M : mH} (H : HI base M) (length : Int) (h0 : 0 ≤ length ∧ length ≤ 400) : sOk base X G d T137 [vR 0, vI length] M (pI (fun v M' => M' = M ∧ (v = 0 ∨ v = 1) ∧ (v = 1 → 1 ≤ length ∧ length ≤ 8))) := by
  refine sOk.of (show sRn base X G d T137 0 [(0, vR 0), (1, vI length)] [] M _ from ?_)
  refine s_blx (lv' := [(0, vR 0), (1, vI length)]) (st' := [vI 8, vI 1, vI length]) B137_0_4 rfl ?_
  refine r_sIp (args := [vI length, vI 1, vI 8]) (rest := []) (pc' := 7) D137_4 rfl ck_10_static_102 TE142 rfl (Nat.le_of_ble_eq_true rfl) ⟨Nat.le_of_ble_eq_true rfl, Nat.le_of_ble_eq_true rfl⟩ (by decide) (dp_0 hd rfl) (k142 E (dp_n hd rfl) H length 1 8 (by omega) (by omega) (by omega)) ?_
  intro v1 q6
  obtain ⟨q3, q4, q5⟩ := q6
  refine r_ifc (tgt := 12) (pc' := 10) D137_7 rfl rfl (by unfold inR; omega) (fun (c7 : v1 ≠ 0) => ?_) (fun (c7 : ¬ (v1 ≠ 0)) => ?_)
  · refine s_blx (lv' := [(2, vI 0), (0, vR 0), (1, vI length)]) (st' := []) B137_12_14 rfl ?_
    refine r_loc (lv' := [(0, vR 0), (1, vI length), (2, vI 0)]) ⟨rfl, rfl, rfl, trivial⟩ rfl rfl ?_
    exact (L_k137 E hd H length h0 (((8 - 0) * 1 + 0 : Int) + 1).toNat) 0 (by omega) (by omega) (by omega) (by omega) (by omega)
  · refine s_blx (lv' := [(0, vR 0), (1, vI length)]) (st' := [vI 0]) B137_10_11 rfl ?_
    exact r_zretI D137_11 rfl (by omega) (⟨rfl, by omega, by omega⟩)
set_option maxRecDepth 4000 in
theorem k42 {base : Nat} {X : Nat → Option mC} {G : Nat → Value} (E : EnvOK base X G) {d : Nat} (hd : 0 ≤ d) {M : mH} (H : HI base M) (said : Int) (h0 : -2147483648 ≤ said ∧ said ≤ 2147483647) : sOk base X G d T42 [vI said] M (pI (fun v M' => M' = M ∧ (0 ≤ v ∧ v ≤ 3) ∧ (v = 0 → said < 1) ∧ (v = 1 → 1 ≤ said ∧ said ≤ 10) ∧ (v = 2 → 11 ≤ said ∧ said ≤ 110) ∧ (v = 3 → 111 ≤ said))) := by
  refine sOk.of (show sRn base X G d T42 0 [(0, vI said)] [] M _ from ?_)
  refine s_blx (lv' := [(0, vI said)]) (st' := [vI 1, vI said]) B42_0_2 rfl ?_
  refine r_icmp (tgt := 7) (pc' := 5) D42_2 rfl rfl (by unfold inR; omega) (fun (c1 : 1 ≤ said) => ?_) (fun (c1 : ¬ (1 ≤ said)) => ?_)
  · refine s_blx (lv' := [(0, vI said)]) (st' := [vI 11, vI said]) B42_7_10 rfl ?_
    refine r_icmp (tgt := 15) (pc' := 13) D42_10 rfl rfl (by unfold inR; omega) (fun (c2 : 11 ≤ said) => ?_) (fun (c2 : ¬ (11 ≤ said)) => ?_)
    · refine s_blx (lv' := [(0, vI said)]) (st' := [vI 111, vI said]) B42_15_18 rfl ?_
      refine r_icmp (tgt := 25) (pc' := 21) D42_18 rfl rfl (by unfold inR; omega) (fun (c3 : 111 ≤ said) => ?_) (fun (c3 : ¬ (111 ≤ said)) => ?_)
      · refine s_blx (lv' := [(0, vI said)]) (st' := [vI 3]) B42_25_26 rfl ?_
        exact r_iretI D42_26 rfl (⟨rfl, by omega, by omega, by omega, by omega, by omega⟩)
      · refine s_blx (lv' := [(0, vI said)]) (st' := [vI 2]) B42_21_22 rfl ?_
        refine r_goto (tgt := 26) D42_22 rfl ?_
        exact r_iretI D42_26 rfl (⟨rfl, by omega, by omega, by omega, by omega, by omega⟩)
    · refine s_blx (lv' := [(0, vI said)]) (st' := [vI 1]) B42_13_14 rfl ?_
      exact r_iretI D42_14 rfl (⟨rfl, by omega, by omega, by omega, by omega, by omega⟩)
  · refine s_blx (lv' := [(0, vI said)]) (st' := [vI 0]) B42_5_6 rfl ?_
    exact r_iretI D42_6 rfl (⟨rfl, by omega, by omega, by omega, by omega, by omega⟩)
set_option maxRecDepth 4000 in
theorem k43 {base : Nat} {X : Nat → Option mC} {G : Nat → Value} (E : EnvOK base X G) {d : Nat} (hd : 0 ≤ d) {M : mH} (H : HI base M) (said : Int) (digit : Int) (h0 : -2147483648 ≤ said ∧ said ≤ 2147483647) (h1 : -2147483648 ≤ digit ∧ digit ≤ 2147483647) : sOk base X G d T43 [vI said, vI digit] M (pI (fun v M' => M' = M ∧ v = said * 10 + 1 + digit)) := by
  refine sOk.of (show sRn base X G d T43 0 [(0, vI said), (1, vI digit)] [] M _ from ?_)
  refine s_blx (lv' := [(0, vI said), (1, vI digit)]) (st' := [vI (((said * 10) + 1) + digit)]) B43_0_8 rfl ?_
  exact r_iretI D43_8 rfl (⟨rfl, by omega⟩)
set_option maxRecDepth 4000 in
theorem k267 {base : Nat} {X : Nat → Option mC} {G : Nat → Value} (E : EnvOK base X G) {d : Nat} (hd : 0 ≤ d) {M : mH} (H : HI base M) (i : Int) (h0 : -2147483648 ≤ i ∧ i ≤ 2147483647) : sOk base X G d T267 [vI i] M (pI (fun v M' => M' = M ∧ (-2147483648 ≤ v ∧ v ≤ 2147483647))) := by
  refine sOk.of (show sRn base X G d T267 0 [(0, vI i)] [] M _ from ?_)
  refine s_blx (lv' := [(0, vI i)]) (st' := [vI 1, vI i, vI i]) B267_0_3 rfl ?_
  refine r_bin (pc' := 4) D267_3 rfl rfl ?_
  intro z1 r2 _; unfold inR at r2
  refine r_ldcw (e := 1431655765) (pc' := 7) D267_4 rfl ci_17_265 (by decide) ?_
  refine r_bin (pc' := 8) D267_7 rfl rfl ?_
  intro z3 r4 _; unfold inR at r4
  refine s_blx (lv' := [(0, vI (i - z3))]) (st' := [vI (i - z3)]) B267_8_11 rfl ?_
  refine r_ldcw (e := 858993459) (pc' := 14) D267_11 rfl ci_17_266 (by decide) ?_
  refine r_bin (pc' := 15) D267_14 rfl rfl ?_
  intro z5 r6 _; unfold inR at r6
  refine s_blx (lv' := [(0, vI (i - z3))]) (st' := [vI 2, vI (i - z3), vI z5]) B267_15_17 rfl ?_
  refine r_bin (pc' := 18) D267_17 rfl rfl ?_
  intro z7 r8 _; unfold inR at r8
  refine r_ldcw (e := 858993459) (pc' := 21) D267_18 rfl ci_17_266 (by decide) ?_
  refine r_bin (pc' := 22) D267_21 rfl rfl ?_
  intro z9 r10 _; unfold inR at r10
  refine s_blx (lv' := [(0, vI (z5 + z9))]) (st' := [vI 4, vI (z5 + z9), vI (z5 + z9)]) B267_22_27 rfl ?_
  refine r_bin (pc' := 28) D267_27 rfl rfl ?_
  intro z11 r12 _; unfold inR at r12
  refine s_blx (lv' := [(0, vI (z5 + z9))]) (st' := [vI ((z5 + z9) + z11)]) B267_28_29 rfl ?_
  refine r_ldcw (e := 252645135) (pc' := 32) D267_29 rfl ci_17_267 (by decide) ?_
  refine r_bin (pc' := 33) D267_32 rfl rfl ?_
  intro z13 r14 _; unfold inR at r14
  refine s_blx (lv' := [(0, vI z13)]) (st' := [vI 8, vI z13, vI z13]) B267_33_38 rfl ?_
  refine r_bin (pc' := 39) D267_38 rfl rfl ?_
  intro z15 r16 _; unfold inR at r16
  refine s_blx (lv' := [(0, vI (z13 + z15))]) (st' := [vI 16, vI (z13 + z15), vI (z13 + z15)]) B267_39_45 rfl ?_
  refine r_bin (pc' := 46) D267_45 rfl rfl ?_
  intro z17 r18 _; unfold inR at r18
  refine s_blx (lv' := [(0, vI ((z13 + z15) + z17))]) (st' := [vI 63, vI ((z13 + z15) + z17)]) B267_46_51 rfl ?_
  refine r_and63 (pc' := 52) D267_51 rfl ?_
  exact r_iretI D267_52 rfl (⟨rfl, by omega⟩)
set_option maxRecDepth 4000 in
theorem k59_1 {base : Nat} {X : Nat → Option mC} {G : Nat → Value} (E : EnvOK base X G) {d : Nat} (hd : 0 ≤ d) {M : mH} (H : HI base M) (slot : Int) (values : Int) (length : Int) (h0 : 0 ≤ slot ∧ slot ≤ 2) (h1 : 0 ≤ values ∧ values ≤ 255) (h2 : 0 ≤ length ∧ length ≤ 9) (h3 : gi M 1 4 ≤ 11) : sOk base X G d T59 [vR 1, vI slot, vI values, vI length] M (pI (fun v M' => HI base M' ∧ Fr [(1, 5), (4, 0)] M M' ∧ (-2147483648 ≤ v ∧ v ≤ 2147483647))) := by
  have f0 : Fr [(1, 5), (4, 0)] M M := Fr.rf
  refine sOk.of (show sRn base X G d T59 0 [(0, vR 1), (1, vI slot), (2, vI values), (3, vI length)] [] M _ from ?_)
  refine s_blx (lv' := [(0, vR 1), (1, vI slot), (2, vI values), (3, vI length)]) (st' := [vR 1]) B59_0_1 rfl ?_
  refine r_gfix (r := 4) (pc' := 4) D59_1 rfl gf_8_22_1 H.1 ?_
  refine s_blx (lv' := [(0, vR 1), (1, vI slot), (2, vI values), (3, vI length)]) (st' := [vR 1, vR 4]) B59_4_5 rfl ?_
  refine r_gint (ki := 4) (pc' := 8) D59_5 rfl gf_8_25_1 rfl H.1 ?_
  intro w1 e2 r3
  have b_w1 := H.2 1 (4) 0 12 rfl
  rw [← e2] at b_w1; clear r3
  refine s_blx (lv' := [(0, vR 1), (1, vI slot), (2, vI values), (3, vI length)]) (st' := [vI slot, vI (w1 * 3), vR 4]) B59_8_11 rfl ?_
  refine r_iast (pc' := 12) D59_11 rfl sc_4 H (by omega) (by unfold inR; omega) (show 0 ≤ slot ∧ slot ≤ 255 by omega) ?_
  intro M4 u5 H6 p7
  have f8 := f0.wr u5 rfl
  refine s_blx (lv' := [(0, vR 1), (1, vI slot), (2, vI values), (3, vI length)]) (st' := [vR 1]) B59_12_13 rfl ?_
  refine r_gfix (r := 4) (pc' := 16) D59_13 rfl gf_8_22_1 H6.1 ?_
  refine s_blx (lv' := [(0, vR 1), (1, vI slot), (2, vI values), (3, vI length)]) (st' := [vR 1, vR 4]) B59_16_17 rfl ?_
  refine r_gint (ki := 4) (pc' := 20) D59_17 rfl gf_8_25_1 rfl H6.1 ?_
  intro w9 e10 r11
  have e12 : w1 = w9 := (e10.trans ((u5.gi_ne (by omega) (Or.inl (by decide))).trans (e2.symm))).symm
  subst e12
  refine s_blx (lv' := [(0, vR 1), (1, vI slot), (2, vI values), (3, vI length)]) (st' := [vI values, vI ((w1 * 3) + 1), vR 4]) B59_20_25 rfl ?_
  refine r_iast (pc' := 26) D59_25 rfl sc_4 H6 (by omega) (by unfold inR; omega) (show 0 ≤ values ∧ values ≤ 255 by omega) ?_
  intro M13 u14 H15 p16
  have f17 := f8.wr u14 rfl
  refine s_blx (lv' := [(0, vR 1), (1, vI slot), (2, vI values), (3, vI length)]) (st' := [vR 1]) B59_26_27 rfl ?_
  refine r_gfix (r := 4) (pc' := 30) D59_27 rfl gf_8_22_1 H15.1 ?_
  refine s_blx (lv' := [(0, vR 1), (1, vI slot), (2, vI values), (3, vI length)]) (st' := [vR 1, vR 4]) B59_30_31 rfl ?_
  refine r_gint (ki := 4) (pc' := 34) D59_31 rfl gf_8_25_1 rfl H15.1 ?_
  intro w18 e19 r20
  have e21 : w1 = w18 := (e19.trans ((u14.gi_ne (by omega) (Or.inl (by decide))).trans ((u5.gi_ne (by omega) (Or.inl (by decide))).trans (e2.symm)))).symm
  subst e21
  refine s_blx (lv' := [(0, vR 1), (1, vI slot), (2, vI values), (3, vI length)]) (st' := [vI length, vI ((w1 * 3) + 2), vR 4]) B59_34_39 rfl ?_
  refine r_iast (pc' := 40) D59_39 rfl sc_4 H15 (by omega) (by unfold inR; omega) (show 0 ≤ length ∧ length ≤ 255 by omega) ?_
  intro M22 u23 H24 p25
  have f26 := f17.wr u23 rfl
  refine s_blx (lv' := [(0, vR 1), (1, vI slot), (2, vI values), (3, vI length)]) (st' := [vR 1, vR 1]) B59_40_42 rfl ?_
  refine r_gint (ki := 4) (pc' := 45) D59_42 rfl gf_8_25_1 rfl H24.1 ?_
  intro w27 e28 r29
  have e30 : w1 = w27 := (e28.trans ((u23.gi_ne (by omega) (Or.inl (by decide))).trans ((u14.gi_ne (by omega) (Or.inl (by decide))).trans ((u5.gi_ne (by omega) (Or.inl (by decide))).trans (e2.symm))))).symm
  subst e30
  refine s_blx (lv' := [(0, vR 1), (1, vI slot), (2, vI values), (3, vI length)]) (st' := [vI (w1 + 1), vR 1]) B59_45_47 rfl ?_
  refine r_pint (ki := 4) (pc' := 50) D59_47 rfl pf_8_25_1 rfl H24 (by unfold inR; omega) (show 0 ≤ (w1 + 1) ∧ (w1 + 1) ≤ 12 by omega) ?_
  intro M31 u32 H33 p34
  have f35 := f26.wr u32 rfl
  refine s_blx (lv' := [(0, vR 1), (1, vI slot), (2, vI values), (3, vI length)]) (st' := [vR 1]) B59_50_51 rfl ?_
  refine r_gint (ki := 4) (pc' := 54) D59_51 rfl gf_8_25_1 rfl H33.1 ?_
  intro w36 e37 r38
  have e39 : w1 + 1 = w36 := (e37.trans (p34)).symm
  subst e39
  refine s_blx (lv' := [(0, vR 1), (1, vI slot), (2, vI values), (3, vI length)]) (st' := [vI ((w1 + 1) - 1)]) B59_54_56 rfl ?_
  exact r_iretI D59_56 rfl (⟨H33, f35, by omega⟩)
set_option maxRecDepth 4000 in
theorem k61_1 {base : Nat} {X : Nat → Option mC} {G : Nat → Value} (E : EnvOK base X G) {d : Nat} (hd : 0 ≤ d) {M : mH} (H : HI base M) (sentence : Int) (a : Int) (b : Int) (c : Int) (h0 : 0 ≤ sentence ∧ sentence ≤ 15) (h1 : 0 ≤ a ∧ a ≤ 7) (h2 : 0 ≤ b ∧ b ≤ 7) (h3 : 0 ≤ c ∧ c ≤ 7) : sOk base X G d T61 [vR 1, vI sentence, vI a, vI b, vI c] M (pV (fun M' => HI base M' ∧ Fr [(7, 0)] M M')) := by
  have f0 : Fr [(7, 0)] M M := Fr.rf
  refine sOk.of (show sRn base X G d T61 0 [(0, vR 1), (1, vI sentence), (2, vI a), (3, vI b), (4, vI c)] [] M _ from ?_)
  refine s_blx (lv' := [(0, vR 1), (1, vI sentence), (2, vI a), (3, vI b), (4, vI c)]) (st' := [vR 1]) B61_0_1 rfl ?_
  refine r_gfix (r := 7) (pc' := 4) D61_1 rfl gf_8_37_1 H.1 ?_
  refine s_blx (lv' := [(0, vR 1), (1, vI sentence), (2, vI a), (3, vI b), (4, vI c)]) (st' := [vI a, vI (sentence * 3), vR 7]) B61_4_8 rfl ?_
  refine r_iast (pc' := 9) D61_8 rfl sc_7 H (by omega) (by unfold inR; omega) (show 0 ≤ a ∧ a ≤ 7 by omega) ?_
  intro M1 u2 H3 p4
  have f5 := f0.wr u2 rfl
  refine s_blx (lv' := [(0, vR 1), (1, vI sentence), (2, vI a), (3, vI b), (4, vI c)]) (st' := [vR 1]) B61_9_10 rfl ?_
  refine r_gfix (r := 7) (pc' := 13) D61_10 rfl gf_8_37_1 H3.1 ?_
  refine s_blx (lv' := [(0, vR 1), (1, vI sentence), (2, vI a), (3, vI b), (4, vI c)]) (st' := [vI b, vI ((sentence * 3) + 1), vR 7]) B61_13_19 rfl ?_
  refine r_iast (pc' := 20) D61_19 rfl sc_7 H3 (by omega) (by unfold inR; omega) (show 0 ≤ b ∧ b ≤ 7 by omega) ?_
  intro M6 u7 H8 p9
  have f10 := f5.wr u7 rfl
  refine s_blx (lv' := [(0, vR 1), (1, vI sentence), (2, vI a), (3, vI b), (4, vI c)]) (st' := [vR 1]) B61_20_21 rfl ?_
  refine r_gfix (r := 7) (pc' := 24) D61_21 rfl gf_8_37_1 H8.1 ?_
  refine s_blx (lv' := [(0, vR 1), (1, vI sentence), (2, vI a), (3, vI b), (4, vI c)]) (st' := [vI c, vI ((sentence * 3) + 2), vR 7]) B61_24_31 rfl ?_
  refine r_iast (pc' := 32) D61_31 rfl sc_7 H8 (by omega) (by unfold inR; omega) (show 0 ≤ c ∧ c ≤ 7 by omega) ?_
  intro M11 u12 H13 p14
  have f15 := f10.wr u12 rfl
  exact r_retV D61_32 rfl (⟨H13, f15⟩)
set_option maxRecDepth 4000 in
theorem k63_1 {base : Nat} {X : Nat → Option mC} {G : Nat → Value} (E : EnvOK base X G) {d : Nat} (hd : 0 ≤ d) {M : mH} (H : HI base M) (lag : Int) (keeps : Int) (limit : Int) (h0 : 0 ≤ lag ∧ lag ≤ 60) (h1 : 0 ≤ keeps ∧ keeps ≤ 100) (h2 : 0 ≤ limit ∧ limit ≤ 300) (h3 : gi M 1 14 ≤ 5) : sOk base X G d T63 [vR 1, vI lag, vI keeps, vI limit] M (pI (fun v M' => HI base M' ∧ Fr [(1, 15), (10, 0)] M M' ∧ (-2147483648 ≤ v ∧ v ≤ 2147483647))) := by
  have f0 : Fr [(1, 15), (10, 0)] M M := Fr.rf
  refine sOk.of (show sRn base X G d T63 0 [(0, vR 1), (1, vI lag), (2, vI keeps), (3, vI limit)] [] M _ from ?_)
  refine s_blx (lv' := [(0, vR 1), (1, vI lag), (2, vI keeps), (3, vI limit)]) (st' := [vR 1]) B63_0_1 rfl ?_
  refine r_gfix (r := 10) (pc' := 4) D63_1 rfl gf_8_55_1 H.1 ?_
  refine s_blx (lv' := [(0, vR 1), (1, vI lag), (2, vI keeps), (3, vI limit)]) (st' := [vR 1, vR 10]) B63_4_5 rfl ?_
  refine r_gint (ki := 14) (pc' := 8) D63_5 rfl gf_8_58_1 rfl H.1 ?_
  intro w1 e2 r3
  have b_w1 := H.2 1 (14) 0 6 rfl
  rw [← e2] at b_w1; clear r3
  refine s_blx (lv' := [(0, vR 1), (1, vI lag), (2, vI keeps), (3, vI limit)]) (st' := [vI lag, vI (w1 * 3), vR 10]) B63_8_11 rfl ?_
  refine r_iast (pc' := 12) D63_11 rfl sc_10 H (by omega) (by unfold inR; omega) (show 0 ≤ lag ∧ lag ≤ 300 by omega) ?_
  intro M4 u5 H6 p7
  have f8 := f0.wr u5 rfl
  refine s_blx (lv' := [(0, vR 1), (1, vI lag), (2, vI keeps), (3, vI limit)]) (st' := [vR 1]) B63_12_13 rfl ?_
  refine r_gfix (r := 10) (pc' := 16) D63_13 rfl gf_8_55_1 H6.1 ?_
  refine s_blx (lv' := [(0, vR 1), (1, vI lag), (2, vI keeps), (3, vI limit)]) (st' := [vR 1, vR 10]) B63_16_17 rfl ?_
  refine r_gint (ki := 14) (pc' := 20) D63_17 rfl gf_8_58_1 rfl H6.1 ?_
  intro w9 e10 r11
  have e12 : w1 = w9 := (e10.trans ((u5.gi_ne (by omega) (Or.inl (by decide))).trans (e2.symm))).symm
  subst e12
  refine s_blx (lv' := [(0, vR 1), (1, vI lag), (2, vI keeps), (3, vI limit)]) (st' := [vI keeps, vI ((w1 * 3) + 1), vR 10]) B63_20_25 rfl ?_
  refine r_iast (pc' := 26) D63_25 rfl sc_10 H6 (by omega) (by unfold inR; omega) (show 0 ≤ keeps ∧ keeps ≤ 300 by omega) ?_
  intro M13 u14 H15 p16
  have f17 := f8.wr u14 rfl
  refine s_blx (lv' := [(0, vR 1), (1, vI lag), (2, vI keeps), (3, vI limit)]) (st' := [vR 1]) B63_26_27 rfl ?_
  refine r_gfix (r := 10) (pc' := 30) D63_27 rfl gf_8_55_1 H15.1 ?_
  refine s_blx (lv' := [(0, vR 1), (1, vI lag), (2, vI keeps), (3, vI limit)]) (st' := [vR 1, vR 10]) B63_30_31 rfl ?_
  refine r_gint (ki := 14) (pc' := 34) D63_31 rfl gf_8_58_1 rfl H15.1 ?_
  intro w18 e19 r20
  have e21 : w1 = w18 := (e19.trans ((u14.gi_ne (by omega) (Or.inl (by decide))).trans ((u5.gi_ne (by omega) (Or.inl (by decide))).trans (e2.symm)))).symm
  subst e21
  refine s_blx (lv' := [(0, vR 1), (1, vI lag), (2, vI keeps), (3, vI limit)]) (st' := [vI limit, vI ((w1 * 3) + 2), vR 10]) B63_34_39 rfl ?_
  refine r_iast (pc' := 40) D63_39 rfl sc_10 H15 (by omega) (by unfold inR; omega) (show 0 ≤ limit ∧ limit ≤ 300 by omega) ?_
  intro M22 u23 H24 p25
  have f26 := f17.wr u23 rfl
  refine s_blx (lv' := [(0, vR 1), (1, vI lag), (2, vI keeps), (3, vI limit)]) (st' := [vR 1, vR 1]) B63_40_42 rfl ?_
  refine r_gint (ki := 14) (pc' := 45) D63_42 rfl gf_8_58_1 rfl H24.1 ?_
  intro w27 e28 r29
  have e30 : w1 = w27 := (e28.trans ((u23.gi_ne (by omega) (Or.inl (by decide))).trans ((u14.gi_ne (by omega) (Or.inl (by decide))).trans ((u5.gi_ne (by omega) (Or.inl (by decide))).trans (e2.symm))))).symm
  subst e30
  refine s_blx (lv' := [(0, vR 1), (1, vI lag), (2, vI keeps), (3, vI limit)]) (st' := [vI (w1 + 1), vR 1]) B63_45_47 rfl ?_
  refine r_pint (ki := 14) (pc' := 50) D63_47 rfl pf_8_58_1 rfl H24 (by unfold inR; omega) (show 0 ≤ (w1 + 1) ∧ (w1 + 1) ≤ 6 by omega) ?_
  intro M31 u32 H33 p34
  have f35 := f26.wr u32 rfl
  refine s_blx (lv' := [(0, vR 1), (1, vI lag), (2, vI keeps), (3, vI limit)]) (st' := [vR 1]) B63_50_51 rfl ?_
  refine r_gint (ki := 14) (pc' := 54) D63_51 rfl gf_8_58_1 rfl H33.1 ?_
  intro w36 e37 r38
  have e39 : w1 + 1 = w36 := (e37.trans (p34)).symm
  subst e39
  refine s_blx (lv' := [(0, vR 1), (1, vI lag), (2, vI keeps), (3, vI limit)]) (st' := [vI ((w1 + 1) - 1)]) B63_54_56 rfl ?_
  exact r_iretI D63_56 rfl (⟨H33, f35, by omega⟩)
set_option maxRecDepth 4000 in
theorem k65_1 {base : Nat} {X : Nat → Option mC} {G : Nat → Value} (E : EnvOK base X G) {d : Nat} (hd : 1 ≤ d) {M : mH} (H : HI base M) (sentence : Int) (h0 : -2147483648 ≤ sentence ∧ sentence ≤ 2147483647) : sOk base X G d T65 [vR 1, vI sentence] M (pI (fun v M' => M' = M ∧ (v = 0 ∨ v = 1) ∧ (v = 1 → 0 ≤ sentence ∧ sentence ≤ 15))) := by
  refine sOk.of (show sRn base X G d T65 0 [(0, vR 1), (1, vI sentence)] [] M _ from ?_)
  refine s_blx (lv' := [(0, vR 1), (1, vI sentence)]) (st' := [vR 1, vI 0, vI sentence]) B65_0_3 rfl ?_
  refine r_gint (ki := 10) (pc' := 6) D65_3 rfl gf_8_43_1 rfl H.1 ?_
  intro w1 e2 r3
  have b_w1 := H.2 1 (10) 0 16 rfl
  rw [← e2] at b_w1; clear r3
  refine s_blx (lv' := [(0, vR 1), (1, vI sentence)]) (st' := [vI (w1 - 1), vI 0, vI sentence]) B65_6_8 rfl ?_
  refine r_sIp (args := [vI sentence, vI 0, vI (w1 - 1)]) (rest := []) (pc' := 11) D65_8 rfl ck_8_static_80 TE142 rfl (Nat.le_of_ble_eq_true rfl) ⟨Nat.le_of_ble_eq_true rfl, Nat.le_of_ble_eq_true rfl⟩ (by decide) (dp_0 hd rfl) (k142 E (dp_n hd rfl) H sentence 0 (w1 - 1) (by omega) (by omega) (by omega)) ?_
  intro v4 q9
  obtain ⟨q6, q7, q8⟩ := q9
  exact r_zretI D65_11 rfl (by omega) (⟨rfl, by omega, by omega⟩)
set_option maxRecDepth 4000 in
theorem k67_1 {base : Nat} {X : Nat → Option mC} {G : Nat → Value} (E : EnvOK base X G) {d : Nat} (hd : 0 ≤ d) {M : mH} (H : HI base M) (sentence : Int) (h0 : -2147483648 ≤ sentence ∧ sentence ≤ 2147483647) : sOk base X G d T67 [vR 1, vI sentence] M (pI (fun v M' => M' = M ∧ (v = 0 ∨ v = 1) ∧ (v = 1 → 0 ≤ sentence ∧ sentence ≤ 15))) := by
  refine sOk.of (show sRn base X G d T67 0 [(0, vR 1), (1, vI sentence)] [] M _ from ?_)
  refine s_blx (lv' := [(0, vR 1), (1, vI sentence)]) (st' := [vI sentence]) B67_0_1 rfl ?_
  refine r_ifc (tgt := 32) (pc' := 4) D67_1 rfl rfl (by unfold inR; omega) (fun (c1 : sentence < 0) => ?_) (fun (c1 : ¬ (sentence < 0)) => ?_)
  · refine s_blx (lv' := [(0, vR 1), (1, vI sentence)]) (st' := [vI 0]) B67_32_33 rfl ?_
    exact r_zretI D67_33 rfl (by omega) (⟨rfl, by omega, by omega⟩)
  · refine s_blx (lv' := [(0, vR 1), (1, vI sentence)]) (st' := [vR 1, vI sentence]) B67_4_6 rfl ?_
    refine r_gint (ki := 10) (pc' := 9) D67_6 rfl gf_8_43_1 rfl H.1 ?_
    intro w2 e3 r4
    have b_w2 := H.2 1 (10) 0 16 rfl
    rw [← e3] at b_w2; clear r4
    refine r_icmp (tgt := 32) (pc' := 12) D67_9 rfl rfl (by unfold inR; omega) (fun (c5 : w2 ≤ sentence) => ?_) (fun (c5 : ¬ (w2 ≤ sentence)) => ?_)
    · refine s_blx (lv' := [(0, vR 1), (1, vI sentence)]) (st' := [vI 0]) B67_32_33 rfl ?_
      exact r_zretI D67_33 rfl (by omega) (⟨rfl, by omega, by omega⟩)
    · refine s_blx (lv' := [(0, vR 1), (1, vI sentence)]) (st' := [vR 1]) B67_12_13 rfl ?_
      refine r_gfix (r := 8) (pc' := 16) D67_13 rfl gf_8_40_1 H.1 ?_
      refine s_blx (lv' := [(0, vR 1), (1, vI sentence)]) (st' := [vR 1, vI (sentence * 4), vR 8]) B67_16_20 rfl ?_
      refine r_gint (ki := 5) (pc' := 23) D67_20 rfl gf_8_28_1 rfl H.1 ?_
      intro w6 e7 r8
      have b_w6 := H.2 1 (5) 0 3 rfl
      rw [← e7] at b_w6; clear r8
      refine s_blx (lv' := [(0, vR 1), (1, vI sentence)]) (st' := [vI ((sentence * 4) + w6), vR 8]) B67_23_24 rfl ?_
      refine r_iald (pc' := 25) D67_24 rfl sc_8 H.1 (by omega) ?_
      intro w9 e10 r11
      have b_w9 := H.2 8 ((sentence * 4) + w6) 0 100 rfl
      rw [← e10] at b_w9; clear r11
      refine r_ifc (tgt := 32) (pc' := 28) D67_25 rfl rfl (by unfold inR; omega) (fun (c12 : w9 ≤ 0) => ?_) (fun (c12 : ¬ (w9 ≤ 0)) => ?_)
      · refine s_blx (lv' := [(0, vR 1), (1, vI sentence)]) (st' := [vI 0]) B67_32_33 rfl ?_
        exact r_zretI D67_33 rfl (by omega) (⟨rfl, by omega, by omega⟩)
      · refine s_blx (lv' := [(0, vR 1), (1, vI sentence)]) (st' := [vI 1]) B67_28_29 rfl ?_
        refine r_goto (tgt := 33) D67_29 rfl ?_
        exact r_zretI D67_33 rfl (by omega) (⟨rfl, by omega, by omega⟩)
set_option maxRecDepth 4000 in
theorem L_k69_1 {base : Nat} {X : Nat → Option mC} {G : Nat → Value} (E : EnvOK base X G) {d : Nat} (hd : 0 ≤ d) {M : mH} (H : HI base M) (sentence : Int) (word : Int) (h0 : 0 ≤ sentence ∧ sentence ≤ 15) (h1 : -2147483648 ≤ word ∧ word ≤ 2147483647) : ∀ mz : Nat, (∀ (x3 x4 : Int), (0 ≤ x3) → (0 ≤ x4) → (x4 ≤ 8) → (8 - x4) * 1 + 0 < (mz : Int) → sRn base X G d T69 5 [(0, vR 1), (1, vI sentence), (2, vI word), (3, vI x3), (4, vI x4)] [] M (s_Q base (pI (fun v M' => M' = M ∧ (-2147483648 ≤ v ∧ v ≤ 2147483647))))) := by
  intro mz
  induction mz with
  | zero => exact fun x3 x4 z0 z1 z2 z3 => by omega
  | succ mz ih =>
    intro x3 x4 i0 i1 i2 hmu
    refine s_blx (lv' := [(0, vR 1), (1, vI sentence), (2, vI word), (3, vI x3), (4, vI x4)]) (st' := [vR 1, vI x4]) B69_5_8 rfl ?_
    refine r_gfix (r := 6) (pc' := 11) D69_8 rfl gf_8_34_1 H.1 ?_
    refine s_blx (lv' := [(0, vR 1), (1, vI sentence), (2, vI word), (3, vI x3), (4, vI x4)]) (st' := [vI sentence, vR 6, vI x4]) B69_11_12 rfl ?_
    refine r_iald (pc' := 13) D69_12 rfl sc_6 H.1 (by omega) ?_
    intro w1 e2 r3
    have b_w1 := H.2 6 (sentence) 0 8 rfl
    rw [← e2] at b_w1; clear r3
    refine r_icmp (tgt := 46) (pc' := 16) D69_13 rfl rfl (by unfold inR; omega) (fun (c4 : w1 ≤ x4) => ?_) (fun (c4 : ¬ (w1 ≤ x4)) => ?_)
    · refine s_blx (lv' := [(0, vR 1), (1, vI sentence), (2, vI word), (3, vI x3), (4, vI x4)]) (st' := [vI x3]) B69_46_47 rfl ?_
      refine r_norm ?_
      intro z5 r6 _; unfold inR at r6
      exact r_iretI D69_47 rfl (⟨rfl, by omega⟩)
    · refine s_blx (lv' := [(0, vR 1), (1, vI sentence), (2, vI word), (3, vI x3), (4, vI x4)]) (st' := [vR 1, vI x3]) B69_16_18 rfl ?_
      refine r_gfix (r := 5) (pc' := 21) D69_18 rfl gf_8_31_1 H.1 ?_
      refine s_blx (lv' := [(0, vR 1), (1, vI sentence), (2, vI word), (3, vI x3), (4, vI x4)]) (st' := [vI ((sentence * 8) + x4), vR 5, vI x3]) B69_21_28 rfl ?_
      refine r_iald (pc' := 29) D69_28 rfl sc_5 H.1 (by omega) ?_
      intro w7 e8 r9
      have b_w7 := H.2 5 ((sentence * 8) + x4) 0 29 rfl
      rw [← e8] at b_w7; clear r9
      refine s_blx (lv' := [(0, vR 1), (1, vI sentence), (2, vI word), (3, vI x3), (4, vI x4)]) (st' := [vI word, vI w7, vI x3]) B69_29_30 rfl ?_
      refine r_icmp (tgt := 37) (pc' := 33) D69_30 rfl rfl (by unfold inR; omega) (fun (c10 : w7 ≠ word) => ?_) (fun (c10 : ¬ (w7 ≠ word)) => ?_)
      · refine s_blx (lv' := [(4, vI (x4 + 1)), (3, vI (x3 + 0)), (0, vR 1), (1, vI sentence), (2, vI word)]) (st' := []) B69_37_43 rfl ?_
        refine r_goto (tgt := 5) D69_43 rfl ?_
        refine r_loc (lv' := [(0, vR 1), (1, vI sentence), (2, vI word), (3, vI (x3 + 0)), (4, vI (x4 + 1))]) ⟨rfl, rfl, rfl, rfl, rfl, trivial⟩ rfl rfl ?_
        exact ih (x3 + 0) (x4 + 1) (by omega) (by omega) (by omega) (by omega)
      · refine s_blx (lv' := [(0, vR 1), (1, vI sentence), (2, vI word), (3, vI x3), (4, vI x4)]) (st' := [vI 1, vI x3]) B69_33_34 rfl ?_
        refine r_goto (tgt := 38) D69_34 rfl ?_
        refine s_blx (lv' := [(4, vI (x4 + 1)), (3, vI (x3 + 1)), (0, vR 1), (1, vI sentence), (2, vI word)]) (st' := []) B69_38_43 rfl ?_
        refine r_goto (tgt := 5) D69_43 rfl ?_
        refine r_loc (lv' := [(0, vR 1), (1, vI sentence), (2, vI word), (3, vI (x3 + 1)), (4, vI (x4 + 1))]) ⟨rfl, rfl, rfl, rfl, rfl, trivial⟩ rfl rfl ?_
        exact ih (x3 + 1) (x4 + 1) (by omega) (by omega) (by omega) (by omega)
set_option maxRecDepth 4000 in
theorem k69_1 {base : Nat} {X : Nat → Option mC} {G : Nat → Value} (E : EnvOK base X G) {d : Nat} (hd : 0 ≤ d) {M : mH} (H : HI base M) (sentence : Int) (word : Int) (h0 : 0 ≤ sentence ∧ sentence ≤ 15) (h1 : -2147483648 ≤ word ∧ word ≤ 2147483647) : sOk base X G d T69 [vR 1, vI sentence, vI word] M (pI (fun v M' => M' = M ∧ (-2147483648 ≤ v ∧ v ≤ 2147483647))) := by
  refine sOk.of (show sRn base X G d T69 0 [(0, vR 1), (1, vI sentence), (2, vI word)] [] M _ from ?_)
  refine s_blx (lv' := [(4, vI 0), (3, vI 0), (0, vR 1), (1, vI sentence), (2, vI word)]) (st' := []) B69_0_5 rfl ?_
  refine r_loc (lv' := [(0, vR 1), (1, vI sentence), (2, vI word), (3, vI 0), (4, vI 0)]) ⟨rfl, rfl, rfl, rfl, rfl, trivial⟩ rfl rfl ?_
  exact (L_k69_1 E hd H sentence word h0 h1 (((8 - 0) * 1 + 0 : Int) + 1).toNat) 0 0 (by omega) (by omega) (by omega) (by omega)
set_option maxRecDepth 4000 in
theorem L_k68_1 {base : Nat} {X : Nat → Option mC} {G : Nat → Value} (E : EnvOK base X G) {d : Nat} (hd : 1 ≤ d) {M : mH} (H : HI base M) (word : Int) (h0 : -2147483648 ≤ word ∧ word ≤ 2147483647) : ∀ mz : Nat, (∀ (x2 : Int), (0 ≤ x2) → (x2 ≤ 16) → (16 - x2) * 1 + 0 < (mz : Int) → sRn base X G d T68 2 [(0, vR 1), (1, vI word), (2, vI x2)] [] M (s_Q base (pI (fun v M' => M' = M ∧ (v = 0 ∨ v = 1))))) := by
  intro mz
  induction mz with
  | zero => exact fun x2 z0 z1 z2 => by omega
  | succ mz ih =>
    intro x2 i0 i1 hmu
    refine s_blx (lv' := [(0, vR 1), (1, vI word), (2, vI x2)]) (st' := [vR 1, vI x2]) B68_2_4 rfl ?_
    refine r_gint (ki := 10) (pc' := 7) D68_4 rfl gf_8_43_1 rfl H.1 ?_
    intro w1 e2 r3
    have b_w1 := H.2 1 (10) 0 16 rfl
    rw [← e2] at b_w1; clear r3
    refine r_icmp (tgt := 35) (pc' := 10) D68_7 rfl rfl (by unfold inR; omega) (fun (c4 : w1 ≤ x2) => ?_) (fun (c4 : ¬ (w1 ≤ x2)) => ?_)
    · refine s_blx (lv' := [(0, vR 1), (1, vI word), (2, vI x2)]) (st' := [vI 0]) B68_35_36 rfl ?_
      exact r_zretI D68_36 rfl (by omega) (⟨rfl, by omega⟩)
    · refine s_blx (lv' := [(0, vR 1), (1, vI word), (2, vI x2)]) (st' := [vI x2, vR 1]) B68_10_12 rfl ?_
      refine r_vIp (c := 1) (args := [vI x2]) (rest := []) (pc' := 15) D68_12 rfl ck_8_virtual_84 TE67 rfl (Nat.le_of_ble_eq_true rfl) ⟨Nat.le_of_ble_eq_true rfl, Nat.le_of_ble_eq_true rfl⟩ sc_1 ⟨rfl, by decide⟩ H.1 (dp_0 hd rfl) (k67_1 E (dp_n hd rfl) H x2 (by omega)) ?_
      intro v5 q9
      obtain ⟨q7, q8⟩ := q9
      refine r_ifc (tgt := 29) (pc' := 18) D68_15 rfl rfl (by unfold inR; omega) (fun (c10 : v5 = 0) => ?_) (fun (c10 : ¬ (v5 = 0)) => ?_)
      · refine s_blx (lv' := [(2, vI (x2 + 1)), (0, vR 1), (1, vI word)]) (st' := []) B68_29_32 rfl ?_
        refine r_goto (tgt := 2) D68_32 rfl ?_
        refine r_loc (lv' := [(0, vR 1), (1, vI word), (2, vI (x2 + 1))]) ⟨rfl, rfl, rfl, trivial⟩ rfl rfl ?_
        exact ih (x2 + 1) (by omega) (by omega) (by omega)
      · refine s_blx (lv' := [(0, vR 1), (1, vI word), (2, vI x2)]) (st' := [vI word, vI x2, vR 1]) B68_18_21 rfl ?_
        refine r_vIp (c := 1) (args := [vI x2, vI word]) (rest := []) (pc' := 24) D68_21 rfl ck_8_virtual_88 TE69 rfl (Nat.le_of_ble_eq_true rfl) ⟨Nat.le_of_ble_eq_true rfl, Nat.le_of_ble_eq_true rfl⟩ sc_1 ⟨rfl, by decide⟩ H.1 (dp_0 hd rfl) (k69_1 E (dp_n hd rfl) H x2 word (by omega) (by omega)) ?_
        intro v11 q14
        have q13 := q14; clear q14
        refine r_ifc (tgt := 29) (pc' := 27) D68_24 rfl rfl (by unfold inR; omega) (fun (c15 : v11 ≤ 0) => ?_) (fun (c15 : ¬ (v11 ≤ 0)) => ?_)
        · refine s_blx (lv' := [(2, vI (x2 + 1)), (0, vR 1), (1, vI word)]) (st' := []) B68_29_32 rfl ?_
          refine r_goto (tgt := 2) D68_32 rfl ?_
          refine r_loc (lv' := [(0, vR 1), (1, vI word), (2, vI (x2 + 1))]) ⟨rfl, rfl, rfl, trivial⟩ rfl rfl ?_
          exact ih (x2 + 1) (by omega) (by omega) (by omega)
        · refine s_blx (lv' := [(0, vR 1), (1, vI word), (2, vI x2)]) (st' := [vI 1]) B68_27_28 rfl ?_
          exact r_zretI D68_28 rfl (by omega) (⟨rfl, by omega⟩)
set_option maxRecDepth 4000 in
theorem k68_1 {base : Nat} {X : Nat → Option mC} {G : Nat → Value} (E : EnvOK base X G) {d : Nat} (hd : 1 ≤ d) {M : mH} (H : HI base M) (word : Int) (h0 : -2147483648 ≤ word ∧ word ≤ 2147483647) : sOk base X G d T68 [vR 1, vI word] M (pI (fun v M' => M' = M ∧ (v = 0 ∨ v = 1))) := by
  refine sOk.of (show sRn base X G d T68 0 [(0, vR 1), (1, vI word)] [] M _ from ?_)
  refine s_blx (lv' := [(2, vI 0), (0, vR 1), (1, vI word)]) (st' := []) B68_0_2 rfl ?_
  refine r_loc (lv' := [(0, vR 1), (1, vI word), (2, vI 0)]) ⟨rfl, rfl, rfl, trivial⟩ rfl rfl ?_
  exact (L_k68_1 E hd H word h0 (((16 - 0) * 1 + 0 : Int) + 1).toNat) 0 (by omega) (by omega) (by omega)
set_option maxRecDepth 4000 in
theorem L_k71_1_5 {base : Nat} {X : Nat → Option mC} {G : Nat → Value} (E : EnvOK base X G) {d : Nat} (hd : 0 ≤ d) {M : mH} (H : HI base M) (sentence : Int) (at_ : Int) (n : Int) (h0 : 0 ≤ sentence ∧ sentence ≤ 15) (h1 : 0 ≤ at_ ∧ at_ ≤ 120) (h2 : 0 ≤ n ∧ n ≤ 8) : ∀ mz : Nat, (∀ (x5 : Int), (0 ≤ x5) → (x5 ≤ 8) → (8 - x5) * 1 + 0 < (mz : Int) → sRn base X G d T71 3 [(0, vR 1), (1, vI sentence), (2, vR 5), (3, vI at_), (4, vI n), (5, vI x5)] [] M (s_Q base (pI (fun v M' => M' = M ∧ (v = 0 ∨ v = 1))))) := by
  intro mz
  induction mz with
  | zero => exact fun x5 z0 z1 z2 => by omega
  | succ mz ih =>
    intro x5 i0 i1 hmu
    refine s_blx (lv' := [(0, vR 1), (1, vI sentence), (2, vR 5), (3, vI at_), (4, vI n), (5, vI x5)]) (st' := [vI n, vI x5]) B71_3_7 rfl ?_
    refine r_icmp (tgt := 39) (pc' := 10) D71_7 rfl rfl (by unfold inR; omega) (fun (c1 : n ≤ x5) => ?_) (fun (c1 : ¬ (n ≤ x5)) => ?_)
    · refine s_blx (lv' := [(0, vR 1), (1, vI sentence), (2, vR 5), (3, vI at_), (4, vI n), (5, vI x5)]) (st' := [vI 1]) B71_39_40 rfl ?_
      exact r_zretI D71_40 rfl (by omega) (⟨rfl, by omega⟩)
    · refine s_blx (lv' := [(0, vR 1), (1, vI sentence), (2, vR 5), (3, vI at_), (4, vI n), (5, vI x5)]) (st' := [vR 1]) B71_10_11 rfl ?_
      refine r_gfix (r := 5) (pc' := 14) D71_11 rfl gf_8_31_1 H.1 ?_
      refine s_blx (lv' := [(0, vR 1), (1, vI sentence), (2, vR 5), (3, vI at_), (4, vI n), (5, vI x5)]) (st' := [vI ((sentence * 8) + x5), vR 5]) B71_14_21 rfl ?_
      refine r_iald (pc' := 22) D71_21 rfl sc_5 H.1 (by omega) ?_
      intro w2 e3 r4
      have b_w2 := H.2 5 ((sentence * 8) + x5) 0 29 rfl
      rw [← e3] at b_w2; clear r4
      refine s_blx (lv' := [(0, vR 1), (1, vI sentence), (2, vR 5), (3, vI at_), (4, vI n), (5, vI x5)]) (st' := [vI (at_ + x5), vR 5, vI w2]) B71_22_27 rfl ?_
      refine r_iald (pc' := 28) D71_27 rfl sc_5 H.1 (by omega) ?_
      intro w5 e6 r7
      have b_w5 := H.2 5 (at_ + x5) 0 29 rfl
      rw [← e6] at b_w5; clear r7
      refine r_icmp (tgt := 33) (pc' := 31) D71_28 rfl rfl (by unfold inR; omega) (fun (c8 : w2 = w5) => ?_) (fun (c8 : ¬ (w2 = w5)) => ?_)
      · refine s_blx (lv' := [(5, vI (x5 + 1)), (0, vR 1), (1, vI sentence), (2, vR 5), (3, vI at_), (4, vI n)]) (st' := []) B71_33_36 rfl ?_
        refine r_goto (tgt := 3) D71_36 rfl ?_
        refine r_loc (lv' := [(0, vR 1), (1, vI sentence), (2, vR 5), (3, vI at_), (4, vI n), (5, vI (x5 + 1))]) ⟨rfl, rfl, rfl, rfl, rfl, rfl, trivial⟩ rfl rfl ?_
        exact ih (x5 + 1) (by omega) (by omega) (by omega)
      · refine s_blx (lv' := [(0, vR 1), (1, vI sentence), (2, vR 5), (3, vI at_), (4, vI n), (5, vI x5)]) (st' := [vI 0]) B71_31_32 rfl ?_
        exact r_zretI D71_32 rfl (by omega) (⟨rfl, by omega⟩)
set_option maxRecDepth 4000 in
theorem k71_1_5 {base : Nat} {X : Nat → Option mC} {G : Nat → Value} (E : EnvOK base X G) {d : Nat} (hd : 0 ≤ d) {M : mH} (H : HI base M) (sentence : Int) (at_ : Int) (n : Int) (h0 : 0 ≤ sentence ∧ sentence ≤ 15) (h1 : 0 ≤ at_ ∧ at_ ≤ 120) (h2 : 0 ≤ n ∧ n ≤ 8) : sOk base X G d T71 [vR 1, vI sentence, vR 5, vI at_, vI n] M (pI (fun v M' => M' = M ∧ (v = 0 ∨ v = 1))) := by
  refine sOk.of (show sRn base X G d T71 0 [(0, vR 1), (1, vI sentence), (2, vR 5), (3, vI at_), (4, vI n)] [] M _ from ?_)
  refine s_blx (lv' := [(5, vI 0), (0, vR 1), (1, vI sentence), (2, vR 5), (3, vI at_), (4, vI n)]) (st' := []) B71_0_3 rfl ?_
  refine r_loc (lv' := [(0, vR 1), (1, vI sentence), (2, vR 5), (3, vI at_), (4, vI n), (5, vI 0)]) ⟨rfl, rfl, rfl, rfl, rfl, rfl, trivial⟩ rfl rfl ?_
  exact (L_k71_1_5 E hd H sentence at_ n h0 h1 h2 (((8 - 0) * 1 + 0 : Int) + 1).toNat) 0 (by omega) (by omega) (by omega)
set_option maxRecDepth 4000 in
theorem L_k71_1_13 {base : Nat} {X : Nat → Option mC} {G : Nat → Value} (E : EnvOK base X G) {d : Nat} (hd : 0 ≤ d) {M : mH} (H : HI base M) (sentence : Int) (at_ : Int) (n : Int) (h0 : 0 ≤ sentence ∧ sentence ≤ 15) (h1 : 0 ≤ at_ ∧ at_ ≤ 120) (h2 : 0 ≤ n ∧ n ≤ 8) : ∀ mz : Nat, (∀ (x5 : Int), (0 ≤ x5) → (x5 ≤ 8) → (8 - x5) * 1 + 0 < (mz : Int) → sRn base X G d T71 3 [(0, vR 1), (1, vI sentence), (2, vR 13), (3, vI at_), (4, vI n), (5, vI x5)] [] M (s_Q base (pI (fun v M' => M' = M ∧ (v = 0 ∨ v = 1))))) := by
  intro mz
  induction mz with
  | zero => exact fun x5 z0 z1 z2 => by omega
  | succ mz ih =>
    intro x5 i0 i1 hmu
    refine s_blx (lv' := [(0, vR 1), (1, vI sentence), (2, vR 13), (3, vI at_), (4, vI n), (5, vI x5)]) (st' := [vI n, vI x5]) B71_3_7 rfl ?_
    refine r_icmp (tgt := 39) (pc' := 10) D71_7 rfl rfl (by unfold inR; omega) (fun (c1 : n ≤ x5) => ?_) (fun (c1 : ¬ (n ≤ x5)) => ?_)
    · refine s_blx (lv' := [(0, vR 1), (1, vI sentence), (2, vR 13), (3, vI at_), (4, vI n), (5, vI x5)]) (st' := [vI 1]) B71_39_40 rfl ?_
      exact r_zretI D71_40 rfl (by omega) (⟨rfl, by omega⟩)
    · refine s_blx (lv' := [(0, vR 1), (1, vI sentence), (2, vR 13), (3, vI at_), (4, vI n), (5, vI x5)]) (st' := [vR 1]) B71_10_11 rfl ?_
      refine r_gfix (r := 5) (pc' := 14) D71_11 rfl gf_8_31_1 H.1 ?_
      refine s_blx (lv' := [(0, vR 1), (1, vI sentence), (2, vR 13), (3, vI at_), (4, vI n), (5, vI x5)]) (st' := [vI ((sentence * 8) + x5), vR 5]) B71_14_21 rfl ?_
      refine r_iald (pc' := 22) D71_21 rfl sc_5 H.1 (by omega) ?_
      intro w2 e3 r4
      have b_w2 := H.2 5 ((sentence * 8) + x5) 0 29 rfl
      rw [← e3] at b_w2; clear r4
      refine s_blx (lv' := [(0, vR 1), (1, vI sentence), (2, vR 13), (3, vI at_), (4, vI n), (5, vI x5)]) (st' := [vI (at_ + x5), vR 13, vI w2]) B71_22_27 rfl ?_
      refine r_iald (pc' := 28) D71_27 rfl sc_13 H.1 (by omega) ?_
      intro w5 e6 r7
      have b_w5 := H.2 13 (at_ + x5) 0 255 rfl
      rw [← e6] at b_w5; clear r7
      refine r_icmp (tgt := 33) (pc' := 31) D71_28 rfl rfl (by unfold inR; omega) (fun (c8 : w2 = w5) => ?_) (fun (c8 : ¬ (w2 = w5)) => ?_)
      · refine s_blx (lv' := [(5, vI (x5 + 1)), (0, vR 1), (1, vI sentence), (2, vR 13), (3, vI at_), (4, vI n)]) (st' := []) B71_33_36 rfl ?_
        refine r_goto (tgt := 3) D71_36 rfl ?_
        refine r_loc (lv' := [(0, vR 1), (1, vI sentence), (2, vR 13), (3, vI at_), (4, vI n), (5, vI (x5 + 1))]) ⟨rfl, rfl, rfl, rfl, rfl, rfl, trivial⟩ rfl rfl ?_
        exact ih (x5 + 1) (by omega) (by omega) (by omega)
      · refine s_blx (lv' := [(0, vR 1), (1, vI sentence), (2, vR 13), (3, vI at_), (4, vI n), (5, vI x5)]) (st' := [vI 0]) B71_31_32 rfl ?_
        exact r_zretI D71_32 rfl (by omega) (⟨rfl, by omega⟩)
set_option maxRecDepth 4000 in
theorem k71_1_13 {base : Nat} {X : Nat → Option mC} {G : Nat → Value} (E : EnvOK base X G) {d : Nat} (hd : 0 ≤ d) {M : mH} (H : HI base M) (sentence : Int) (at_ : Int) (n : Int) (h0 : 0 ≤ sentence ∧ sentence ≤ 15) (h1 : 0 ≤ at_ ∧ at_ ≤ 120) (h2 : 0 ≤ n ∧ n ≤ 8) : sOk base X G d T71 [vR 1, vI sentence, vR 13, vI at_, vI n] M (pI (fun v M' => M' = M ∧ (v = 0 ∨ v = 1))) := by
  refine sOk.of (show sRn base X G d T71 0 [(0, vR 1), (1, vI sentence), (2, vR 13), (3, vI at_), (4, vI n)] [] M _ from ?_)
  refine s_blx (lv' := [(5, vI 0), (0, vR 1), (1, vI sentence), (2, vR 13), (3, vI at_), (4, vI n)]) (st' := []) B71_0_3 rfl ?_
  refine r_loc (lv' := [(0, vR 1), (1, vI sentence), (2, vR 13), (3, vI at_), (4, vI n), (5, vI 0)]) ⟨rfl, rfl, rfl, rfl, rfl, rfl, trivial⟩ rfl rfl ?_
  exact (L_k71_1_13 E hd H sentence at_ n h0 h1 h2 (((8 - 0) * 1 + 0 : Int) + 1).toNat) 0 (by omega) (by omega) (by omega)
set_option maxRecDepth 4000 in
theorem L_k64_1_13 {base : Nat} {X : Nat → Option mC} {G : Nat → Value} (E : EnvOK base X G) {d : Nat} (hd : 1 ≤ d) {M : mH} (H : HI base M) (length : Int) (h0 : 0 ≤ length ∧ length ≤ 8) : ∀ mz : Nat, (∀ (x3 : Int), (0 ≤ x3) → (x3 ≤ 16) → (16 - x3) * 1 + 0 < (mz : Int) → sRn base X G d T64 2 [(0, vR 1), (1, vR 13), (2, vI length), (3, vI x3)] [] M (s_Q base (pI (fun v M' => M' = M ∧ (v = 0 ∨ v = 1))))) := by
  intro mz
  induction mz with
  | zero => exact fun x3 z0 z1 z2 => by omega
  | succ mz ih =>
    intro x3 i0 i1 hmu
    refine s_blx (lv' := [(0, vR 1), (1, vR 13), (2, vI length), (3, vI x3)]) (st' := [vR 1, vI x3]) B64_2_4 rfl ?_
    refine r_gint (ki := 10) (pc' := 7) D64_4 rfl gf_8_43_1 rfl H.1 ?_
    intro w1 e2 r3
    have b_w1 := H.2 1 (10) 0 16 rfl
    rw [← e2] at b_w1; clear r3
    refine r_icmp (tgt := 39) (pc' := 10) D64_7 rfl rfl (by unfold inR; omega) (fun (c4 : w1 ≤ x3) => ?_) (fun (c4 : ¬ (w1 ≤ x3)) => ?_)
    · refine s_blx (lv' := [(0, vR 1), (1, vR 13), (2, vI length), (3, vI x3)]) (st' := [vI 0]) B64_39_40 rfl ?_
      exact r_zretI D64_40 rfl (by omega) (⟨rfl, by omega⟩)
    · refine s_blx (lv' := [(0, vR 1), (1, vR 13), (2, vI length), (3, vI x3)]) (st' := [vR 1]) B64_10_11 rfl ?_
      refine r_gfix (r := 6) (pc' := 14) D64_11 rfl gf_8_34_1 H.1 ?_
      refine s_blx (lv' := [(0, vR 1), (1, vR 13), (2, vI length), (3, vI x3)]) (st' := [vI x3, vR 6]) B64_14_15 rfl ?_
      refine r_iald (pc' := 16) D64_15 rfl sc_6 H.1 (by omega) ?_
      intro w5 e6 r7
      have b_w5 := H.2 6 (x3) 0 8 rfl
      rw [← e6] at b_w5; clear r7
      refine s_blx (lv' := [(0, vR 1), (1, vR 13), (2, vI length), (3, vI x3)]) (st' := [vI length, vI w5]) B64_16_17 rfl ?_
      refine r_icmp (tgt := 33) (pc' := 20) D64_17 rfl rfl (by unfold inR; omega) (fun (c8 : w5 ≠ length) => ?_) (fun (c8 : ¬ (w5 ≠ length)) => ?_)
      · refine s_blx (lv' := [(3, vI (x3 + 1)), (0, vR 1), (1, vR 13), (2, vI length)]) (st' := []) B64_33_36 rfl ?_
        refine r_goto (tgt := 2) D64_36 rfl ?_
        refine r_loc (lv' := [(0, vR 1), (1, vR 13), (2, vI length), (3, vI (x3 + 1))]) ⟨rfl, rfl, rfl, rfl, trivial⟩ rfl rfl ?_
        exact ih (x3 + 1) (by omega) (by omega) (by omega)
      · refine s_blx (lv' := [(0, vR 1), (1, vR 13), (2, vI length), (3, vI x3)]) (st' := [vI length, vI 0, vR 13, vI x3, vR 1]) B64_20_25 rfl ?_
        refine r_vIp (c := 1) (args := [vI x3, vR 13, vI 0, vI length]) (rest := []) (pc' := 28) D64_25 rfl ck_8_virtual_76 TE71 rfl (Nat.le_of_ble_eq_true rfl) ⟨Nat.le_of_ble_eq_true rfl, Nat.le_of_ble_eq_true rfl⟩ sc_1 ⟨rfl, by decide⟩ H.1 (dp_0 hd rfl) (k71_1_13 E (dp_n hd rfl) H x3 0 length (by omega) (by omega) (by omega)) ?_
        intro v9 q12
        have q11 := q12; clear q12
        refine r_ifc (tgt := 33) (pc' := 31) D64_28 rfl rfl (by unfold inR; omega) (fun (c13 : v9 = 0) => ?_) (fun (c13 : ¬ (v9 = 0)) => ?_)
        · refine s_blx (lv' := [(3, vI (x3 + 1)), (0, vR 1), (1, vR 13), (2, vI length)]) (st' := []) B64_33_36 rfl ?_
          refine r_goto (tgt := 2) D64_36 rfl ?_
          refine r_loc (lv' := [(0, vR 1), (1, vR 13), (2, vI length), (3, vI (x3 + 1))]) ⟨rfl, rfl, rfl, rfl, trivial⟩ rfl rfl ?_
          exact ih (x3 + 1) (by omega) (by omega) (by omega)
        · refine s_blx (lv' := [(0, vR 1), (1, vR 13), (2, vI length), (3, vI x3)]) (st' := [vI 1]) B64_31_32 rfl ?_
          exact r_zretI D64_32 rfl (by omega) (⟨rfl, by omega⟩)
set_option maxRecDepth 4000 in
theorem k64_1_13 {base : Nat} {X : Nat → Option mC} {G : Nat → Value} (E : EnvOK base X G) {d : Nat} (hd : 1 ≤ d) {M : mH} (H : HI base M) (length : Int) (h0 : 0 ≤ length ∧ length ≤ 8) : sOk base X G d T64 [vR 1, vR 13, vI length] M (pI (fun v M' => M' = M ∧ (v = 0 ∨ v = 1))) := by
  refine sOk.of (show sRn base X G d T64 0 [(0, vR 1), (1, vR 13), (2, vI length)] [] M _ from ?_)
  refine s_blx (lv' := [(3, vI 0), (0, vR 1), (1, vR 13), (2, vI length)]) (st' := []) B64_0_2 rfl ?_
  refine r_loc (lv' := [(0, vR 1), (1, vR 13), (2, vI length), (3, vI 0)]) ⟨rfl, rfl, rfl, rfl, trivial⟩ rfl rfl ?_
  exact (L_k64_1_13 E hd H length h0 (((16 - 0) * 1 + 0 : Int) + 1).toNat) 0 (by omega) (by omega) (by omega)
set_option maxRecDepth 4000 in
theorem L_k70_1 {base : Nat} {X : Nat → Option mC} {G : Nat → Value} (E : EnvOK base X G) {d : Nat} (hd : 1 ≤ d) {M : mH} (H : HI base M) (sentence : Int) (n : Int) (h0 : 0 ≤ sentence ∧ sentence ≤ 15) (h1 : 0 ≤ n ∧ n ≤ 8) : ∀ mz : Nat, (∀ (x3 x4 : Int), ((-2147483648) ≤ x3) → (x3 ≤ 2147483647) → (0 ≤ x4) → (x4 ≤ 16) → (16 - x4) * 1 + 0 < (mz : Int) → sRn base X G d T70 5 [(0, vR 1), (1, vI sentence), (2, vI n), (3, vI x3), (4, vI x4)] [] M (s_Q base (pI (fun v M' => M' = M ∧ (-2147483648 ≤ v ∧ v ≤ 2147483647))))) := by
  intro mz
  induction mz with
  | zero => exact fun x3 x4 z0 z1 z2 z3 z4 => by omega
  | succ mz ih =>
    intro x3 x4 i0 i1 i2 i3 hmu
    refine s_blx (lv' := [(0, vR 1), (1, vI sentence), (2, vI n), (3, vI x3), (4, vI x4)]) (st' := [vR 1, vI x4]) B70_5_8 rfl ?_
    refine r_gint (ki := 10) (pc' := 11) D70_8 rfl gf_8_43_1 rfl H.1 ?_
    intro w1 e2 r3
    have b_w1 := H.2 1 (10) 0 16 rfl
    rw [← e2] at b_w1; clear r3
    refine r_icmp (tgt := 65) (pc' := 14) D70_11 rfl rfl (by unfold inR; omega) (fun (c4 : w1 ≤ x4) => ?_) (fun (c4 : ¬ (w1 ≤ x4)) => ?_)
    · refine s_blx (lv' := [(0, vR 1), (1, vI sentence), (2, vI n), (3, vI x3), (4, vI x4)]) (st' := [vI x3]) B70_65_66 rfl ?_
      exact r_iretI D70_66 rfl (⟨rfl, by omega⟩)
    · refine s_blx (lv' := [(0, vR 1), (1, vI sentence), (2, vI n), (3, vI x3), (4, vI x4)]) (st' := [vI x4, vR 1]) B70_14_17 rfl ?_
      refine r_vIp (c := 1) (args := [vI x4]) (rest := []) (pc' := 20) D70_17 rfl ck_8_virtual_84 TE67 rfl (Nat.le_of_ble_eq_true rfl) ⟨Nat.le_of_ble_eq_true rfl, Nat.le_of_ble_eq_true rfl⟩ sc_1 ⟨rfl, by decide⟩ H.1 (dp_0 hd rfl) (k67_1 E (dp_n hd rfl) H x4 (by omega)) ?_
      intro v5 q9
      obtain ⟨q7, q8⟩ := q9
      refine r_ifc (tgt := 59) (pc' := 23) D70_20 rfl rfl (by unfold inR; omega) (fun (c10 : v5 = 0) => ?_) (fun (c10 : ¬ (v5 = 0)) => ?_)
      · refine s_blx (lv' := [(4, vI (x4 + 1)), (0, vR 1), (1, vI sentence), (2, vI n), (3, vI x3)]) (st' := []) B70_59_62 rfl ?_
        refine r_goto (tgt := 5) D70_62 rfl ?_
        refine r_loc (lv' := [(0, vR 1), (1, vI sentence), (2, vI n), (3, vI x3), (4, vI (x4 + 1))]) ⟨rfl, rfl, rfl, rfl, rfl, trivial⟩ rfl rfl ?_
        exact ih x3 (x4 + 1) (by omega) (by omega) (by omega) (by omega) (by omega)
      · refine s_blx (lv' := [(0, vR 1), (1, vI sentence), (2, vI n), (3, vI x3), (4, vI x4)]) (st' := [vR 1]) B70_23_24 rfl ?_
        refine r_gfix (r := 6) (pc' := 27) D70_24 rfl gf_8_34_1 H.1 ?_
        refine s_blx (lv' := [(0, vR 1), (1, vI sentence), (2, vI n), (3, vI x3), (4, vI x4)]) (st' := [vI x4, vR 6]) B70_27_29 rfl ?_
        refine r_iald (pc' := 30) D70_29 rfl sc_6 H.1 (by omega) ?_
        intro w11 e12 r13
        have b_w11 := H.2 6 (x4) 0 8 rfl
        rw [← e12] at b_w11; clear r13
        refine s_blx (lv' := [(0, vR 1), (1, vI sentence), (2, vI n), (3, vI x3), (4, vI x4)]) (st' := [vI n, vI w11]) B70_30_31 rfl ?_
        refine r_icmp (tgt := 59) (pc' := 34) D70_31 rfl rfl (by unfold inR; omega) (fun (c14 : w11 < n) => ?_) (fun (c14 : ¬ (w11 < n)) => ?_)
        · refine s_blx (lv' := [(4, vI (x4 + 1)), (0, vR 1), (1, vI sentence), (2, vI n), (3, vI x3)]) (st' := []) B70_59_62 rfl ?_
          refine r_goto (tgt := 5) D70_62 rfl ?_
          refine r_loc (lv' := [(0, vR 1), (1, vI sentence), (2, vI n), (3, vI x3), (4, vI (x4 + 1))]) ⟨rfl, rfl, rfl, rfl, rfl, trivial⟩ rfl rfl ?_
          exact ih x3 (x4 + 1) (by omega) (by omega) (by omega) (by omega) (by omega)
        · refine s_blx (lv' := [(0, vR 1), (1, vI sentence), (2, vI n), (3, vI x3), (4, vI x4)]) (st' := [vR 1, vI x4, vR 1]) B70_34_38 rfl ?_
          refine r_gfix (r := 5) (pc' := 41) D70_38 rfl gf_8_31_1 H.1 ?_
          refine s_blx (lv' := [(0, vR 1), (1, vI sentence), (2, vI n), (3, vI x3), (4, vI x4)]) (st' := [vI n, vI (sentence * 8), vR 5, vI x4, vR 1]) B70_41_46 rfl ?_
          refine r_vIp (c := 1) (args := [vI x4, vR 5, vI (sentence * 8), vI n]) (rest := []) (pc' := 49) D70_46 rfl ck_8_virtual_76 TE71 rfl (Nat.le_of_ble_eq_true rfl) ⟨Nat.le_of_ble_eq_true rfl, Nat.le_of_ble_eq_true rfl⟩ sc_1 ⟨rfl, by decide⟩ H.1 (dp_0 hd rfl) (k71_1_5 E (dp_n hd rfl) H x4 (sentence * 8) n (by omega) (by omega) (by omega)) ?_
          intro v15 q18
          have q17 := q18; clear q18
          refine r_ifc (tgt := 59) (pc' := 52) D70_49 rfl rfl (by unfold inR; omega) (fun (c19 : v15 = 0) => ?_) (fun (c19 : ¬ (v15 = 0)) => ?_)
          · refine s_blx (lv' := [(4, vI (x4 + 1)), (0, vR 1), (1, vI sentence), (2, vI n), (3, vI x3)]) (st' := []) B70_59_62 rfl ?_
            refine r_goto (tgt := 5) D70_62 rfl ?_
            refine r_loc (lv' := [(0, vR 1), (1, vI sentence), (2, vI n), (3, vI x3), (4, vI (x4 + 1))]) ⟨rfl, rfl, rfl, rfl, rfl, trivial⟩ rfl rfl ?_
            exact ih x3 (x4 + 1) (by omega) (by omega) (by omega) (by omega) (by omega)
          · refine s_blx (lv' := [(0, vR 1), (1, vI sentence), (2, vI n), (3, vI x3), (4, vI x4)]) (st' := [vI x4, vI 1, vI x3]) B70_52_56 rfl ?_
            refine r_bin (pc' := 57) D70_56 rfl rfl ?_
            intro z20 r21 _; unfold inR at r21
            refine r_bin (pc' := 58) D70_57 rfl rfl ?_
            intro z22 r23 _; unfold inR at r23
            refine s_blx (lv' := [(4, vI (x4 + 1)), (3, vI z22), (0, vR 1), (1, vI sentence), (2, vI n)]) (st' := []) B70_58_62 rfl ?_
            refine r_goto (tgt := 5) D70_62 rfl ?_
            refine r_loc (lv' := [(0, vR 1), (1, vI sentence), (2, vI n), (3, vI z22), (4, vI (x4 + 1))]) ⟨rfl, rfl, rfl, rfl, rfl, trivial⟩ rfl rfl ?_
            exact ih z22 (x4 + 1) (by omega) (by omega) (by omega) (by omega) (by omega)
set_option maxRecDepth 4000 in
theorem k70_1 {base : Nat} {X : Nat → Option mC} {G : Nat → Value} (E : EnvOK base X G) {d : Nat} (hd : 1 ≤ d) {M : mH} (H : HI base M) (sentence : Int) (n : Int) (h0 : 0 ≤ sentence ∧ sentence ≤ 15) (h1 : 0 ≤ n ∧ n ≤ 8) : sOk base X G d T70 [vR 1, vI sentence, vI n] M (pI (fun v M' => M' = M ∧ (-2147483648 ≤ v ∧ v ≤ 2147483647))) := by
  refine sOk.of (show sRn base X G d T70 0 [(0, vR 1), (1, vI sentence), (2, vI n)] [] M _ from ?_)
  refine s_blx (lv' := [(4, vI 0), (3, vI 0), (0, vR 1), (1, vI sentence), (2, vI n)]) (st' := []) B70_0_5 rfl ?_
  refine r_loc (lv' := [(0, vR 1), (1, vI sentence), (2, vI n), (3, vI 0), (4, vI 0)]) ⟨rfl, rfl, rfl, rfl, rfl, trivial⟩ rfl rfl ?_
  exact (L_k70_1 E hd H sentence n h0 h1 (((16 - 0) * 1 + 0 : Int) + 1).toNat) 0 0 (by omega) (by omega) (by omega) (by omega) (by omega)
set_option maxRecDepth 4000 in
theorem L_k72_1 {base : Nat} {X : Nat → Option mC} {G : Nat → Value} (E : EnvOK base X G) {d : Nat} (hd : 0 ≤ d) {M : mH} (H : HI base M) (bits : Int) (h0 : -2147483648 ≤ bits ∧ bits ≤ 2147483647) : ∀ mz : Nat, (∀ (x2 : Int), (0 ≤ x2) → (x2 ≤ 16) → (16 - x2) * 1 + 0 < (mz : Int) → sRn base X G d T72 2 [(0, vR 1), (1, vI bits), (2, vI x2)] [] M (s_Q base (pI (fun v M' => M' = M ∧ (0 ≤ v ∧ v ≤ 16))))) := by
  intro mz
  induction mz with
  | zero => exact fun x2 z0 z1 z2 => by omega
  | succ mz ih =>
    intro x2 i0 i1 hmu
    refine s_blx (lv' := [(0, vR 1), (1, vI bits), (2, vI x2)]) (st' := [vR 1, vI x2]) B72_2_4 rfl ?_
    refine r_gint (ki := 10) (pc' := 7) D72_4 rfl gf_8_43_1 rfl H.1 ?_
    intro w1 e2 r3
    have b_w1 := H.2 1 (10) 0 16 rfl
    rw [← e2] at b_w1; clear r3
    refine r_icmp (tgt := 27) (pc' := 10) D72_7 rfl rfl (by unfold inR; omega) (fun (c4 : w1 ≤ x2) => ?_) (fun (c4 : ¬ (w1 ≤ x2)) => ?_)
    · refine s_blx (lv' := [(0, vR 1), (1, vI bits), (2, vI x2)]) (st' := [vR 1]) B72_27_28 rfl ?_
      refine r_gint (ki := 10) (pc' := 31) D72_28 rfl gf_8_43_1 rfl H.1 ?_
      intro w5 e6 r7
      have e8 : w1 = w5 := (e6.trans (e2.symm)).symm
      subst e8
      exact r_iretI D72_31 rfl (⟨rfl, by omega⟩)
    · refine s_blx (lv' := [(0, vR 1), (1, vI bits), (2, vI x2)]) (st' := [vI x2, vI bits]) B72_10_12 rfl ?_
      refine r_bin (pc' := 13) D72_12 rfl rfl ?_
      intro z9 r10 _; unfold inR at r10
      refine s_blx (lv' := [(0, vR 1), (1, vI bits), (2, vI x2)]) (st' := [vI 1, vI z9]) B72_13_14 rfl ?_
      refine r_and1 (pc' := 15) D72_14 rfl ?_
      refine s_blx (lv' := [(0, vR 1), (1, vI bits), (2, vI x2)]) (st' := [vI 1, vI (z9 % 2)]) B72_15_16 rfl ?_
      refine r_icmp (tgt := 21) (pc' := 19) D72_16 rfl rfl (by unfold inR; omega) (fun (c11 : (z9 % 2) ≠ 1) => ?_) (fun (c11 : ¬ ((z9 % 2) ≠ 1)) => ?_)
      · refine s_blx (lv' := [(2, vI (x2 + 1)), (0, vR 1), (1, vI bits)]) (st' := []) B72_21_24 rfl ?_
        refine r_goto (tgt := 2) D72_24 rfl ?_
        refine r_loc (lv' := [(0, vR 1), (1, vI bits), (2, vI (x2 + 1))]) ⟨rfl, rfl, rfl, trivial⟩ rfl rfl ?_
        exact ih (x2 + 1) (by omega) (by omega) (by omega)
      · refine s_blx (lv' := [(0, vR 1), (1, vI bits), (2, vI x2)]) (st' := [vI x2]) B72_19_20 rfl ?_
        exact r_iretI D72_20 rfl (⟨rfl, by omega⟩)
set_option maxRecDepth 4000 in
theorem k72_1 {base : Nat} {X : Nat → Option mC} {G : Nat → Value} (E : EnvOK base X G) {d : Nat} (hd : 0 ≤ d) {M : mH} (H : HI base M) (bits : Int) (h0 : -2147483648 ≤ bits ∧ bits ≤ 2147483647) : sOk base X G d T72 [vR 1, vI bits] M (pI (fun v M' => M' = M ∧ (0 ≤ v ∧ v ≤ 16))) := by
  refine sOk.of (show sRn base X G d T72 0 [(0, vR 1), (1, vI bits)] [] M _ from ?_)
  refine s_blx (lv' := [(2, vI 0), (0, vR 1), (1, vI bits)]) (st' := []) B72_0_2 rfl ?_
  refine r_loc (lv' := [(0, vR 1), (1, vI bits), (2, vI 0)]) ⟨rfl, rfl, rfl, trivial⟩ rfl rfl ?_
  exact (L_k72_1 E hd H bits h0 (((16 - 0) * 1 + 0 : Int) + 1).toNat) 0 (by omega) (by omega) (by omega)
set_option maxRecDepth 4000 in
theorem L_k73_1 {base : Nat} {X : Nat → Option mC} {G : Nat → Value} (E : EnvOK base X G) {d : Nat} (hd : 0 ≤ d) {M : mH} (H : HI base M) (bits : Int) (slot : Int) (h0 : -2147483648 ≤ bits ∧ bits ≤ 2147483647) (h1 : 0 ≤ slot ∧ slot ≤ 2) : ∀ mz : Nat, (∀ (x3 x4 : Int), ((-2147483648) ≤ x3) → (x3 ≤ 2147483647) → (0 ≤ x4) → (x4 ≤ 16) → (16 - x4) * 1 + 0 < (mz : Int) → sRn base X G d T73 5 [(0, vR 1), (1, vI bits), (2, vI slot), (3, vI x3), (4, vI x4)] [] M (s_Q base (pI (fun v M' => M' = M ∧ (-2147483648 ≤ v ∧ v ≤ 2147483647))))) := by
  intro mz
  induction mz with
  | zero => exact fun x3 x4 z0 z1 z2 z3 z4 => by omega
  | succ mz ih =>
    intro x3 x4 i0 i1 i2 i3 hmu
    refine s_blx (lv' := [(0, vR 1), (1, vI bits), (2, vI slot), (3, vI x3), (4, vI x4)]) (st' := [vR 1, vI x4]) B73_5_8 rfl ?_
    refine r_gint (ki := 10) (pc' := 11) D73_8 rfl gf_8_43_1 rfl H.1 ?_
    intro w1 e2 r3
    have b_w1 := H.2 1 (10) 0 16 rfl
    rw [← e2] at b_w1; clear r3
    refine r_icmp (tgt := 46) (pc' := 14) D73_11 rfl rfl (by unfold inR; omega) (fun (c4 : w1 ≤ x4) => ?_) (fun (c4 : ¬ (w1 ≤ x4)) => ?_)
    · refine s_blx (lv' := [(0, vR 1), (1, vI bits), (2, vI slot), (3, vI x3), (4, vI x4)]) (st' := [vI x3]) B73_46_47 rfl ?_
      exact r_iretI D73_47 rfl (⟨rfl, by omega⟩)
    · refine s_blx (lv' := [(0, vR 1), (1, vI bits), (2, vI slot), (3, vI x3), (4, vI x4)]) (st' := [vI x4, vI bits]) B73_14_17 rfl ?_
      refine r_bin (pc' := 18) D73_17 rfl rfl ?_
      intro z5 r6 _; unfold inR at r6
      refine s_blx (lv' := [(0, vR 1), (1, vI bits), (2, vI slot), (3, vI x3), (4, vI x4)]) (st' := [vI 1, vI z5]) B73_18_19 rfl ?_
      refine r_and1 (pc' := 20) D73_19 rfl ?_
      refine s_blx (lv' := [(0, vR 1), (1, vI bits), (2, vI slot), (3, vI x3), (4, vI x4)]) (st' := [vI 1, vI (z5 % 2)]) B73_20_21 rfl ?_
      refine r_icmp (tgt := 40) (pc' := 24) D73_21 rfl rfl (by unfold inR; omega) (fun (c7 : (z5 % 2) ≠ 1) => ?_) (fun (c7 : ¬ ((z5 % 2) ≠ 1)) => ?_)
      · refine s_blx (lv' := [(4, vI (x4 + 1)), (0, vR 1), (1, vI bits), (2, vI slot), (3, vI x3)]) (st' := []) B73_40_43 rfl ?_
        refine r_goto (tgt := 5) D73_43 rfl ?_
        refine r_loc (lv' := [(0, vR 1), (1, vI bits), (2, vI slot), (3, vI x3), (4, vI (x4 + 1))]) ⟨rfl, rfl, rfl, rfl, rfl, trivial⟩ rfl rfl ?_
        exact ih x3 (x4 + 1) (by omega) (by omega) (by omega) (by omega) (by omega)
      · refine s_blx (lv' := [(0, vR 1), (1, vI bits), (2, vI slot), (3, vI x3), (4, vI x4)]) (st' := [vR 1, vI 1, vI x3]) B73_24_27 rfl ?_
        refine r_gfix (r := 7) (pc' := 30) D73_27 rfl gf_8_37_1 H.1 ?_
        refine s_blx (lv' := [(0, vR 1), (1, vI bits), (2, vI slot), (3, vI x3), (4, vI x4)]) (st' := [vI ((x4 * 3) + slot), vR 7, vI 1, vI x3]) B73_30_36 rfl ?_
        refine r_iald (pc' := 37) D73_36 rfl sc_7 H.1 (by omega) ?_
        intro w8 e9 r10
        have b_w8 := H.2 7 ((x4 * 3) + slot) 0 7 rfl
        rw [← e9] at b_w8; clear r10
        refine r_bin (pc' := 38) D73_37 rfl rfl ?_
        intro z11 r12 _; unfold inR at r12
        refine r_bin (pc' := 39) D73_38 rfl rfl ?_
        intro z13 r14 _; unfold inR at r14
        refine s_blx (lv' := [(4, vI (x4 + 1)), (3, vI z13), (0, vR 1), (1, vI bits), (2, vI slot)]) (st' := []) B73_39_43 rfl ?_
        refine r_goto (tgt := 5) D73_43 rfl ?_
        refine r_loc (lv' := [(0, vR 1), (1, vI bits), (2, vI slot), (3, vI z13), (4, vI (x4 + 1))]) ⟨rfl, rfl, rfl, rfl, rfl, trivial⟩ rfl rfl ?_
        exact ih z13 (x4 + 1) (by omega) (by omega) (by omega) (by omega) (by omega)
set_option maxRecDepth 4000 in
theorem k73_1 {base : Nat} {X : Nat → Option mC} {G : Nat → Value} (E : EnvOK base X G) {d : Nat} (hd : 0 ≤ d) {M : mH} (H : HI base M) (bits : Int) (slot : Int) (h0 : -2147483648 ≤ bits ∧ bits ≤ 2147483647) (h1 : 0 ≤ slot ∧ slot ≤ 2) : sOk base X G d T73 [vR 1, vI bits, vI slot] M (pI (fun v M' => M' = M ∧ (-2147483648 ≤ v ∧ v ≤ 2147483647))) := by
  refine sOk.of (show sRn base X G d T73 0 [(0, vR 1), (1, vI bits), (2, vI slot)] [] M _ from ?_)
  refine s_blx (lv' := [(4, vI 0), (3, vI 0), (0, vR 1), (1, vI bits), (2, vI slot)]) (st' := []) B73_0_5 rfl ?_
  refine r_loc (lv' := [(0, vR 1), (1, vI bits), (2, vI slot), (3, vI 0), (4, vI 0)]) ⟨rfl, rfl, rfl, rfl, rfl, trivial⟩ rfl rfl ?_
  exact (L_k73_1 E hd H bits slot h0 h1 (((16 - 0) * 1 + 0 : Int) + 1).toNat) 0 0 (by omega) (by omega) (by omega) (by omega) (by omega)
set_option maxRecDepth 4000 in
theorem L_k74_1 {base : Nat} {X : Nat → Option mC} {G : Nat → Value} (E : EnvOK base X G) {d : Nat} (hd : 0 ≤ d) {M : mH} (H : HI base M) (slot : Int) (value : Int) (h0 : 0 ≤ slot ∧ slot ≤ 2) (h1 : -2147483648 ≤ value ∧ value ≤ 2147483647) : ∀ mz : Nat, (∀ (x3 x4 : Int), ((-2147483648) ≤ x3) → (x3 ≤ 2147483647) → (0 ≤ x4) → (x4 ≤ 16) → (16 - x4) * 1 + 0 < (mz : Int) → sRn base X G d T74 5 [(0, vR 1), (1, vI slot), (2, vI value), (3, vI x3), (4, vI x4)] [] M (s_Q base (pI (fun v M' => M' = M ∧ (-2147483648 ≤ v ∧ v ≤ 2147483647))))) := by
  intro mz
  induction mz with
  | zero => exact fun x3 x4 z0 z1 z2 z3 z4 => by omega
  | succ mz ih =>
    intro x3 x4 i0 i1 i2 i3 hmu
    refine s_blx (lv' := [(0, vR 1), (1, vI slot), (2, vI value), (3, vI x3), (4, vI x4)]) (st' := [vR 1, vI x4]) B74_5_8 rfl ?_
    refine r_gint (ki := 10) (pc' := 11) D74_8 rfl gf_8_43_1 rfl H.1 ?_
    intro w1 e2 r3
    have b_w1 := H.2 1 (10) 0 16 rfl
    rw [← e2] at b_w1; clear r3
    refine r_icmp (tgt := 46) (pc' := 14) D74_11 rfl rfl (by unfold inR; omega) (fun (c4 : w1 ≤ x4) => ?_) (fun (c4 : ¬ (w1 ≤ x4)) => ?_)
    · refine s_blx (lv' := [(0, vR 1), (1, vI slot), (2, vI value), (3, vI x3), (4, vI x4)]) (st' := [vI x3]) B74_46_47 rfl ?_
      exact r_iretI D74_47 rfl (⟨rfl, by omega⟩)
    · refine s_blx (lv' := [(0, vR 1), (1, vI slot), (2, vI value), (3, vI x3), (4, vI x4)]) (st' := [vR 1, vI x3]) B74_14_16 rfl ?_
      refine r_gfix (r := 7) (pc' := 19) D74_16 rfl gf_8_37_1 H.1 ?_
      refine s_blx (lv' := [(0, vR 1), (1, vI slot), (2, vI value), (3, vI x3), (4, vI x4)]) (st' := [vI ((x4 * 3) + slot), vR 7, vI x3]) B74_19_25 rfl ?_
      refine r_iald (pc' := 26) D74_25 rfl sc_7 H.1 (by omega) ?_
      intro w5 e6 r7
      have b_w5 := H.2 7 ((x4 * 3) + slot) 0 7 rfl
      rw [← e6] at b_w5; clear r7
      refine s_blx (lv' := [(0, vR 1), (1, vI slot), (2, vI value), (3, vI x3), (4, vI x4)]) (st' := [vI value, vI w5, vI x3]) B74_26_27 rfl ?_
      refine r_icmp (tgt := 37) (pc' := 30) D74_27 rfl rfl (by unfold inR; omega) (fun (c8 : w5 ≠ value) => ?_) (fun (c8 : ¬ (w5 ≠ value)) => ?_)
      · refine s_blx (lv' := [(0, vR 1), (1, vI slot), (2, vI value), (3, vI x3), (4, vI x4)]) (st' := [vI 0, vI x3]) B74_37_38 rfl ?_
        refine r_bin (pc' := 39) D74_38 rfl rfl ?_
        intro z9 r10 _; unfold inR at r10
        refine s_blx (lv' := [(4, vI (x4 + 1)), (3, vI z9), (0, vR 1), (1, vI slot), (2, vI value)]) (st' := []) B74_39_43 rfl ?_
        refine r_goto (tgt := 5) D74_43 rfl ?_
        refine r_loc (lv' := [(0, vR 1), (1, vI slot), (2, vI value), (3, vI z9), (4, vI (x4 + 1))]) ⟨rfl, rfl, rfl, rfl, rfl, trivial⟩ rfl rfl ?_
        exact ih z9 (x4 + 1) (by omega) (by omega) (by omega) (by omega) (by omega)
      · refine s_blx (lv' := [(0, vR 1), (1, vI slot), (2, vI value), (3, vI x3), (4, vI x4)]) (st' := [vI x4, vI 1, vI x3]) B74_30_33 rfl ?_
        refine r_bin (pc' := 34) D74_33 rfl rfl ?_
        intro z11 r12 _; unfold inR at r12
        refine r_goto (tgt := 38) D74_34 rfl ?_
        refine r_bin (pc' := 39) D74_38 rfl rfl ?_
        intro z13 r14 _; unfold inR at r14
        refine s_blx (lv' := [(4, vI (x4 + 1)), (3, vI z13), (0, vR 1), (1, vI slot), (2, vI value)]) (st' := []) B74_39_43 rfl ?_
        refine r_goto (tgt := 5) D74_43 rfl ?_
        refine r_loc (lv' := [(0, vR 1), (1, vI slot), (2, vI value), (3, vI z13), (4, vI (x4 + 1))]) ⟨rfl, rfl, rfl, rfl, rfl, trivial⟩ rfl rfl ?_
        exact ih z13 (x4 + 1) (by omega) (by omega) (by omega) (by omega) (by omega)
set_option maxRecDepth 4000 in
theorem k74_1 {base : Nat} {X : Nat → Option mC} {G : Nat → Value} (E : EnvOK base X G) {d : Nat} (hd : 0 ≤ d) {M : mH} (H : HI base M) (slot : Int) (value : Int) (h0 : 0 ≤ slot ∧ slot ≤ 2) (h1 : -2147483648 ≤ value ∧ value ≤ 2147483647) : sOk base X G d T74 [vR 1, vI slot, vI value] M (pI (fun v M' => M' = M ∧ (-2147483648 ≤ v ∧ v ≤ 2147483647))) := by
  refine sOk.of (show sRn base X G d T74 0 [(0, vR 1), (1, vI slot), (2, vI value)] [] M _ from ?_)
  refine s_blx (lv' := [(4, vI 0), (3, vI 0), (0, vR 1), (1, vI slot), (2, vI value)]) (st' := []) B74_0_5 rfl ?_
  refine r_loc (lv' := [(0, vR 1), (1, vI slot), (2, vI value), (3, vI 0), (4, vI 0)]) ⟨rfl, rfl, rfl, rfl, rfl, trivial⟩ rfl rfl ?_
  exact (L_k74_1 E hd H slot value h0 h1 (((16 - 0) * 1 + 0 : Int) + 1).toNat) 0 0 (by omega) (by omega) (by omega) (by omega) (by omega)
set_option maxRecDepth 4000 in
theorem L_k76_1 {base : Nat} {X : Nat → Option mC} {G : Nat → Value} (E : EnvOK base X G) {d : Nat} (hd : 0 ≤ d) {M : mH} (H : HI base M) (bits : Int) (h0 : -2147483648 ≤ bits ∧ bits ≤ 2147483647) : ∀ mz : Nat, (∀ (x2 x3 : Int), (0 ≤ x2) → (0 ≤ x3) → (x3 ≤ 16) → (16 - x3) * 1 + 0 < (mz : Int) → sRn base X G d T76 4 [(0, vR 1), (1, vI bits), (2, vI x2), (3, vI x3)] [] M (s_Q base (pI (fun v M' => M' = M ∧ (-2147483648 ≤ v ∧ v ≤ 2147483647))))) := by
  intro mz
  induction mz with
  | zero => exact fun x2 x3 z0 z1 z2 z3 => by omega
  | succ mz ih =>
    intro x2 x3 i0 i1 i2 hmu
    refine s_blx (lv' := [(0, vR 1), (1, vI bits), (2, vI x2), (3, vI x3)]) (st' := [vR 1, vI x3]) B76_4_6 rfl ?_
    refine r_gint (ki := 10) (pc' := 9) D76_6 rfl gf_8_43_1 rfl H.1 ?_
    intro w1 e2 r3
    have b_w1 := H.2 1 (10) 0 16 rfl
    rw [← e2] at b_w1; clear r3
    refine r_icmp (tgt := 43) (pc' := 12) D76_9 rfl rfl (by unfold inR; omega) (fun (c4 : w1 ≤ x3) => ?_) (fun (c4 : ¬ (w1 ≤ x3)) => ?_)
    · refine s_blx (lv' := [(0, vR 1), (1, vI bits), (2, vI x2), (3, vI x3)]) (st' := [vI x2]) B76_43_44 rfl ?_
      refine r_norm ?_
      intro z5 r6 _; unfold inR at r6
      exact r_iretI D76_44 rfl (⟨rfl, by omega⟩)
    · refine s_blx (lv' := [(0, vR 1), (1, vI bits), (2, vI x2), (3, vI x3)]) (st' := [vI x3, vI bits]) B76_12_14 rfl ?_
      refine r_bin (pc' := 15) D76_14 rfl rfl ?_
      intro z7 r8 _; unfold inR at r8
      refine s_blx (lv' := [(0, vR 1), (1, vI bits), (2, vI x2), (3, vI x3)]) (st' := [vI 1, vI z7]) B76_15_16 rfl ?_
      refine r_and1 (pc' := 17) D76_16 rfl ?_
      refine s_blx (lv' := [(0, vR 1), (1, vI bits), (2, vI x2), (3, vI x3)]) (st' := [vI 1, vI (z7 % 2)]) B76_17_18 rfl ?_
      refine r_icmp (tgt := 37) (pc' := 21) D76_18 rfl rfl (by unfold inR; omega) (fun (c9 : (z7 % 2) ≠ 1) => ?_) (fun (c9 : ¬ ((z7 % 2) ≠ 1)) => ?_)
      · refine s_blx (lv' := [(3, vI (x3 + 1)), (0, vR 1), (1, vI bits), (2, vI x2)]) (st' := []) B76_37_40 rfl ?_
        refine r_goto (tgt := 4) D76_40 rfl ?_
        refine r_loc (lv' := [(0, vR 1), (1, vI bits), (2, vI x2), (3, vI (x3 + 1))]) ⟨rfl, rfl, rfl, rfl, trivial⟩ rfl rfl ?_
        exact ih x2 (x3 + 1) (by omega) (by omega) (by omega) (by omega)
      · refine s_blx (lv' := [(0, vR 1), (1, vI bits), (2, vI x2), (3, vI x3)]) (st' := [vR 1, vI x2]) B76_21_23 rfl ?_
        refine r_gfix (r := 8) (pc' := 26) D76_23 rfl gf_8_40_1 H.1 ?_
        refine s_blx (lv' := [(0, vR 1), (1, vI bits), (2, vI x2), (3, vI x3)]) (st' := [vR 1, vI (x3 * 4), vR 8, vI x2]) B76_26_30 rfl ?_
        refine r_gint (ki := 5) (pc' := 33) D76_30 rfl gf_8_28_1 rfl H.1 ?_
        intro w10 e11 r12
        have b_w10 := H.2 1 (5) 0 3 rfl
        rw [← e11] at b_w10; clear r12
        refine s_blx (lv' := [(0, vR 1), (1, vI bits), (2, vI x2), (3, vI x3)]) (st' := [vI ((x3 * 4) + w10), vR 8, vI x2]) B76_33_34 rfl ?_
        refine r_iald (pc' := 35) D76_34 rfl sc_8 H.1 (by omega) ?_
        intro w13 e14 r15
        have b_w13 := H.2 8 ((x3 * 4) + w10) 0 100 rfl
        rw [← e14] at b_w13; clear r15
        refine s_blx (lv' := [(3, vI (x3 + 1)), (2, vI (x2 + w13)), (0, vR 1), (1, vI bits)]) (st' := []) B76_35_40 rfl ?_
        refine r_goto (tgt := 4) D76_40 rfl ?_
        refine r_loc (lv' := [(0, vR 1), (1, vI bits), (2, vI (x2 + w13)), (3, vI (x3 + 1))]) ⟨rfl, rfl, rfl, rfl, trivial⟩ rfl rfl ?_
        exact ih (x2 + w13) (x3 + 1) (by omega) (by omega) (by omega) (by omega)
set_option maxRecDepth 4000 in
theorem k76_1 {base : Nat} {X : Nat → Option mC} {G : Nat → Value} (E : EnvOK base X G) {d : Nat} (hd : 0 ≤ d) {M : mH} (H : HI base M) (bits : Int) (h0 : -2147483648 ≤ bits ∧ bits ≤ 2147483647) : sOk base X G d T76 [vR 1, vI bits] M (pI (fun v M' => M' = M ∧ (-2147483648 ≤ v ∧ v ≤ 2147483647))) := by
  refine sOk.of (show sRn base X G d T76 0 [(0, vR 1), (1, vI bits)] [] M _ from ?_)
  refine s_blx (lv' := [(3, vI 0), (2, vI 0), (0, vR 1), (1, vI bits)]) (st' := []) B76_0_4 rfl ?_
  refine r_loc (lv' := [(0, vR 1), (1, vI bits), (2, vI 0), (3, vI 0)]) ⟨rfl, rfl, rfl, rfl, trivial⟩ rfl rfl ?_
  exact (L_k76_1 E hd H bits h0 (((16 - 0) * 1 + 0 : Int) + 1).toNat) 0 0 (by omega) (by omega) (by omega) (by omega)
set_option maxRecDepth 4000 in
theorem L_k77_1 {base : Nat} {X : Nat → Option mC} {G : Nat → Value} (E : EnvOK base X G) {d : Nat} (hd : 0 ≤ d) {M : mH} (H : HI base M) (slot : Int) (wanted : Int) (h0 : -2147483648 ≤ slot ∧ slot ≤ 2147483647) (h1 : -2147483648 ≤ wanted ∧ wanted ≤ 2147483647) : ∀ mz : Nat, (∀ (x3 x4 x5 : Int), ((-1) ≤ x3) → (x3 ≤ 11) → (0 ≤ x4) → (x4 ≤ 10) → (0 ≤ x5) → (x5 ≤ 12) → (12 - x5) * 1 + 0 < (mz : Int) → sRn base X G d T77 9 [(0, vR 1), (1, vI slot), (2, vI wanted), (3, vI x3), (4, vI x4), (5, vI x5)] [] M (s_Q base (pI (fun v M' => M' = M ∧ (-1 ≤ v ∧ v ≤ 11))))) := by
  intro mz
  induction mz with
  | zero => exact fun x3 x4 x5 z0 z1 z2 z3 z4 z5 z6 => by omega
  | succ mz ih =>
    intro x3 x4 x5 i0 i1 i2 i3 i4 i5 hmu
    refine s_blx (lv' := [(0, vR 1), (1, vI slot), (2, vI wanted), (3, vI x3), (4, vI x4), (5, vI x5)]) (st' := [vR 1, vI x5]) B77_9_12 rfl ?_
    refine r_gint (ki := 4) (pc' := 15) D77_12 rfl gf_8_25_1 rfl H.1 ?_
    intro w1 e2 r3
    have b_w1 := H.2 1 (4) 0 12 rfl
    rw [← e2] at b_w1; clear r3
    refine r_icmp (tgt := 99) (pc' := 18) D77_15 rfl rfl (by unfold inR; omega) (fun (c4 : w1 ≤ x5) => ?_) (fun (c4 : ¬ (w1 ≤ x5)) => ?_)
    · refine s_blx (lv' := [(0, vR 1), (1, vI slot), (2, vI wanted), (3, vI x3), (4, vI x4), (5, vI x5)]) (st' := [vI x3]) B77_99_100 rfl ?_
      exact r_iretI D77_100 rfl (⟨rfl, by omega⟩)
    · refine s_blx (lv' := [(0, vR 1), (1, vI slot), (2, vI wanted), (3, vI x3), (4, vI x4), (5, vI x5)]) (st' := [vR 1]) B77_18_19 rfl ?_
      refine r_gfix (r := 4) (pc' := 22) D77_19 rfl gf_8_22_1 H.1 ?_
      refine s_blx (lv' := [(0, vR 1), (1, vI slot), (2, vI wanted), (3, vI x3), (4, vI x4), (5, vI x5)]) (st' := [vI (x5 * 3), vR 4]) B77_22_26 rfl ?_
      refine r_iald (pc' := 27) D77_26 rfl sc_4 H.1 (by omega) ?_
      intro w5 e6 r7
      have b_w5 := H.2 4 (x5 * 3) 0 255 rfl
      rw [← e6] at b_w5; clear r7
      refine s_blx (lv' := [(0, vR 1), (1, vI slot), (2, vI wanted), (3, vI x3), (4, vI x4), (5, vI x5)]) (st' := [vI slot, vI w5]) B77_27_28 rfl ?_
      refine r_icmp (tgt := 53) (pc' := 31) D77_28 rfl rfl (by unfold inR; omega) (fun (c8 : w5 ≠ slot) => ?_) (fun (c8 : ¬ (w5 ≠ slot)) => ?_)
      · refine s_blx (lv' := [(6, vI 0), (0, vR 1), (1, vI slot), (2, vI wanted), (3, vI x3), (4, vI x4), (5, vI x5)]) (st' := [vI 0]) B77_53_58 rfl ?_
        refine r_ifc (tgt := 93) (pc' := 61) D77_58 rfl rfl (by unfold inR; omega) (fun (c9 : 0 = 0) => ?_) (fun (c9 : ¬ (0 = 0)) => ?_)
        · refine s_blx (lv' := [(5, vI (x5 + 1)), (6, vI 0), (0, vR 1), (1, vI slot), (2, vI wanted), (3, vI x3), (4, vI x4)]) (st' := []) B77_93_96 rfl ?_
          refine r_goto (tgt := 9) D77_96 rfl ?_
          refine r_loc (lv' := [(0, vR 1), (1, vI slot), (2, vI wanted), (3, vI x3), (4, vI x4), (5, vI (x5 + 1))]) ⟨rfl, rfl, rfl, rfl, rfl, rfl, trivial⟩ rfl rfl ?_
          exact ih x3 x4 (x5 + 1) (by omega) (by omega) (by omega) (by omega) (by omega) (by omega) (by omega)
        · exfalso; omega
      · refine s_blx (lv' := [(0, vR 1), (1, vI slot), (2, vI wanted), (3, vI x3), (4, vI x4), (5, vI x5)]) (st' := [vR 1, vI wanted]) B77_31_33 rfl ?_
        refine r_gfix (r := 4) (pc' := 36) D77_33 rfl gf_8_22_1 H.1 ?_
        refine s_blx (lv' := [(0, vR 1), (1, vI slot), (2, vI wanted), (3, vI x3), (4, vI x4), (5, vI x5)]) (st' := [vI ((x5 * 3) + 1), vR 4, vI wanted]) B77_36_42 rfl ?_
        refine r_iald (pc' := 43) D77_42 rfl sc_4 H.1 (by omega) ?_
        intro w10 e11 r12
        have b_w10 := H.2 4 ((x5 * 3) + 1) 0 255 rfl
        rw [← e11] at b_w10; clear r12
        refine s_blx (lv' := [(0, vR 1), (1, vI slot), (2, vI wanted), (3, vI x3), (4, vI x4), (5, vI x5)]) (st' := [vI (-1), vI w10, vI wanted]) B77_43_44 rfl ?_
        refine r_bin (pc' := 45) D77_44 rfl rfl ?_
        intro z13 r14 _; unfold inR at r14
        refine r_bin (pc' := 46) D77_45 rfl rfl ?_
        intro z15 r16 _; unfold inR at r16
        refine r_ifc (tgt := 53) (pc' := 49) D77_46 rfl rfl (by unfold inR; omega) (fun (c17 : z15 ≠ 0) => ?_) (fun (c17 : ¬ (z15 ≠ 0)) => ?_)
        · refine s_blx (lv' := [(6, vI 0), (0, vR 1), (1, vI slot), (2, vI wanted), (3, vI x3), (4, vI x4), (5, vI x5)]) (st' := [vI 0]) B77_53_58 rfl ?_
          refine r_ifc (tgt := 93) (pc' := 61) D77_58 rfl rfl (by unfold inR; omega) (fun (c18 : 0 = 0) => ?_) (fun (c18 : ¬ (0 = 0)) => ?_)
          · refine s_blx (lv' := [(5, vI (x5 + 1)), (6, vI 0), (0, vR 1), (1, vI slot), (2, vI wanted), (3, vI x3), (4, vI x4)]) (st' := []) B77_93_96 rfl ?_
            refine r_goto (tgt := 9) D77_96 rfl ?_
            refine r_loc (lv' := [(0, vR 1), (1, vI slot), (2, vI wanted), (3, vI x3), (4, vI x4), (5, vI (x5 + 1))]) ⟨rfl, rfl, rfl, rfl, rfl, rfl, trivial⟩ rfl rfl ?_
            exact ih x3 x4 (x5 + 1) (by omega) (by omega) (by omega) (by omega) (by omega) (by omega) (by omega)
          · exfalso; omega
        · refine s_blx (lv' := [(0, vR 1), (1, vI slot), (2, vI wanted), (3, vI x3), (4, vI x4), (5, vI x5)]) (st' := [vI 1]) B77_49_50 rfl ?_
          refine r_goto (tgt := 54) D77_50 rfl ?_
          refine s_blx (lv' := [(6, vI 1), (0, vR 1), (1, vI slot), (2, vI wanted), (3, vI x3), (4, vI x4), (5, vI x5)]) (st' := [vI 1]) B77_54_58 rfl ?_
          refine r_ifc (tgt := 93) (pc' := 61) D77_58 rfl rfl (by unfold inR; omega) (fun (c19 : 1 = 0) => ?_) (fun (c19 : ¬ (1 = 0)) => ?_)
          · exfalso; omega
          · refine s_blx (lv' := [(6, vI 1), (0, vR 1), (1, vI slot), (2, vI wanted), (3, vI x3), (4, vI x4), (5, vI x5)]) (st' := [vR 1]) B77_61_62 rfl ?_
            refine r_gfix (r := 4) (pc' := 65) D77_62 rfl gf_8_22_1 H.1 ?_
            refine s_blx (lv' := [(6, vI 1), (0, vR 1), (1, vI slot), (2, vI wanted), (3, vI x3), (4, vI x4), (5, vI x5)]) (st' := [vI ((x5 * 3) + 2), vR 4]) B77_65_71 rfl ?_
            refine r_iald (pc' := 72) D77_71 rfl sc_4 H.1 (by omega) ?_
            intro w20 e21 r22
            have b_w20 := H.2 4 ((x5 * 3) + 2) 0 255 rfl
            rw [← e21] at b_w20; clear r22
            refine s_blx (lv' := [(6, vI 1), (0, vR 1), (1, vI slot), (2, vI wanted), (3, vI x3), (4, vI x4), (5, vI x5)]) (st' := [vI x4, vI w20]) B77_72_74 rfl ?_
            refine r_icmp (tgt := 93) (pc' := 77) D77_74 rfl rfl (by unfold inR; omega) (fun (c23 : x4 ≤ w20) => ?_) (fun (c23 : ¬ (x4 ≤ w20)) => ?_)
            · refine s_blx (lv' := [(5, vI (x5 + 1)), (6, vI 1), (0, vR 1), (1, vI slot), (2, vI wanted), (3, vI x3), (4, vI x4)]) (st' := []) B77_93_96 rfl ?_
              refine r_goto (tgt := 9) D77_96 rfl ?_
              refine r_loc (lv' := [(0, vR 1), (1, vI slot), (2, vI wanted), (3, vI x3), (4, vI x4), (5, vI (x5 + 1))]) ⟨rfl, rfl, rfl, rfl, rfl, rfl, trivial⟩ rfl rfl ?_
              exact ih x3 x4 (x5 + 1) (by omega) (by omega) (by omega) (by omega) (by omega) (by omega) (by omega)
            · refine s_blx (lv' := [(6, vI 1), (0, vR 1), (1, vI slot), (2, vI wanted), (3, vI x3), (4, vI x4), (5, vI x5)]) (st' := [vR 1]) B77_77_78 rfl ?_
              refine r_gfix (r := 4) (pc' := 81) D77_78 rfl gf_8_22_1 H.1 ?_
              refine s_blx (lv' := [(6, vI 1), (0, vR 1), (1, vI slot), (2, vI wanted), (3, vI x3), (4, vI x4), (5, vI x5)]) (st' := [vI ((x5 * 3) + 2), vR 4]) B77_81_87 rfl ?_
              refine r_iald (pc' := 88) D77_87 rfl sc_4 H.1 (by omega) ?_
              intro w24 e25 r26
              have e27 : w20 = w24 := (e25.trans (e21.symm)).symm
              subst e27
              refine s_blx (lv' := [(5, vI (x5 + 1)), (3, vI x5), (4, vI w20), (6, vI 1), (0, vR 1), (1, vI slot), (2, vI wanted)]) (st' := []) B77_88_96 rfl ?_
              refine r_goto (tgt := 9) D77_96 rfl ?_
              refine r_loc (lv' := [(0, vR 1), (1, vI slot), (2, vI wanted), (3, vI x5), (4, vI w20), (5, vI (x5 + 1))]) ⟨rfl, rfl, rfl, rfl, rfl, rfl, trivial⟩ rfl rfl ?_
              exact ih x5 w20 (x5 + 1) (by omega) (by omega) (by omega) (by omega) (by omega) (by omega) (by omega)
set_option maxRecDepth 4000 in
theorem k77_1 {base : Nat} {X : Nat → Option mC} {G : Nat → Value} (E : EnvOK base X G) {d : Nat} (hd : 0 ≤ d) {M : mH} (H : HI base M) (slot : Int) (wanted : Int) (h0 : -2147483648 ≤ slot ∧ slot ≤ 2147483647) (h1 : -2147483648 ≤ wanted ∧ wanted ≤ 2147483647) : sOk base X G d T77 [vR 1, vI slot, vI wanted] M (pI (fun v M' => M' = M ∧ (-1 ≤ v ∧ v ≤ 11))) := by
  refine sOk.of (show sRn base X G d T77 0 [(0, vR 1), (1, vI slot), (2, vI wanted)] [] M _ from ?_)
  refine s_blx (lv' := [(5, vI 0), (4, vI 10), (3, vI (-1)), (0, vR 1), (1, vI slot), (2, vI wanted)]) (st' := []) B77_0_9 rfl ?_
  refine r_loc (lv' := [(0, vR 1), (1, vI slot), (2, vI wanted), (3, vI (-1)), (4, vI 10), (5, vI 0)]) ⟨rfl, rfl, rfl, rfl, rfl, rfl, trivial⟩ rfl rfl ?_
  exact (L_k77_1 E hd H slot wanted h0 h1 (((12 - 0) * 1 + 0 : Int) + 1).toNat) (-1) 10 0 (by omega) (by omega) (by omega) (by omega) (by omega) (by omega) (by omega)
set_option maxRecDepth 4000 in
theorem L_k278_35 {base : Nat} {X : Nat → Option mC} {G : Nat → Value} (E : EnvOK base X G) {d : Nat} (hd : 0 ≤ d) {M : mH} (H : HI base M) (val : Int) (h0 : 0 ≤ val ∧ val ≤ 0) : ∀ mz : Nat, (∀ (x2 x3 : Int) (N : mH), HI base N → Fr [(35, 0)] M N → (0 ≤ x2) → (x2 ≤ 8) → (8 ≤ x3) → (x3 ≤ 8) → (8 - x2) * 1 + 0 < (mz : Int) → sRn base X G d T278 5 [(0, vR 35), (1, vI val), (2, vI x2), (3, vI x3)] [] N (s_Q base (pV (fun M' => HI base M' ∧ Fr [(35, 0)] M M')))) := by
  have f0 : Fr [(35, 0)] M M := Fr.rf
  intro mz
  induction mz with
  | zero => exact fun x2 x3 N _ _ z0 z1 z2 z3 z4 => by omega
  | succ mz ih =>
    intro x2 x3 N HN fN i0 i1 i2 i3 hmu
    refine s_blx (lv' := [(0, vR 35), (1, vI val), (2, vI x2), (3, vI x3)]) (st' := [vI x3, vI x2]) B278_5_7 rfl ?_
    refine r_icmp (tgt := 20) (pc' := 10) D278_7 rfl rfl (by unfold inR; omega) (fun (c1 : x3 ≤ x2) => ?_) (fun (c1 : ¬ (x3 ≤ x2)) => ?_)
    · exact r_retV D278_20 rfl (⟨HN, fN⟩)
    · refine s_blx (lv' := [(0, vR 35), (1, vI val), (2, vI x2), (3, vI x3)]) (st' := [vI val, vI x2, vR 35]) B278_10_13 rfl ?_
      refine r_iast (pc' := 14) D278_13 rfl sc_35 HN (by omega) (by unfold inR; omega) trivial ?_
      intro M2 u3 H4 p5
      have f6 := fN.wr u3 rfl
      refine s_blx (lv' := [(2, vI (x2 + 1)), (0, vR 35), (1, vI val), (3, vI x3)]) (st' := []) B278_14_17 rfl ?_
      refine r_goto (tgt := 5) D278_17 rfl ?_
      refine r_loc (lv' := [(0, vR 35), (1, vI val), (2, vI (x2 + 1)), (3, vI x3)]) ⟨rfl, rfl, rfl, rfl, trivial⟩ rfl rfl ?_
      exact ih (x2 + 1) x3 M2 H4 f6 (by omega) (by omega) (by omega) (by omega) (by omega)
set_option maxRecDepth 4000 in
theorem k278_35 {base : Nat} {X : Nat → Option mC} {G : Nat → Value} (E : EnvOK base X G) {d : Nat} (hd : 0 ≤ d) {M : mH} (H : HI base M) (val : Int) (h0 : 0 ≤ val ∧ val ≤ 0) : sOk base X G d T278 [vR 35, vI val] M (pV (fun M' => HI base M' ∧ Fr [(35, 0)] M M')) := by
  have f0 : Fr [(35, 0)] M M := Fr.rf
  refine sOk.of (show sRn base X G d T278 0 [(0, vR 35), (1, vI val)] [] M _ from ?_)
  refine s_blx (lv' := [(2, vI 0), (0, vR 35), (1, vI val)]) (st' := [vR 35]) B278_0_3 rfl ?_
  refine r_len (ni := 8) (pc' := 4) D278_3 rfl sc_35 (by decide) rfl H.1 ?_
  refine s_blx (lv' := [(3, vI 8), (2, vI 0), (0, vR 35), (1, vI val)]) (st' := []) B278_4_5 rfl ?_
  refine r_loc (lv' := [(0, vR 35), (1, vI val), (2, vI 0), (3, vI 8)]) ⟨rfl, rfl, rfl, rfl, trivial⟩ rfl rfl ?_
  exact (L_k278_35 E hd H val h0 (((8 - 0) * 1 + 0 : Int) + 1).toNat) 0 8 M H f0 (by omega) (by omega) (by omega) (by omega) (by omega)
set_option maxRecDepth 4000 in
theorem L_k278_54 {base : Nat} {X : Nat → Option mC} {G : Nat → Value} (E : EnvOK base X G) {d : Nat} (hd : 0 ≤ d) {M : mH} (H : HI base M) (val : Int) (h0 : 0 ≤ val ∧ val ≤ 0) : ∀ mz : Nat, (∀ (x2 x3 : Int) (N : mH), HI base N → Fr [(54, 0)] M N → (0 ≤ x2) → (x2 ≤ 8) → (8 ≤ x3) → (x3 ≤ 8) → (8 - x2) * 1 + 0 < (mz : Int) → sRn base X G d T278 5 [(0, vR 54), (1, vI val), (2, vI x2), (3, vI x3)] [] N (s_Q base (pV (fun M' => HI base M' ∧ Fr [(54, 0)] M M')))) := by
  have f0 : Fr [(54, 0)] M M := Fr.rf
  intro mz
  induction mz with
  | zero => exact fun x2 x3 N _ _ z0 z1 z2 z3 z4 => by omega
  | succ mz ih =>
    intro x2 x3 N HN fN i0 i1 i2 i3 hmu
    refine s_blx (lv' := [(0, vR 54), (1, vI val), (2, vI x2), (3, vI x3)]) (st' := [vI x3, vI x2]) B278_5_7 rfl ?_
    refine r_icmp (tgt := 20) (pc' := 10) D278_7 rfl rfl (by unfold inR; omega) (fun (c1 : x3 ≤ x2) => ?_) (fun (c1 : ¬ (x3 ≤ x2)) => ?_)
    · exact r_retV D278_20 rfl (⟨HN, fN⟩)
    · refine s_blx (lv' := [(0, vR 54), (1, vI val), (2, vI x2), (3, vI x3)]) (st' := [vI val, vI x2, vR 54]) B278_10_13 rfl ?_
      refine r_iast (pc' := 14) D278_13 rfl sc_54 HN (by omega) (by unfold inR; omega) trivial ?_
      intro M2 u3 H4 p5
      have f6 := fN.wr u3 rfl
      refine s_blx (lv' := [(2, vI (x2 + 1)), (0, vR 54), (1, vI val), (3, vI x3)]) (st' := []) B278_14_17 rfl ?_
      refine r_goto (tgt := 5) D278_17 rfl ?_
      refine r_loc (lv' := [(0, vR 54), (1, vI val), (2, vI (x2 + 1)), (3, vI x3)]) ⟨rfl, rfl, rfl, rfl, trivial⟩ rfl rfl ?_
      exact ih (x2 + 1) x3 M2 H4 f6 (by omega) (by omega) (by omega) (by omega) (by omega)
set_option maxRecDepth 4000 in
theorem k278_54 {base : Nat} {X : Nat → Option mC} {G : Nat → Value} (E : EnvOK base X G) {d : Nat} (hd : 0 ≤ d) {M : mH} (H : HI base M) (val : Int) (h0 : 0 ≤ val ∧ val ≤ 0) : sOk base X G d T278 [vR 54, vI val] M (pV (fun M' => HI base M' ∧ Fr [(54, 0)] M M')) := by
  have f0 : Fr [(54, 0)] M M := Fr.rf
  refine sOk.of (show sRn base X G d T278 0 [(0, vR 54), (1, vI val)] [] M _ from ?_)
  refine s_blx (lv' := [(2, vI 0), (0, vR 54), (1, vI val)]) (st' := [vR 54]) B278_0_3 rfl ?_
  refine r_len (ni := 8) (pc' := 4) D278_3 rfl sc_54 (by decide) rfl H.1 ?_
  refine s_blx (lv' := [(3, vI 8), (2, vI 0), (0, vR 54), (1, vI val)]) (st' := []) B278_4_5 rfl ?_
  refine r_loc (lv' := [(0, vR 54), (1, vI val), (2, vI 0), (3, vI 8)]) ⟨rfl, rfl, rfl, rfl, trivial⟩ rfl rfl ?_
  exact (L_k278_54 E hd H val h0 (((8 - 0) * 1 + 0 : Int) + 1).toNat) 0 8 M H f0 (by omega) (by omega) (by omega) (by omega) (by omega)
set_option maxRecDepth 4000 in
theorem L_k278_33 {base : Nat} {X : Nat → Option mC} {G : Nat → Value} (E : EnvOK base X G) {d : Nat} (hd : 0 ≤ d) {M : mH} (H : HI base M) (val : Int) (h0 : 0 ≤ val ∧ val ≤ 0) : ∀ mz : Nat, (∀ (x2 x3 : Int) (N : mH), HI base N → Fr [(33, 0)] M N → (0 ≤ x2) → (x2 ≤ 16) → (16 ≤ x3) → (x3 ≤ 16) → (16 - x2) * 1 + 0 < (mz : Int) → sRn base X G d T278 5 [(0, vR 33), (1, vI val), (2, vI x2), (3, vI x3)] [] N (s_Q base (pV (fun M' => HI base M' ∧ Fr [(33, 0)] M M')))) := by
  have f0 : Fr [(33, 0)] M M := Fr.rf
  intro mz
  induction mz with
  | zero => exact fun x2 x3 N _ _ z0 z1 z2 z3 z4 => by omega
  | succ mz ih =>
    intro x2 x3 N HN fN i0 i1 i2 i3 hmu
    refine s_blx (lv' := [(0, vR 33), (1, vI val), (2, vI x2), (3, vI x3)]) (st' := [vI x3, vI x2]) B278_5_7 rfl ?_
    refine r_icmp (tgt := 20) (pc' := 10) D278_7 rfl rfl (by unfold inR; omega) (fun (c1 : x3 ≤ x2) => ?_) (fun (c1 : ¬ (x3 ≤ x2)) => ?_)
    · exact r_retV D278_20 rfl (⟨HN, fN⟩)
    · refine s_blx (lv' := [(0, vR 33), (1, vI val), (2, vI x2), (3, vI x3)]) (st' := [vI val, vI x2, vR 33]) B278_10_13 rfl ?_
      refine r_iast (pc' := 14) D278_13 rfl sc_33 HN (by omega) (by unfold inR; omega) (show 0 ≤ val ∧ val ≤ 8 by omega) ?_
      intro M2 u3 H4 p5
      have f6 := fN.wr u3 rfl
      refine s_blx (lv' := [(2, vI (x2 + 1)), (0, vR 33), (1, vI val), (3, vI x3)]) (st' := []) B278_14_17 rfl ?_
      refine r_goto (tgt := 5) D278_17 rfl ?_
      refine r_loc (lv' := [(0, vR 33), (1, vI val), (2, vI (x2 + 1)), (3, vI x3)]) ⟨rfl, rfl, rfl, rfl, trivial⟩ rfl rfl ?_
      exact ih (x2 + 1) x3 M2 H4 f6 (by omega) (by omega) (by omega) (by omega) (by omega)
set_option maxRecDepth 4000 in
theorem k278_33 {base : Nat} {X : Nat → Option mC} {G : Nat → Value} (E : EnvOK base X G) {d : Nat} (hd : 0 ≤ d) {M : mH} (H : HI base M) (val : Int) (h0 : 0 ≤ val ∧ val ≤ 0) : sOk base X G d T278 [vR 33, vI val] M (pV (fun M' => HI base M' ∧ Fr [(33, 0)] M M')) := by
  have f0 : Fr [(33, 0)] M M := Fr.rf
  refine sOk.of (show sRn base X G d T278 0 [(0, vR 33), (1, vI val)] [] M _ from ?_)
  refine s_blx (lv' := [(2, vI 0), (0, vR 33), (1, vI val)]) (st' := [vR 33]) B278_0_3 rfl ?_
  refine r_len (ni := 16) (pc' := 4) D278_3 rfl sc_33 (by decide) rfl H.1 ?_
  refine s_blx (lv' := [(3, vI 16), (2, vI 0), (0, vR 33), (1, vI val)]) (st' := []) B278_4_5 rfl ?_
  refine r_loc (lv' := [(0, vR 33), (1, vI val), (2, vI 0), (3, vI 16)]) ⟨rfl, rfl, rfl, rfl, trivial⟩ rfl rfl ?_
  exact (L_k278_33 E hd H val h0 (((16 - 0) * 1 + 0 : Int) + 1).toNat) 0 16 M H f0 (by omega) (by omega) (by omega) (by omega) (by omega)
set_option maxRecDepth 4000 in
theorem L_k278_52 {base : Nat} {X : Nat → Option mC} {G : Nat → Value} (E : EnvOK base X G) {d : Nat} (hd : 0 ≤ d) {M : mH} (H : HI base M) (val : Int) (h0 : 0 ≤ val ∧ val ≤ 0) : ∀ mz : Nat, (∀ (x2 x3 : Int) (N : mH), HI base N → Fr [(52, 0)] M N → (0 ≤ x2) → (x2 ≤ 16) → (16 ≤ x3) → (x3 ≤ 16) → (16 - x2) * 1 + 0 < (mz : Int) → sRn base X G d T278 5 [(0, vR 52), (1, vI val), (2, vI x2), (3, vI x3)] [] N (s_Q base (pV (fun M' => HI base M' ∧ Fr [(52, 0)] M M')))) := by
  have f0 : Fr [(52, 0)] M M := Fr.rf
  intro mz
  induction mz with
  | zero => exact fun x2 x3 N _ _ z0 z1 z2 z3 z4 => by omega
  | succ mz ih =>
    intro x2 x3 N HN fN i0 i1 i2 i3 hmu
    refine s_blx (lv' := [(0, vR 52), (1, vI val), (2, vI x2), (3, vI x3)]) (st' := [vI x3, vI x2]) B278_5_7 rfl ?_
    refine r_icmp (tgt := 20) (pc' := 10) D278_7 rfl rfl (by unfold inR; omega) (fun (c1 : x3 ≤ x2) => ?_) (fun (c1 : ¬ (x3 ≤ x2)) => ?_)
    · exact r_retV D278_20 rfl (⟨HN, fN⟩)
    · refine s_blx (lv' := [(0, vR 52), (1, vI val), (2, vI x2), (3, vI x3)]) (st' := [vI val, vI x2, vR 52]) B278_10_13 rfl ?_
      refine r_iast (pc' := 14) D278_13 rfl sc_52 HN (by omega) (by unfold inR; omega) (show 0 ≤ val ∧ val ≤ 8 by omega) ?_
      intro M2 u3 H4 p5
      have f6 := fN.wr u3 rfl
      refine s_blx (lv' := [(2, vI (x2 + 1)), (0, vR 52), (1, vI val), (3, vI x3)]) (st' := []) B278_14_17 rfl ?_
      refine r_goto (tgt := 5) D278_17 rfl ?_
      refine r_loc (lv' := [(0, vR 52), (1, vI val), (2, vI (x2 + 1)), (3, vI x3)]) ⟨rfl, rfl, rfl, rfl, trivial⟩ rfl rfl ?_
      exact ih (x2 + 1) x3 M2 H4 f6 (by omega) (by omega) (by omega) (by omega) (by omega)
set_option maxRecDepth 4000 in
theorem k278_52 {base : Nat} {X : Nat → Option mC} {G : Nat → Value} (E : EnvOK base X G) {d : Nat} (hd : 0 ≤ d) {M : mH} (H : HI base M) (val : Int) (h0 : 0 ≤ val ∧ val ≤ 0) : sOk base X G d T278 [vR 52, vI val] M (pV (fun M' => HI base M' ∧ Fr [(52, 0)] M M')) := by
  have f0 : Fr [(52, 0)] M M := Fr.rf
  refine sOk.of (show sRn base X G d T278 0 [(0, vR 52), (1, vI val)] [] M _ from ?_)
  refine s_blx (lv' := [(2, vI 0), (0, vR 52), (1, vI val)]) (st' := [vR 52]) B278_0_3 rfl ?_
  refine r_len (ni := 16) (pc' := 4) D278_3 rfl sc_52 (by decide) rfl H.1 ?_
  refine s_blx (lv' := [(3, vI 16), (2, vI 0), (0, vR 52), (1, vI val)]) (st' := []) B278_4_5 rfl ?_
  refine r_loc (lv' := [(0, vR 52), (1, vI val), (2, vI 0), (3, vI 16)]) ⟨rfl, rfl, rfl, rfl, trivial⟩ rfl rfl ?_
  exact (L_k278_52 E hd H val h0 (((16 - 0) * 1 + 0 : Int) + 1).toNat) 0 16 M H f0 (by omega) (by omega) (by omega) (by omega) (by omega)
set_option maxRecDepth 4000 in
theorem L_k278_74 {base : Nat} {X : Nat → Option mC} {G : Nat → Value} (E : EnvOK base X G) {d : Nat} (hd : 0 ≤ d) {M : mH} (H : HI base M) (val : Int) (h0 : 0 ≤ val ∧ val ≤ 0) : ∀ mz : Nat, (∀ (x2 x3 : Int) (N : mH), HI base N → Fr [(74, 0)] M N → (0 ≤ x2) → (x2 ≤ 241) → (241 ≤ x3) → (x3 ≤ 241) → (241 - x2) * 1 + 0 < (mz : Int) → sRn base X G d T278 5 [(0, vR 74), (1, vI val), (2, vI x2), (3, vI x3)] [] N (s_Q base (pV (fun M' => HI base M' ∧ Fr [(74, 0)] M M')))) := by
  have f0 : Fr [(74, 0)] M M := Fr.rf
  intro mz
  induction mz with
  | zero => exact fun x2 x3 N _ _ z0 z1 z2 z3 z4 => by omega
  | succ mz ih =>
    intro x2 x3 N HN fN i0 i1 i2 i3 hmu
    refine s_blx (lv' := [(0, vR 74), (1, vI val), (2, vI x2), (3, vI x3)]) (st' := [vI x3, vI x2]) B278_5_7 rfl ?_
    refine r_icmp (tgt := 20) (pc' := 10) D278_7 rfl rfl (by unfold inR; omega) (fun (c1 : x3 ≤ x2) => ?_) (fun (c1 : ¬ (x3 ≤ x2)) => ?_)
    · exact r_retV D278_20 rfl (⟨HN, fN⟩)
    · refine s_blx (lv' := [(0, vR 74), (1, vI val), (2, vI x2), (3, vI x3)]) (st' := [vI val, vI x2, vR 74]) B278_10_13 rfl ?_
      refine r_iast (pc' := 14) D278_13 rfl sc_74 HN (by omega) (by unfold inR; omega) trivial ?_
      intro M2 u3 H4 p5
      have f6 := fN.wr u3 rfl
      refine s_blx (lv' := [(2, vI (x2 + 1)), (0, vR 74), (1, vI val), (3, vI x3)]) (st' := []) B278_14_17 rfl ?_
      refine r_goto (tgt := 5) D278_17 rfl ?_
      refine r_loc (lv' := [(0, vR 74), (1, vI val), (2, vI (x2 + 1)), (3, vI x3)]) ⟨rfl, rfl, rfl, rfl, trivial⟩ rfl rfl ?_
      exact ih (x2 + 1) x3 M2 H4 f6 (by omega) (by omega) (by omega) (by omega) (by omega)
set_option maxRecDepth 4000 in
theorem k278_74 {base : Nat} {X : Nat → Option mC} {G : Nat → Value} (E : EnvOK base X G) {d : Nat} (hd : 0 ≤ d) {M : mH} (H : HI base M) (val : Int) (h0 : 0 ≤ val ∧ val ≤ 0) : sOk base X G d T278 [vR 74, vI val] M (pV (fun M' => HI base M' ∧ Fr [(74, 0)] M M')) := by
  have f0 : Fr [(74, 0)] M M := Fr.rf
  refine sOk.of (show sRn base X G d T278 0 [(0, vR 74), (1, vI val)] [] M _ from ?_)
  refine s_blx (lv' := [(2, vI 0), (0, vR 74), (1, vI val)]) (st' := [vR 74]) B278_0_3 rfl ?_
  refine r_len (ni := 241) (pc' := 4) D278_3 rfl sc_74 (by decide) rfl H.1 ?_
  refine s_blx (lv' := [(3, vI 241), (2, vI 0), (0, vR 74), (1, vI val)]) (st' := []) B278_4_5 rfl ?_
  refine r_loc (lv' := [(0, vR 74), (1, vI val), (2, vI 0), (3, vI 241)]) ⟨rfl, rfl, rfl, rfl, trivial⟩ rfl rfl ?_
  exact (L_k278_74 E hd H val h0 (((241 - 0) * 1 + 0 : Int) + 1).toNat) 0 241 M H f0 (by omega) (by omega) (by omega) (by omega) (by omega)
set_option maxRecDepth 4000 in
theorem L_k278_75 {base : Nat} {X : Nat → Option mC} {G : Nat → Value} (E : EnvOK base X G) {d : Nat} (hd : 0 ≤ d) {M : mH} (H : HI base M) (val : Int) (h0 : 0 ≤ val ∧ val ≤ 0) : ∀ mz : Nat, (∀ (x2 x3 : Int) (N : mH), HI base N → Fr [(75, 0)] M N → (0 ≤ x2) → (x2 ≤ 241) → (241 ≤ x3) → (x3 ≤ 241) → (241 - x2) * 1 + 0 < (mz : Int) → sRn base X G d T278 5 [(0, vR 75), (1, vI val), (2, vI x2), (3, vI x3)] [] N (s_Q base (pV (fun M' => HI base M' ∧ Fr [(75, 0)] M M')))) := by
  have f0 : Fr [(75, 0)] M M := Fr.rf
  intro mz
  induction mz with
  | zero => exact fun x2 x3 N _ _ z0 z1 z2 z3 z4 => by omega
  | succ mz ih =>
    intro x2 x3 N HN fN i0 i1 i2 i3 hmu
    refine s_blx (lv' := [(0, vR 75), (1, vI val), (2, vI x2), (3, vI x3)]) (st' := [vI x3, vI x2]) B278_5_7 rfl ?_
    refine r_icmp (tgt := 20) (pc' := 10) D278_7 rfl rfl (by unfold inR; omega) (fun (c1 : x3 ≤ x2) => ?_) (fun (c1 : ¬ (x3 ≤ x2)) => ?_)
    · exact r_retV D278_20 rfl (⟨HN, fN⟩)
    · refine s_blx (lv' := [(0, vR 75), (1, vI val), (2, vI x2), (3, vI x3)]) (st' := [vI val, vI x2, vR 75]) B278_10_13 rfl ?_
      refine r_iast (pc' := 14) D278_13 rfl sc_75 HN (by omega) (by unfold inR; omega) trivial ?_
      intro M2 u3 H4 p5
      have f6 := fN.wr u3 rfl
      refine s_blx (lv' := [(2, vI (x2 + 1)), (0, vR 75), (1, vI val), (3, vI x3)]) (st' := []) B278_14_17 rfl ?_
      refine r_goto (tgt := 5) D278_17 rfl ?_
      refine r_loc (lv' := [(0, vR 75), (1, vI val), (2, vI (x2 + 1)), (3, vI x3)]) ⟨rfl, rfl, rfl, rfl, trivial⟩ rfl rfl ?_
      exact ih (x2 + 1) x3 M2 H4 f6 (by omega) (by omega) (by omega) (by omega) (by omega)
set_option maxRecDepth 4000 in
theorem k278_75 {base : Nat} {X : Nat → Option mC} {G : Nat → Value} (E : EnvOK base X G) {d : Nat} (hd : 0 ≤ d) {M : mH} (H : HI base M) (val : Int) (h0 : 0 ≤ val ∧ val ≤ 0) : sOk base X G d T278 [vR 75, vI val] M (pV (fun M' => HI base M' ∧ Fr [(75, 0)] M M')) := by
  have f0 : Fr [(75, 0)] M M := Fr.rf
  refine sOk.of (show sRn base X G d T278 0 [(0, vR 75), (1, vI val)] [] M _ from ?_)
  refine s_blx (lv' := [(2, vI 0), (0, vR 75), (1, vI val)]) (st' := [vR 75]) B278_0_3 rfl ?_
  refine r_len (ni := 241) (pc' := 4) D278_3 rfl sc_75 (by decide) rfl H.1 ?_
  refine s_blx (lv' := [(3, vI 241), (2, vI 0), (0, vR 75), (1, vI val)]) (st' := []) B278_4_5 rfl ?_
  refine r_loc (lv' := [(0, vR 75), (1, vI val), (2, vI 0), (3, vI 241)]) ⟨rfl, rfl, rfl, rfl, trivial⟩ rfl rfl ?_
  exact (L_k278_75 E hd H val h0 (((241 - 0) * 1 + 0 : Int) + 1).toNat) 0 241 M H f0 (by omega) (by omega) (by omega) (by omega) (by omega)
set_option maxRecDepth 4000 in
theorem L_k75_1_35 {base : Nat} {X : Nat → Option mC} {G : Nat → Value} (E : EnvOK base X G) {d : Nat} (hd : 1 ≤ d) {M : mH} (H : HI base M) (bits : Int) (slot : Int) (h0 : -2147483648 ≤ bits ∧ bits ≤ 2147483647) (h1 : 0 ≤ slot ∧ slot ≤ 2) : ∀ mz : Nat, (∀ (x4 : Int) (N : mH), HI base N → Fr [(35, 0)] M N → (0 ≤ x4) → (x4 ≤ 16) → (16 - x4) * 1 + 0 < (mz : Int) → sRn base X G d T75 8 [(0, vR 1), (1, vI bits), (2, vI slot), (3, vR 35), (4, vI x4)] [] N (s_Q base (pV (fun M' => HI base M' ∧ Fr [(35, 0)] M M')))) := by
  have f0 : Fr [(35, 0)] M M := Fr.rf
  intro mz
  induction mz with
  | zero => exact fun x4 N _ _ z0 z1 z2 => by omega
  | succ mz ih =>
    intro x4 N HN fN i0 i1 hmu
    refine s_blx (lv' := [(0, vR 1), (1, vI bits), (2, vI slot), (3, vR 35), (4, vI x4)]) (st' := [vR 1, vI x4]) B75_8_11 rfl ?_
    refine r_gint (ki := 10) (pc' := 14) D75_11 rfl gf_8_43_1 rfl HN.1 ?_
    intro w7 e8 r9
    have b_w7 := HN.2 1 (10) 0 16 rfl
    rw [← e8] at b_w7; clear r9
    refine r_icmp (tgt := 63) (pc' := 17) D75_14 rfl rfl (by unfold inR; omega) (fun (c10 : w7 ≤ x4) => ?_) (fun (c10 : ¬ (w7 ≤ x4)) => ?_)
    · exact r_retV D75_63 rfl (⟨HN, fN⟩)
    · refine s_blx (lv' := [(0, vR 1), (1, vI bits), (2, vI slot), (3, vR 35), (4, vI x4)]) (st' := [vI x4, vI bits]) B75_17_20 rfl ?_
      refine r_bin (pc' := 21) D75_20 rfl rfl ?_
      intro z11 r12 _; unfold inR at r12
      refine s_blx (lv' := [(0, vR 1), (1, vI bits), (2, vI slot), (3, vR 35), (4, vI x4)]) (st' := [vI 1, vI z11]) B75_21_22 rfl ?_
      refine r_and1 (pc' := 23) D75_22 rfl ?_
      refine s_blx (lv' := [(0, vR 1), (1, vI bits), (2, vI slot), (3, vR 35), (4, vI x4)]) (st' := [vI 1, vI (z11 % 2)]) B75_23_24 rfl ?_
      refine r_icmp (tgt := 57) (pc' := 27) D75_24 rfl rfl (by unfold inR; omega) (fun (c13 : (z11 % 2) ≠ 1) => ?_) (fun (c13 : ¬ ((z11 % 2) ≠ 1)) => ?_)
      · refine s_blx (lv' := [(4, vI (x4 + 1)), (0, vR 1), (1, vI bits), (2, vI slot), (3, vR 35)]) (st' := []) B75_57_60 rfl ?_
        refine r_goto (tgt := 8) D75_60 rfl ?_
        refine r_loc (lv' := [(0, vR 1), (1, vI bits), (2, vI slot), (3, vR 35), (4, vI (x4 + 1))]) ⟨rfl, rfl, rfl, rfl, rfl, trivial⟩ rfl rfl ?_
        exact ih (x4 + 1) N HN fN (by omega) (by omega) (by omega)
      · refine s_blx (lv' := [(0, vR 1), (1, vI bits), (2, vI slot), (3, vR 35), (4, vI x4)]) (st' := [vR 1, vR 35]) B75_27_29 rfl ?_
        refine r_gfix (r := 7) (pc' := 32) D75_29 rfl gf_8_37_1 HN.1 ?_
        refine s_blx (lv' := [(0, vR 1), (1, vI bits), (2, vI slot), (3, vR 35), (4, vI x4)]) (st' := [vI ((x4 * 3) + slot), vR 7, vR 35]) B75_32_38 rfl ?_
        refine r_iald (pc' := 39) D75_38 rfl sc_7 HN.1 (by omega) ?_
        intro w14 e15 r16
        have b_w14 := HN.2 7 ((x4 * 3) + slot) 0 7 rfl
        rw [← e15] at b_w14; clear r16
        refine s_blx (lv' := [(0, vR 1), (1, vI bits), (2, vI slot), (3, vR 35), (4, vI x4)]) (st' := [vI w14, vR 35, vI w14, vR 35]) B75_39_40 rfl ?_
        refine r_iald (pc' := 41) D75_40 rfl sc_35 HN.1 (by omega) ?_
        intro w17 e18 r19
        unfold inR at r19
        refine s_blx (lv' := [(0, vR 1), (1, vI bits), (2, vI slot), (3, vR 35), (4, vI x4)]) (st' := [vR 1, vI w17, vI w14, vR 35]) B75_41_42 rfl ?_
        refine r_gfix (r := 8) (pc' := 45) D75_42 rfl gf_8_40_1 HN.1 ?_
        refine s_blx (lv' := [(0, vR 1), (1, vI bits), (2, vI slot), (3, vR 35), (4, vI x4)]) (st' := [vR 1, vI (x4 * 4), vR 8, vI w17, vI w14, vR 35]) B75_45_50 rfl ?_
        refine r_gint (ki := 5) (pc' := 53) D75_50 rfl gf_8_28_1 rfl HN.1 ?_
        intro w20 e21 r22
        have b_w20 := HN.2 1 (5) 0 3 rfl
        rw [← e21] at b_w20; clear r22
        refine s_blx (lv' := [(0, vR 1), (1, vI bits), (2, vI slot), (3, vR 35), (4, vI x4)]) (st' := [vI ((x4 * 4) + w20), vR 8, vI w17, vI w14, vR 35]) B75_53_54 rfl ?_
        refine r_iald (pc' := 55) D75_54 rfl sc_8 HN.1 (by omega) ?_
        intro w23 e24 r25
        have b_w23 := HN.2 8 ((x4 * 4) + w20) 0 100 rfl
        rw [← e24] at b_w23; clear r25
        refine s_blx (lv' := [(0, vR 1), (1, vI bits), (2, vI slot), (3, vR 35), (4, vI x4)]) (st' := [vI (w17 + w23), vI w14, vR 35]) B75_55_56 rfl ?_
        refine r_norm ?_
        intro z26 r27 _; unfold inR at r27
        refine r_iast (pc' := 57) D75_56 rfl sc_35 HN (by omega) (by unfold inR; omega) trivial ?_
        intro M28 u29 H30 p31
        have f32 := fN.wr u29 rfl
        refine s_blx (lv' := [(4, vI (x4 + 1)), (0, vR 1), (1, vI bits), (2, vI slot), (3, vR 35)]) (st' := []) B75_57_60 rfl ?_
        refine r_goto (tgt := 8) D75_60 rfl ?_
        refine r_loc (lv' := [(0, vR 1), (1, vI bits), (2, vI slot), (3, vR 35), (4, vI (x4 + 1))]) ⟨rfl, rfl, rfl, rfl, rfl, trivial⟩ rfl rfl ?_
        exact ih (x4 + 1) M28 H30 f32 (by omega) (by omega) (by omega)
set_option maxRecDepth 4000 in
theorem k75_1_35 {base : Nat} {X : Nat → Option mC} {G : Nat → Value} (E : EnvOK base X G) {d : Nat} (hd : 1 ≤ d) {M : mH} (H : HI base M) (bits : Int) (slot : Int) (h0 : -2147483648 ≤ bits ∧ bits ≤ 2147483647) (h1 : 0 ≤ slot ∧ slot ≤ 2) : sOk base X G d T75 [vR 1, vI bits, vI slot, vR 35] M (pV (fun M' => HI base M' ∧ Fr [(35, 0)] M M')) := by
  have f0 : Fr [(35, 0)] M M := Fr.rf
  refine sOk.of (show sRn base X G d T75 0 [(0, vR 1), (1, vI bits), (2, vI slot), (3, vR 35)] [] M _ from ?_)
  refine s_blx (lv' := [(0, vR 1), (1, vI bits), (2, vI slot), (3, vR 35)]) (st' := [vI 0, vR 35]) B75_0_2 rfl ?_
  refine r_sV (args := [vR 35, vI 0]) (rest := []) (pc' := 5) D75_2 rfl ck_8_static_92 TE278 rfl (Nat.le_of_ble_eq_true rfl) ⟨Nat.le_of_ble_eq_true rfl, Nat.le_of_ble_eq_true rfl⟩ (by decide) (dp_0 hd rfl) (k278_35 E (dp_n hd rfl) H 0 (by omega)) ?_
  intro M2 q5
  obtain ⟨H3, f4⟩ := q5
  have f6 := f0.tr (f4.up rfl)
  refine s_blx (lv' := [(4, vI 0), (0, vR 1), (1, vI bits), (2, vI slot), (3, vR 35)]) (st' := []) B75_5_8 rfl ?_
  refine r_loc (lv' := [(0, vR 1), (1, vI bits), (2, vI slot), (3, vR 35), (4, vI 0)]) ⟨rfl, rfl, rfl, rfl, rfl, trivial⟩ rfl rfl ?_
  exact (L_k75_1_35 E hd H bits slot h0 h1 (((16 - 0) * 1 + 0 : Int) + 1).toNat) 0 M2 H3 f6 (by omega) (by omega) (by omega)
set_option maxRecDepth 4000 in
theorem L_k75_1_54 {base : Nat} {X : Nat → Option mC} {G : Nat → Value} (E : EnvOK base X G) {d : Nat} (hd : 1 ≤ d) {M : mH} (H : HI base M) (bits : Int) (slot : Int) (h0 : -2147483648 ≤ bits ∧ bits ≤ 2147483647) (h1 : 0 ≤ slot ∧ slot ≤ 2) : ∀ mz : Nat, (∀ (x4 : Int) (N : mH), HI base N → Fr [(54, 0)] M N → (0 ≤ x4) → (x4 ≤ 16) → (16 - x4) * 1 + 0 < (mz : Int) → sRn base X G d T75 8 [(0, vR 1), (1, vI bits), (2, vI slot), (3, vR 54), (4, vI x4)] [] N (s_Q base (pV (fun M' => HI base M' ∧ Fr [(54, 0)] M M')))) := by
  have f0 : Fr [(54, 0)] M M := Fr.rf
  intro mz
  induction mz with
  | zero => exact fun x4 N _ _ z0 z1 z2 => by omega
  | succ mz ih =>
    intro x4 N HN fN i0 i1 hmu
    refine s_blx (lv' := [(0, vR 1), (1, vI bits), (2, vI slot), (3, vR 54), (4, vI x4)]) (st' := [vR 1, vI x4]) B75_8_11 rfl ?_
    refine r_gint (ki := 10) (pc' := 14) D75_11 rfl gf_8_43_1 rfl HN.1 ?_
    intro w7 e8 r9
    have b_w7 := HN.2 1 (10) 0 16 rfl
    rw [← e8] at b_w7; clear r9
    refine r_icmp (tgt := 63) (pc' := 17) D75_14 rfl rfl (by unfold inR; omega) (fun (c10 : w7 ≤ x4) => ?_) (fun (c10 : ¬ (w7 ≤ x4)) => ?_)
    · exact r_retV D75_63 rfl (⟨HN, fN⟩)
    · refine s_blx (lv' := [(0, vR 1), (1, vI bits), (2, vI slot), (3, vR 54), (4, vI x4)]) (st' := [vI x4, vI bits]) B75_17_20 rfl ?_
      refine r_bin (pc' := 21) D75_20 rfl rfl ?_
      intro z11 r12 _; unfold inR at r12
      refine s_blx (lv' := [(0, vR 1), (1, vI bits), (2, vI slot), (3, vR 54), (4, vI x4)]) (st' := [vI 1, vI z11]) B75_21_22 rfl ?_
      refine r_and1 (pc' := 23) D75_22 rfl ?_
      refine s_blx (lv' := [(0, vR 1), (1, vI bits), (2, vI slot), (3, vR 54), (4, vI x4)]) (st' := [vI 1, vI (z11 % 2)]) B75_23_24 rfl ?_
      refine r_icmp (tgt := 57) (pc' := 27) D75_24 rfl rfl (by unfold inR; omega) (fun (c13 : (z11 % 2) ≠ 1) => ?_) (fun (c13 : ¬ ((z11 % 2) ≠ 1)) => ?_)
      · refine s_blx (lv' := [(4, vI (x4 + 1)), (0, vR 1), (1, vI bits), (2, vI slot), (3, vR 54)]) (st' := []) B75_57_60 rfl ?_
        refine r_goto (tgt := 8) D75_60 rfl ?_
        refine r_loc (lv' := [(0, vR 1), (1, vI bits), (2, vI slot), (3, vR 54), (4, vI (x4 + 1))]) ⟨rfl, rfl, rfl, rfl, rfl, trivial⟩ rfl rfl ?_
        exact ih (x4 + 1) N HN fN (by omega) (by omega) (by omega)
      · refine s_blx (lv' := [(0, vR 1), (1, vI bits), (2, vI slot), (3, vR 54), (4, vI x4)]) (st' := [vR 1, vR 54]) B75_27_29 rfl ?_
        refine r_gfix (r := 7) (pc' := 32) D75_29 rfl gf_8_37_1 HN.1 ?_
        refine s_blx (lv' := [(0, vR 1), (1, vI bits), (2, vI slot), (3, vR 54), (4, vI x4)]) (st' := [vI ((x4 * 3) + slot), vR 7, vR 54]) B75_32_38 rfl ?_
        refine r_iald (pc' := 39) D75_38 rfl sc_7 HN.1 (by omega) ?_
        intro w14 e15 r16
        have b_w14 := HN.2 7 ((x4 * 3) + slot) 0 7 rfl
        rw [← e15] at b_w14; clear r16
        refine s_blx (lv' := [(0, vR 1), (1, vI bits), (2, vI slot), (3, vR 54), (4, vI x4)]) (st' := [vI w14, vR 54, vI w14, vR 54]) B75_39_40 rfl ?_
        refine r_iald (pc' := 41) D75_40 rfl sc_54 HN.1 (by omega) ?_
        intro w17 e18 r19
        unfold inR at r19
        refine s_blx (lv' := [(0, vR 1), (1, vI bits), (2, vI slot), (3, vR 54), (4, vI x4)]) (st' := [vR 1, vI w17, vI w14, vR 54]) B75_41_42 rfl ?_
        refine r_gfix (r := 8) (pc' := 45) D75_42 rfl gf_8_40_1 HN.1 ?_
        refine s_blx (lv' := [(0, vR 1), (1, vI bits), (2, vI slot), (3, vR 54), (4, vI x4)]) (st' := [vR 1, vI (x4 * 4), vR 8, vI w17, vI w14, vR 54]) B75_45_50 rfl ?_
        refine r_gint (ki := 5) (pc' := 53) D75_50 rfl gf_8_28_1 rfl HN.1 ?_
        intro w20 e21 r22
        have b_w20 := HN.2 1 (5) 0 3 rfl
        rw [← e21] at b_w20; clear r22
        refine s_blx (lv' := [(0, vR 1), (1, vI bits), (2, vI slot), (3, vR 54), (4, vI x4)]) (st' := [vI ((x4 * 4) + w20), vR 8, vI w17, vI w14, vR 54]) B75_53_54 rfl ?_
        refine r_iald (pc' := 55) D75_54 rfl sc_8 HN.1 (by omega) ?_
        intro w23 e24 r25
        have b_w23 := HN.2 8 ((x4 * 4) + w20) 0 100 rfl
        rw [← e24] at b_w23; clear r25
        refine s_blx (lv' := [(0, vR 1), (1, vI bits), (2, vI slot), (3, vR 54), (4, vI x4)]) (st' := [vI (w17 + w23), vI w14, vR 54]) B75_55_56 rfl ?_
        refine r_norm ?_
        intro z26 r27 _; unfold inR at r27
        refine r_iast (pc' := 57) D75_56 rfl sc_54 HN (by omega) (by unfold inR; omega) trivial ?_
        intro M28 u29 H30 p31
        have f32 := fN.wr u29 rfl
        refine s_blx (lv' := [(4, vI (x4 + 1)), (0, vR 1), (1, vI bits), (2, vI slot), (3, vR 54)]) (st' := []) B75_57_60 rfl ?_
        refine r_goto (tgt := 8) D75_60 rfl ?_
        refine r_loc (lv' := [(0, vR 1), (1, vI bits), (2, vI slot), (3, vR 54), (4, vI (x4 + 1))]) ⟨rfl, rfl, rfl, rfl, rfl, trivial⟩ rfl rfl ?_
        exact ih (x4 + 1) M28 H30 f32 (by omega) (by omega) (by omega)
set_option maxRecDepth 4000 in
theorem k75_1_54 {base : Nat} {X : Nat → Option mC} {G : Nat → Value} (E : EnvOK base X G) {d : Nat} (hd : 1 ≤ d) {M : mH} (H : HI base M) (bits : Int) (slot : Int) (h0 : -2147483648 ≤ bits ∧ bits ≤ 2147483647) (h1 : 0 ≤ slot ∧ slot ≤ 2) : sOk base X G d T75 [vR 1, vI bits, vI slot, vR 54] M (pV (fun M' => HI base M' ∧ Fr [(54, 0)] M M')) := by
  have f0 : Fr [(54, 0)] M M := Fr.rf
  refine sOk.of (show sRn base X G d T75 0 [(0, vR 1), (1, vI bits), (2, vI slot), (3, vR 54)] [] M _ from ?_)
  refine s_blx (lv' := [(0, vR 1), (1, vI bits), (2, vI slot), (3, vR 54)]) (st' := [vI 0, vR 54]) B75_0_2 rfl ?_
  refine r_sV (args := [vR 54, vI 0]) (rest := []) (pc' := 5) D75_2 rfl ck_8_static_92 TE278 rfl (Nat.le_of_ble_eq_true rfl) ⟨Nat.le_of_ble_eq_true rfl, Nat.le_of_ble_eq_true rfl⟩ (by decide) (dp_0 hd rfl) (k278_54 E (dp_n hd rfl) H 0 (by omega)) ?_
  intro M2 q5
  obtain ⟨H3, f4⟩ := q5
  have f6 := f0.tr (f4.up rfl)
  refine s_blx (lv' := [(4, vI 0), (0, vR 1), (1, vI bits), (2, vI slot), (3, vR 54)]) (st' := []) B75_5_8 rfl ?_
  refine r_loc (lv' := [(0, vR 1), (1, vI bits), (2, vI slot), (3, vR 54), (4, vI 0)]) ⟨rfl, rfl, rfl, rfl, rfl, trivial⟩ rfl rfl ?_
  exact (L_k75_1_54 E hd H bits slot h0 h1 (((16 - 0) * 1 + 0 : Int) + 1).toNat) 0 M2 H3 f6 (by omega) (by omega) (by omega)
set_option maxRecDepth 4000 in
theorem L_k14 {base : Nat} {X : Nat → Option mC} {G : Nat → Value} (E : EnvOK base X G) {d : Nat} (hd : 1 ≤ d) {M : mH} (H : HI base M) (word : Int) (h0 : 0 ≤ word ∧ word ≤ 29) : ∀ mz : Nat, (∀ (x2 x3 : Int), (0 ≤ x3) → (x3 ≤ 16) → (16 - x3) * 1 + 0 < (mz : Int) → sRn base X G d T14 4 [(0, vR 1), (1, vI word), (2, vI x2), (3, vI x3)] [] M (s_Q base (pI (fun v M' => M' = M ∧ (-2147483648 ≤ v ∧ v ≤ 2147483647))))) := by
  intro mz
  induction mz with
  | zero => exact fun x2 x3 z0 z1 z2 => by omega
  | succ mz ih =>
    intro x2 x3 i0 i1 hmu
    refine s_blx (lv' := [(0, vR 1), (1, vI word), (2, vI x2), (3, vI x3)]) (st' := [vR 1, vI x3]) B14_4_6 rfl ?_
    refine r_gint (ki := 10) (pc' := 9) D14_6 rfl gf_2_33_1 rfl H.1 ?_
    intro w1 e2 r3
    have b_w1 := H.2 1 (10) 0 16 rfl
    rw [← e2] at b_w1; clear r3
    refine r_icmp (tgt := 35) (pc' := 12) D14_9 rfl rfl (by unfold inR; omega) (fun (c4 : w1 ≤ x3) => ?_) (fun (c4 : ¬ (w1 ≤ x3)) => ?_)
    · refine s_blx (lv' := [(0, vR 1), (1, vI word), (2, vI x2), (3, vI x3)]) (st' := [vR 1, vI x2]) B14_35_37 rfl ?_
      refine r_gfix (r := 2) (pc' := 40) D14_37 rfl gf_2_24_1 H.1 ?_
      refine s_blx (lv' := [(0, vR 1), (1, vI word), (2, vI x2), (3, vI x3)]) (st' := [vI (60 + word), vR 2, vI x2]) B14_40_44 rfl ?_
      refine r_iald (pc' := 45) D14_44 rfl sc_2 H.1 (by omega) ?_
      intro w5 e6 r7
      have b_w5 := H.2 2 (60 + word) 0 60 rfl
      rw [← e6] at b_w5; clear r7
      refine s_blx (lv' := [(0, vR 1), (1, vI word), (2, vI x2), (3, vI x3)]) (st' := [vI (x2 * w5)]) B14_45_46 rfl ?_
      refine r_norm ?_
      intro z8 r9 _; unfold inR at r9
      exact r_iretI D14_46 rfl (⟨rfl, by omega⟩)
    · refine s_blx (lv' := [(0, vR 1), (1, vI word), (2, vI x2), (3, vI x3)]) (st' := [vI x3, vI 1, vR 1, vI x2]) B14_12_16 rfl ?_
      refine r_bin (pc' := 17) D14_16 rfl rfl ?_
      intro z10 r11 _; unfold inR at r11
      refine r_vIp (c := 1) (args := [vI z10]) (rest := [vI x2]) (pc' := 20) D14_17 rfl ck_2_virtual_37 TE76 rfl (Nat.le_of_ble_eq_true rfl) ⟨Nat.le_of_ble_eq_true rfl, Nat.le_of_ble_eq_true rfl⟩ sc_1 ⟨rfl, by decide⟩ H.1 (dp_0 hd rfl) (k76_1 E (dp_n hd rfl) H z10 (by omega)) ?_
      intro v12 q15
      have q14 := q15; clear q15
      refine s_blx (lv' := [(0, vR 1), (1, vI word), (2, vI x2), (3, vI x3)]) (st' := [vI word, vI x3, vR 1, vI v12, vI x2]) B14_20_23 rfl ?_
      refine r_vIp (c := 1) (args := [vI x3, vI word]) (rest := [vI v12, vI x2]) (pc' := 26) D14_23 rfl ck_2_virtual_41 TE69 rfl (Nat.le_of_ble_eq_true rfl) ⟨Nat.le_of_ble_eq_true rfl, Nat.le_of_ble_eq_true rfl⟩ sc_1 ⟨rfl, by decide⟩ H.1 (dp_0 hd rfl) (k69_1 E (dp_n hd rfl) H x3 word (by omega) (by omega)) ?_
      intro v16 q19
      have q18 := q19; clear q19
      refine s_blx (lv' := [(3, vI (x3 + 1)), (2, vI (x2 + (v12 * v16))), (0, vR 1), (1, vI word)]) (st' := []) B14_26_32 rfl ?_
      refine r_goto (tgt := 4) D14_32 rfl ?_
      refine r_loc (lv' := [(0, vR 1), (1, vI word), (2, vI (x2 + (v12 * v16))), (3, vI (x3 + 1))]) ⟨rfl, rfl, rfl, rfl, trivial⟩ rfl rfl ?_
      exact ih (x2 + (v12 * v16)) (x3 + 1) (by omega) (by omega) (by omega)
set_option maxRecDepth 4000 in
theorem k14 {base : Nat} {X : Nat → Option mC} {G : Nat → Value} (E : EnvOK base X G) {d : Nat} (hd : 1 ≤ d) {M : mH} (H : HI base M) (word : Int) (h0 : 0 ≤ word ∧ word ≤ 29) : sOk base X G d T14 [vR 1, vI word] M (pI (fun v M' => M' = M ∧ (-2147483648 ≤ v ∧ v ≤ 2147483647))) := by
  refine sOk.of (show sRn base X G d T14 0 [(0, vR 1), (1, vI word)] [] M _ from ?_)
  refine s_blx (lv' := [(3, vI 0), (2, vI 0), (0, vR 1), (1, vI word)]) (st' := []) B14_0_4 rfl ?_
  refine r_loc (lv' := [(0, vR 1), (1, vI word), (2, vI 0), (3, vI 0)]) ⟨rfl, rfl, rfl, rfl, trivial⟩ rfl rfl ?_
  exact (L_k14 E hd H word h0 (((16 - 0) * 1 + 0 : Int) + 1).toNat) 0 0 (by omega) (by omega) (by omega)
set_option maxRecDepth 4000 in
theorem L_k13_73 {base : Nat} {X : Nat → Option mC} {G : Nat → Value} (E : EnvOK base X G) {d : Nat} (hd : 2 ≤ d) {M : mH} (H : HI base M) (minutes : Int) (h0 : 0 ≤ minutes ∧ minutes ≤ 240) : ∀ mz : Nat, (∀ (x3 : Int) (N : mH), HI base N → Fr [(74, 0), (75, 0)] M N → ((-1) ≤ x3) → (x3 ≤ 29) → (x3 + 1) * 243 + 242 < (mz : Int) → sRn base X G d T13 19 [(0, vR 73), (1, vR 1), (2, vI minutes), (3, vI x3)] [] N (s_Q base (pV (fun M' => HI base M' ∧ Fr [(74, 0), (75, 0)] M M')))) ∧ (∀ (x3 x4 x5 x6 : Int) (N : mH), HI base N → Fr [(74, 0), (75, 0)] M N → (0 ≤ x3) → (x3 ≤ 29) → (0 ≤ x4) → (x4 ≤ 60) → ((-2147483648) ≤ x5) → (x5 ≤ 2147483647) → ((-1) ≤ x6) → (x6 ≤ 240) → (x3 + 1) * 243 + 0 + (x6 + 1) * 1 + 0 < (mz : Int) → sRn base X G d T13 44 [(0, vR 73), (1, vR 1), (2, vI minutes), (3, vI x3), (4, vI x4), (5, vI x5), (6, vI x6)] [] N (s_Q base (pV (fun M' => HI base M' ∧ Fr [(74, 0), (75, 0)] M M')))) := by
  have f0 : Fr [(74, 0), (75, 0)] M M := Fr.rf
  intro mz
  induction mz with
  | zero => exact ⟨fun x3 N _ _ z0 z1 z2 => by omega, fun x3 x4 x5 x6 N _ _ z0 z1 z2 z3 z4 z5 z6 z7 z8 => by omega⟩
  | succ mz ih =>
    refine ⟨?_, ?_⟩
    · intro x3 N HN fN i0 i1 hmu
      refine s_blx (lv' := [(0, vR 73), (1, vR 1), (2, vI minutes), (3, vI x3)]) (st' := [vI x3]) B13_19_20 rfl ?_
      refine r_ifc (tgt := 127) (pc' := 23) D13_20 rfl rfl (by unfold inR; omega) (fun (c13 : x3 < 0) => ?_) (fun (c13 : ¬ (x3 < 0)) => ?_)
      · exact r_retV D13_127 rfl (⟨HN, fN⟩)
      · refine s_blx (lv' := [(0, vR 73), (1, vR 1), (2, vI minutes), (3, vI x3)]) (st' := [vR 1]) B13_23_24 rfl ?_
        refine r_gfix (r := 2) (pc' := 27) D13_24 rfl gf_2_24_1 HN.1 ?_
        refine s_blx (lv' := [(0, vR 73), (1, vR 1), (2, vI minutes), (3, vI x3)]) (st' := [vI (30 + x3), vR 2]) B13_27_31 rfl ?_
        refine r_iald (pc' := 32) D13_31 rfl sc_2 HN.1 (by omega) ?_
        intro w14 e15 r16
        have b_w14 := HN.2 2 (30 + x3) 0 60 rfl
        rw [← e15] at b_w14; clear r16
        refine s_blx (lv' := [(4, vI w14), (0, vR 73), (1, vR 1), (2, vI minutes), (3, vI x3)]) (st' := [vI x3, vR 1]) B13_32_36 rfl ?_
        refine r_sIp (args := [vR 1, vI x3]) (rest := []) (pc' := 39) D13_36 rfl ck_2_static_29 TE14 rfl (Nat.le_of_ble_eq_true rfl) ⟨Nat.le_of_ble_eq_true rfl, Nat.le_of_ble_eq_true rfl⟩ (by decide) (dp_0 hd rfl) (k14 E (dp_n hd rfl) HN x3 (by omega)) ?_
        intro v17 q20
        have q19 := q20; clear q20
        refine s_blx (lv' := [(6, vI minutes), (5, vI v17), (4, vI w14), (0, vR 73), (1, vR 1), (2, vI minutes), (3, vI x3)]) (st' := []) B13_39_44 rfl ?_
        refine r_loc (lv' := [(0, vR 73), (1, vR 1), (2, vI minutes), (3, vI x3), (4, vI w14), (5, vI v17), (6, vI minutes)]) ⟨rfl, rfl, rfl, rfl, rfl, rfl, rfl, trivial⟩ rfl rfl ?_
        exact ih.2 x3 w14 v17 minutes N HN fN (by omega) (by omega) (by omega) (by omega) (by omega) (by omega) (by omega) (by omega) (by omega)
    · intro x3 x4 x5 x6 N HN fN i0 i1 i2 i3 i4 i5 i6 i7 hmu
      refine s_blx (lv' := [(0, vR 73), (1, vR 1), (2, vI minutes), (3, vI x3), (4, vI x4), (5, vI x5), (6, vI x6)]) (st' := [vI x4, vI x6]) B13_44_48 rfl ?_
      refine r_icmp (tgt := 121) (pc' := 51) D13_48 rfl rfl (by unfold inR; omega) (fun (c21 : x6 < x4) => ?_) (fun (c21 : ¬ (x6 < x4)) => ?_)
      · refine s_blx (lv' := [(3, vI (x3 + (-1))), (0, vR 73), (1, vR 1), (2, vI minutes), (4, vI x4), (5, vI x5), (6, vI x6)]) (st' := []) B13_121_124 rfl ?_
        refine r_goto (tgt := 19) D13_124 rfl ?_
        refine r_loc (lv' := [(0, vR 73), (1, vR 1), (2, vI minutes), (3, vI (x3 + (-1)))]) ⟨rfl, rfl, rfl, rfl, trivial⟩ rfl rfl ?_
        exact ih.1 (x3 + (-1)) N HN fN (by omega) (by omega) (by omega)
      · refine s_blx (lv' := [(0, vR 73), (1, vR 1), (2, vI minutes), (3, vI x3), (4, vI x4), (5, vI x5), (6, vI x6)]) (st' := [vR 73]) B13_51_52 rfl ?_
        refine r_gfix (r := 74) (pc' := 55) D13_52 rfl gf_2_9_73 HN.1 ?_
        refine s_blx (lv' := [(0, vR 73), (1, vR 1), (2, vI minutes), (3, vI x3), (4, vI x4), (5, vI x5), (6, vI x6)]) (st' := [vI (x6 - x4), vR 74]) B13_55_60 rfl ?_
        refine r_iald (pc' := 61) D13_60 rfl sc_74 HN.1 (by omega) ?_
        intro w22 e23 r24
        unfold inR at r24
        refine s_blx (lv' := [(0, vR 73), (1, vR 1), (2, vI minutes), (3, vI x3), (4, vI x4), (5, vI x5), (6, vI x6)]) (st' := [vR 73, vI (w22 + x5)]) B13_61_65 rfl ?_
        refine r_gfix (r := 74) (pc' := 68) D13_65 rfl gf_2_9_73 HN.1 ?_
        refine s_blx (lv' := [(0, vR 73), (1, vR 1), (2, vI minutes), (3, vI x3), (4, vI x4), (5, vI x5), (6, vI x6)]) (st' := [vI x6, vR 74, vI (w22 + x5)]) B13_68_70 rfl ?_
        refine r_iald (pc' := 71) D13_70 rfl sc_74 HN.1 (by omega) ?_
        intro w25 e26 r27
        unfold inR at r27
        refine r_norm2 ?_
        intro z28 r29 _; unfold inR at r29
        refine r_icmp (tgt := 115) (pc' := 74) D13_71 rfl rfl (by unfold inR; omega) (fun (c30 : z28 < w25) => ?_) (fun (c30 : ¬ (z28 < w25)) => ?_)
        · refine s_blx (lv' := [(6, vI (x6 + (-1))), (0, vR 73), (1, vR 1), (2, vI minutes), (3, vI x3), (4, vI x4), (5, vI x5)]) (st' := []) B13_115_118 rfl ?_
          refine r_goto (tgt := 44) D13_118 rfl ?_
          refine r_loc (lv' := [(0, vR 73), (1, vR 1), (2, vI minutes), (3, vI x3), (4, vI x4), (5, vI x5), (6, vI (x6 + (-1)))]) ⟨rfl, rfl, rfl, rfl, rfl, rfl, rfl, trivial⟩ rfl rfl ?_
          exact ih.2 x3 x4 x5 (x6 + (-1)) N HN fN (by omega) (by omega) (by omega) (by omega) (by omega) (by omega) (by omega) (by omega) (by omega)
        · refine s_blx (lv' := [(0, vR 73), (1, vR 1), (2, vI minutes), (3, vI x3), (4, vI x4), (5, vI x5), (6, vI x6)]) (st' := [vR 73]) B13_74_75 rfl ?_
          refine r_gfix (r := 74) (pc' := 78) D13_75 rfl gf_2_9_73 HN.1 ?_
          refine s_blx (lv' := [(0, vR 73), (1, vR 1), (2, vI minutes), (3, vI x3), (4, vI x4), (5, vI x5), (6, vI x6)]) (st' := [vR 73, vI x6, vR 74]) B13_78_81 rfl ?_
          refine r_gfix (r := 74) (pc' := 84) D13_81 rfl gf_2_9_73 HN.1 ?_
          refine s_blx (lv' := [(0, vR 73), (1, vR 1), (2, vI minutes), (3, vI x3), (4, vI x4), (5, vI x5), (6, vI x6)]) (st' := [vI (x6 - x4), vR 74, vI x6, vR 74]) B13_84_89 rfl ?_
          refine r_iald (pc' := 90) D13_89 rfl sc_74 HN.1 (by omega) ?_
          intro w31 e32 r33
          have e34 : w22 = w31 := (e32.trans (e23.symm)).symm
          subst e34
          refine s_blx (lv' := [(0, vR 73), (1, vR 1), (2, vI minutes), (3, vI x3), (4, vI x4), (5, vI x5), (6, vI x6)]) (st' := [vI (w22 + x5), vI x6, vR 74]) B13_90_93 rfl ?_
          refine r_norm ?_
          intro z35 r36 _; unfold inR at r36
          refine r_iast (pc' := 94) D13_93 rfl sc_74 HN (by omega) (by unfold inR; omega) trivial ?_
          intro M37 u38 H39 p40
          have f41 := fN.wr u38 rfl
          refine s_blx (lv' := [(0, vR 73), (1, vR 1), (2, vI minutes), (3, vI x3), (4, vI x4), (5, vI x5), (6, vI x6)]) (st' := [vR 73]) B13_94_95 rfl ?_
          refine r_gfix (r := 75) (pc' := 98) D13_95 rfl gf_2_15_73 H39.1 ?_
          refine s_blx (lv' := [(0, vR 73), (1, vR 1), (2, vI minutes), (3, vI x3), (4, vI x4), (5, vI x5), (6, vI x6)]) (st' := [vR 73, vI x6, vR 75]) B13_98_101 rfl ?_
          refine r_gfix (r := 75) (pc' := 104) D13_101 rfl gf_2_15_73 H39.1 ?_
          refine s_blx (lv' := [(0, vR 73), (1, vR 1), (2, vI minutes), (3, vI x3), (4, vI x4), (5, vI x5), (6, vI x6)]) (st' := [vI (x6 - x4), vR 75, vI x6, vR 75]) B13_104_109 rfl ?_
          refine r_iald (pc' := 110) D13_109 rfl sc_75 H39.1 (by omega) ?_
          intro w42 e43 r44
          unfold inR at r44
          refine s_blx (lv' := [(0, vR 73), (1, vR 1), (2, vI minutes), (3, vI x3), (4, vI x4), (5, vI x5), (6, vI x6)]) (st' := [vI x3, vI 1, vI w42, vI x6, vR 75]) B13_110_112 rfl ?_
          refine r_bin (pc' := 113) D13_112 rfl rfl ?_
          intro z45 r46 _; unfold inR at r46
          refine r_bin (pc' := 114) D13_113 rfl rfl ?_
          intro z47 r48 _; unfold inR at r48
          refine r_iast (pc' := 115) D13_114 rfl sc_75 H39 (by omega) (by unfold inR; omega) trivial ?_
          intro M49 u50 H51 p52
          have f53 := f41.wr u50 rfl
          refine s_blx (lv' := [(6, vI (x6 + (-1))), (0, vR 73), (1, vR 1), (2, vI minutes), (3, vI x3), (4, vI x4), (5, vI x5)]) (st' := []) B13_115_118 rfl ?_
          refine r_goto (tgt := 44) D13_118 rfl ?_
          refine r_loc (lv' := [(0, vR 73), (1, vR 1), (2, vI minutes), (3, vI x3), (4, vI x4), (5, vI x5), (6, vI (x6 + (-1)))]) ⟨rfl, rfl, rfl, rfl, rfl, rfl, rfl, trivial⟩ rfl rfl ?_
          exact ih.2 x3 x4 x5 (x6 + (-1)) M49 H51 f53 (by omega) (by omega) (by omega) (by omega) (by omega) (by omega) (by omega) (by omega) (by omega)
set_option maxRecDepth 4000 in
theorem k13_73 {base : Nat} {X : Nat → Option mC} {G : Nat → Value} (E : EnvOK base X G) {d : Nat} (hd : 2 ≤ d) {M : mH} (H : HI base M) (minutes : Int) (h0 : 0 ≤ minutes ∧ minutes ≤ 240) : sOk base X G d T13 [vR 73, vR 1, vI minutes] M (pV (fun M' => HI base M' ∧ Fr [(74, 0), (75, 0)] M M')) := by
  have f0 : Fr [(74, 0), (75, 0)] M M := Fr.rf
  refine sOk.of (show sRn base X G d T13 0 [(0, vR 73), (1, vR 1), (2, vI minutes)] [] M _ from ?_)
  refine s_blx (lv' := [(0, vR 73), (1, vR 1), (2, vI minutes)]) (st' := [vR 73]) B13_0_1 rfl ?_
  refine r_gfix (r := 74) (pc' := 4) D13_1 rfl gf_2_9_73 H.1 ?_
  refine s_blx (lv' := [(0, vR 73), (1, vR 1), (2, vI minutes)]) (st' := [vI 0, vR 74]) B13_4_5 rfl ?_
  refine r_sV (args := [vR 74, vI 0]) (rest := []) (pc' := 8) D13_5 rfl ck_2_static_18 TE278 rfl (Nat.le_of_ble_eq_true rfl) ⟨Nat.le_of_ble_eq_true rfl, Nat.le_of_ble_eq_true rfl⟩ (by decide) (dp_0 hd rfl) (k278_74 E (dp_n hd rfl) H 0 (by omega)) ?_
  intro M2 q5
  obtain ⟨H3, f4⟩ := q5
  have f6 := f0.tr (f4.up rfl)
  refine s_blx (lv' := [(0, vR 73), (1, vR 1), (2, vI minutes)]) (st' := [vR 73]) B13_8_9 rfl ?_
  refine r_gfix (r := 75) (pc' := 12) D13_9 rfl gf_2_15_73 H3.1 ?_
  refine s_blx (lv' := [(0, vR 73), (1, vR 1), (2, vI minutes)]) (st' := [vI 0, vR 75]) B13_12_13 rfl ?_
  refine r_sV (args := [vR 75, vI 0]) (rest := []) (pc' := 16) D13_13 rfl ck_2_static_18 TE278 rfl (Nat.le_of_ble_eq_true rfl) ⟨Nat.le_of_ble_eq_true rfl, Nat.le_of_ble_eq_true rfl⟩ (by decide) (dp_0 hd rfl) (k278_75 E (dp_n hd rfl) H3 0 (by omega)) ?_
  intro M8 q11
  obtain ⟨H9, f10⟩ := q11
  have f12 := f6.tr (f10.up rfl)
  refine s_blx (lv' := [(3, vI 29), (0, vR 73), (1, vR 1), (2, vI minutes)]) (st' := []) B13_16_19 rfl ?_
  refine r_loc (lv' := [(0, vR 73), (1, vR 1), (2, vI minutes), (3, vI 29)]) ⟨rfl, rfl, rfl, rfl, trivial⟩ rfl rfl ?_
  exact (L_k13_73 E hd H minutes h0 (((29 + 1) * 243 + 242 : Int) + 1).toNat).1 29 M8 H9 f12 (by omega) (by omega) (by omega)
set_option maxRecDepth 4000 in
theorem L_k41_69_11 {base : Nat} {X : Nat → Option mC} {G : Nat → Value} (E : EnvOK base X G) {d : Nat} (hd : 0 ≤ d) {M : mH} (H : HI base M) (minute : Int) (changeCost : Int) (minutes : Int) (h0 : 0 ≤ minute ∧ minute ≤ 119) (h1 : 0 ≤ changeCost ∧ changeCost ≤ 1000) (h2 : 1 ≤ minutes ∧ minutes ≤ 120) : ∀ mz : Nat, (∀ (x5 x6 : Int) (N : mH), HI base N → Fr [(71, 0), (72, 0)] M N → (0 ≤ x5) → (1 ≤ x6) → (x6 ≤ 61) → (61 - x6) * 1 + 0 < (mz : Int) → sRn base X G d T41 21 [(0, vR 69), (1, vI minute), (2, vR 11), (3, vI changeCost), (4, vI minutes), (5, vI x5), (6, vI x6)] [] N (s_Q base (pV (fun M' => HI base M' ∧ Fr [(71, 0), (72, 0)] M M')))) := by
  have f0 : Fr [(71, 0), (72, 0)] M M := Fr.rf
  intro mz
  induction mz with
  | zero => exact fun x5 x6 N _ _ z0 z1 z2 z3 => by omega
  | succ mz ih =>
    intro x5 x6 N HN fN i0 i1 i2 hmu
    refine s_blx (lv' := [(0, vR 69), (1, vI minute), (2, vR 11), (3, vI changeCost), (4, vI minutes), (5, vI x5), (6, vI x6)]) (st' := [vI 60, vI x6]) B41_21_25 rfl ?_
    refine r_icmp (tgt := 112) (pc' := 28) D41_25 rfl rfl (by unfold inR; omega) (fun (c11 : 60 < x6) => ?_) (fun (c11 : ¬ (60 < x6)) => ?_)
    · exact r_retV D41_112 rfl (⟨HN, fN⟩)
    · refine s_blx (lv' := [(0, vR 69), (1, vI minute), (2, vR 11), (3, vI changeCost), (4, vI minutes), (5, vI x5), (6, vI x6)]) (st' := [vI minutes, vI (minute + x6)]) B41_28_34 rfl ?_
      refine r_icmp (tgt := 112) (pc' := 37) D41_34 rfl rfl (by unfold inR; omega) (fun (c12 : minutes < (minute + x6)) => ?_) (fun (c12 : ¬ (minutes < (minute + x6))) => ?_)
      · exact r_retV D41_112 rfl (⟨HN, fN⟩)
      · refine s_blx (lv' := [(0, vR 69), (1, vI minute), (2, vR 11), (3, vI changeCost), (4, vI minutes), (5, vI x5), (6, vI x6)]) (st' := [vI (x6 - 1), vR 11, vI x5]) B41_37_44 rfl ?_
        refine r_iald (pc' := 45) D41_44 rfl sc_11 HN.1 (by omega) ?_
        intro w13 e14 r15
        have b_w13 := HN.2 11 (x6 - 1) 0 1000 rfl
        rw [← e14] at b_w13; clear r15
        refine s_blx (lv' := [(7, vI (minute + x6)), (5, vI (x5 + w13)), (0, vR 69), (1, vI minute), (2, vR 11), (3, vI changeCost), (4, vI minutes), (6, vI x6)]) (st' := [vI minutes, vI (minute + x6), vI (x5 + w13)]) B41_45_60 rfl ?_
        refine r_icmp (tgt := 75) (pc' := 63) D41_60 rfl rfl (by unfold inR; omega) (fun (c16 : minutes ≤ (minute + x6)) => ?_) (fun (c16 : ¬ (minutes ≤ (minute + x6))) => ?_)
        · refine s_blx (lv' := [(8, vI ((x5 + w13) + 0)), (7, vI (minute + x6)), (5, vI (x5 + w13)), (0, vR 69), (1, vI minute), (2, vR 11), (3, vI changeCost), (4, vI minutes), (6, vI x6)]) (st' := [vR 69, vI ((x5 + w13) + 0)]) B41_75_82 rfl ?_
          refine r_gfix (r := 71) (pc' := 85) D41_82 rfl gf_5_19_69 HN.1 ?_
          refine s_blx (lv' := [(8, vI ((x5 + w13) + 0)), (7, vI (minute + x6)), (5, vI (x5 + w13)), (0, vR 69), (1, vI minute), (2, vR 11), (3, vI changeCost), (4, vI minutes), (6, vI x6)]) (st' := [vI minute, vR 71, vI ((x5 + w13) + 0)]) B41_85_86 rfl ?_
          refine r_iald (pc' := 87) D41_86 rfl sc_71 HN.1 (by omega) ?_
          intro w17 e18 r19
          unfold inR at r19
          refine r_norm2 ?_
          intro z20 r21 _; unfold inR at r21
          refine r_icmp (tgt := 106) (pc' := 90) D41_87 rfl rfl (by unfold inR; omega) (fun (c22 : w17 < z20) => ?_) (fun (c22 : ¬ (w17 < z20)) => ?_)
          · refine s_blx (lv' := [(6, vI (x6 + 1)), (8, vI ((x5 + w13) + 0)), (7, vI (minute + x6)), (5, vI (x5 + w13)), (0, vR 69), (1, vI minute), (2, vR 11), (3, vI changeCost), (4, vI minutes)]) (st' := []) B41_106_109 rfl ?_
            refine r_goto (tgt := 21) D41_109 rfl ?_
            refine r_loc (lv' := [(0, vR 69), (1, vI minute), (2, vR 11), (3, vI changeCost), (4, vI minutes), (5, vI (x5 + w13)), (6, vI (x6 + 1))]) ⟨rfl, rfl, rfl, rfl, rfl, rfl, rfl, trivial⟩ rfl rfl ?_
            exact ih (x5 + w13) (x6 + 1) N HN fN (by omega) (by omega) (by omega) (by omega)
          · refine s_blx (lv' := [(8, vI ((x5 + w13) + 0)), (7, vI (minute + x6)), (5, vI (x5 + w13)), (0, vR 69), (1, vI minute), (2, vR 11), (3, vI changeCost), (4, vI minutes), (6, vI x6)]) (st' := [vR 69]) B41_90_91 rfl ?_
            refine r_gfix (r := 71) (pc' := 94) D41_91 rfl gf_5_19_69 HN.1 ?_
            refine s_blx (lv' := [(8, vI ((x5 + w13) + 0)), (7, vI (minute + x6)), (5, vI (x5 + w13)), (0, vR 69), (1, vI minute), (2, vR 11), (3, vI changeCost), (4, vI minutes), (6, vI x6)]) (st' := [vI ((x5 + w13) + 0), vI minute, vR 71]) B41_94_97 rfl ?_
            refine r_norm ?_
            intro z23 r24 _; unfold inR at r24
            refine r_iast (pc' := 98) D41_97 rfl sc_71 HN (by omega) (by unfold inR; omega) trivial ?_
            intro M25 u26 H27 p28
            have f29 := fN.wr u26 rfl
            refine s_blx (lv' := [(8, vI ((x5 + w13) + 0)), (7, vI (minute + x6)), (5, vI (x5 + w13)), (0, vR 69), (1, vI minute), (2, vR 11), (3, vI changeCost), (4, vI minutes), (6, vI x6)]) (st' := [vR 69]) B41_98_99 rfl ?_
            refine r_gfix (r := 72) (pc' := 102) D41_99 rfl gf_5_22_69 H27.1 ?_
            refine s_blx (lv' := [(8, vI ((x5 + w13) + 0)), (7, vI (minute + x6)), (5, vI (x5 + w13)), (0, vR 69), (1, vI minute), (2, vR 11), (3, vI changeCost), (4, vI minutes), (6, vI x6)]) (st' := [vI x6, vI minute, vR 72]) B41_102_105 rfl ?_
            refine r_iast (pc' := 106) D41_105 rfl sc_72 H27 (by omega) (by unfold inR; omega) (show 0 ≤ x6 ∧ x6 ≤ 60 by omega) ?_
            intro M30 u31 H32 p33
            have f34 := f29.wr u31 rfl
            refine s_blx (lv' := [(6, vI (x6 + 1)), (8, vI ((x5 + w13) + 0)), (7, vI (minute + x6)), (5, vI (x5 + w13)), (0, vR 69), (1, vI minute), (2, vR 11), (3, vI changeCost), (4, vI minutes)]) (st' := []) B41_106_109 rfl ?_
            refine r_goto (tgt := 21) D41_109 rfl ?_
            refine r_loc (lv' := [(0, vR 69), (1, vI minute), (2, vR 11), (3, vI changeCost), (4, vI minutes), (5, vI (x5 + w13)), (6, vI (x6 + 1))]) ⟨rfl, rfl, rfl, rfl, rfl, rfl, rfl, trivial⟩ rfl rfl ?_
            exact ih (x5 + w13) (x6 + 1) M30 H32 f34 (by omega) (by omega) (by omega) (by omega)
        · refine s_blx (lv' := [(7, vI (minute + x6)), (5, vI (x5 + w13)), (0, vR 69), (1, vI minute), (2, vR 11), (3, vI changeCost), (4, vI minutes), (6, vI x6)]) (st' := [vR 69, vI changeCost, vI (x5 + w13)]) B41_63_65 rfl ?_
          refine r_gfix (r := 71) (pc' := 68) D41_65 rfl gf_5_19_69 HN.1 ?_
          refine s_blx (lv' := [(7, vI (minute + x6)), (5, vI (x5 + w13)), (0, vR 69), (1, vI minute), (2, vR 11), (3, vI changeCost), (4, vI minutes), (6, vI x6)]) (st' := [vI (minute + x6), vR 71, vI changeCost, vI (x5 + w13)]) B41_68_70 rfl ?_
          refine r_iald (pc' := 71) D41_70 rfl sc_71 HN.1 (by omega) ?_
          intro w35 e36 r37
          unfold inR at r37
          refine s_blx (lv' := [(7, vI (minute + x6)), (5, vI (x5 + w13)), (0, vR 69), (1, vI minute), (2, vR 11), (3, vI changeCost), (4, vI minutes), (6, vI x6)]) (st' := [vI (changeCost + w35), vI (x5 + w13)]) B41_71_72 rfl ?_
          refine r_goto (tgt := 76) D41_72 rfl ?_
          refine s_blx (lv' := [(8, vI ((x5 + w13) + (changeCost + w35))), (7, vI (minute + x6)), (5, vI (x5 + w13)), (0, vR 69), (1, vI minute), (2, vR 11), (3, vI changeCost), (4, vI minutes), (6, vI x6)]) (st' := [vR 69, vI ((x5 + w13) + (changeCost + w35))]) B41_76_82 rfl ?_
          refine r_gfix (r := 71) (pc' := 85) D41_82 rfl gf_5_19_69 HN.1 ?_
          refine s_blx (lv' := [(8, vI ((x5 + w13) + (changeCost + w35))), (7, vI (minute + x6)), (5, vI (x5 + w13)), (0, vR 69), (1, vI minute), (2, vR 11), (3, vI changeCost), (4, vI minutes), (6, vI x6)]) (st' := [vI minute, vR 71, vI ((x5 + w13) + (changeCost + w35))]) B41_85_86 rfl ?_
          refine r_iald (pc' := 87) D41_86 rfl sc_71 HN.1 (by omega) ?_
          intro w38 e39 r40
          unfold inR at r40
          refine r_norm2 ?_
          intro z41 r42 _; unfold inR at r42
          refine r_icmp (tgt := 106) (pc' := 90) D41_87 rfl rfl (by unfold inR; omega) (fun (c43 : w38 < z41) => ?_) (fun (c43 : ¬ (w38 < z41)) => ?_)
          · refine s_blx (lv' := [(6, vI (x6 + 1)), (8, vI ((x5 + w13) + (changeCost + w35))), (7, vI (minute + x6)), (5, vI (x5 + w13)), (0, vR 69), (1, vI minute), (2, vR 11), (3, vI changeCost), (4, vI minutes)]) (st' := []) B41_106_109 rfl ?_
            refine r_goto (tgt := 21) D41_109 rfl ?_
            refine r_loc (lv' := [(0, vR 69), (1, vI minute), (2, vR 11), (3, vI changeCost), (4, vI minutes), (5, vI (x5 + w13)), (6, vI (x6 + 1))]) ⟨rfl, rfl, rfl, rfl, rfl, rfl, rfl, trivial⟩ rfl rfl ?_
            exact ih (x5 + w13) (x6 + 1) N HN fN (by omega) (by omega) (by omega) (by omega)
          · refine s_blx (lv' := [(8, vI ((x5 + w13) + (changeCost + w35))), (7, vI (minute + x6)), (5, vI (x5 + w13)), (0, vR 69), (1, vI minute), (2, vR 11), (3, vI changeCost), (4, vI minutes), (6, vI x6)]) (st' := [vR 69]) B41_90_91 rfl ?_
            refine r_gfix (r := 71) (pc' := 94) D41_91 rfl gf_5_19_69 HN.1 ?_
            refine s_blx (lv' := [(8, vI ((x5 + w13) + (changeCost + w35))), (7, vI (minute + x6)), (5, vI (x5 + w13)), (0, vR 69), (1, vI minute), (2, vR 11), (3, vI changeCost), (4, vI minutes), (6, vI x6)]) (st' := [vI ((x5 + w13) + (changeCost + w35)), vI minute, vR 71]) B41_94_97 rfl ?_
            refine r_norm ?_
            intro z44 r45 _; unfold inR at r45
            refine r_iast (pc' := 98) D41_97 rfl sc_71 HN (by omega) (by unfold inR; omega) trivial ?_
            intro M46 u47 H48 p49
            have f50 := fN.wr u47 rfl
            refine s_blx (lv' := [(8, vI ((x5 + w13) + (changeCost + w35))), (7, vI (minute + x6)), (5, vI (x5 + w13)), (0, vR 69), (1, vI minute), (2, vR 11), (3, vI changeCost), (4, vI minutes), (6, vI x6)]) (st' := [vR 69]) B41_98_99 rfl ?_
            refine r_gfix (r := 72) (pc' := 102) D41_99 rfl gf_5_22_69 H48.1 ?_
            refine s_blx (lv' := [(8, vI ((x5 + w13) + (changeCost + w35))), (7, vI (minute + x6)), (5, vI (x5 + w13)), (0, vR 69), (1, vI minute), (2, vR 11), (3, vI changeCost), (4, vI minutes), (6, vI x6)]) (st' := [vI x6, vI minute, vR 72]) B41_102_105 rfl ?_
            refine r_iast (pc' := 106) D41_105 rfl sc_72 H48 (by omega) (by unfold inR; omega) (show 0 ≤ x6 ∧ x6 ≤ 60 by omega) ?_
            intro M51 u52 H53 p54
            have f55 := f50.wr u52 rfl
            refine s_blx (lv' := [(6, vI (x6 + 1)), (8, vI ((x5 + w13) + (changeCost + w35))), (7, vI (minute + x6)), (5, vI (x5 + w13)), (0, vR 69), (1, vI minute), (2, vR 11), (3, vI changeCost), (4, vI minutes)]) (st' := []) B41_106_109 rfl ?_
            refine r_goto (tgt := 21) D41_109 rfl ?_
            refine r_loc (lv' := [(0, vR 69), (1, vI minute), (2, vR 11), (3, vI changeCost), (4, vI minutes), (5, vI (x5 + w13)), (6, vI (x6 + 1))]) ⟨rfl, rfl, rfl, rfl, rfl, rfl, rfl, trivial⟩ rfl rfl ?_
            exact ih (x5 + w13) (x6 + 1) M51 H53 f55 (by omega) (by omega) (by omega) (by omega)
set_option maxRecDepth 4000 in
theorem k41_69_11 {base : Nat} {X : Nat → Option mC} {G : Nat → Value} (E : EnvOK base X G) {d : Nat} (hd : 0 ≤ d) {M : mH} (H : HI base M) (minute : Int) (changeCost : Int) (minutes : Int) (h0 : 0 ≤ minute ∧ minute ≤ 119) (h1 : 0 ≤ changeCost ∧ changeCost ≤ 1000) (h2 : 1 ≤ minutes ∧ minutes ≤ 120) : sOk base X G d T41 [vR 69, vI minute, vR 11, vI changeCost, vI minutes] M (pV (fun M' => HI base M' ∧ Fr [(71, 0), (72, 0)] M M')) := by
  have f0 : Fr [(71, 0), (72, 0)] M M := Fr.rf
  refine sOk.of (show sRn base X G d T41 0 [(0, vR 69), (1, vI minute), (2, vR 11), (3, vI changeCost), (4, vI minutes)] [] M _ from ?_)
  refine s_blx (lv' := [(5, vI 0), (0, vR 69), (1, vI minute), (2, vR 11), (3, vI changeCost), (4, vI minutes)]) (st' := [vR 69]) B41_0_4 rfl ?_
  refine r_gfix (r := 71) (pc' := 7) D41_4 rfl gf_5_19_69 H.1 ?_
  refine s_blx (lv' := [(5, vI 0), (0, vR 69), (1, vI minute), (2, vR 11), (3, vI changeCost), (4, vI minutes)]) (st' := [vI minute, vR 71]) B41_7_8 rfl ?_
  refine r_ldc (e := 1073741824) (pc' := 10) D41_8 rfl ci_5_29 (by decide) ?_
  refine r_iast (pc' := 11) D41_10 rfl sc_71 H (by omega) (by unfold inR; omega) trivial ?_
  intro M1 u2 H3 p4
  have f5 := f0.wr u2 rfl
  refine s_blx (lv' := [(5, vI 0), (0, vR 69), (1, vI minute), (2, vR 11), (3, vI changeCost), (4, vI minutes)]) (st' := [vR 69]) B41_11_12 rfl ?_
  refine r_gfix (r := 72) (pc' := 15) D41_12 rfl gf_5_22_69 H3.1 ?_
  refine s_blx (lv' := [(5, vI 0), (0, vR 69), (1, vI minute), (2, vR 11), (3, vI changeCost), (4, vI minutes)]) (st' := [vI 1, vI minute, vR 72]) B41_15_17 rfl ?_
  refine r_iast (pc' := 18) D41_17 rfl sc_72 H3 (by omega) (by unfold inR; omega) (show 0 ≤ 1 ∧ 1 ≤ 60 by omega) ?_
  intro M6 u7 H8 p9
  have f10 := f5.wr u7 rfl
  refine s_blx (lv' := [(6, vI 1), (5, vI 0), (0, vR 69), (1, vI minute), (2, vR 11), (3, vI changeCost), (4, vI minutes)]) (st' := []) B41_18_21 rfl ?_
  refine r_loc (lv' := [(0, vR 69), (1, vI minute), (2, vR 11), (3, vI changeCost), (4, vI minutes), (5, vI 0), (6, vI 1)]) ⟨rfl, rfl, rfl, rfl, rfl, rfl, rfl, trivial⟩ rfl rfl ?_
  exact (L_k41_69_11 E hd H minute changeCost minutes h0 h1 h2 (((61 - 1) * 1 + 0 : Int) + 1).toNat) 0 1 M6 H8 f10 (by omega) (by omega) (by omega) (by omega)
set_option maxRecDepth 4000 in
theorem L_k40_69_11 {base : Nat} {X : Nat → Option mC} {G : Nat → Value} (E : EnvOK base X G) {d : Nat} (hd : 1 ≤ d) {M : mH} (H : HI base M) (changeCost : Int) (minutes : Int) (h0 : 0 ≤ changeCost ∧ changeCost ≤ 1000) (h1 : 1 ≤ minutes ∧ minutes ≤ 120) : ∀ mz : Nat, (∀ (x4 : Int) (N : mH), HI base N → Fr [(69, 2), (70, 0), (71, 0), (72, 0)] M N → ((-1) ≤ x4) → (x4 ≤ 119) → (x4 + 1) * 1 + 121 < (mz : Int) → sRn base X G d T40 12 [(0, vR 69), (1, vR 11), (2, vI changeCost), (3, vI minutes), (4, vI x4)] [] N (s_Q base (pI (fun v M' => HI base M' ∧ Fr [(69, 2), (70, 0), (71, 0), (72, 0)] M M' ∧ (-2147483648 ≤ v ∧ v ≤ 2147483647))))) ∧ (∀ (x4 x5 : Int) (N : mH), HI base N → Fr [(69, 2), (70, 0), (71, 0), (72, 0)] M N → (gi N 69 1 = x5) → (0 ≤ x4) → (x4 ≤ 179) → (0 ≤ x5) → (x5 ≤ 120) → (120 - x5) * 1 + 0 < (mz : Int) → sRn base X G d T40 48 [(0, vR 69), (3, vI minutes), (4, vI x4), (5, vI x5)] [] N (s_Q base (pI (fun v M' => HI base M' ∧ Fr [(69, 2), (70, 0), (71, 0), (72, 0)] M M' ∧ (-2147483648 ≤ v ∧ v ≤ 2147483647))))) := by
  have f0 : Fr [(69, 2), (70, 0), (71, 0), (72, 0)] M M := Fr.rf
  intro mz
  induction mz with
  | zero => exact ⟨fun x4 N _ _ z0 z1 z2 => by omega, fun x4 x5 N _ _ z0 z1 z2 z3 z4 z5 => by omega⟩
  | succ mz ih =>
    refine ⟨?_, ?_⟩
    · intro x4 N HN fN i0 i1 hmu
      refine s_blx (lv' := [(0, vR 69), (1, vR 11), (2, vI changeCost), (3, vI minutes), (4, vI x4)]) (st' := [vI x4]) B40_12_14 rfl ?_
      refine r_ifc (tgt := 32) (pc' := 17) D40_14 rfl rfl (by unfold inR; omega) (fun (c6 : x4 < 0) => ?_) (fun (c6 : ¬ (x4 < 0)) => ?_)
      · refine s_blx (lv' := [(0, vR 69), (1, vR 11), (2, vI changeCost), (3, vI minutes), (4, vI x4)]) (st' := [vI 0, vR 69]) B40_32_34 rfl ?_
        refine r_pint (ki := 1) (pc' := 37) D40_34 rfl pf_5_15_69 rfl HN (by unfold inR; omega) (show (-1) ≤ 0 ∧ 0 ≤ 120 by omega) ?_
        intro M7 u8 H9 p10
        have f11 := fN.wr u8 rfl
        refine s_blx (lv' := [(0, vR 69), (1, vR 11), (2, vI changeCost), (3, vI minutes), (4, vI x4)]) (st' := [vR 69]) B40_37_38 rfl ?_
        refine r_gfix (r := 72) (pc' := 41) D40_38 rfl gf_5_22_69 H9.1 ?_
        refine s_blx (lv' := [(0, vR 69), (1, vR 11), (2, vI changeCost), (3, vI minutes), (4, vI x4)]) (st' := [vI 0, vR 72]) B40_41_42 rfl ?_
        refine r_iald (pc' := 43) D40_42 rfl sc_72 H9.1 (by omega) ?_
        intro w12 e13 r14
        have b_w12 := H9.2 72 (0) 0 60 rfl
        rw [← e13] at b_w12; clear r14
        refine s_blx (lv' := [(5, vI 0), (4, vI w12), (0, vR 69), (1, vR 11), (2, vI changeCost), (3, vI minutes)]) (st' := []) B40_43_48 rfl ?_
        refine r_loc (lv' := [(0, vR 69), (3, vI minutes), (4, vI w12), (5, vI 0)]) ⟨rfl, rfl, rfl, rfl, trivial⟩ rfl rfl ?_
        have g15 : gi M7 69 1 = 0 := p10
        exact ih.2 w12 0 M7 H9 f11 (by omega) (by omega) (by omega) (by omega) (by omega) (by omega)
      · refine s_blx (lv' := [(0, vR 69), (1, vR 11), (2, vI changeCost), (3, vI minutes), (4, vI x4)]) (st' := [vI minutes, vI changeCost, vR 11, vI x4, vR 69]) B40_17_23 rfl ?_
        refine r_vV (c := 69) (args := [vI x4, vR 11, vI changeCost, vI minutes]) (rest := []) (pc' := 26) D40_23 rfl ck_5_virtual_25 TE41 rfl (Nat.le_of_ble_eq_true rfl) ⟨Nat.le_of_ble_eq_true rfl, Nat.le_of_ble_eq_true rfl⟩ sc_69 ⟨rfl, by decide⟩ HN.1 (dp_0 hd rfl) (k41_69_11 E (dp_n hd rfl) HN x4 changeCost minutes (by omega) (by omega) (by omega)) ?_
        intro M17 q20
        obtain ⟨H18, f19⟩ := q20
        have f21 := fN.tr (f19.up rfl)
        refine s_blx (lv' := [(4, vI (x4 + (-1))), (0, vR 69), (1, vR 11), (2, vI changeCost), (3, vI minutes)]) (st' := []) B40_26_29 rfl ?_
        refine r_goto (tgt := 12) D40_29 rfl ?_
        refine r_loc (lv' := [(0, vR 69), (1, vR 11), (2, vI changeCost), (3, vI minutes), (4, vI (x4 + (-1)))]) ⟨rfl, rfl, rfl, rfl, rfl, trivial⟩ rfl rfl ?_
        exact ih.1 (x4 + (-1)) M17 H18 f21 (by omega) (by omega) (by omega)
    · intro x4 x5 N HN fN i0 i1 i2 i3 i4 hmu
      refine s_blx (lv' := [(0, vR 69), (3, vI minutes), (4, vI x4), (5, vI x5)]) (st' := [vI 120, vI x5]) B40_48_52 rfl ?_
      refine r_icmp (tgt := 100) (pc' := 55) D40_52 rfl rfl (by unfold inR; omega) (fun (c22 : 120 ≤ x5) => ?_) (fun (c22 : ¬ (120 ≤ x5)) => ?_)
      · refine s_blx (lv' := [(0, vR 69), (3, vI minutes), (4, vI x4), (5, vI x5)]) (st' := [vR 69]) B40_100_101 rfl ?_
        refine r_gfix (r := 71) (pc' := 104) D40_101 rfl gf_5_19_69 HN.1 ?_
        refine s_blx (lv' := [(0, vR 69), (3, vI minutes), (4, vI x4), (5, vI x5)]) (st' := [vI 0, vR 71]) B40_104_105 rfl ?_
        refine r_iald (pc' := 106) D40_105 rfl sc_71 HN.1 (by omega) ?_
        intro w23 e24 r25
        unfold inR at r25
        exact r_iretI D40_106 rfl (⟨HN, fN, by omega⟩)
      · refine s_blx (lv' := [(0, vR 69), (3, vI minutes), (4, vI x4), (5, vI x5)]) (st' := [vI minutes, vI x4]) B40_55_58 rfl ?_
        refine r_icmp (tgt := 100) (pc' := 61) D40_58 rfl rfl (by unfold inR; omega) (fun (c26 : minutes ≤ x4) => ?_) (fun (c26 : ¬ (minutes ≤ x4)) => ?_)
        · refine s_blx (lv' := [(0, vR 69), (3, vI minutes), (4, vI x4), (5, vI x5)]) (st' := [vR 69]) B40_100_101 rfl ?_
          refine r_gfix (r := 71) (pc' := 104) D40_101 rfl gf_5_19_69 HN.1 ?_
          refine s_blx (lv' := [(0, vR 69), (3, vI minutes), (4, vI x4), (5, vI x5)]) (st' := [vI 0, vR 71]) B40_104_105 rfl ?_
          refine r_iald (pc' := 106) D40_105 rfl sc_71 HN.1 (by omega) ?_
          intro w27 e28 r29
          unfold inR at r29
          exact r_iretI D40_106 rfl (⟨HN, fN, by omega⟩)
        · refine s_blx (lv' := [(0, vR 69), (3, vI minutes), (4, vI x4), (5, vI x5)]) (st' := [vR 69]) B40_61_62 rfl ?_
          refine r_gfix (r := 70) (pc' := 65) D40_62 rfl gf_5_9_69 HN.1 ?_
          refine s_blx (lv' := [(0, vR 69), (3, vI minutes), (4, vI x4), (5, vI x5)]) (st' := [vR 69, vR 70]) B40_65_66 rfl ?_
          refine r_gint (ki := 1) (pc' := 69) D40_66 rfl gf_5_15_69 rfl HN.1 ?_
          intro w30 e31 r32
          have b_w30 := HN.2 69 (1) (-1) 120 rfl
          rw [← e31] at b_w30; clear r32
          refine s_blx (lv' := [(0, vR 69), (3, vI minutes), (4, vI x4), (5, vI x5)]) (st' := [vI x4, vI w30, vR 70]) B40_69_71 rfl ?_
          refine r_iast (pc' := 72) D40_71 rfl sc_70 HN (by omega) (by unfold inR; omega) trivial ?_
          intro M33 u34 H35 p36
          have f37 := fN.wr u34 rfl
          refine s_blx (lv' := [(0, vR 69), (3, vI minutes), (4, vI x4), (5, vI x5)]) (st' := [vR 69, vR 69]) B40_72_74 rfl ?_
          refine r_gint (ki := 1) (pc' := 77) D40_74 rfl gf_5_15_69 rfl H35.1 ?_
          intro w38 e39 r40
          have e41 : w30 = w38 := (e39.trans ((u34.gi_ne (by omega) (Or.inl (by decide))).trans (e31.symm))).symm
          subst e41
          refine s_blx (lv' := [(0, vR 69), (3, vI minutes), (4, vI x4), (5, vI x5)]) (st' := [vI (w30 + 1), vR 69]) B40_77_79 rfl ?_
          refine r_pint (ki := 1) (pc' := 82) D40_79 rfl pf_5_15_69 rfl H35 (by unfold inR; omega) (show (-1) ≤ (w30 + 1) ∧ (w30 + 1) ≤ 120 by omega) ?_
          intro M42 u43 H44 p45
          have f46 := f37.wr u43 rfl
          refine s_blx (lv' := [(0, vR 69), (3, vI minutes), (4, vI x4), (5, vI x5)]) (st' := [vR 69, vI x4]) B40_82_85 rfl ?_
          refine r_gfix (r := 72) (pc' := 88) D40_85 rfl gf_5_22_69 H44.1 ?_
          refine s_blx (lv' := [(0, vR 69), (3, vI minutes), (4, vI x4), (5, vI x5)]) (st' := [vI x4, vR 72, vI x4]) B40_88_90 rfl ?_
          refine r_iald (pc' := 91) D40_90 rfl sc_72 H44.1 (by omega) ?_
          intro w47 e48 r49
          have b_w47 := H44.2 72 (x4) 0 60 rfl
          rw [← e48] at b_w47; clear r49
          refine s_blx (lv' := [(5, vI (x5 + 1)), (4, vI (x4 + w47)), (0, vR 69), (3, vI minutes)]) (st' := []) B40_91_97 rfl ?_
          refine r_goto (tgt := 48) D40_97 rfl ?_
          refine r_loc (lv' := [(0, vR 69), (3, vI minutes), (4, vI (x4 + w47)), (5, vI (x5 + 1))]) ⟨rfl, rfl, rfl, rfl, trivial⟩ rfl rfl ?_
          have g50 : gi M42 69 1 = w30 + 1 := p45
          exact ih.2 (x4 + w47) (x5 + 1) M42 H44 f46 (by omega) (by omega) (by omega) (by omega) (by omega) (by omega)
set_option maxRecDepth 4000 in
theorem k40_69_11 {base : Nat} {X : Nat → Option mC} {G : Nat → Value} (E : EnvOK base X G) {d : Nat} (hd : 1 ≤ d) {M : mH} (H : HI base M) (changeCost : Int) (minutes : Int) (h0 : 0 ≤ changeCost ∧ changeCost ≤ 1000) (h1 : 1 ≤ minutes ∧ minutes ≤ 120) : sOk base X G d T40 [vR 69, vR 11, vI changeCost, vI minutes] M (pI (fun v M' => HI base M' ∧ Fr [(69, 2), (70, 0), (71, 0), (72, 0)] M M' ∧ (-2147483648 ≤ v ∧ v ≤ 2147483647))) := by
  have f0 : Fr [(69, 2), (70, 0), (71, 0), (72, 0)] M M := Fr.rf
  refine sOk.of (show sRn base X G d T40 0 [(0, vR 69), (1, vR 11), (2, vI changeCost), (3, vI minutes)] [] M _ from ?_)
  refine s_blx (lv' := [(0, vR 69), (1, vR 11), (2, vI changeCost), (3, vI minutes)]) (st' := [vR 69]) B40_0_1 rfl ?_
  refine r_gfix (r := 71) (pc' := 4) D40_1 rfl gf_5_19_69 H.1 ?_
  refine s_blx (lv' := [(0, vR 69), (1, vR 11), (2, vI changeCost), (3, vI minutes)]) (st' := [vI 0, vI minutes, vR 71]) B40_4_6 rfl ?_
  refine r_iast (pc' := 7) D40_6 rfl sc_71 H (by omega) (by unfold inR; omega) trivial ?_
  intro M1 u2 H3 p4
  have f5 := f0.wr u2 rfl
  refine s_blx (lv' := [(4, vI (minutes - 1)), (0, vR 69), (1, vR 11), (2, vI changeCost), (3, vI minutes)]) (st' := []) B40_7_12 rfl ?_
  refine r_loc (lv' := [(0, vR 69), (1, vR 11), (2, vI changeCost), (3, vI minutes), (4, vI (minutes - 1))]) ⟨rfl, rfl, rfl, rfl, rfl, trivial⟩ rfl rfl ?_
  exact (L_k40_69_11 E hd H changeCost minutes h0 h1 ((((minutes - 1) + 1) * 1 + 121 : Int) + 1).toNat).1 (minutes - 1) M1 H3 f5 (by omega) (by omega) (by omega)
