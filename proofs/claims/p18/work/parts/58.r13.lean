noncomputable def T233 : mT := (11, yX11_passes, cX11_passes, 3, (some .boolean))
set_option maxRecDepth 10000 in
theorem TE233 : sy_m[233]? = some T233 := rfl
theorem B233_0_2 : s_dk T233.2.2.1 0 [.aload_n 0, .aload_n 0] 2 = true := by decide +kernel
theorem gf_11_378_77 : s_gf 11 378 77 = some (40, 1) := by decide +kernel
theorem D233_2 : decode T233.2.2.1 2 = .ok (.getfield 378, 3) := by decide +kernel
theorem D233_5 : decode T233.2.2.1 5 = .ok (.invokevirtual 381, 3) := by decide +kernel
theorem ck_11_virtual_381 : m_call 11 (.invokevirtual 381) = some (0, 232, 1) := by decide +kernel
theorem B233_8_9 : s_dk T233.2.2.1 8 [.iload_n 1] 9 = true := by decide +kernel
theorem D233_9 : decode T233.2.2.1 9 = .ok (.if_icmp .ne 7, 3) := by decide +kernel
theorem B233_16_19 : s_dk T233.2.2.1 16 [.iconst 0, .istore_n 2, .iload_n 2] 19 = true := by decide +kernel
theorem D233_19 : decode T233.2.2.1 19 = .ok (.ifCond .eq 13, 3) := by decide +kernel
theorem B233_32_33 : s_dk T233.2.2.1 32 [.iload_n 2] 33 = true := by decide +kernel
theorem D233_33 : decode T233.2.2.1 33 = .ok (.ireturn, 1) := by decide +kernel
theorem B233_12_13 : s_dk T233.2.2.1 12 [.iconst 1] 13 = true := by decide +kernel
theorem D233_13 : decode T233.2.2.1 13 = .ok (.goto 4, 3) := by decide +kernel
theorem B233_17_19 : s_dk T233.2.2.1 17 [.istore_n 2, .iload_n 2] 19 = true := by decide +kernel
theorem B233_22_24 : s_dk T233.2.2.1 22 [.aload_n 0, .dup] 24 = true := by decide +kernel
theorem D233_24 : decode T233.2.2.1 24 = .ok (.getfield 378, 3) := by decide +kernel
theorem B233_27_29 : s_dk T233.2.2.1 27 [.iconst 1, .iadd] 29 = true := by decide +kernel
theorem pf_11_378_77 : s_pf 11 378 77 = some (40, 1) := by decide +kernel
theorem D233_29 : decode T233.2.2.1 29 = .ok (.putfield 378, 3) := by decide +kernel
noncomputable def T237 : mT := (11, yX11_partOf, cX11_partOf, 4, (some .long))
set_option maxRecDepth 10000 in
theorem TE237 : sy_m[237]? = some T237 := rfl
theorem B237_0_3 : s_dk T237.2.2.1 0 [.aload_n 0, .bipush 91] 3 = true := by decide +kernel
theorem D237_3 : decode T237.2.2.1 3 = .ok (.invokestatic 346, 3) := by decide +kernel
theorem D237_6 : decode T237.2.2.1 6 = .ok (.invokevirtual 402, 3) := by decide +kernel
theorem ck_11_virtual_402 : m_call 11 (.invokevirtual 402) = some (0, 233, 1) := by decide +kernel
theorem D237_9 : decode T237.2.2.1 9 = .ok (.ifCond .eq 21, 3) := by decide +kernel
theorem B237_30_32 : s_dk T237.2.2.1 30 [.aload_n 0, .aload_n 0] 32 = true := by decide +kernel
theorem D237_32 : decode T237.2.2.1 32 = .ok (.getfield 378, 3) := by decide +kernel
theorem D237_35 : decode T237.2.2.1 35 = .ok (.invokevirtual 381, 3) := by decide +kernel
theorem B237_38_41 : s_dk T237.2.2.1 38 [.istore_n 2, .aload_n 0, .dup] 41 = true := by decide +kernel
theorem D237_41 : decode T237.2.2.1 41 = .ok (.getfield 378, 3) := by decide +kernel
theorem B237_44_46 : s_dk T237.2.2.1 44 [.iconst 1, .iadd] 46 = true := by decide +kernel
theorem D237_46 : decode T237.2.2.1 46 = .ok (.putfield 378, 3) := by decide +kernel
theorem B237_49_50 : s_dk T237.2.2.1 49 [.iload_n 1] 50 = true := by decide +kernel
theorem D237_50 : decode T237.2.2.1 50 = .ok (.ifCond .eq 10, 3) := by decide +kernel
theorem B237_60_61 : s_dk T237.2.2.1 60 [.lconst 0] 61 = true := by decide +kernel
theorem D237_61 : decode T237.2.2.1 61 = .ok (.lreturn, 1) := by decide +kernel
theorem B237_53_54 : s_dk T237.2.2.1 53 [.aload_n 0] 54 = true := by decide +kernel
theorem D237_54 : decode T237.2.2.1 54 = .ok (.getfield 388, 3) := by decide +kernel
theorem D237_57 : decode T237.2.2.1 57 = .ok (.ifCond .eq 5, 3) := by decide +kernel
theorem B237_62_65 : s_dk T237.2.2.1 62 [.iload_n 2, .bipush 50] 65 = true := by decide +kernel
theorem D237_65 : decode T237.2.2.1 65 = .ok (.if_icmp .ne 22, 3) := by decide +kernel
theorem B237_87_88 : s_dk T237.2.2.1 87 [.aload_n 0] 88 = true := by decide +kernel
theorem gf_11_87_77 : s_gf 11 87 77 = some (43, 103) := by decide +kernel
theorem D237_88 : decode T237.2.2.1 88 = .ok (.getfield 87, 3) := by decide +kernel
theorem B237_91_95 : s_dk T237.2.2.1 91 [.iload_n 2, .bipush 13, .isub] 95 = true := by decide +kernel
theorem D237_95 : decode T237.2.2.1 95 = .ok (.iaload, 1) := by decide +kernel
theorem D237_96 : decode T237.2.2.1 96 = .ok (.i2l, 1) := by decide +kernel
theorem D237_97 : decode T237.2.2.1 97 = .ok (.lreturn, 1) := by decide +kernel
theorem B237_68_69 : s_dk T237.2.2.1 68 [.aload_n 0] 69 = true := by decide +kernel
theorem D237_69 : decode T237.2.2.1 69 = .ok (.getfield 13, 3) := by decide +kernel
theorem B237_72_76 : s_dk T237.2.2.1 72 [.sipush 3683, .aload_n 0] 76 = true := by decide +kernel
theorem D237_76 : decode T237.2.2.1 76 = .ok (.getfield 378, 3) := by decide +kernel
theorem B237_79_82 : s_dk T237.2.2.1 79 [.iadd, .iconst 1, .isub] 82 = true := by decide +kernel
theorem D237_82 : decode T237.2.2.1 82 = .ok (.iaload, 1) := by decide +kernel
theorem D237_83 : decode T237.2.2.1 83 = .ok (.i2l, 1) := by decide +kernel
theorem D237_84 : decode T237.2.2.1 84 = .ok (.goto 13, 3) := by decide +kernel
theorem B237_12_14 : s_dk T237.2.2.1 12 [.aload_n 0, .iload_n 1] 14 = true := by decide +kernel
theorem D237_14 : decode T237.2.2.1 14 = .ok (.invokevirtual 405, 3) := by decide +kernel
theorem ck_11_virtual_405 : m_call 11 (.invokevirtual 405) = some (0, 235, 1) := by decide +kernel
noncomputable def T235 : mT := (11, yX11_sumOf, cX11_sumOf, 7, (some .long))
set_option maxRecDepth 10000 in
theorem TE235 : sy_m[235]? = some T235 := rfl
theorem B237_17_20 : s_dk T237.2.2.1 17 [.lstore_n 2, .aload_n 0, .dup] 20 = true := by decide +kernel
theorem D237_20 : decode T237.2.2.1 20 = .ok (.getfield 378, 3) := by decide +kernel
theorem B237_23_25 : s_dk T237.2.2.1 23 [.iconst 1, .iadd] 25 = true := by decide +kernel
theorem D237_25 : decode T237.2.2.1 25 = .ok (.putfield 378, 3) := by decide +kernel
theorem B237_28_29 : s_dk T237.2.2.1 28 [.lload_n 2] 29 = true := by decide +kernel
theorem D237_29 : decode T237.2.2.1 29 = .ok (.lreturn, 1) := by decide +kernel
noncomputable def T236 : mT := (11, yX11_termOf, cX11_termOf, 7, (some .long))
set_option maxRecDepth 10000 in
theorem TE236 : sy_m[236]? = some T236 := rfl
theorem B236_0_2 : s_dk T236.2.2.1 0 [.aload_n 0, .iload_n 1] 2 = true := by decide +kernel
theorem D236_2 : decode T236.2.2.1 2 = .ok (.invokevirtual 399, 3) := by decide +kernel
theorem ck_11_virtual_399 : m_call 11 (.invokevirtual 399) = some (0, 237, 1) := by decide +kernel
theorem B236_5_6 : s_dk T236.2.2.1 5 [.lstore_n 2] 6 = true := by decide +kernel
theorem B236_6_8 : s_dk T236.2.2.1 6 [.aload_n 0, .aload_n 0] 8 = true := by decide +kernel
theorem D236_8 : decode T236.2.2.1 8 = .ok (.getfield 378, 3) := by decide +kernel
theorem D236_11 : decode T236.2.2.1 11 = .ok (.invokevirtual 381, 3) := by decide +kernel
theorem B236_14_16 : s_dk T236.2.2.1 14 [.bipush 42] 16 = true := by decide +kernel
theorem D236_16 : decode T236.2.2.1 16 = .ok (.invokestatic 346, 3) := by decide +kernel
theorem D236_19 : decode T236.2.2.1 19 = .ok (.if_icmp .eq 19, 3) := by decide +kernel
theorem B236_38_40 : s_dk T236.2.2.1 38 [.aload_n 0, .aload_n 0] 40 = true := by decide +kernel
theorem D236_40 : decode T236.2.2.1 40 = .ok (.getfield 378, 3) := by decide +kernel
theorem D236_43 : decode T236.2.2.1 43 = .ok (.invokevirtual 381, 3) := by decide +kernel
theorem B236_46_48 : s_dk T236.2.2.1 46 [.bipush 42] 48 = true := by decide +kernel
theorem D236_48 : decode T236.2.2.1 48 = .ok (.invokestatic 346, 3) := by decide +kernel
theorem D236_51 : decode T236.2.2.1 51 = .ok (.if_icmp .ne 7, 3) := by decide +kernel
theorem B236_58_63 : s_dk T236.2.2.1 58 [.iconst 0, .istore 4, .aload_n 0, .dup] 63 = true := by decide +kernel
theorem D236_63 : decode T236.2.2.1 63 = .ok (.getfield 378, 3) := by decide +kernel
theorem B236_66_68 : s_dk T236.2.2.1 66 [.iconst 1, .iadd] 68 = true := by decide +kernel
theorem D236_68 : decode T236.2.2.1 68 = .ok (.putfield 378, 3) := by decide +kernel
theorem B236_71_73 : s_dk T236.2.2.1 71 [.aload_n 0, .iload_n 1] 73 = true := by decide +kernel
theorem D236_73 : decode T236.2.2.1 73 = .ok (.invokevirtual 399, 3) := by decide +kernel
theorem B236_76_80 : s_dk T236.2.2.1 76 [.lstore 5, .iload 4] 80 = true := by decide +kernel
theorem D236_80 : decode T236.2.2.1 80 = .ok (.ifCond .ne 33, 3) := by decide +kernel
theorem B236_83_86 : s_dk T236.2.2.1 83 [.lload 5, .lconst 0] 86 = true := by decide +kernel
theorem D236_86 : decode T236.2.2.1 86 = .ok (.lcmp, 1) := by decide +kernel
theorem D236_87 : decode T236.2.2.1 87 = .ok (.ifCond .ne 26, 3) := by decide +kernel
theorem B236_113_116 : s_dk T236.2.2.1 113 [.aload_n 0, .iload 4] 116 = true := by decide +kernel
theorem D236_116 : decode T236.2.2.1 116 = .ok (.ifCond .eq 10, 3) := by decide +kernel
theorem B236_126_129 : s_dk T236.2.2.1 126 [.lload_n 2, .lload 5] 129 = true := by decide +kernel
theorem D236_129 : decode T236.2.2.1 129 = .ok (.ldiv, 1) := by decide +kernel
theorem B236_130_131 : s_dk T236.2.2.1 130 [.iload_n 1] 131 = true := by decide +kernel
theorem D236_131 : decode T236.2.2.1 131 = .ok (.invokevirtual 395, 3) := by decide +kernel
theorem ck_11_virtual_395 : m_call 11 (.invokevirtual 395) = some (0, 234, 2) := by decide +kernel
theorem B236_134_135 : s_dk T236.2.2.1 134 [.lstore_n 2] 135 = true := by decide +kernel
theorem D236_135 : decode T236.2.2.1 135 = .ok (.goto (-129), 3) := by decide +kernel
theorem B236_90_92 : s_dk T236.2.2.1 90 [.aload_n 0, .aload_n 0] 92 = true := by decide +kernel
theorem D236_92 : decode T236.2.2.1 92 = .ok (.getfield 388, 3) := by decide +kernel
theorem D236_95 : decode T236.2.2.1 95 = .ok (.ifCond .ne 7, 3) := by decide +kernel
theorem B236_102_103 : s_dk T236.2.2.1 102 [.iconst 1] 103 = true := by decide +kernel
theorem D236_103 : decode T236.2.2.1 103 = .ok (.goto 4, 3) := by decide +kernel
theorem D236_107 : decode T236.2.2.1 107 = .ok (.putfield 388, 3) := by decide +kernel
theorem B236_110_116 : s_dk T236.2.2.1 110 [.lconst 1, .lstore 5, .aload_n 0, .iload 4] 116 = true := by decide +kernel
theorem B236_98_99 : s_dk T236.2.2.1 98 [.iload_n 1] 99 = true := by decide +kernel
theorem D236_99 : decode T236.2.2.1 99 = .ok (.ifCond .eq 7, 3) := by decide +kernel
theorem B236_106_107 : s_dk T236.2.2.1 106 [.iconst 0] 107 = true := by decide +kernel
theorem B236_54_55 : s_dk T236.2.2.1 54 [.iconst 1] 55 = true := by decide +kernel
theorem D236_55 : decode T236.2.2.1 55 = .ok (.goto 4, 3) := by decide +kernel
theorem B236_59_63 : s_dk T236.2.2.1 59 [.istore 4, .aload_n 0, .dup] 63 = true := by decide +kernel
theorem B236_119_123 : s_dk T236.2.2.1 119 [.lload_n 2, .lload 5, .lmul] 123 = true := by decide +kernel
theorem D236_123 : decode T236.2.2.1 123 = .ok (.goto 7, 3) := by decide +kernel
theorem B236_22_24 : s_dk T236.2.2.1 22 [.aload_n 0, .aload_n 0] 24 = true := by decide +kernel
theorem D236_24 : decode T236.2.2.1 24 = .ok (.getfield 378, 3) := by decide +kernel
theorem D236_27 : decode T236.2.2.1 27 = .ok (.invokevirtual 381, 3) := by decide +kernel
theorem B236_30_32 : s_dk T236.2.2.1 30 [.bipush 47] 32 = true := by decide +kernel
theorem D236_32 : decode T236.2.2.1 32 = .ok (.invokestatic 346, 3) := by decide +kernel
theorem D236_35 : decode T236.2.2.1 35 = .ok (.if_icmp .ne 103, 3) := by decide +kernel
theorem B236_138_139 : s_dk T236.2.2.1 138 [.lload_n 2] 139 = true := by decide +kernel
theorem D236_139 : decode T236.2.2.1 139 = .ok (.lreturn, 1) := by decide +kernel
theorem B235_0_2 : s_dk T235.2.2.1 0 [.aload_n 0, .iload_n 1] 2 = true := by decide +kernel
theorem D235_2 : decode T235.2.2.1 2 = .ok (.invokevirtual 391, 3) := by decide +kernel
theorem ck_11_virtual_391 : m_call 11 (.invokevirtual 391) = some (0, 236, 1) := by decide +kernel
theorem B235_5_6 : s_dk T235.2.2.1 5 [.lstore_n 2] 6 = true := by decide +kernel
theorem B235_6_8 : s_dk T235.2.2.1 6 [.aload_n 0, .aload_n 0] 8 = true := by decide +kernel
theorem D235_8 : decode T235.2.2.1 8 = .ok (.getfield 378, 3) := by decide +kernel
theorem D235_11 : decode T235.2.2.1 11 = .ok (.invokevirtual 381, 3) := by decide +kernel
theorem B235_14_16 : s_dk T235.2.2.1 14 [.bipush 43] 16 = true := by decide +kernel
theorem D235_16 : decode T235.2.2.1 16 = .ok (.invokestatic 346, 3) := by decide +kernel
theorem D235_19 : decode T235.2.2.1 19 = .ok (.if_icmp .eq 19, 3) := by decide +kernel
theorem B235_38_40 : s_dk T235.2.2.1 38 [.aload_n 0, .aload_n 0] 40 = true := by decide +kernel
theorem D235_40 : decode T235.2.2.1 40 = .ok (.getfield 378, 3) := by decide +kernel
theorem D235_43 : decode T235.2.2.1 43 = .ok (.invokevirtual 381, 3) := by decide +kernel
theorem B235_46_48 : s_dk T235.2.2.1 46 [.bipush 43] 48 = true := by decide +kernel
theorem D235_48 : decode T235.2.2.1 48 = .ok (.invokestatic 346, 3) := by decide +kernel
theorem D235_51 : decode T235.2.2.1 51 = .ok (.if_icmp .ne 7, 3) := by decide +kernel
theorem B235_58_63 : s_dk T235.2.2.1 58 [.iconst 0, .istore 4, .aload_n 0, .dup] 63 = true := by decide +kernel
theorem D235_63 : decode T235.2.2.1 63 = .ok (.getfield 378, 3) := by decide +kernel
theorem B235_66_68 : s_dk T235.2.2.1 66 [.iconst 1, .iadd] 68 = true := by decide +kernel
theorem D235_68 : decode T235.2.2.1 68 = .ok (.putfield 378, 3) := by decide +kernel
theorem B235_71_73 : s_dk T235.2.2.1 71 [.aload_n 0, .iload_n 1] 73 = true := by decide +kernel
theorem D235_73 : decode T235.2.2.1 73 = .ok (.invokevirtual 391, 3) := by decide +kernel
theorem B235_76_81 : s_dk T235.2.2.1 76 [.lstore 5, .aload_n 0, .iload 4] 81 = true := by decide +kernel
theorem D235_81 : decode T235.2.2.1 81 = .ok (.ifCond .eq 10, 3) := by decide +kernel
theorem B235_91_96 : s_dk T235.2.2.1 91 [.lload_n 2, .lload 5, .lsub, .iload_n 1] 96 = true := by decide +kernel
theorem D235_96 : decode T235.2.2.1 96 = .ok (.invokevirtual 395, 3) := by decide +kernel
theorem B235_99_100 : s_dk T235.2.2.1 99 [.lstore_n 2] 100 = true := by decide +kernel
theorem D235_100 : decode T235.2.2.1 100 = .ok (.goto (-94), 3) := by decide +kernel
theorem B235_54_55 : s_dk T235.2.2.1 54 [.iconst 1] 55 = true := by decide +kernel
theorem D235_55 : decode T235.2.2.1 55 = .ok (.goto 4, 3) := by decide +kernel
theorem B235_59_63 : s_dk T235.2.2.1 59 [.istore 4, .aload_n 0, .dup] 63 = true := by decide +kernel
theorem B235_84_88 : s_dk T235.2.2.1 84 [.lload_n 2, .lload 5, .ladd] 88 = true := by decide +kernel
theorem D235_88 : decode T235.2.2.1 88 = .ok (.goto 7, 3) := by decide +kernel
theorem B235_95_96 : s_dk T235.2.2.1 95 [.iload_n 1] 96 = true := by decide +kernel
theorem B235_22_24 : s_dk T235.2.2.1 22 [.aload_n 0, .aload_n 0] 24 = true := by decide +kernel
theorem D235_24 : decode T235.2.2.1 24 = .ok (.getfield 378, 3) := by decide +kernel
theorem D235_27 : decode T235.2.2.1 27 = .ok (.invokevirtual 381, 3) := by decide +kernel
theorem B235_30_32 : s_dk T235.2.2.1 30 [.bipush 45] 32 = true := by decide +kernel
theorem D235_32 : decode T235.2.2.1 32 = .ok (.invokestatic 346, 3) := by decide +kernel
theorem D235_35 : decode T235.2.2.1 35 = .ok (.if_icmp .ne 68, 3) := by decide +kernel
theorem B235_103_104 : s_dk T235.2.2.1 103 [.lload_n 2] 104 = true := by decide +kernel
theorem D235_104 : decode T235.2.2.1 104 = .ok (.lreturn, 1) := by decide +kernel
set_option maxRecDepth 4000 in
theorem k232x {base : Nat} {X : Nat → Option mC} {G : Nat → Value} (E : EnvOK base X G) {d : Nat} (hd : 0 ≤ d) {M : mH} (H : HI base M) (k : Int) (e : Int) (C : Int → Int) (h0 : KC C M) (h1 : gi M 77 41 = e) (h2 : 0 ≤ k ∧ k ≤ 3200) (h3 : 0 ≤ e ∧ e ≤ 3200) : sOk base X G d T232 [vR 77, vI k] M (pI (fun v M' => M' = M ∧ (-2147483648 ≤ v ∧ v ≤ 2147483647) ∧ (k < e → v = C k) ∧ (e ≤ k → v = 0))) := by
  refine sOk.of (show sRn base X G d T232 0 [(0, vR 77), (1, vI k)] [] M _ from ?_)
  refine s_blx (lv' := [(0, vR 77), (1, vI k)]) (st' := [vR 77, vI k]) B232_0_2 rfl ?_
  refine r_gint (ki := 41) (pc' := 5) D232_2 rfl gf_11_375_77 rfl H.1 ?_
  intro w1 e2 r3
  have e4 : e = w1 := (e2.trans (h1)).symm
  subst e4
  refine r_icmp (tgt := 21) (pc' := 8) D232_5 rfl rfl (by unfold inR; omega) (fun (c5 : e ≤ k) => ?_) (fun (c5 : ¬ (e ≤ k)) => ?_)
  · refine s_blx (lv' := [(0, vR 77), (1, vI k)]) (st' := [vI 0]) B232_21_22 rfl ?_
    exact r_iretI D232_22 rfl (⟨rfl, by omega, by omega, by omega⟩)
  · refine s_blx (lv' := [(0, vR 77), (1, vI k)]) (st' := [vR 77]) B232_8_9 rfl ?_
    refine r_gfix (r := 78) (pc' := 12) D232_9 rfl gf_11_13_77 H.1 ?_
    refine s_blx (lv' := [(0, vR 77), (1, vI k)]) (st' := [vI (483 + k), vR 78]) B232_12_17 rfl ?_
    refine r_iald (pc' := 18) D232_17 rfl sc_78 H.1 (by omega) ?_
    intro w6 e7 r8
    unfold inR at r8
    have kc := h0 k
    refine r_goto (tgt := 22) D232_18 rfl ?_
    exact r_iretI D232_22 rfl (⟨rfl, by omega, by omega, by omega⟩)
set_option maxRecDepth 4000 in
theorem k233x {base : Nat} {X : Nat → Option mC} {G : Nat → Value} (E : EnvOK base X G) {d : Nat} (hd : 1 ≤ d) {M : mH} (H : HI base M) (c : Int) (a : Int) (e : Int) (gg : Int) (F : Int → Int) (C : Int → Int) (h0 : KC C M) (h1 : ∀ j : Int, a ≤ j → j < e → F (j + 1) = dl (F j) (C j) ∧ F (j + 1) ≠ 0) (h2 : F e = 2 ∨ F e = 20 ∨ F e = 2001) (h3 : gi M 77 41 = e) (h4 : 0 ≤ a ∧ e ≤ 3200) (h5 : gi M 77 40 = gg) (h6 : a ≤ gg ∧ gg ≤ e) (h7 : -2147483648 ≤ c ∧ c ≤ 2147483647) (h8 : c ≠ 0) : sOk base X G d T233 [vR 77, vI c] M (pI (fun v M' => HI base M' ∧ Fr [(77, 41)] M M' ∧ (v = 0 ∨ v = 1) ∧ (gg ≤ gi M' 77 40 ∧ gi M' 77 40 ≤ e) ∧ (v = 1 → gi M' 77 40 = gg + 1 ∧ C gg = c ∧ F (gi M' 77 40) = dl (F gg) c ∧ F (gi M' 77 40) ≠ 0) ∧ (v = 0 → gi M' 77 40 = gg ∧ F (gi M' 77 40) = F gg ∧ C (gi M' 77 40) = C gg ∧ (e ≤ gg ∨ C gg ≠ c)))) := by
  have f0 : Fr [(77, 41)] M M := Fr.rf
  refine sOk.of (show sRn base X G d T233 0 [(0, vR 77), (1, vI c)] [] M _ from ?_)
  refine s_blx (lv' := [(0, vR 77), (1, vI c)]) (st' := [vR 77, vR 77]) B233_0_2 rfl ?_
  refine r_gint (ki := 40) (pc' := 5) D233_2 rfl gf_11_378_77 rfl H.1 ?_
  intro w1 e2 r3
  have e4 : gg = w1 := (e2.trans (h5)).symm
  subst e4
  have g5 : gi M 77 41 = e := h3
  refine r_vIp (c := 77) (args := [vI gg]) (rest := []) (pc' := 8) D233_5 rfl ck_11_virtual_381 TE232 rfl (Nat.le_of_ble_eq_true rfl) ⟨Nat.le_of_ble_eq_true rfl, Nat.le_of_ble_eq_true rfl⟩ sc_77 ⟨rfl, by decide⟩ H.1 (dp_0 hd rfl) (k232x E (dp_n hd rfl) H gg e C (h0) (by omega) (by omega) (by omega)) ?_
  intro v6 q11
  obtain ⟨q8, q9, q10⟩ := q11
  refine s_blx (lv' := [(0, vR 77), (1, vI c)]) (st' := [vI c, vI v6]) B233_8_9 rfl ?_
  refine r_icmp (tgt := 16) (pc' := 12) D233_9 rfl rfl (by unfold inR; omega) (fun (c12 : v6 ≠ c) => ?_) (fun (c12 : ¬ (v6 ≠ c)) => ?_)
  · refine s_blx (lv' := [(2, vI 0), (0, vR 77), (1, vI c)]) (st' := [vI 0]) B233_16_19 rfl ?_
    refine r_ifc (tgt := 32) (pc' := 22) D233_19 rfl rfl (by unfold inR; omega) (fun (c13 : 0 = 0) => ?_) (fun (c13 : ¬ (0 = 0)) => ?_)
    · refine s_blx (lv' := [(2, vI 0), (0, vR 77), (1, vI c)]) (st' := [vI 0]) B233_32_33 rfl ?_
      have g14 : gi M 77 40 = gg := h5
      exact r_zretI D233_33 rfl (by omega) (⟨H, f0, by omega, by rw [g14]; omega, by rw [g14]; omega, by rw [g14]; omega⟩)
    · exfalso; omega
  · refine s_blx (lv' := [(0, vR 77), (1, vI c)]) (st' := [vI 1]) B233_12_13 rfl ?_
    refine r_goto (tgt := 17) D233_13 rfl ?_
    refine s_blx (lv' := [(2, vI 1), (0, vR 77), (1, vI c)]) (st' := [vI 1]) B233_17_19 rfl ?_
    refine r_ifc (tgt := 32) (pc' := 22) D233_19 rfl rfl (by unfold inR; omega) (fun (c15 : 1 = 0) => ?_) (fun (c15 : ¬ (1 = 0)) => ?_)
    · exfalso; omega
    · refine s_blx (lv' := [(2, vI 1), (0, vR 77), (1, vI c)]) (st' := [vR 77, vR 77]) B233_22_24 rfl ?_
      refine r_gint (ki := 40) (pc' := 27) D233_24 rfl gf_11_378_77 rfl H.1 ?_
      intro w16 e17 r18
      have e19 : gg = w16 := (e17.trans (h5)).symm
      subst e19
      refine s_blx (lv' := [(2, vI 1), (0, vR 77), (1, vI c)]) (st' := [vI (gg + 1), vR 77]) B233_27_29 rfl ?_
      refine r_pint (ki := 40) (pc' := 32) D233_29 rfl pf_11_378_77 rfl H (by unfold inR; omega) trivial ?_
      intro M20 u21 H22 p23
      have f24 := f0.wr u21 rfl
      have kd := h1 gg (by omega) (by omega)
      have ke : C gg = c := by omega
      rw [ke] at kd
      refine s_blx (lv' := [(2, vI 1), (0, vR 77), (1, vI c)]) (st' := [vI 1]) B233_32_33 rfl ?_
      have g25 : gi M20 77 40 = gg + 1 := p23
      exact r_zretI D233_33 rfl (by omega) (⟨H22, f24, by omega, by rw [g25]; omega, by rw [g25]; omega, by rw [g25]; omega⟩)
set_option maxRecDepth 4000 in
theorem k234x {base : Nat} {X : Nat → Option mC} {G : Nat → Value} (E : EnvOK base X G) {d : Nat} (hd : 0 ≤ d) {M : mH} (H : HI base M) (v_ : Int) (live : Int) (h0 : (live = 0 ∨ live = 1)) : sOk base X G d T234 [vR 77, vL v_, vI live] M (pL (fun v M' => HI base M' ∧ Fr [(77, 43)] M M')) := by
  have f0 : Fr [(77, 43)] M M := Fr.rf
  refine sOk.of (show sRn base X G d T234 0 [(0, vR 77), (1, vL v_), (3, vI live)] [] M _ from ?_)
  refine s_blx (lv' := [(0, vR 77), (1, vL v_), (3, vI live)]) (st' := [vI live]) B234_0_1 rfl ?_
  refine r_ifc (tgt := 25) (pc' := 4) D234_1 rfl rfl (by unfold inR; omega) (fun (c1 : live = 0) => ?_) (fun (c1 : ¬ (live = 0)) => ?_)
  · refine s_blx (lv' := [(0, vR 77), (1, vL v_), (3, vI live)]) (st' := [vR 77]) B234_25_26 rfl ?_
    refine r_gint (ki := 42) (pc' := 29) D234_26 rfl gf_11_388_77 rfl H.1 ?_
    intro w2 e3 r4
    have b_w2 := H.2 77 (42) 0 1 rfl
    rw [← e3] at b_w2; clear r4
    refine r_ifc (tgt := 36) (pc' := 32) D234_29 rfl rfl (by unfold inR; omega) (fun (c5 : w2 = 0) => ?_) (fun (c5 : ¬ (w2 = 0)) => ?_)
    · refine s_blx (lv' := [(0, vR 77), (1, vL v_), (3, vI live)]) (st' := [vL v_]) B234_36_37 rfl ?_
      exact r_lretL D234_37 rfl (⟨H, f0⟩)
    · refine s_blx (lv' := [(0, vR 77), (1, vL v_), (3, vI live)]) (st' := [vL 0]) B234_32_33 rfl ?_
      refine r_goto (tgt := 37) D234_33 rfl ?_
      exact r_lretL D234_37 rfl (⟨H, f0⟩)
  · refine s_blx (lv' := [(0, vR 77), (1, vL v_), (3, vI live)]) (st' := [vL v_]) B234_4_5 rfl ?_
    refine r_ldc2 (e := 1000000000) (pc' := 8) D234_5 rfl cl_11_384 (by decide) ?_
    refine r_lcmp (pc' := 9) D234_8 rfl ?_
    intro z6 r7 r8
    refine r_ifc (tgt := 20) (pc' := 12) D234_9 rfl rfl (by unfold inR; omega) (fun (c9 : 0 < z6) => ?_) (fun (c9 : ¬ (0 < z6)) => ?_)
    · refine s_blx (lv' := [(0, vR 77), (1, vL v_), (3, vI live)]) (st' := [vI 1, vR 77]) B234_20_22 rfl ?_
      refine r_pbool (ki := 42) (pc' := 25) D234_22 rfl pf_11_388_77 rfl H (by omega) (show 0 ≤ 1 ∧ 1 ≤ 1 by omega) ?_
      intro M10 u11 H12 p13
      have f14 := f0.wr u11 rfl
      refine s_blx (lv' := [(0, vR 77), (1, vL v_), (3, vI live)]) (st' := [vR 77]) B234_25_26 rfl ?_
      refine r_gint (ki := 42) (pc' := 29) D234_26 rfl gf_11_388_77 rfl H12.1 ?_
      intro w15 e16 r17
      have e18 : 1 = w15 := (e16.trans (p13)).symm
      subst e18
      refine r_ifc (tgt := 36) (pc' := 32) D234_29 rfl rfl (by unfold inR; omega) (fun (c19 : 1 = 0) => ?_) (fun (c19 : ¬ (1 = 0)) => ?_)
      · exfalso; omega
      · refine s_blx (lv' := [(0, vR 77), (1, vL v_), (3, vI live)]) (st' := [vL 0]) B234_32_33 rfl ?_
        refine r_goto (tgt := 37) D234_33 rfl ?_
        exact r_lretL D234_37 rfl (⟨H12, f14⟩)
    · refine s_blx (lv' := [(0, vR 77), (1, vL v_), (3, vI live)]) (st' := [vL v_]) B234_12_13 rfl ?_
      refine r_ldc2 (e := (-1000000000)) (pc' := 16) D234_13 rfl cl_11_386 (by decide) ?_
      refine r_lcmp (pc' := 17) D234_16 rfl ?_
      intro z20 r21 r22
      refine r_ifc (tgt := 25) (pc' := 20) D234_17 rfl rfl (by unfold inR; omega) (fun (c23 : 0 ≤ z20) => ?_) (fun (c23 : ¬ (0 ≤ z20)) => ?_)
      · refine s_blx (lv' := [(0, vR 77), (1, vL v_), (3, vI live)]) (st' := [vR 77]) B234_25_26 rfl ?_
        refine r_gint (ki := 42) (pc' := 29) D234_26 rfl gf_11_388_77 rfl H.1 ?_
        intro w24 e25 r26
        have b_w24 := H.2 77 (42) 0 1 rfl
        rw [← e25] at b_w24; clear r26
        refine r_ifc (tgt := 36) (pc' := 32) D234_29 rfl rfl (by unfold inR; omega) (fun (c27 : w24 = 0) => ?_) (fun (c27 : ¬ (w24 = 0)) => ?_)
        · refine s_blx (lv' := [(0, vR 77), (1, vL v_), (3, vI live)]) (st' := [vL v_]) B234_36_37 rfl ?_
          exact r_lretL D234_37 rfl (⟨H, f0⟩)
        · refine s_blx (lv' := [(0, vR 77), (1, vL v_), (3, vI live)]) (st' := [vL 0]) B234_32_33 rfl ?_
          refine r_goto (tgt := 37) D234_33 rfl ?_
          exact r_lretL D234_37 rfl (⟨H, f0⟩)
      · refine s_blx (lv' := [(0, vR 77), (1, vL v_), (3, vI live)]) (st' := [vI 1, vR 77]) B234_20_22 rfl ?_
        refine r_pbool (ki := 42) (pc' := 25) D234_22 rfl pf_11_388_77 rfl H (by omega) (show 0 ≤ 1 ∧ 1 ≤ 1 by omega) ?_
        intro M28 u29 H30 p31
        have f32 := f0.wr u29 rfl
        refine s_blx (lv' := [(0, vR 77), (1, vL v_), (3, vI live)]) (st' := [vR 77]) B234_25_26 rfl ?_
        refine r_gint (ki := 42) (pc' := 29) D234_26 rfl gf_11_388_77 rfl H30.1 ?_
        intro w33 e34 r35
        have e36 : 1 = w33 := (e34.trans (p31)).symm
        subst e36
        refine r_ifc (tgt := 36) (pc' := 32) D234_29 rfl rfl (by unfold inR; omega) (fun (c37 : 1 = 0) => ?_) (fun (c37 : ¬ (1 = 0)) => ?_)
        · exfalso; omega
        · refine s_blx (lv' := [(0, vR 77), (1, vL v_), (3, vI live)]) (st' := [vL 0]) B234_32_33 rfl ?_
          refine r_goto (tgt := 37) D234_33 rfl ?_
          exact r_lretL D234_37 rfl (⟨H30, f32⟩)
set_option maxRecDepth 4000 in
theorem k237x {base : Nat} {X : Nat → Option mC} {G : Nat → Value} (E : EnvOK base X G) {rr : Nat} (ihr : ∀ {d : Nat} (_ : 4 + 3 * rr ≤ d) {M : mH} (_ : HI base M) (live : Int) (p : Int) (q : Int) (s : Int) (a : Int) (e : Int) (gg : Int) (F : Int → Int) (C : Int → Int), ((live = 0 ∨ live = 1)) → (KC C M) → (∀ j : Int, a ≤ j → j < e → F (j + 1) = dl (F j) (C j) ∧ F (j + 1) ≠ 0) → (F e = 2 ∨ F e = 20 ∨ F e = 2001) → (gi M 77 41 = e) → (0 ≤ a ∧ e ≤ 3200) → (gi M 77 40 = gg) → (a ≤ gg ∧ gg ≤ e) → (F gg = 1000 + 100 * p + 10 * q + s ∨ (F gg = 10 + p ∧ q = 0 ∧ s = 0 ∧ C gg ≠ 10 ∧ C gg ≠ 140 ∧ C gg ≠ 11 ∧ C gg ≠ 12)) → (0 ≤ p ∧ 0 ≤ q ∧ p + q ≤ 8) → (0 ≤ s ∧ s ≤ 1) → 8 - p - q < ((rr : Nat) : Int) → sOk base X G d T235 [vR 77, vI live] M (pL (fun v M' => HI base M' ∧ Fr [(77, 41), (77, 43)] M M' ∧ (gg < gi M' 77 40 ∧ gi M' 77 40 ≤ e) ∧ (F (gi M' 77 40) = 2000 + 100 * p + 10 * q + s) ∧ (gi M' 77 40 < e → C (gi M' 77 40) ≠ 142 ∧ C (gi M' 77 40) ≠ 147) ∧ (gi M' 77 40 < e → C (gi M' 77 40) ≠ 143 ∧ C (gi M' 77 40) ≠ 145)))) {d : Nat} (hd : 5 + 3 * rr ≤ d) {M : mH} (H : HI base M) (live : Int) (p : Int) (q : Int) (s : Int) (a : Int) (e : Int) (gg : Int) (F : Int → Int) (C : Int → Int) (h0 : (live = 0 ∨ live = 1)) (h1 : KC C M) (h2 : ∀ j : Int, a ≤ j → j < e → F (j + 1) = dl (F j) (C j) ∧ F (j + 1) ≠ 0) (h3 : F e = 2 ∨ F e = 20 ∨ F e = 2001) (h4 : gi M 77 41 = e) (h5 : 0 ≤ a ∧ e ≤ 3200) (h6 : gi M 77 40 = gg) (h7 : a ≤ gg ∧ gg ≤ e) (h8 : F gg = 1000 + 100 * p + 10 * q + s ∨ (F gg = 10 + p ∧ q = 0 ∧ s = 0 ∧ C gg ≠ 10 ∧ C gg ≠ 140 ∧ C gg ≠ 11 ∧ C gg ≠ 12)) (h9 : 0 ≤ p ∧ 0 ≤ q ∧ p + q ≤ 8) (h10 : 0 ≤ s ∧ s ≤ 1) (h11 : 8 - p - q < (rr : Int) + 1) : sOk base X G d T237 [vR 77, vI live] M (pL (fun v M' => HI base M' ∧ Fr [(77, 41), (77, 43)] M M' ∧ (gg < gi M' 77 40 ∧ gi M' 77 40 ≤ e) ∧ (F (gi M' 77 40) = 2000 + 100 * p + 10 * q + s))) := by
  have f0 : Fr [(77, 41), (77, 43)] M M := Fr.rf
  refine sOk.of (show sRn base X G d T237 0 [(0, vR 77), (1, vI live)] [] M _ from ?_)
  refine s_blx (lv' := [(0, vR 77), (1, vI live)]) (st' := [vI 91, vR 77]) B237_0_3 rfl ?_
  have kne : gg ≠ e := fun h => by rw [h] at h8; omega
  have kd := h2 gg (by omega) (by omega)
  have ks := e_S (x := F gg) (c := C gg) (p := p) (q := q) (s := s) (by omega) (by omega) (by omega) (by omega) (by omega) (by omega) (by omega)
  refine r_sIp (args := [vI 91]) (rest := [vR 77]) (pc' := 6) D237_3 rfl ck_11_static_346 TE221 rfl (Nat.le_of_ble_eq_true rfl) ⟨Nat.le_of_ble_eq_true rfl, Nat.le_of_ble_eq_true rfl⟩ (by decide) (by omega) (k221 E (by omega) H 91 (by omega)) ?_
  intro v1 q4
  have q3 := q4; clear q4
  have e5 : v1 = 191 := by omega
  subst e5
  have g6 : gi M 77 41 = e := h4
  have g7 : gi M 77 40 = gg := h6
  refine r_vI (c := 77) (args := [vI 191]) (rest := []) (pc' := 9) D237_6 rfl ck_11_virtual_402 TE233 rfl (Nat.le_of_ble_eq_true rfl) ⟨Nat.le_of_ble_eq_true rfl, Nat.le_of_ble_eq_true rfl⟩ sc_77 ⟨rfl, by decide⟩ H.1 (by omega) (k233x E (by omega) H 191 a e gg F C (h1) (h2) (by omega) (by omega) (by omega) (by omega) (by omega) (by omega) (by omega)) ?_
  intro v8 M9 q16
  obtain ⟨H10, f11, q12, q13, q14, q15⟩ := q16
  have f17 := f0.tr (f11.up rfl)
  obtain ⟨t18, ht19⟩ : ∃ q, q = gi M9 77 40 := ⟨_, rfl⟩
  rw [← ht19] at q13
  rw [← ht19] at q14
  rw [← ht19] at q15
  refine r_ifc (tgt := 30) (pc' := 12) D237_9 rfl rfl (by unfold inR; omega) (fun (c20 : v8 = 0) => ?_) (fun (c20 : ¬ (v8 = 0)) => ?_)
  · refine s_blx (lv' := [(0, vR 77), (1, vI live)]) (st' := [vR 77, vR 77]) B237_30_32 rfl ?_
    refine r_gint (ki := 40) (pc' := 35) D237_32 rfl gf_11_378_77 rfl H10.1 ?_
    intro w21 e22 r23
    have e24 : t18 = w21 := (e22.trans (ht19.symm)).symm
    subst e24
    have g25 : gi M9 77 41 = e := (f11.g rfl).trans (h4)
    refine r_vIp (c := 77) (args := [vI t18]) (rest := []) (pc' := 38) D237_35 rfl ck_11_virtual_381 TE232 rfl (Nat.le_of_ble_eq_true rfl) ⟨Nat.le_of_ble_eq_true rfl, Nat.le_of_ble_eq_true rfl⟩ sc_77 ⟨rfl, by decide⟩ H10.1 (by omega) (k232x E (by omega) H10 t18 e C ((h1.fr f17 rfl)) (by omega) (by omega) (by omega)) ?_
    intro v26 q31
    obtain ⟨q28, q29, q30⟩ := q31
    refine s_blx (lv' := [(2, vI v26), (0, vR 77), (1, vI live)]) (st' := [vR 77, vR 77]) B237_38_41 rfl ?_
    refine r_gint (ki := 40) (pc' := 44) D237_41 rfl gf_11_378_77 rfl H10.1 ?_
    intro w32 e33 r34
    have e35 : t18 = w32 := (e33.trans (ht19.symm)).symm
    subst e35
    refine s_blx (lv' := [(2, vI v26), (0, vR 77), (1, vI live)]) (st' := [vI (t18 + 1), vR 77]) B237_44_46 rfl ?_
    refine r_pint (ki := 40) (pc' := 49) D237_46 rfl pf_11_378_77 rfl H10 (by unfold inR; omega) trivial ?_
    intro M36 u37 H38 p39
    have f40 := f17.wr u37 rfl
    have kf : F ((t18 + 1)) = dl (F gg) (C gg) := by rw [show (t18 + 1) = gg + 1 by omega]; exact kd.1
    have k3 := d_lf (x := F gg) (c := C gg) (p := p) (q := q) (s := s) (by omega) (by omega) (by omega) (by omega) (by omega) (by omega) (by omega)
    refine s_blx (lv' := [(2, vI v26), (0, vR 77), (1, vI live)]) (st' := [vI live]) B237_49_50 rfl ?_
    refine r_ifc (tgt := 60) (pc' := 53) D237_50 rfl rfl (by unfold inR; omega) (fun (c41 : live = 0) => ?_) (fun (c41 : ¬ (live = 0)) => ?_)
    · refine s_blx (lv' := [(2, vI v26), (0, vR 77), (1, vI live)]) (st' := [vL 0]) B237_60_61 rfl ?_
      have g42 : gi M36 77 40 = t18 + 1 := p39
      exact r_lretL D237_61 rfl (⟨H38, f40, by rw [g42]; omega, by rw [g42]; omega⟩)
    · refine s_blx (lv' := [(2, vI v26), (0, vR 77), (1, vI live)]) (st' := [vR 77]) B237_53_54 rfl ?_
      refine r_gint (ki := 42) (pc' := 57) D237_54 rfl gf_11_388_77 rfl H38.1 ?_
      intro w43 e44 r45
      have b_w43 := H38.2 77 (42) 0 1 rfl
      rw [← e44] at b_w43; clear r45
      refine r_ifc (tgt := 62) (pc' := 60) D237_57 rfl rfl (by unfold inR; omega) (fun (c46 : w43 = 0) => ?_) (fun (c46 : ¬ (w43 = 0)) => ?_)
      · refine s_blx (lv' := [(2, vI v26), (0, vR 77), (1, vI live)]) (st' := [vI 50, vI v26]) B237_62_65 rfl ?_
        refine r_icmp (tgt := 87) (pc' := 68) D237_65 rfl rfl (by unfold inR; omega) (fun (c47 : v26 ≠ 50) => ?_) (fun (c47 : ¬ (v26 ≠ 50)) => ?_)
        · refine s_blx (lv' := [(2, vI v26), (0, vR 77), (1, vI live)]) (st' := [vR 77]) B237_87_88 rfl ?_
          refine r_gfix (r := 100) (pc' := 91) D237_88 rfl gf_11_87_77 H38.1 ?_
          refine s_blx (lv' := [(2, vI v26), (0, vR 77), (1, vI live)]) (st' := [vI (v26 - 13), vR 100]) B237_91_95 rfl ?_
          refine r_iald (pc' := 96) D237_95 rfl sc_100 H38.1 (by omega) ?_
          intro w48 e49 r50
          unfold inR at r50
          refine r_i2l (pc' := 97) D237_96 rfl (by unfold inR; omega) ?_
          have g51 : gi M36 77 40 = t18 + 1 := p39
          exact r_lretL D237_97 rfl (⟨H38, f40, by rw [g51]; omega, by rw [g51]; omega⟩)
        · refine s_blx (lv' := [(2, vI v26), (0, vR 77), (1, vI live)]) (st' := [vR 77]) B237_68_69 rfl ?_
          refine r_gfix (r := 78) (pc' := 72) D237_69 rfl gf_11_13_77 H38.1 ?_
          refine s_blx (lv' := [(2, vI v26), (0, vR 77), (1, vI live)]) (st' := [vR 77, vI 3683, vR 78]) B237_72_76 rfl ?_
          refine r_gint (ki := 40) (pc' := 79) D237_76 rfl gf_11_378_77 rfl H38.1 ?_
          intro w52 e53 r54
          have e55 : t18 + 1 = w52 := (e53.trans (p39)).symm
          subst e55
          refine s_blx (lv' := [(2, vI v26), (0, vR 77), (1, vI live)]) (st' := [vI ((3683 + (t18 + 1)) - 1), vR 78]) B237_79_82 rfl ?_
          refine r_iald (pc' := 83) D237_82 rfl sc_78 H38.1 (by omega) ?_
          intro w56 e57 r58
          unfold inR at r58
          refine r_i2l (pc' := 84) D237_83 rfl (by unfold inR; omega) ?_
          refine r_goto (tgt := 97) D237_84 rfl ?_
          have g59 : gi M36 77 40 = t18 + 1 := p39
          exact r_lretL D237_97 rfl (⟨H38, f40, by rw [g59]; omega, by rw [g59]; omega⟩)
      · refine s_blx (lv' := [(2, vI v26), (0, vR 77), (1, vI live)]) (st' := [vL 0]) B237_60_61 rfl ?_
        have g60 : gi M36 77 40 = t18 + 1 := p39
        exact r_lretL D237_61 rfl (⟨H38, f40, by rw [g60]; omega, by rw [g60]; omega⟩)
  · refine s_blx (lv' := [(0, vR 77), (1, vI live)]) (st' := [vI live, vR 77]) B237_12_14 rfl ?_
    have k1 := d_ob (x := F gg) (p := p) (q := q) (s := s) (by omega) (by omega) (by omega) (by omega) (by omega) (by omega)
    have g61 : gi M9 77 41 = e := (f11.g rfl).trans (h4)
    have g62 : gi M9 77 40 = t18 := ht19.symm
    refine r_vL (c := 77) (args := [vI live]) (rest := []) (pc' := 17) D237_14 rfl ck_11_virtual_405 TE235 rfl (Nat.le_of_ble_eq_true rfl) ⟨Nat.le_of_ble_eq_true rfl, Nat.le_of_ble_eq_true rfl⟩ sc_77 ⟨rfl, by decide⟩ H10.1 (by omega) (ihr (by omega) H10 live p (q + 1) s a e t18 F C (by omega) ((h1.fr f17 rfl)) (h2) (by omega) (by omega) (by omega) (by omega) (by omega) (by omega) (by omega) (by omega) (by omega)) ?_
    intro v63 M64 q71
    obtain ⟨H65, f66, q67, q68, q69, q70⟩ := q71
    have f72 := f17.tr (f66.up rfl)
    obtain ⟨t73, ht74⟩ : ∃ q, q = gi M64 77 40 := ⟨_, rfl⟩
    rw [← ht74] at q67
    rw [← ht74] at q68
    rw [← ht74] at q69
    rw [← ht74] at q70
    have km : t73 ≠ e := fun h => by have kx := q68; rw [h] at kx; omega
    have kd2 := h2 t73 (by omega) (by omega)
    have ka := e_A (x := F t73) (c := C t73) (p := p) (q := q + 1) (s := s) (by omega) (by omega) (by omega) (by omega) (by omega) (by omega) (by omega) (by omega) (by omega) (by omega) (by omega)
    have kg := dg (x := F t73) (k := 2) (p := p) (q := q + 1) (s := s) (by omega) (by omega) (by omega) (by omega) (by omega)
    have kb2 : C t73 = 193 := by omega
    rw [kb2] at kd2
    have kb := d_cb (x := F t73) (by omega) (by omega) (by omega)
    clear ka kg
    refine s_blx (lv' := [(2, vL v63), (0, vR 77), (1, vI live)]) (st' := [vR 77, vR 77]) B237_17_20 rfl ?_
    refine r_gint (ki := 40) (pc' := 23) D237_20 rfl gf_11_378_77 rfl H65.1 ?_
    intro w75 e76 r77
    have e78 : t73 = w75 := (e76.trans (ht74.symm)).symm
    subst e78
    refine s_blx (lv' := [(2, vL v63), (0, vR 77), (1, vI live)]) (st' := [vI (t73 + 1), vR 77]) B237_23_25 rfl ?_
    refine r_pint (ki := 40) (pc' := 28) D237_25 rfl pf_11_378_77 rfl H65 (by unfold inR; omega) trivial ?_
    intro M79 u80 H81 p82
    have f83 := f72.wr u80 rfl
    refine s_blx (lv' := [(2, vL v63), (0, vR 77), (1, vI live)]) (st' := [vL v63]) B237_28_29 rfl ?_
    have g84 : gi M79 77 40 = t73 + 1 := p82
    exact r_lretL D237_29 rfl (⟨H81, f83, by rw [g84]; omega, by rw [g84]; omega⟩)
set_option maxRecDepth 4000 in
theorem L_k236x {base : Nat} {X : Nat → Option mC} {G : Nat → Value} (E : EnvOK base X G) {rr : Nat} (ihr : ∀ {d : Nat} (_ : 4 + 3 * rr ≤ d) {M : mH} (_ : HI base M) (live : Int) (p : Int) (q : Int) (s : Int) (a : Int) (e : Int) (gg : Int) (F : Int → Int) (C : Int → Int), ((live = 0 ∨ live = 1)) → (KC C M) → (∀ j : Int, a ≤ j → j < e → F (j + 1) = dl (F j) (C j) ∧ F (j + 1) ≠ 0) → (F e = 2 ∨ F e = 20 ∨ F e = 2001) → (gi M 77 41 = e) → (0 ≤ a ∧ e ≤ 3200) → (gi M 77 40 = gg) → (a ≤ gg ∧ gg ≤ e) → (F gg = 1000 + 100 * p + 10 * q + s ∨ (F gg = 10 + p ∧ q = 0 ∧ s = 0 ∧ C gg ≠ 10 ∧ C gg ≠ 140 ∧ C gg ≠ 11 ∧ C gg ≠ 12)) → (0 ≤ p ∧ 0 ≤ q ∧ p + q ≤ 8) → (0 ≤ s ∧ s ≤ 1) → 8 - p - q < ((rr : Nat) : Int) → sOk base X G d T235 [vR 77, vI live] M (pL (fun v M' => HI base M' ∧ Fr [(77, 41), (77, 43)] M M' ∧ (gg < gi M' 77 40 ∧ gi M' 77 40 ≤ e) ∧ (F (gi M' 77 40) = 2000 + 100 * p + 10 * q + s) ∧ (gi M' 77 40 < e → C (gi M' 77 40) ≠ 142 ∧ C (gi M' 77 40) ≠ 147) ∧ (gi M' 77 40 < e → C (gi M' 77 40) ≠ 143 ∧ C (gi M' 77 40) ≠ 145)))) {d : Nat} (hd : 6 + 3 * rr ≤ d) {M : mH} (H : HI base M) (live : Int) (p : Int) (q : Int) (s : Int) (a : Int) (e : Int) (gg : Int) (F : Int → Int) (C : Int → Int) (h0 : (live = 0 ∨ live = 1)) (h1 : KC C M) (h2 : ∀ j : Int, a ≤ j → j < e → F (j + 1) = dl (F j) (C j) ∧ F (j + 1) ≠ 0) (h3 : F e = 2 ∨ F e = 20 ∨ F e = 2001) (h4 : gi M 77 41 = e) (h5 : 0 ≤ a ∧ e ≤ 3200) (h6 : gi M 77 40 = gg) (h7 : a ≤ gg ∧ gg ≤ e) (h8 : F gg = 1000 + 100 * p + 10 * q + s ∨ (F gg = 10 + p ∧ q = 0 ∧ s = 0 ∧ C gg ≠ 10 ∧ C gg ≠ 140 ∧ C gg ≠ 11 ∧ C gg ≠ 12)) (h9 : 0 ≤ p ∧ 0 ≤ q ∧ p + q ≤ 8) (h10 : 0 ≤ s ∧ s ≤ 1) (h11 : 8 - p - q < (rr : Int) + 1) : ∀ mz : Nat, (∀ (x2 t0 : Int) (N : mH), HI base N → Fr [(77, 41), (77, 43)] M N → (gi N 77 40 = t0) → (gg < t0 ∧ t0 ≤ e) → (gi N 77 41 = e) → (F t0 = 2000 + 100 * p + 10 * q + s) → (3200 - t0) * 1 + 0 < (mz : Int) → sRn base X G d T236 6 [(0, vR 77), (1, vI live), (2, vL x2)] [] N (s_Q base (pL (fun v M' => HI base M' ∧ Fr [(77, 41), (77, 43)] M M' ∧ (gg < gi M' 77 40 ∧ gi M' 77 40 ≤ e) ∧ (F (gi M' 77 40) = 2000 + 100 * p + 10 * q + s) ∧ (gi M' 77 40 < e → C (gi M' 77 40) ≠ 142 ∧ C (gi M' 77 40) ≠ 147))))) := by
  have f0 : Fr [(77, 41), (77, 43)] M M := Fr.rf
  intro mz
  induction mz with
  | zero => exact fun x2 t0 N _ _ z0 z1 z2 z3 z4 => by omega
  | succ mz ih =>
    intro x2 t0 N HN fN i0 i1 i2 i3 hmu
    refine s_blx (lv' := [(0, vR 77), (1, vI live), (2, vL x2)]) (st' := [vR 77, vR 77]) B236_6_8 rfl ?_
    refine r_gint (ki := 40) (pc' := 11) D236_8 rfl gf_11_378_77 rfl HN.1 ?_
    intro w15 e16 r17
    have e18 : t0 = w15 := (e16.trans (i0)).symm
    subst e18
    have g19 : gi N 77 41 = e := i2
    refine r_vIp (c := 77) (args := [vI t0]) (rest := []) (pc' := 14) D236_11 rfl ck_11_virtual_381 TE232 rfl (Nat.le_of_ble_eq_true rfl) ⟨Nat.le_of_ble_eq_true rfl, Nat.le_of_ble_eq_true rfl⟩ sc_77 ⟨rfl, by decide⟩ HN.1 (by omega) (k232x E (by omega) HN t0 e C ((h1.fr fN rfl)) (by omega) (by omega) (by omega)) ?_
    intro v20 q25
    obtain ⟨q22, q23, q24⟩ := q25
    refine s_blx (lv' := [(0, vR 77), (1, vI live), (2, vL x2)]) (st' := [vI 42, vI v20]) B236_14_16 rfl ?_
    refine r_sIp (args := [vI 42]) (rest := [vI v20]) (pc' := 19) D236_16 rfl ck_11_static_346 TE221 rfl (Nat.le_of_ble_eq_true rfl) ⟨Nat.le_of_ble_eq_true rfl, Nat.le_of_ble_eq_true rfl⟩ (by decide) (by omega) (k221 E (by omega) HN 42 (by omega)) ?_
    intro v26 q29
    have q28 := q29; clear q29
    have e30 : v26 = 142 := by omega
    subst e30
    refine r_icmp (tgt := 38) (pc' := 22) D236_19 rfl rfl (by unfold inR; omega) (fun (c31 : v20 = 142) => ?_) (fun (c31 : ¬ (v20 = 142)) => ?_)
    · refine s_blx (lv' := [(0, vR 77), (1, vI live), (2, vL x2)]) (st' := [vR 77, vR 77]) B236_38_40 rfl ?_
      refine r_gint (ki := 40) (pc' := 43) D236_40 rfl gf_11_378_77 rfl HN.1 ?_
      intro w32 e33 r34
      have e35 : t0 = w32 := (e33.trans (i0)).symm
      subst e35
      have g36 : gi N 77 41 = e := i2
      refine r_vIp (c := 77) (args := [vI t0]) (rest := []) (pc' := 46) D236_43 rfl ck_11_virtual_381 TE232 rfl (Nat.le_of_ble_eq_true rfl) ⟨Nat.le_of_ble_eq_true rfl, Nat.le_of_ble_eq_true rfl⟩ sc_77 ⟨rfl, by decide⟩ HN.1 (by omega) (k232x E (by omega) HN t0 e C ((h1.fr fN rfl)) (by omega) (by omega) (by omega)) ?_
      intro v37 q42
      obtain ⟨q39, q40, q41⟩ := q42
      refine s_blx (lv' := [(0, vR 77), (1, vI live), (2, vL x2)]) (st' := [vI 42, vI v37]) B236_46_48 rfl ?_
      refine r_sIp (args := [vI 42]) (rest := [vI v37]) (pc' := 51) D236_48 rfl ck_11_static_346 TE221 rfl (Nat.le_of_ble_eq_true rfl) ⟨Nat.le_of_ble_eq_true rfl, Nat.le_of_ble_eq_true rfl⟩ (by decide) (by omega) (k221 E (by omega) HN 42 (by omega)) ?_
      intro v43 q46
      have q45 := q46; clear q46
      have e47 : v43 = 142 := by omega
      subst e47
      refine r_icmp (tgt := 58) (pc' := 54) D236_51 rfl rfl (by unfold inR; omega) (fun (c48 : v37 ≠ 142) => ?_) (fun (c48 : ¬ (v37 ≠ 142)) => ?_)
      · refine s_blx (lv' := [(4, vI 0), (0, vR 77), (1, vI live), (2, vL x2)]) (st' := [vR 77, vR 77]) B236_58_63 rfl ?_
        refine r_gint (ki := 40) (pc' := 66) D236_63 rfl gf_11_378_77 rfl HN.1 ?_
        intro w49 e50 r51
        have e52 : t0 = w49 := (e50.trans (i0)).symm
        subst e52
        refine s_blx (lv' := [(4, vI 0), (0, vR 77), (1, vI live), (2, vL x2)]) (st' := [vI (t0 + 1), vR 77]) B236_66_68 rfl ?_
        refine r_pint (ki := 40) (pc' := 71) D236_68 rfl pf_11_378_77 rfl HN (by unfold inR; omega) trivial ?_
        intro M53 u54 H55 p56
        have f57 := fN.wr u54 rfl
        have kd := h2 t0 (by omega) (by omega)
        have ke : C t0 = 142 ∨ C t0 = 147 := by omega
        have k1 := d_op (x := F t0) (C t0) (by omega) (by omega) (by omega)
        refine s_blx (lv' := [(4, vI 0), (0, vR 77), (1, vI live), (2, vL x2)]) (st' := [vI live, vR 77]) B236_71_73 rfl ?_
        have g58 : gi M53 77 41 = e := (u54.gi_ne (by decide) (Or.inr (by decide))).trans (i2)
        have g59 : gi M53 77 40 = t0 + 1 := p56
        refine r_vL (c := 77) (args := [vI live]) (rest := []) (pc' := 76) D236_73 rfl ck_11_virtual_399 TE237 rfl (Nat.le_of_ble_eq_true rfl) ⟨Nat.le_of_ble_eq_true rfl, Nat.le_of_ble_eq_true rfl⟩ sc_77 ⟨rfl, by decide⟩ H55.1 (by omega) (k237x E ihr (by omega) H55 live p q s a e (t0 + 1) F C (by omega) ((h1.fr f57 rfl)) (h2) (by omega) (by omega) (by omega) (by omega) (by omega) (by omega) (by omega) (by omega) (by omega)) ?_
        intro v60 M61 q66
        obtain ⟨H62, f63, q64, q65⟩ := q66
        have f67 := f57.tr (f63.up rfl)
        obtain ⟨t68, ht69⟩ : ∃ q, q = gi M61 77 40 := ⟨_, rfl⟩
        rw [← ht69] at q64
        rw [← ht69] at q65
        refine s_blx (lv' := [(5, vL v60), (4, vI 0), (0, vR 77), (1, vI live), (2, vL x2)]) (st' := [vI 0]) B236_76_80 rfl ?_
        refine r_ifc (tgt := 113) (pc' := 83) D236_80 rfl rfl (by unfold inR; omega) (fun (c70 : 0 ≠ 0) => ?_) (fun (c70 : ¬ (0 ≠ 0)) => ?_)
        · exfalso; omega
        · refine s_blx (lv' := [(5, vL v60), (4, vI 0), (0, vR 77), (1, vI live), (2, vL x2)]) (st' := [vL 0, vL v60]) B236_83_86 rfl ?_
          refine r_lcmpz (pc' := 87) D236_86 rfl ?_
          intro z71 r72 r73 knz
          refine r_ifc (tgt := 113) (pc' := 90) D236_87 rfl rfl (by unfold inR; omega) (fun (c74 : z71 ≠ 0) => ?_) (fun (c74 : ¬ (z71 ≠ 0)) => ?_)
          · refine s_blx (lv' := [(5, vL v60), (4, vI 0), (0, vR 77), (1, vI live), (2, vL x2)]) (st' := [vI 0, vR 77]) B236_113_116 rfl ?_
            refine r_ifc (tgt := 126) (pc' := 119) D236_116 rfl rfl (by unfold inR; omega) (fun (c75 : 0 = 0) => ?_) (fun (c75 : ¬ (0 = 0)) => ?_)
            · refine s_blx (lv' := [(5, vL v60), (4, vI 0), (0, vR 77), (1, vI live), (2, vL x2)]) (st' := [vL v60, vL x2, vR 77]) B236_126_129 rfl ?_
              refine r_ldivz (pc' := 130) D236_129 rfl (by first | exact knz (by omega) | exact nz_1 | (exfalso; omega)) ?_
              intro z76 _
              refine s_blx (lv' := [(5, vL v60), (4, vI 0), (0, vR 77), (1, vI live), (2, vL x2)]) (st' := [vI live, vL z76, vR 77]) B236_130_131 rfl ?_
              refine r_vL (c := 77) (args := [vL z76, vI live]) (rest := []) (pc' := 134) D236_131 rfl ck_11_virtual_395 TE234 rfl (Nat.le_of_ble_eq_true rfl) ⟨Nat.le_of_ble_eq_true rfl, Nat.le_of_ble_eq_true rfl⟩ sc_77 ⟨rfl, by decide⟩ H62.1 (by omega) (k234x E (by omega) H62 z76 live (by omega)) ?_
              intro v77 M78 q81
              obtain ⟨H79, f80⟩ := q81
              have f82 := f67.tr (f80.up rfl)
              refine s_blx (lv' := [(2, vL v77), (5, vL v60), (4, vI 0), (0, vR 77), (1, vI live)]) (st' := []) B236_134_135 rfl ?_
              refine r_goto (tgt := 6) D236_135 rfl ?_
              refine r_loc (lv' := [(0, vR 77), (1, vI live), (2, vL v77)]) ⟨rfl, rfl, rfl, trivial⟩ rfl rfl ?_
              have g83 : gi M78 77 40 = t68 := (f80.g rfl).trans (ht69.symm)
              have g84 : gi M78 77 41 = e := (f80.g rfl).trans ((f63.g rfl).trans ((u54.gi_ne (by decide) (Or.inr (by decide))).trans (i2)))
              exact ih v77 t68 M78 H79 f82 (by omega) (by omega) (by omega) (by omega) (by omega)
            · exfalso; omega
          · refine s_blx (lv' := [(5, vL v60), (4, vI 0), (0, vR 77), (1, vI live), (2, vL x2)]) (st' := [vR 77, vR 77]) B236_90_92 rfl ?_
            refine r_gint (ki := 42) (pc' := 95) D236_92 rfl gf_11_388_77 rfl H62.1 ?_
            intro w85 e86 r87
            have b_w85 := H62.2 77 (42) 0 1 rfl
            rw [← e86] at b_w85; clear r87
            refine r_ifc (tgt := 102) (pc' := 98) D236_95 rfl rfl (by unfold inR; omega) (fun (c88 : w85 ≠ 0) => ?_) (fun (c88 : ¬ (w85 ≠ 0)) => ?_)
            · refine s_blx (lv' := [(5, vL v60), (4, vI 0), (0, vR 77), (1, vI live), (2, vL x2)]) (st' := [vI 1, vR 77]) B236_102_103 rfl ?_
              refine r_goto (tgt := 107) D236_103 rfl ?_
              refine r_pbool (ki := 42) (pc' := 110) D236_107 rfl pf_11_388_77 rfl H62 (by omega) (show 0 ≤ 1 ∧ 1 ≤ 1 by omega) ?_
              intro M89 u90 H91 p92
              have f93 := f67.wr u90 rfl
              refine s_blx (lv' := [(5, vL 1), (4, vI 0), (0, vR 77), (1, vI live), (2, vL x2)]) (st' := [vI 0, vR 77]) B236_110_116 rfl ?_
              refine r_ifc (tgt := 126) (pc' := 119) D236_116 rfl rfl (by unfold inR; omega) (fun (c94 : 0 = 0) => ?_) (fun (c94 : ¬ (0 = 0)) => ?_)
              · refine s_blx (lv' := [(5, vL 1), (4, vI 0), (0, vR 77), (1, vI live), (2, vL x2)]) (st' := [vL 1, vL x2, vR 77]) B236_126_129 rfl ?_
                refine r_ldivz (pc' := 130) D236_129 rfl (by first | exact knz (by omega) | exact nz_1 | (exfalso; omega)) ?_
                intro z95 _
                refine s_blx (lv' := [(5, vL 1), (4, vI 0), (0, vR 77), (1, vI live), (2, vL x2)]) (st' := [vI live, vL z95, vR 77]) B236_130_131 rfl ?_
                refine r_vL (c := 77) (args := [vL z95, vI live]) (rest := []) (pc' := 134) D236_131 rfl ck_11_virtual_395 TE234 rfl (Nat.le_of_ble_eq_true rfl) ⟨Nat.le_of_ble_eq_true rfl, Nat.le_of_ble_eq_true rfl⟩ sc_77 ⟨rfl, by decide⟩ H91.1 (by omega) (k234x E (by omega) H91 z95 live (by omega)) ?_
                intro v96 M97 q100
                obtain ⟨H98, f99⟩ := q100
                have f101 := f93.tr (f99.up rfl)
                refine s_blx (lv' := [(2, vL v96), (5, vL 1), (4, vI 0), (0, vR 77), (1, vI live)]) (st' := []) B236_134_135 rfl ?_
                refine r_goto (tgt := 6) D236_135 rfl ?_
                refine r_loc (lv' := [(0, vR 77), (1, vI live), (2, vL v96)]) ⟨rfl, rfl, rfl, trivial⟩ rfl rfl ?_
                have g102 : gi M97 77 40 = t68 := (f99.g rfl).trans ((u90.gi_ne (by decide) (Or.inr (by decide))).trans (ht69.symm))
                have g103 : gi M97 77 41 = e := (f99.g rfl).trans ((u90.gi_ne (by decide) (Or.inr (by decide))).trans ((f63.g rfl).trans ((u54.gi_ne (by decide) (Or.inr (by decide))).trans (i2))))
                exact ih v96 t68 M97 H98 f101 (by omega) (by omega) (by omega) (by omega) (by omega)
              · exfalso; omega
            · refine s_blx (lv' := [(5, vL v60), (4, vI 0), (0, vR 77), (1, vI live), (2, vL x2)]) (st' := [vI live, vR 77]) B236_98_99 rfl ?_
              refine r_ifc (tgt := 106) (pc' := 102) D236_99 rfl rfl (by unfold inR; omega) (fun (c104 : live = 0) => ?_) (fun (c104 : ¬ (live = 0)) => ?_)
              · refine s_blx (lv' := [(5, vL v60), (4, vI 0), (0, vR 77), (1, vI live), (2, vL x2)]) (st' := [vI 0, vR 77]) B236_106_107 rfl ?_
                refine r_pbool (ki := 42) (pc' := 110) D236_107 rfl pf_11_388_77 rfl H62 (by omega) (show 0 ≤ 0 ∧ 0 ≤ 1 by omega) ?_
                intro M105 u106 H107 p108
                have f109 := f67.wr u106 rfl
                refine s_blx (lv' := [(5, vL 1), (4, vI 0), (0, vR 77), (1, vI live), (2, vL x2)]) (st' := [vI 0, vR 77]) B236_110_116 rfl ?_
                refine r_ifc (tgt := 126) (pc' := 119) D236_116 rfl rfl (by unfold inR; omega) (fun (c110 : 0 = 0) => ?_) (fun (c110 : ¬ (0 = 0)) => ?_)
                · refine s_blx (lv' := [(5, vL 1), (4, vI 0), (0, vR 77), (1, vI live), (2, vL x2)]) (st' := [vL 1, vL x2, vR 77]) B236_126_129 rfl ?_
                  refine r_ldivz (pc' := 130) D236_129 rfl (by first | exact knz (by omega) | exact nz_1 | (exfalso; omega)) ?_
                  intro z111 _
                  refine s_blx (lv' := [(5, vL 1), (4, vI 0), (0, vR 77), (1, vI live), (2, vL x2)]) (st' := [vI live, vL z111, vR 77]) B236_130_131 rfl ?_
                  refine r_vL (c := 77) (args := [vL z111, vI live]) (rest := []) (pc' := 134) D236_131 rfl ck_11_virtual_395 TE234 rfl (Nat.le_of_ble_eq_true rfl) ⟨Nat.le_of_ble_eq_true rfl, Nat.le_of_ble_eq_true rfl⟩ sc_77 ⟨rfl, by decide⟩ H107.1 (by omega) (k234x E (by omega) H107 z111 live (by omega)) ?_
                  intro v112 M113 q116
                  obtain ⟨H114, f115⟩ := q116
                  have f117 := f109.tr (f115.up rfl)
                  refine s_blx (lv' := [(2, vL v112), (5, vL 1), (4, vI 0), (0, vR 77), (1, vI live)]) (st' := []) B236_134_135 rfl ?_
                  refine r_goto (tgt := 6) D236_135 rfl ?_
                  refine r_loc (lv' := [(0, vR 77), (1, vI live), (2, vL v112)]) ⟨rfl, rfl, rfl, trivial⟩ rfl rfl ?_
                  have g118 : gi M113 77 40 = t68 := (f115.g rfl).trans ((u106.gi_ne (by decide) (Or.inr (by decide))).trans (ht69.symm))
                  have g119 : gi M113 77 41 = e := (f115.g rfl).trans ((u106.gi_ne (by decide) (Or.inr (by decide))).trans ((f63.g rfl).trans ((u54.gi_ne (by decide) (Or.inr (by decide))).trans (i2))))
                  exact ih v112 t68 M113 H114 f117 (by omega) (by omega) (by omega) (by omega) (by omega)
                · exfalso; omega
              · refine s_blx (lv' := [(5, vL v60), (4, vI 0), (0, vR 77), (1, vI live), (2, vL x2)]) (st' := [vI 1, vR 77]) B236_102_103 rfl ?_
                refine r_goto (tgt := 107) D236_103 rfl ?_
                refine r_pbool (ki := 42) (pc' := 110) D236_107 rfl pf_11_388_77 rfl H62 (by omega) (show 0 ≤ 1 ∧ 1 ≤ 1 by omega) ?_
                intro M120 u121 H122 p123
                have f124 := f67.wr u121 rfl
                refine s_blx (lv' := [(5, vL 1), (4, vI 0), (0, vR 77), (1, vI live), (2, vL x2)]) (st' := [vI 0, vR 77]) B236_110_116 rfl ?_
                refine r_ifc (tgt := 126) (pc' := 119) D236_116 rfl rfl (by unfold inR; omega) (fun (c125 : 0 = 0) => ?_) (fun (c125 : ¬ (0 = 0)) => ?_)
                · refine s_blx (lv' := [(5, vL 1), (4, vI 0), (0, vR 77), (1, vI live), (2, vL x2)]) (st' := [vL 1, vL x2, vR 77]) B236_126_129 rfl ?_
                  refine r_ldivz (pc' := 130) D236_129 rfl (by first | exact knz (by omega) | exact nz_1 | (exfalso; omega)) ?_
                  intro z126 _
                  refine s_blx (lv' := [(5, vL 1), (4, vI 0), (0, vR 77), (1, vI live), (2, vL x2)]) (st' := [vI live, vL z126, vR 77]) B236_130_131 rfl ?_
                  refine r_vL (c := 77) (args := [vL z126, vI live]) (rest := []) (pc' := 134) D236_131 rfl ck_11_virtual_395 TE234 rfl (Nat.le_of_ble_eq_true rfl) ⟨Nat.le_of_ble_eq_true rfl, Nat.le_of_ble_eq_true rfl⟩ sc_77 ⟨rfl, by decide⟩ H122.1 (by omega) (k234x E (by omega) H122 z126 live (by omega)) ?_
                  intro v127 M128 q131
                  obtain ⟨H129, f130⟩ := q131
                  have f132 := f124.tr (f130.up rfl)
                  refine s_blx (lv' := [(2, vL v127), (5, vL 1), (4, vI 0), (0, vR 77), (1, vI live)]) (st' := []) B236_134_135 rfl ?_
                  refine r_goto (tgt := 6) D236_135 rfl ?_
                  refine r_loc (lv' := [(0, vR 77), (1, vI live), (2, vL v127)]) ⟨rfl, rfl, rfl, trivial⟩ rfl rfl ?_
                  have g133 : gi M128 77 40 = t68 := (f130.g rfl).trans ((u121.gi_ne (by decide) (Or.inr (by decide))).trans (ht69.symm))
                  have g134 : gi M128 77 41 = e := (f130.g rfl).trans ((u121.gi_ne (by decide) (Or.inr (by decide))).trans ((f63.g rfl).trans ((u54.gi_ne (by decide) (Or.inr (by decide))).trans (i2))))
                  exact ih v127 t68 M128 H129 f132 (by omega) (by omega) (by omega) (by omega) (by omega)
                · exfalso; omega
      · refine s_blx (lv' := [(0, vR 77), (1, vI live), (2, vL x2)]) (st' := [vI 1]) B236_54_55 rfl ?_
        refine r_goto (tgt := 59) D236_55 rfl ?_
        refine s_blx (lv' := [(4, vI 1), (0, vR 77), (1, vI live), (2, vL x2)]) (st' := [vR 77, vR 77]) B236_59_63 rfl ?_
        refine r_gint (ki := 40) (pc' := 66) D236_63 rfl gf_11_378_77 rfl HN.1 ?_
        intro w135 e136 r137
        have e138 : t0 = w135 := (e136.trans (i0)).symm
        subst e138
        refine s_blx (lv' := [(4, vI 1), (0, vR 77), (1, vI live), (2, vL x2)]) (st' := [vI (t0 + 1), vR 77]) B236_66_68 rfl ?_
        refine r_pint (ki := 40) (pc' := 71) D236_68 rfl pf_11_378_77 rfl HN (by unfold inR; omega) trivial ?_
        intro M139 u140 H141 p142
        have f143 := fN.wr u140 rfl
        have kd := h2 t0 (by omega) (by omega)
        have ke : C t0 = 142 ∨ C t0 = 147 := by omega
        have k1 := d_op (x := F t0) (C t0) (by omega) (by omega) (by omega)
        refine s_blx (lv' := [(4, vI 1), (0, vR 77), (1, vI live), (2, vL x2)]) (st' := [vI live, vR 77]) B236_71_73 rfl ?_
        have g144 : gi M139 77 41 = e := (u140.gi_ne (by decide) (Or.inr (by decide))).trans (i2)
        have g145 : gi M139 77 40 = t0 + 1 := p142
        refine r_vL (c := 77) (args := [vI live]) (rest := []) (pc' := 76) D236_73 rfl ck_11_virtual_399 TE237 rfl (Nat.le_of_ble_eq_true rfl) ⟨Nat.le_of_ble_eq_true rfl, Nat.le_of_ble_eq_true rfl⟩ sc_77 ⟨rfl, by decide⟩ H141.1 (by omega) (k237x E ihr (by omega) H141 live p q s a e (t0 + 1) F C (by omega) ((h1.fr f143 rfl)) (h2) (by omega) (by omega) (by omega) (by omega) (by omega) (by omega) (by omega) (by omega) (by omega)) ?_
        intro v146 M147 q152
        obtain ⟨H148, f149, q150, q151⟩ := q152
        have f153 := f143.tr (f149.up rfl)
        obtain ⟨t154, ht155⟩ : ∃ q, q = gi M147 77 40 := ⟨_, rfl⟩
        rw [← ht155] at q150
        rw [← ht155] at q151
        refine s_blx (lv' := [(5, vL v146), (4, vI 1), (0, vR 77), (1, vI live), (2, vL x2)]) (st' := [vI 1]) B236_76_80 rfl ?_
        refine r_ifc (tgt := 113) (pc' := 83) D236_80 rfl rfl (by unfold inR; omega) (fun (c156 : 1 ≠ 0) => ?_) (fun (c156 : ¬ (1 ≠ 0)) => ?_)
        · refine s_blx (lv' := [(5, vL v146), (4, vI 1), (0, vR 77), (1, vI live), (2, vL x2)]) (st' := [vI 1, vR 77]) B236_113_116 rfl ?_
          refine r_ifc (tgt := 126) (pc' := 119) D236_116 rfl rfl (by unfold inR; omega) (fun (c157 : 1 = 0) => ?_) (fun (c157 : ¬ (1 = 0)) => ?_)
          · exfalso; omega
          · refine s_blx (lv' := [(5, vL v146), (4, vI 1), (0, vR 77), (1, vI live), (2, vL x2)]) (st' := [vL (x2 * v146), vR 77]) B236_119_123 rfl ?_
            refine r_goto (tgt := 130) D236_123 rfl ?_
            refine s_blx (lv' := [(5, vL v146), (4, vI 1), (0, vR 77), (1, vI live), (2, vL x2)]) (st' := [vI live, vL (x2 * v146), vR 77]) B236_130_131 rfl ?_
            refine r_vL (c := 77) (args := [vL (x2 * v146), vI live]) (rest := []) (pc' := 134) D236_131 rfl ck_11_virtual_395 TE234 rfl (Nat.le_of_ble_eq_true rfl) ⟨Nat.le_of_ble_eq_true rfl, Nat.le_of_ble_eq_true rfl⟩ sc_77 ⟨rfl, by decide⟩ H148.1 (by omega) (k234x E (by omega) H148 (x2 * v146) live (by omega)) ?_
            intro v158 M159 q162
            obtain ⟨H160, f161⟩ := q162
            have f163 := f153.tr (f161.up rfl)
            refine s_blx (lv' := [(2, vL v158), (5, vL v146), (4, vI 1), (0, vR 77), (1, vI live)]) (st' := []) B236_134_135 rfl ?_
            refine r_goto (tgt := 6) D236_135 rfl ?_
            refine r_loc (lv' := [(0, vR 77), (1, vI live), (2, vL v158)]) ⟨rfl, rfl, rfl, trivial⟩ rfl rfl ?_
            have g164 : gi M159 77 40 = t154 := (f161.g rfl).trans (ht155.symm)
            have g165 : gi M159 77 41 = e := (f161.g rfl).trans ((f149.g rfl).trans ((u140.gi_ne (by decide) (Or.inr (by decide))).trans (i2)))
            exact ih v158 t154 M159 H160 f163 (by omega) (by omega) (by omega) (by omega) (by omega)
        · exfalso; omega
    · refine s_blx (lv' := [(0, vR 77), (1, vI live), (2, vL x2)]) (st' := [vR 77, vR 77]) B236_22_24 rfl ?_
      refine r_gint (ki := 40) (pc' := 27) D236_24 rfl gf_11_378_77 rfl HN.1 ?_
      intro w166 e167 r168
      have e169 : t0 = w166 := (e167.trans (i0)).symm
      subst e169
      have g170 : gi N 77 41 = e := i2
      refine r_vIp (c := 77) (args := [vI t0]) (rest := []) (pc' := 30) D236_27 rfl ck_11_virtual_381 TE232 rfl (Nat.le_of_ble_eq_true rfl) ⟨Nat.le_of_ble_eq_true rfl, Nat.le_of_ble_eq_true rfl⟩ sc_77 ⟨rfl, by decide⟩ HN.1 (by omega) (k232x E (by omega) HN t0 e C ((h1.fr fN rfl)) (by omega) (by omega) (by omega)) ?_
      intro v171 q176
      obtain ⟨q173, q174, q175⟩ := q176
      refine s_blx (lv' := [(0, vR 77), (1, vI live), (2, vL x2)]) (st' := [vI 47, vI v171]) B236_30_32 rfl ?_
      refine r_sIp (args := [vI 47]) (rest := [vI v171]) (pc' := 35) D236_32 rfl ck_11_static_346 TE221 rfl (Nat.le_of_ble_eq_true rfl) ⟨Nat.le_of_ble_eq_true rfl, Nat.le_of_ble_eq_true rfl⟩ (by decide) (by omega) (k221 E (by omega) HN 47 (by omega)) ?_
      intro v177 q180
      have q179 := q180; clear q180
      have e181 : v177 = 147 := by omega
      subst e181
      refine r_icmp (tgt := 138) (pc' := 38) D236_35 rfl rfl (by unfold inR; omega) (fun (c182 : v171 ≠ 147) => ?_) (fun (c182 : ¬ (v171 ≠ 147)) => ?_)
      · refine s_blx (lv' := [(0, vR 77), (1, vI live), (2, vL x2)]) (st' := [vL x2]) B236_138_139 rfl ?_
        have g183 : gi N 77 40 = t0 := i0
        exact r_lretL D236_139 rfl (⟨HN, fN, by rw [g183]; omega, by rw [g183]; omega, by rw [g183]; omega⟩)
      · refine s_blx (lv' := [(0, vR 77), (1, vI live), (2, vL x2)]) (st' := [vR 77, vR 77]) B236_38_40 rfl ?_
        refine r_gint (ki := 40) (pc' := 43) D236_40 rfl gf_11_378_77 rfl HN.1 ?_
        intro w184 e185 r186
        have e187 : t0 = w184 := (e185.trans (i0)).symm
        subst e187
        have g188 : gi N 77 41 = e := i2
        refine r_vIp (c := 77) (args := [vI t0]) (rest := []) (pc' := 46) D236_43 rfl ck_11_virtual_381 TE232 rfl (Nat.le_of_ble_eq_true rfl) ⟨Nat.le_of_ble_eq_true rfl, Nat.le_of_ble_eq_true rfl⟩ sc_77 ⟨rfl, by decide⟩ HN.1 (by omega) (k232x E (by omega) HN t0 e C ((h1.fr fN rfl)) (by omega) (by omega) (by omega)) ?_
        intro v189 q194
        obtain ⟨q191, q192, q193⟩ := q194
        refine s_blx (lv' := [(0, vR 77), (1, vI live), (2, vL x2)]) (st' := [vI 42, vI v189]) B236_46_48 rfl ?_
        refine r_sIp (args := [vI 42]) (rest := [vI v189]) (pc' := 51) D236_48 rfl ck_11_static_346 TE221 rfl (Nat.le_of_ble_eq_true rfl) ⟨Nat.le_of_ble_eq_true rfl, Nat.le_of_ble_eq_true rfl⟩ (by decide) (by omega) (k221 E (by omega) HN 42 (by omega)) ?_
        intro v195 q198
        have q197 := q198; clear q198
        have e199 : v195 = 142 := by omega
        subst e199
        refine r_icmp (tgt := 58) (pc' := 54) D236_51 rfl rfl (by unfold inR; omega) (fun (c200 : v189 ≠ 142) => ?_) (fun (c200 : ¬ (v189 ≠ 142)) => ?_)
        · refine s_blx (lv' := [(4, vI 0), (0, vR 77), (1, vI live), (2, vL x2)]) (st' := [vR 77, vR 77]) B236_58_63 rfl ?_
          refine r_gint (ki := 40) (pc' := 66) D236_63 rfl gf_11_378_77 rfl HN.1 ?_
          intro w201 e202 r203
          have e204 : t0 = w201 := (e202.trans (i0)).symm
          subst e204
          refine s_blx (lv' := [(4, vI 0), (0, vR 77), (1, vI live), (2, vL x2)]) (st' := [vI (t0 + 1), vR 77]) B236_66_68 rfl ?_
          refine r_pint (ki := 40) (pc' := 71) D236_68 rfl pf_11_378_77 rfl HN (by unfold inR; omega) trivial ?_
          intro M205 u206 H207 p208
          have f209 := fN.wr u206 rfl
          have kd := h2 t0 (by omega) (by omega)
          have ke : C t0 = 142 ∨ C t0 = 147 := by omega
          have k1 := d_op (x := F t0) (C t0) (by omega) (by omega) (by omega)
          refine s_blx (lv' := [(4, vI 0), (0, vR 77), (1, vI live), (2, vL x2)]) (st' := [vI live, vR 77]) B236_71_73 rfl ?_
          have g210 : gi M205 77 41 = e := (u206.gi_ne (by decide) (Or.inr (by decide))).trans (i2)
          have g211 : gi M205 77 40 = t0 + 1 := p208
          refine r_vL (c := 77) (args := [vI live]) (rest := []) (pc' := 76) D236_73 rfl ck_11_virtual_399 TE237 rfl (Nat.le_of_ble_eq_true rfl) ⟨Nat.le_of_ble_eq_true rfl, Nat.le_of_ble_eq_true rfl⟩ sc_77 ⟨rfl, by decide⟩ H207.1 (by omega) (k237x E ihr (by omega) H207 live p q s a e (t0 + 1) F C (by omega) ((h1.fr f209 rfl)) (h2) (by omega) (by omega) (by omega) (by omega) (by omega) (by omega) (by omega) (by omega) (by omega)) ?_
          intro v212 M213 q218
          obtain ⟨H214, f215, q216, q217⟩ := q218
          have f219 := f209.tr (f215.up rfl)
          obtain ⟨t220, ht221⟩ : ∃ q, q = gi M213 77 40 := ⟨_, rfl⟩
          rw [← ht221] at q216
          rw [← ht221] at q217
          refine s_blx (lv' := [(5, vL v212), (4, vI 0), (0, vR 77), (1, vI live), (2, vL x2)]) (st' := [vI 0]) B236_76_80 rfl ?_
          refine r_ifc (tgt := 113) (pc' := 83) D236_80 rfl rfl (by unfold inR; omega) (fun (c222 : 0 ≠ 0) => ?_) (fun (c222 : ¬ (0 ≠ 0)) => ?_)
          · exfalso; omega
          · refine s_blx (lv' := [(5, vL v212), (4, vI 0), (0, vR 77), (1, vI live), (2, vL x2)]) (st' := [vL 0, vL v212]) B236_83_86 rfl ?_
            refine r_lcmpz (pc' := 87) D236_86 rfl ?_
            intro z223 r224 r225 knz
            refine r_ifc (tgt := 113) (pc' := 90) D236_87 rfl rfl (by unfold inR; omega) (fun (c226 : z223 ≠ 0) => ?_) (fun (c226 : ¬ (z223 ≠ 0)) => ?_)
            · refine s_blx (lv' := [(5, vL v212), (4, vI 0), (0, vR 77), (1, vI live), (2, vL x2)]) (st' := [vI 0, vR 77]) B236_113_116 rfl ?_
              refine r_ifc (tgt := 126) (pc' := 119) D236_116 rfl rfl (by unfold inR; omega) (fun (c227 : 0 = 0) => ?_) (fun (c227 : ¬ (0 = 0)) => ?_)
              · refine s_blx (lv' := [(5, vL v212), (4, vI 0), (0, vR 77), (1, vI live), (2, vL x2)]) (st' := [vL v212, vL x2, vR 77]) B236_126_129 rfl ?_
                refine r_ldivz (pc' := 130) D236_129 rfl (by first | exact knz (by omega) | exact nz_1 | (exfalso; omega)) ?_
                intro z228 _
                refine s_blx (lv' := [(5, vL v212), (4, vI 0), (0, vR 77), (1, vI live), (2, vL x2)]) (st' := [vI live, vL z228, vR 77]) B236_130_131 rfl ?_
                refine r_vL (c := 77) (args := [vL z228, vI live]) (rest := []) (pc' := 134) D236_131 rfl ck_11_virtual_395 TE234 rfl (Nat.le_of_ble_eq_true rfl) ⟨Nat.le_of_ble_eq_true rfl, Nat.le_of_ble_eq_true rfl⟩ sc_77 ⟨rfl, by decide⟩ H214.1 (by omega) (k234x E (by omega) H214 z228 live (by omega)) ?_
                intro v229 M230 q233
                obtain ⟨H231, f232⟩ := q233
                have f234 := f219.tr (f232.up rfl)
                refine s_blx (lv' := [(2, vL v229), (5, vL v212), (4, vI 0), (0, vR 77), (1, vI live)]) (st' := []) B236_134_135 rfl ?_
                refine r_goto (tgt := 6) D236_135 rfl ?_
                refine r_loc (lv' := [(0, vR 77), (1, vI live), (2, vL v229)]) ⟨rfl, rfl, rfl, trivial⟩ rfl rfl ?_
                have g235 : gi M230 77 40 = t220 := (f232.g rfl).trans (ht221.symm)
                have g236 : gi M230 77 41 = e := (f232.g rfl).trans ((f215.g rfl).trans ((u206.gi_ne (by decide) (Or.inr (by decide))).trans (i2)))
                exact ih v229 t220 M230 H231 f234 (by omega) (by omega) (by omega) (by omega) (by omega)
              · exfalso; omega
            · refine s_blx (lv' := [(5, vL v212), (4, vI 0), (0, vR 77), (1, vI live), (2, vL x2)]) (st' := [vR 77, vR 77]) B236_90_92 rfl ?_
              refine r_gint (ki := 42) (pc' := 95) D236_92 rfl gf_11_388_77 rfl H214.1 ?_
              intro w237 e238 r239
              have b_w237 := H214.2 77 (42) 0 1 rfl
              rw [← e238] at b_w237; clear r239
              refine r_ifc (tgt := 102) (pc' := 98) D236_95 rfl rfl (by unfold inR; omega) (fun (c240 : w237 ≠ 0) => ?_) (fun (c240 : ¬ (w237 ≠ 0)) => ?_)
              · refine s_blx (lv' := [(5, vL v212), (4, vI 0), (0, vR 77), (1, vI live), (2, vL x2)]) (st' := [vI 1, vR 77]) B236_102_103 rfl ?_
                refine r_goto (tgt := 107) D236_103 rfl ?_
                refine r_pbool (ki := 42) (pc' := 110) D236_107 rfl pf_11_388_77 rfl H214 (by omega) (show 0 ≤ 1 ∧ 1 ≤ 1 by omega) ?_
                intro M241 u242 H243 p244
                have f245 := f219.wr u242 rfl
                refine s_blx (lv' := [(5, vL 1), (4, vI 0), (0, vR 77), (1, vI live), (2, vL x2)]) (st' := [vI 0, vR 77]) B236_110_116 rfl ?_
                refine r_ifc (tgt := 126) (pc' := 119) D236_116 rfl rfl (by unfold inR; omega) (fun (c246 : 0 = 0) => ?_) (fun (c246 : ¬ (0 = 0)) => ?_)
                · refine s_blx (lv' := [(5, vL 1), (4, vI 0), (0, vR 77), (1, vI live), (2, vL x2)]) (st' := [vL 1, vL x2, vR 77]) B236_126_129 rfl ?_
                  refine r_ldivz (pc' := 130) D236_129 rfl (by first | exact knz (by omega) | exact nz_1 | (exfalso; omega)) ?_
                  intro z247 _
                  refine s_blx (lv' := [(5, vL 1), (4, vI 0), (0, vR 77), (1, vI live), (2, vL x2)]) (st' := [vI live, vL z247, vR 77]) B236_130_131 rfl ?_
                  refine r_vL (c := 77) (args := [vL z247, vI live]) (rest := []) (pc' := 134) D236_131 rfl ck_11_virtual_395 TE234 rfl (Nat.le_of_ble_eq_true rfl) ⟨Nat.le_of_ble_eq_true rfl, Nat.le_of_ble_eq_true rfl⟩ sc_77 ⟨rfl, by decide⟩ H243.1 (by omega) (k234x E (by omega) H243 z247 live (by omega)) ?_
                  intro v248 M249 q252
                  obtain ⟨H250, f251⟩ := q252
                  have f253 := f245.tr (f251.up rfl)
                  refine s_blx (lv' := [(2, vL v248), (5, vL 1), (4, vI 0), (0, vR 77), (1, vI live)]) (st' := []) B236_134_135 rfl ?_
                  refine r_goto (tgt := 6) D236_135 rfl ?_
                  refine r_loc (lv' := [(0, vR 77), (1, vI live), (2, vL v248)]) ⟨rfl, rfl, rfl, trivial⟩ rfl rfl ?_
                  have g254 : gi M249 77 40 = t220 := (f251.g rfl).trans ((u242.gi_ne (by decide) (Or.inr (by decide))).trans (ht221.symm))
                  have g255 : gi M249 77 41 = e := (f251.g rfl).trans ((u242.gi_ne (by decide) (Or.inr (by decide))).trans ((f215.g rfl).trans ((u206.gi_ne (by decide) (Or.inr (by decide))).trans (i2))))
                  exact ih v248 t220 M249 H250 f253 (by omega) (by omega) (by omega) (by omega) (by omega)
                · exfalso; omega
              · refine s_blx (lv' := [(5, vL v212), (4, vI 0), (0, vR 77), (1, vI live), (2, vL x2)]) (st' := [vI live, vR 77]) B236_98_99 rfl ?_
                refine r_ifc (tgt := 106) (pc' := 102) D236_99 rfl rfl (by unfold inR; omega) (fun (c256 : live = 0) => ?_) (fun (c256 : ¬ (live = 0)) => ?_)
                · refine s_blx (lv' := [(5, vL v212), (4, vI 0), (0, vR 77), (1, vI live), (2, vL x2)]) (st' := [vI 0, vR 77]) B236_106_107 rfl ?_
                  refine r_pbool (ki := 42) (pc' := 110) D236_107 rfl pf_11_388_77 rfl H214 (by omega) (show 0 ≤ 0 ∧ 0 ≤ 1 by omega) ?_
                  intro M257 u258 H259 p260
                  have f261 := f219.wr u258 rfl
                  refine s_blx (lv' := [(5, vL 1), (4, vI 0), (0, vR 77), (1, vI live), (2, vL x2)]) (st' := [vI 0, vR 77]) B236_110_116 rfl ?_
                  refine r_ifc (tgt := 126) (pc' := 119) D236_116 rfl rfl (by unfold inR; omega) (fun (c262 : 0 = 0) => ?_) (fun (c262 : ¬ (0 = 0)) => ?_)
                  · refine s_blx (lv' := [(5, vL 1), (4, vI 0), (0, vR 77), (1, vI live), (2, vL x2)]) (st' := [vL 1, vL x2, vR 77]) B236_126_129 rfl ?_
                    refine r_ldivz (pc' := 130) D236_129 rfl (by first | exact knz (by omega) | exact nz_1 | (exfalso; omega)) ?_
                    intro z263 _
                    refine s_blx (lv' := [(5, vL 1), (4, vI 0), (0, vR 77), (1, vI live), (2, vL x2)]) (st' := [vI live, vL z263, vR 77]) B236_130_131 rfl ?_
                    refine r_vL (c := 77) (args := [vL z263, vI live]) (rest := []) (pc' := 134) D236_131 rfl ck_11_virtual_395 TE234 rfl (Nat.le_of_ble_eq_true rfl) ⟨Nat.le_of_ble_eq_true rfl, Nat.le_of_ble_eq_true rfl⟩ sc_77 ⟨rfl, by decide⟩ H259.1 (by omega) (k234x E (by omega) H259 z263 live (by omega)) ?_
                    intro v264 M265 q268
                    obtain ⟨H266, f267⟩ := q268
                    have f269 := f261.tr (f267.up rfl)
                    refine s_blx (lv' := [(2, vL v264), (5, vL 1), (4, vI 0), (0, vR 77), (1, vI live)]) (st' := []) B236_134_135 rfl ?_
                    refine r_goto (tgt := 6) D236_135 rfl ?_
                    refine r_loc (lv' := [(0, vR 77), (1, vI live), (2, vL v264)]) ⟨rfl, rfl, rfl, trivial⟩ rfl rfl ?_
                    have g270 : gi M265 77 40 = t220 := (f267.g rfl).trans ((u258.gi_ne (by decide) (Or.inr (by decide))).trans (ht221.symm))
                    have g271 : gi M265 77 41 = e := (f267.g rfl).trans ((u258.gi_ne (by decide) (Or.inr (by decide))).trans ((f215.g rfl).trans ((u206.gi_ne (by decide) (Or.inr (by decide))).trans (i2))))
                    exact ih v264 t220 M265 H266 f269 (by omega) (by omega) (by omega) (by omega) (by omega)
                  · exfalso; omega
                · refine s_blx (lv' := [(5, vL v212), (4, vI 0), (0, vR 77), (1, vI live), (2, vL x2)]) (st' := [vI 1, vR 77]) B236_102_103 rfl ?_
                  refine r_goto (tgt := 107) D236_103 rfl ?_
                  refine r_pbool (ki := 42) (pc' := 110) D236_107 rfl pf_11_388_77 rfl H214 (by omega) (show 0 ≤ 1 ∧ 1 ≤ 1 by omega) ?_
                  intro M272 u273 H274 p275
                  have f276 := f219.wr u273 rfl
                  refine s_blx (lv' := [(5, vL 1), (4, vI 0), (0, vR 77), (1, vI live), (2, vL x2)]) (st' := [vI 0, vR 77]) B236_110_116 rfl ?_
                  refine r_ifc (tgt := 126) (pc' := 119) D236_116 rfl rfl (by unfold inR; omega) (fun (c277 : 0 = 0) => ?_) (fun (c277 : ¬ (0 = 0)) => ?_)
                  · refine s_blx (lv' := [(5, vL 1), (4, vI 0), (0, vR 77), (1, vI live), (2, vL x2)]) (st' := [vL 1, vL x2, vR 77]) B236_126_129 rfl ?_
                    refine r_ldivz (pc' := 130) D236_129 rfl (by first | exact knz (by omega) | exact nz_1 | (exfalso; omega)) ?_
                    intro z278 _
                    refine s_blx (lv' := [(5, vL 1), (4, vI 0), (0, vR 77), (1, vI live), (2, vL x2)]) (st' := [vI live, vL z278, vR 77]) B236_130_131 rfl ?_
                    refine r_vL (c := 77) (args := [vL z278, vI live]) (rest := []) (pc' := 134) D236_131 rfl ck_11_virtual_395 TE234 rfl (Nat.le_of_ble_eq_true rfl) ⟨Nat.le_of_ble_eq_true rfl, Nat.le_of_ble_eq_true rfl⟩ sc_77 ⟨rfl, by decide⟩ H274.1 (by omega) (k234x E (by omega) H274 z278 live (by omega)) ?_
                    intro v279 M280 q283
                    obtain ⟨H281, f282⟩ := q283
                    have f284 := f276.tr (f282.up rfl)
                    refine s_blx (lv' := [(2, vL v279), (5, vL 1), (4, vI 0), (0, vR 77), (1, vI live)]) (st' := []) B236_134_135 rfl ?_
                    refine r_goto (tgt := 6) D236_135 rfl ?_
                    refine r_loc (lv' := [(0, vR 77), (1, vI live), (2, vL v279)]) ⟨rfl, rfl, rfl, trivial⟩ rfl rfl ?_
                    have g285 : gi M280 77 40 = t220 := (f282.g rfl).trans ((u273.gi_ne (by decide) (Or.inr (by decide))).trans (ht221.symm))
                    have g286 : gi M280 77 41 = e := (f282.g rfl).trans ((u273.gi_ne (by decide) (Or.inr (by decide))).trans ((f215.g rfl).trans ((u206.gi_ne (by decide) (Or.inr (by decide))).trans (i2))))
                    exact ih v279 t220 M280 H281 f284 (by omega) (by omega) (by omega) (by omega) (by omega)
                  · exfalso; omega
        · refine s_blx (lv' := [(0, vR 77), (1, vI live), (2, vL x2)]) (st' := [vI 1]) B236_54_55 rfl ?_
          refine r_goto (tgt := 59) D236_55 rfl ?_
          refine s_blx (lv' := [(4, vI 1), (0, vR 77), (1, vI live), (2, vL x2)]) (st' := [vR 77, vR 77]) B236_59_63 rfl ?_
          refine r_gint (ki := 40) (pc' := 66) D236_63 rfl gf_11_378_77 rfl HN.1 ?_
          intro w287 e288 r289
          have e290 : t0 = w287 := (e288.trans (i0)).symm
          subst e290
          refine s_blx (lv' := [(4, vI 1), (0, vR 77), (1, vI live), (2, vL x2)]) (st' := [vI (t0 + 1), vR 77]) B236_66_68 rfl ?_
          refine r_pint (ki := 40) (pc' := 71) D236_68 rfl pf_11_378_77 rfl HN (by unfold inR; omega) trivial ?_
          intro M291 u292 H293 p294
          have f295 := fN.wr u292 rfl
          have kd := h2 t0 (by omega) (by omega)
          have ke : C t0 = 142 ∨ C t0 = 147 := by omega
          have k1 := d_op (x := F t0) (C t0) (by omega) (by omega) (by omega)
          refine s_blx (lv' := [(4, vI 1), (0, vR 77), (1, vI live), (2, vL x2)]) (st' := [vI live, vR 77]) B236_71_73 rfl ?_
          have g296 : gi M291 77 41 = e := (u292.gi_ne (by decide) (Or.inr (by decide))).trans (i2)
          have g297 : gi M291 77 40 = t0 + 1 := p294
          refine r_vL (c := 77) (args := [vI live]) (rest := []) (pc' := 76) D236_73 rfl ck_11_virtual_399 TE237 rfl (Nat.le_of_ble_eq_true rfl) ⟨Nat.le_of_ble_eq_true rfl, Nat.le_of_ble_eq_true rfl⟩ sc_77 ⟨rfl, by decide⟩ H293.1 (by omega) (k237x E ihr (by omega) H293 live p q s a e (t0 + 1) F C (by omega) ((h1.fr f295 rfl)) (h2) (by omega) (by omega) (by omega) (by omega) (by omega) (by omega) (by omega) (by omega) (by omega)) ?_
          intro v298 M299 q304
          obtain ⟨H300, f301, q302, q303⟩ := q304
          have f305 := f295.tr (f301.up rfl)
          obtain ⟨t306, ht307⟩ : ∃ q, q = gi M299 77 40 := ⟨_, rfl⟩
          rw [← ht307] at q302
          rw [← ht307] at q303
          refine s_blx (lv' := [(5, vL v298), (4, vI 1), (0, vR 77), (1, vI live), (2, vL x2)]) (st' := [vI 1]) B236_76_80 rfl ?_
          refine r_ifc (tgt := 113) (pc' := 83) D236_80 rfl rfl (by unfold inR; omega) (fun (c308 : 1 ≠ 0) => ?_) (fun (c308 : ¬ (1 ≠ 0)) => ?_)
          · refine s_blx (lv' := [(5, vL v298), (4, vI 1), (0, vR 77), (1, vI live), (2, vL x2)]) (st' := [vI 1, vR 77]) B236_113_116 rfl ?_
            refine r_ifc (tgt := 126) (pc' := 119) D236_116 rfl rfl (by unfold inR; omega) (fun (c309 : 1 = 0) => ?_) (fun (c309 : ¬ (1 = 0)) => ?_)
            · exfalso; omega
            · refine s_blx (lv' := [(5, vL v298), (4, vI 1), (0, vR 77), (1, vI live), (2, vL x2)]) (st' := [vL (x2 * v298), vR 77]) B236_119_123 rfl ?_
              refine r_goto (tgt := 130) D236_123 rfl ?_
              refine s_blx (lv' := [(5, vL v298), (4, vI 1), (0, vR 77), (1, vI live), (2, vL x2)]) (st' := [vI live, vL (x2 * v298), vR 77]) B236_130_131 rfl ?_
              refine r_vL (c := 77) (args := [vL (x2 * v298), vI live]) (rest := []) (pc' := 134) D236_131 rfl ck_11_virtual_395 TE234 rfl (Nat.le_of_ble_eq_true rfl) ⟨Nat.le_of_ble_eq_true rfl, Nat.le_of_ble_eq_true rfl⟩ sc_77 ⟨rfl, by decide⟩ H300.1 (by omega) (k234x E (by omega) H300 (x2 * v298) live (by omega)) ?_
              intro v310 M311 q314
              obtain ⟨H312, f313⟩ := q314
              have f315 := f305.tr (f313.up rfl)
              refine s_blx (lv' := [(2, vL v310), (5, vL v298), (4, vI 1), (0, vR 77), (1, vI live)]) (st' := []) B236_134_135 rfl ?_
              refine r_goto (tgt := 6) D236_135 rfl ?_
              refine r_loc (lv' := [(0, vR 77), (1, vI live), (2, vL v310)]) ⟨rfl, rfl, rfl, trivial⟩ rfl rfl ?_
              have g316 : gi M311 77 40 = t306 := (f313.g rfl).trans (ht307.symm)
              have g317 : gi M311 77 41 = e := (f313.g rfl).trans ((f301.g rfl).trans ((u292.gi_ne (by decide) (Or.inr (by decide))).trans (i2)))
              exact ih v310 t306 M311 H312 f315 (by omega) (by omega) (by omega) (by omega) (by omega)
          · exfalso; omega
set_option maxRecDepth 4000 in
theorem k236x {base : Nat} {X : Nat → Option mC} {G : Nat → Value} (E : EnvOK base X G) {rr : Nat} (ihr : ∀ {d : Nat} (_ : 4 + 3 * rr ≤ d) {M : mH} (_ : HI base M) (live : Int) (p : Int) (q : Int) (s : Int) (a : Int) (e : Int) (gg : Int) (F : Int → Int) (C : Int → Int), ((live = 0 ∨ live = 1)) → (KC C M) → (∀ j : Int, a ≤ j → j < e → F (j + 1) = dl (F j) (C j) ∧ F (j + 1) ≠ 0) → (F e = 2 ∨ F e = 20 ∨ F e = 2001) → (gi M 77 41 = e) → (0 ≤ a ∧ e ≤ 3200) → (gi M 77 40 = gg) → (a ≤ gg ∧ gg ≤ e) → (F gg = 1000 + 100 * p + 10 * q + s ∨ (F gg = 10 + p ∧ q = 0 ∧ s = 0 ∧ C gg ≠ 10 ∧ C gg ≠ 140 ∧ C gg ≠ 11 ∧ C gg ≠ 12)) → (0 ≤ p ∧ 0 ≤ q ∧ p + q ≤ 8) → (0 ≤ s ∧ s ≤ 1) → 8 - p - q < ((rr : Nat) : Int) → sOk base X G d T235 [vR 77, vI live] M (pL (fun v M' => HI base M' ∧ Fr [(77, 41), (77, 43)] M M' ∧ (gg < gi M' 77 40 ∧ gi M' 77 40 ≤ e) ∧ (F (gi M' 77 40) = 2000 + 100 * p + 10 * q + s) ∧ (gi M' 77 40 < e → C (gi M' 77 40) ≠ 142 ∧ C (gi M' 77 40) ≠ 147) ∧ (gi M' 77 40 < e → C (gi M' 77 40) ≠ 143 ∧ C (gi M' 77 40) ≠ 145)))) {d : Nat} (hd : 6 + 3 * rr ≤ d) {M : mH} (H : HI base M) (live : Int) (p : Int) (q : Int) (s : Int) (a : Int) (e : Int) (gg : Int) (F : Int → Int) (C : Int → Int) (h0 : (live = 0 ∨ live = 1)) (h1 : KC C M) (h2 : ∀ j : Int, a ≤ j → j < e → F (j + 1) = dl (F j) (C j) ∧ F (j + 1) ≠ 0) (h3 : F e = 2 ∨ F e = 20 ∨ F e = 2001) (h4 : gi M 77 41 = e) (h5 : 0 ≤ a ∧ e ≤ 3200) (h6 : gi M 77 40 = gg) (h7 : a ≤ gg ∧ gg ≤ e) (h8 : F gg = 1000 + 100 * p + 10 * q + s ∨ (F gg = 10 + p ∧ q = 0 ∧ s = 0 ∧ C gg ≠ 10 ∧ C gg ≠ 140 ∧ C gg ≠ 11 ∧ C gg ≠ 12)) (h9 : 0 ≤ p ∧ 0 ≤ q ∧ p + q ≤ 8) (h10 : 0 ≤ s ∧ s ≤ 1) (h11 : 8 - p - q < (rr : Int) + 1) : sOk base X G d T236 [vR 77, vI live] M (pL (fun v M' => HI base M' ∧ Fr [(77, 41), (77, 43)] M M' ∧ (gg < gi M' 77 40 ∧ gi M' 77 40 ≤ e) ∧ (F (gi M' 77 40) = 2000 + 100 * p + 10 * q + s) ∧ (gi M' 77 40 < e → C (gi M' 77 40) ≠ 142 ∧ C (gi M' 77 40) ≠ 147))) := by
  have f0 : Fr [(77, 41), (77, 43)] M M := Fr.rf
  refine sOk.of (show sRn base X G d T236 0 [(0, vR 77), (1, vI live)] [] M _ from ?_)
  refine s_blx (lv' := [(0, vR 77), (1, vI live)]) (st' := [vI live, vR 77]) B236_0_2 rfl ?_
  have g1 : gi M 77 41 = e := h4
  have g2 : gi M 77 40 = gg := h6
  refine r_vL (c := 77) (args := [vI live]) (rest := []) (pc' := 5) D236_2 rfl ck_11_virtual_399 TE237 rfl (Nat.le_of_ble_eq_true rfl) ⟨Nat.le_of_ble_eq_true rfl, Nat.le_of_ble_eq_true rfl⟩ sc_77 ⟨rfl, by decide⟩ H.1 (by omega) (k237x E ihr (by omega) H live p q s a e gg F C (by omega) (h1) (h2) (by omega) (by omega) (by omega) (by omega) (by omega) (by omega) (by omega) (by omega) (by omega)) ?_
  intro v3 M4 q9
  obtain ⟨H5, f6, q7, q8⟩ := q9
  have f10 := f0.tr (f6.up rfl)
  obtain ⟨t11, ht12⟩ : ∃ q, q = gi M4 77 40 := ⟨_, rfl⟩
  rw [← ht12] at q7
  rw [← ht12] at q8
  refine s_blx (lv' := [(2, vL v3), (0, vR 77), (1, vI live)]) (st' := []) B236_5_6 rfl ?_
  refine r_loc (lv' := [(0, vR 77), (1, vI live), (2, vL v3)]) ⟨rfl, rfl, rfl, trivial⟩ rfl rfl ?_
  have g13 : gi M4 77 40 = t11 := ht12.symm
  have g14 : gi M4 77 41 = e := (f6.g rfl).trans (h4)
  exact (L_k236x E ihr hd H live p q s a e gg F C h0 h1 h2 h3 h4 h5 h6 h7 h8 h9 h10 h11 (((3200 - t11) * 1 + 0 : Int) + 1).toNat) v3 t11 M4 H5 f10 (by omega) (by omega) (by omega) (by omega) (by omega)
set_option maxRecDepth 4000 in
theorem L_k235x {base : Nat} {X : Nat → Option mC} {G : Nat → Value} (E : EnvOK base X G) {rr : Nat} (ihr : ∀ {d : Nat} (_ : 4 + 3 * rr ≤ d) {M : mH} (_ : HI base M) (live : Int) (p : Int) (q : Int) (s : Int) (a : Int) (e : Int) (gg : Int) (F : Int → Int) (C : Int → Int), ((live = 0 ∨ live = 1)) → (KC C M) → (∀ j : Int, a ≤ j → j < e → F (j + 1) = dl (F j) (C j) ∧ F (j + 1) ≠ 0) → (F e = 2 ∨ F e = 20 ∨ F e = 2001) → (gi M 77 41 = e) → (0 ≤ a ∧ e ≤ 3200) → (gi M 77 40 = gg) → (a ≤ gg ∧ gg ≤ e) → (F gg = 1000 + 100 * p + 10 * q + s ∨ (F gg = 10 + p ∧ q = 0 ∧ s = 0 ∧ C gg ≠ 10 ∧ C gg ≠ 140 ∧ C gg ≠ 11 ∧ C gg ≠ 12)) → (0 ≤ p ∧ 0 ≤ q ∧ p + q ≤ 8) → (0 ≤ s ∧ s ≤ 1) → 8 - p - q < ((rr : Nat) : Int) → sOk base X G d T235 [vR 77, vI live] M (pL (fun v M' => HI base M' ∧ Fr [(77, 41), (77, 43)] M M' ∧ (gg < gi M' 77 40 ∧ gi M' 77 40 ≤ e) ∧ (F (gi M' 77 40) = 2000 + 100 * p + 10 * q + s) ∧ (gi M' 77 40 < e → C (gi M' 77 40) ≠ 142 ∧ C (gi M' 77 40) ≠ 147) ∧ (gi M' 77 40 < e → C (gi M' 77 40) ≠ 143 ∧ C (gi M' 77 40) ≠ 145)))) {d : Nat} (hd : 4 + 3 * (rr + 1) ≤ d) {M : mH} (H : HI base M) (live : Int) (p : Int) (q : Int) (s : Int) (a : Int) (e : Int) (gg : Int) (F : Int → Int) (C : Int → Int) (h0 : (live = 0 ∨ live = 1)) (h1 : KC C M) (h2 : ∀ j : Int, a ≤ j → j < e → F (j + 1) = dl (F j) (C j) ∧ F (j + 1) ≠ 0) (h3 : F e = 2 ∨ F e = 20 ∨ F e = 2001) (h4 : gi M 77 41 = e) (h5 : 0 ≤ a ∧ e ≤ 3200) (h6 : gi M 77 40 = gg) (h7 : a ≤ gg ∧ gg ≤ e) (h8 : F gg = 1000 + 100 * p + 10 * q + s ∨ (F gg = 10 + p ∧ q = 0 ∧ s = 0 ∧ C gg ≠ 10 ∧ C gg ≠ 140 ∧ C gg ≠ 11 ∧ C gg ≠ 12)) (h9 : 0 ≤ p ∧ 0 ≤ q ∧ p + q ≤ 8) (h10 : 0 ≤ s ∧ s ≤ 1) (hrr : 8 - p - q < ((rr + 1 : Nat) : Int)) : ∀ mz : Nat, (∀ (x2 t0 : Int) (N : mH), HI base N → Fr [(77, 41), (77, 43)] M N → (gi N 77 40 = t0) → (gg < t0 ∧ t0 ≤ e) → (gi N 77 41 = e) → (F t0 = 2000 + 100 * p + 10 * q + s) → (t0 < e → C t0 ≠ 142 ∧ C t0 ≠ 147) → (3200 - t0) * 1 + 0 < (mz : Int) → sRn base X G d T235 6 [(0, vR 77), (1, vI live), (2, vL x2)] [] N (s_Q base (pL (fun v M' => HI base M' ∧ Fr [(77, 41), (77, 43)] M M' ∧ (gg < gi M' 77 40 ∧ gi M' 77 40 ≤ e) ∧ (F (gi M' 77 40) = 2000 + 100 * p + 10 * q + s) ∧ (gi M' 77 40 < e → C (gi M' 77 40) ≠ 142 ∧ C (gi M' 77 40) ≠ 147) ∧ (gi M' 77 40 < e → C (gi M' 77 40) ≠ 143 ∧ C (gi M' 77 40) ≠ 145))))) := by
  have f0 : Fr [(77, 41), (77, 43)] M M := Fr.rf
  intro mz
  induction mz with
  | zero => exact fun x2 t0 N _ _ z0 z1 z2 z3 z4 z5 => by omega
  | succ mz ih =>
    intro x2 t0 N HN fN i0 i1 i2 i3 i4 hmu
    refine s_blx (lv' := [(0, vR 77), (1, vI live), (2, vL x2)]) (st' := [vR 77, vR 77]) B235_6_8 rfl ?_
    refine r_gint (ki := 40) (pc' := 11) D235_8 rfl gf_11_378_77 rfl HN.1 ?_
    intro w16 e17 r18
    have e19 : t0 = w16 := (e17.trans (i0)).symm
    subst e19
    have g20 : gi N 77 41 = e := i2
    refine r_vIp (c := 77) (args := [vI t0]) (rest := []) (pc' := 14) D235_11 rfl ck_11_virtual_381 TE232 rfl (Nat.le_of_ble_eq_true rfl) ⟨Nat.le_of_ble_eq_true rfl, Nat.le_of_ble_eq_true rfl⟩ sc_77 ⟨rfl, by decide⟩ HN.1 (by omega) (k232x E (by omega) HN t0 e C ((h1.fr fN rfl)) (by omega) (by omega) (by omega)) ?_
    intro v21 q26
    obtain ⟨q23, q24, q25⟩ := q26
    refine s_blx (lv' := [(0, vR 77), (1, vI live), (2, vL x2)]) (st' := [vI 43, vI v21]) B235_14_16 rfl ?_
    refine r_sIp (args := [vI 43]) (rest := [vI v21]) (pc' := 19) D235_16 rfl ck_11_static_346 TE221 rfl (Nat.le_of_ble_eq_true rfl) ⟨Nat.le_of_ble_eq_true rfl, Nat.le_of_ble_eq_true rfl⟩ (by decide) (by omega) (k221 E (by omega) HN 43 (by omega)) ?_
    intro v27 q30
    have q29 := q30; clear q30
    have e31 : v27 = 143 := by omega
    subst e31
    refine r_icmp (tgt := 38) (pc' := 22) D235_19 rfl rfl (by unfold inR; omega) (fun (c32 : v21 = 143) => ?_) (fun (c32 : ¬ (v21 = 143)) => ?_)
    · refine s_blx (lv' := [(0, vR 77), (1, vI live), (2, vL x2)]) (st' := [vR 77, vR 77]) B235_38_40 rfl ?_
      refine r_gint (ki := 40) (pc' := 43) D235_40 rfl gf_11_378_77 rfl HN.1 ?_
      intro w33 e34 r35
      have e36 : t0 = w33 := (e34.trans (i0)).symm
      subst e36
      have g37 : gi N 77 41 = e := i2
      refine r_vIp (c := 77) (args := [vI t0]) (rest := []) (pc' := 46) D235_43 rfl ck_11_virtual_381 TE232 rfl (Nat.le_of_ble_eq_true rfl) ⟨Nat.le_of_ble_eq_true rfl, Nat.le_of_ble_eq_true rfl⟩ sc_77 ⟨rfl, by decide⟩ HN.1 (by omega) (k232x E (by omega) HN t0 e C ((h1.fr fN rfl)) (by omega) (by omega) (by omega)) ?_
      intro v38 q43
      obtain ⟨q40, q41, q42⟩ := q43
      refine s_blx (lv' := [(0, vR 77), (1, vI live), (2, vL x2)]) (st' := [vI 43, vI v38]) B235_46_48 rfl ?_
      refine r_sIp (args := [vI 43]) (rest := [vI v38]) (pc' := 51) D235_48 rfl ck_11_static_346 TE221 rfl (Nat.le_of_ble_eq_true rfl) ⟨Nat.le_of_ble_eq_true rfl, Nat.le_of_ble_eq_true rfl⟩ (by decide) (by omega) (k221 E (by omega) HN 43 (by omega)) ?_
      intro v44 q47
      have q46 := q47; clear q47
      have e48 : v44 = 143 := by omega
      subst e48
      refine r_icmp (tgt := 58) (pc' := 54) D235_51 rfl rfl (by unfold inR; omega) (fun (c49 : v38 ≠ 143) => ?_) (fun (c49 : ¬ (v38 ≠ 143)) => ?_)
      · refine s_blx (lv' := [(4, vI 0), (0, vR 77), (1, vI live), (2, vL x2)]) (st' := [vR 77, vR 77]) B235_58_63 rfl ?_
        refine r_gint (ki := 40) (pc' := 66) D235_63 rfl gf_11_378_77 rfl HN.1 ?_
        intro w50 e51 r52
        have e53 : t0 = w50 := (e51.trans (i0)).symm
        subst e53
        refine s_blx (lv' := [(4, vI 0), (0, vR 77), (1, vI live), (2, vL x2)]) (st' := [vI (t0 + 1), vR 77]) B235_66_68 rfl ?_
        refine r_pint (ki := 40) (pc' := 71) D235_68 rfl pf_11_378_77 rfl HN (by unfold inR; omega) trivial ?_
        intro M54 u55 H56 p57
        have f58 := fN.wr u55 rfl
        have kd := h2 t0 (by omega) (by omega)
        have ke : C t0 = 143 ∨ C t0 = 145 := by omega
        have k1 := d_op (x := F t0) (C t0) (by omega) (by omega) (by omega)
        refine s_blx (lv' := [(4, vI 0), (0, vR 77), (1, vI live), (2, vL x2)]) (st' := [vI live, vR 77]) B235_71_73 rfl ?_
        have g59 : gi M54 77 41 = e := (u55.gi_ne (by decide) (Or.inr (by decide))).trans (i2)
        have g60 : gi M54 77 40 = t0 + 1 := p57
        refine r_vL (c := 77) (args := [vI live]) (rest := []) (pc' := 76) D235_73 rfl ck_11_virtual_391 TE236 rfl (Nat.le_of_ble_eq_true rfl) ⟨Nat.le_of_ble_eq_true rfl, Nat.le_of_ble_eq_true rfl⟩ sc_77 ⟨rfl, by decide⟩ H56.1 (by omega) (k236x E ihr (by omega) H56 live p q s a e (t0 + 1) F C (by omega) ((h1.fr f58 rfl)) (h2) (by omega) (by omega) (by omega) (by omega) (by omega) (by omega) (by omega) (by omega) (by omega)) ?_
        intro v61 M62 q68
        obtain ⟨H63, f64, q65, q66, q67⟩ := q68
        have f69 := f58.tr (f64.up rfl)
        obtain ⟨t70, ht71⟩ : ∃ q, q = gi M62 77 40 := ⟨_, rfl⟩
        rw [← ht71] at q65
        rw [← ht71] at q66
        rw [← ht71] at q67
        refine s_blx (lv' := [(5, vL v61), (4, vI 0), (0, vR 77), (1, vI live), (2, vL x2)]) (st' := [vI 0, vR 77]) B235_76_81 rfl ?_
        refine r_ifc (tgt := 91) (pc' := 84) D235_81 rfl rfl (by unfold inR; omega) (fun (c72 : 0 = 0) => ?_) (fun (c72 : ¬ (0 = 0)) => ?_)
        · refine s_blx (lv' := [(5, vL v61), (4, vI 0), (0, vR 77), (1, vI live), (2, vL x2)]) (st' := [vI live, vL (x2 - v61), vR 77]) B235_91_96 rfl ?_
          refine r_vL (c := 77) (args := [vL (x2 - v61), vI live]) (rest := []) (pc' := 99) D235_96 rfl ck_11_virtual_395 TE234 rfl (Nat.le_of_ble_eq_true rfl) ⟨Nat.le_of_ble_eq_true rfl, Nat.le_of_ble_eq_true rfl⟩ sc_77 ⟨rfl, by decide⟩ H63.1 (by omega) (k234x E (by omega) H63 (x2 - v61) live (by omega)) ?_
          intro v73 M74 q77
          obtain ⟨H75, f76⟩ := q77
          have f78 := f69.tr (f76.up rfl)
          refine s_blx (lv' := [(2, vL v73), (5, vL v61), (4, vI 0), (0, vR 77), (1, vI live)]) (st' := []) B235_99_100 rfl ?_
          refine r_goto (tgt := 6) D235_100 rfl ?_
          refine r_loc (lv' := [(0, vR 77), (1, vI live), (2, vL v73)]) ⟨rfl, rfl, rfl, trivial⟩ rfl rfl ?_
          have g79 : gi M74 77 40 = t70 := (f76.g rfl).trans (ht71.symm)
          have g80 : gi M74 77 41 = e := (f76.g rfl).trans ((f64.g rfl).trans ((u55.gi_ne (by decide) (Or.inr (by decide))).trans (i2)))
          exact ih v73 t70 M74 H75 f78 (by omega) (by omega) (by omega) (by omega) (by omega) (by omega)
        · exfalso; omega
      · refine s_blx (lv' := [(0, vR 77), (1, vI live), (2, vL x2)]) (st' := [vI 1]) B235_54_55 rfl ?_
        refine r_goto (tgt := 59) D235_55 rfl ?_
        refine s_blx (lv' := [(4, vI 1), (0, vR 77), (1, vI live), (2, vL x2)]) (st' := [vR 77, vR 77]) B235_59_63 rfl ?_
        refine r_gint (ki := 40) (pc' := 66) D235_63 rfl gf_11_378_77 rfl HN.1 ?_
        intro w81 e82 r83
        have e84 : t0 = w81 := (e82.trans (i0)).symm
        subst e84
        refine s_blx (lv' := [(4, vI 1), (0, vR 77), (1, vI live), (2, vL x2)]) (st' := [vI (t0 + 1), vR 77]) B235_66_68 rfl ?_
        refine r_pint (ki := 40) (pc' := 71) D235_68 rfl pf_11_378_77 rfl HN (by unfold inR; omega) trivial ?_
        intro M85 u86 H87 p88
        have f89 := fN.wr u86 rfl
        have kd := h2 t0 (by omega) (by omega)
        have ke : C t0 = 143 ∨ C t0 = 145 := by omega
        have k1 := d_op (x := F t0) (C t0) (by omega) (by omega) (by omega)
        refine s_blx (lv' := [(4, vI 1), (0, vR 77), (1, vI live), (2, vL x2)]) (st' := [vI live, vR 77]) B235_71_73 rfl ?_
        have g90 : gi M85 77 41 = e := (u86.gi_ne (by decide) (Or.inr (by decide))).trans (i2)
        have g91 : gi M85 77 40 = t0 + 1 := p88
        refine r_vL (c := 77) (args := [vI live]) (rest := []) (pc' := 76) D235_73 rfl ck_11_virtual_391 TE236 rfl (Nat.le_of_ble_eq_true rfl) ⟨Nat.le_of_ble_eq_true rfl, Nat.le_of_ble_eq_true rfl⟩ sc_77 ⟨rfl, by decide⟩ H87.1 (by omega) (k236x E ihr (by omega) H87 live p q s a e (t0 + 1) F C (by omega) ((h1.fr f89 rfl)) (h2) (by omega) (by omega) (by omega) (by omega) (by omega) (by omega) (by omega) (by omega) (by omega)) ?_
        intro v92 M93 q99
        obtain ⟨H94, f95, q96, q97, q98⟩ := q99
        have f100 := f89.tr (f95.up rfl)
        obtain ⟨t101, ht102⟩ : ∃ q, q = gi M93 77 40 := ⟨_, rfl⟩
        rw [← ht102] at q96
        rw [← ht102] at q97
        rw [← ht102] at q98
        refine s_blx (lv' := [(5, vL v92), (4, vI 1), (0, vR 77), (1, vI live), (2, vL x2)]) (st' := [vI 1, vR 77]) B235_76_81 rfl ?_
        refine r_ifc (tgt := 91) (pc' := 84) D235_81 rfl rfl (by unfold inR; omega) (fun (c103 : 1 = 0) => ?_) (fun (c103 : ¬ (1 = 0)) => ?_)
        · exfalso; omega
        · refine s_blx (lv' := [(5, vL v92), (4, vI 1), (0, vR 77), (1, vI live), (2, vL x2)]) (st' := [vL (x2 + v92), vR 77]) B235_84_88 rfl ?_
          refine r_goto (tgt := 95) D235_88 rfl ?_
          refine s_blx (lv' := [(5, vL v92), (4, vI 1), (0, vR 77), (1, vI live), (2, vL x2)]) (st' := [vI live, vL (x2 + v92), vR 77]) B235_95_96 rfl ?_
          refine r_vL (c := 77) (args := [vL (x2 + v92), vI live]) (rest := []) (pc' := 99) D235_96 rfl ck_11_virtual_395 TE234 rfl (Nat.le_of_ble_eq_true rfl) ⟨Nat.le_of_ble_eq_true rfl, Nat.le_of_ble_eq_true rfl⟩ sc_77 ⟨rfl, by decide⟩ H94.1 (by omega) (k234x E (by omega) H94 (x2 + v92) live (by omega)) ?_
          intro v104 M105 q108
          obtain ⟨H106, f107⟩ := q108
          have f109 := f100.tr (f107.up rfl)
          refine s_blx (lv' := [(2, vL v104), (5, vL v92), (4, vI 1), (0, vR 77), (1, vI live)]) (st' := []) B235_99_100 rfl ?_
          refine r_goto (tgt := 6) D235_100 rfl ?_
          refine r_loc (lv' := [(0, vR 77), (1, vI live), (2, vL v104)]) ⟨rfl, rfl, rfl, trivial⟩ rfl rfl ?_
          have g110 : gi M105 77 40 = t101 := (f107.g rfl).trans (ht102.symm)
          have g111 : gi M105 77 41 = e := (f107.g rfl).trans ((f95.g rfl).trans ((u86.gi_ne (by decide) (Or.inr (by decide))).trans (i2)))
          exact ih v104 t101 M105 H106 f109 (by omega) (by omega) (by omega) (by omega) (by omega) (by omega)
    · refine s_blx (lv' := [(0, vR 77), (1, vI live), (2, vL x2)]) (st' := [vR 77, vR 77]) B235_22_24 rfl ?_
      refine r_gint (ki := 40) (pc' := 27) D235_24 rfl gf_11_378_77 rfl HN.1 ?_
      intro w112 e113 r114
      have e115 : t0 = w112 := (e113.trans (i0)).symm
      subst e115
      have g116 : gi N 77 41 = e := i2
      refine r_vIp (c := 77) (args := [vI t0]) (rest := []) (pc' := 30) D235_27 rfl ck_11_virtual_381 TE232 rfl (Nat.le_of_ble_eq_true rfl) ⟨Nat.le_of_ble_eq_true rfl, Nat.le_of_ble_eq_true rfl⟩ sc_77 ⟨rfl, by decide⟩ HN.1 (by omega) (k232x E (by omega) HN t0 e C ((h1.fr fN rfl)) (by omega) (by omega) (by omega)) ?_
      intro v117 q122
      obtain ⟨q119, q120, q121⟩ := q122
      refine s_blx (lv' := [(0, vR 77), (1, vI live), (2, vL x2)]) (st' := [vI 45, vI v117]) B235_30_32 rfl ?_
      refine r_sIp (args := [vI 45]) (rest := [vI v117]) (pc' := 35) D235_32 rfl ck_11_static_346 TE221 rfl (Nat.le_of_ble_eq_true rfl) ⟨Nat.le_of_ble_eq_true rfl, Nat.le_of_ble_eq_true rfl⟩ (by decide) (by omega) (k221 E (by omega) HN 45 (by omega)) ?_
      intro v123 q126
      have q125 := q126; clear q126
      have e127 : v123 = 145 := by omega
      subst e127
      refine r_icmp (tgt := 103) (pc' := 38) D235_35 rfl rfl (by unfold inR; omega) (fun (c128 : v117 ≠ 145) => ?_) (fun (c128 : ¬ (v117 ≠ 145)) => ?_)
      · refine s_blx (lv' := [(0, vR 77), (1, vI live), (2, vL x2)]) (st' := [vL x2]) B235_103_104 rfl ?_
        have g129 : gi N 77 40 = t0 := i0
        exact r_lretL D235_104 rfl (⟨HN, fN, by rw [g129]; omega, by rw [g129]; omega, by rw [g129]; omega, by rw [g129]; omega⟩)
      · refine s_blx (lv' := [(0, vR 77), (1, vI live), (2, vL x2)]) (st' := [vR 77, vR 77]) B235_38_40 rfl ?_
        refine r_gint (ki := 40) (pc' := 43) D235_40 rfl gf_11_378_77 rfl HN.1 ?_
        intro w130 e131 r132
        have e133 : t0 = w130 := (e131.trans (i0)).symm
        subst e133
        have g134 : gi N 77 41 = e := i2
        refine r_vIp (c := 77) (args := [vI t0]) (rest := []) (pc' := 46) D235_43 rfl ck_11_virtual_381 TE232 rfl (Nat.le_of_ble_eq_true rfl) ⟨Nat.le_of_ble_eq_true rfl, Nat.le_of_ble_eq_true rfl⟩ sc_77 ⟨rfl, by decide⟩ HN.1 (by omega) (k232x E (by omega) HN t0 e C ((h1.fr fN rfl)) (by omega) (by omega) (by omega)) ?_
        intro v135 q140
        obtain ⟨q137, q138, q139⟩ := q140
        refine s_blx (lv' := [(0, vR 77), (1, vI live), (2, vL x2)]) (st' := [vI 43, vI v135]) B235_46_48 rfl ?_
        refine r_sIp (args := [vI 43]) (rest := [vI v135]) (pc' := 51) D235_48 rfl ck_11_static_346 TE221 rfl (Nat.le_of_ble_eq_true rfl) ⟨Nat.le_of_ble_eq_true rfl, Nat.le_of_ble_eq_true rfl⟩ (by decide) (by omega) (k221 E (by omega) HN 43 (by omega)) ?_
        intro v141 q144
        have q143 := q144; clear q144
        have e145 : v141 = 143 := by omega
        subst e145
        refine r_icmp (tgt := 58) (pc' := 54) D235_51 rfl rfl (by unfold inR; omega) (fun (c146 : v135 ≠ 143) => ?_) (fun (c146 : ¬ (v135 ≠ 143)) => ?_)
        · refine s_blx (lv' := [(4, vI 0), (0, vR 77), (1, vI live), (2, vL x2)]) (st' := [vR 77, vR 77]) B235_58_63 rfl ?_
          refine r_gint (ki := 40) (pc' := 66) D235_63 rfl gf_11_378_77 rfl HN.1 ?_
          intro w147 e148 r149
          have e150 : t0 = w147 := (e148.trans (i0)).symm
          subst e150
          refine s_blx (lv' := [(4, vI 0), (0, vR 77), (1, vI live), (2, vL x2)]) (st' := [vI (t0 + 1), vR 77]) B235_66_68 rfl ?_
          refine r_pint (ki := 40) (pc' := 71) D235_68 rfl pf_11_378_77 rfl HN (by unfold inR; omega) trivial ?_
          intro M151 u152 H153 p154
          have f155 := fN.wr u152 rfl
          have kd := h2 t0 (by omega) (by omega)
          have ke : C t0 = 143 ∨ C t0 = 145 := by omega
          have k1 := d_op (x := F t0) (C t0) (by omega) (by omega) (by omega)
          refine s_blx (lv' := [(4, vI 0), (0, vR 77), (1, vI live), (2, vL x2)]) (st' := [vI live, vR 77]) B235_71_73 rfl ?_
          have g156 : gi M151 77 41 = e := (u152.gi_ne (by decide) (Or.inr (by decide))).trans (i2)
          have g157 : gi M151 77 40 = t0 + 1 := p154
          refine r_vL (c := 77) (args := [vI live]) (rest := []) (pc' := 76) D235_73 rfl ck_11_virtual_391 TE236 rfl (Nat.le_of_ble_eq_true rfl) ⟨Nat.le_of_ble_eq_true rfl, Nat.le_of_ble_eq_true rfl⟩ sc_77 ⟨rfl, by decide⟩ H153.1 (by omega) (k236x E ihr (by omega) H153 live p q s a e (t0 + 1) F C (by omega) ((h1.fr f155 rfl)) (h2) (by omega) (by omega) (by omega) (by omega) (by omega) (by omega) (by omega) (by omega) (by omega)) ?_
          intro v158 M159 q165
          obtain ⟨H160, f161, q162, q163, q164⟩ := q165
          have f166 := f155.tr (f161.up rfl)
          obtain ⟨t167, ht168⟩ : ∃ q, q = gi M159 77 40 := ⟨_, rfl⟩
          rw [← ht168] at q162
          rw [← ht168] at q163
          rw [← ht168] at q164
          refine s_blx (lv' := [(5, vL v158), (4, vI 0), (0, vR 77), (1, vI live), (2, vL x2)]) (st' := [vI 0, vR 77]) B235_76_81 rfl ?_
          refine r_ifc (tgt := 91) (pc' := 84) D235_81 rfl rfl (by unfold inR; omega) (fun (c169 : 0 = 0) => ?_) (fun (c169 : ¬ (0 = 0)) => ?_)
          · refine s_blx (lv' := [(5, vL v158), (4, vI 0), (0, vR 77), (1, vI live), (2, vL x2)]) (st' := [vI live, vL (x2 - v158), vR 77]) B235_91_96 rfl ?_
            refine r_vL (c := 77) (args := [vL (x2 - v158), vI live]) (rest := []) (pc' := 99) D235_96 rfl ck_11_virtual_395 TE234 rfl (Nat.le_of_ble_eq_true rfl) ⟨Nat.le_of_ble_eq_true rfl, Nat.le_of_ble_eq_true rfl⟩ sc_77 ⟨rfl, by decide⟩ H160.1 (by omega) (k234x E (by omega) H160 (x2 - v158) live (by omega)) ?_
            intro v170 M171 q174
            obtain ⟨H172, f173⟩ := q174
            have f175 := f166.tr (f173.up rfl)
            refine s_blx (lv' := [(2, vL v170), (5, vL v158), (4, vI 0), (0, vR 77), (1, vI live)]) (st' := []) B235_99_100 rfl ?_
            refine r_goto (tgt := 6) D235_100 rfl ?_
            refine r_loc (lv' := [(0, vR 77), (1, vI live), (2, vL v170)]) ⟨rfl, rfl, rfl, trivial⟩ rfl rfl ?_
            have g176 : gi M171 77 40 = t167 := (f173.g rfl).trans (ht168.symm)
            have g177 : gi M171 77 41 = e := (f173.g rfl).trans ((f161.g rfl).trans ((u152.gi_ne (by decide) (Or.inr (by decide))).trans (i2)))
            exact ih v170 t167 M171 H172 f175 (by omega) (by omega) (by omega) (by omega) (by omega) (by omega)
          · exfalso; omega
        · refine s_blx (lv' := [(0, vR 77), (1, vI live), (2, vL x2)]) (st' := [vI 1]) B235_54_55 rfl ?_
          refine r_goto (tgt := 59) D235_55 rfl ?_
          refine s_blx (lv' := [(4, vI 1), (0, vR 77), (1, vI live), (2, vL x2)]) (st' := [vR 77, vR 77]) B235_59_63 rfl ?_
          refine r_gint (ki := 40) (pc' := 66) D235_63 rfl gf_11_378_77 rfl HN.1 ?_
          intro w178 e179 r180
          have e181 : t0 = w178 := (e179.trans (i0)).symm
          subst e181
          refine s_blx (lv' := [(4, vI 1), (0, vR 77), (1, vI live), (2, vL x2)]) (st' := [vI (t0 + 1), vR 77]) B235_66_68 rfl ?_
          refine r_pint (ki := 40) (pc' := 71) D235_68 rfl pf_11_378_77 rfl HN (by unfold inR; omega) trivial ?_
          intro M182 u183 H184 p185
          have f186 := fN.wr u183 rfl
          have kd := h2 t0 (by omega) (by omega)
          have ke : C t0 = 143 ∨ C t0 = 145 := by omega
          have k1 := d_op (x := F t0) (C t0) (by omega) (by omega) (by omega)
          refine s_blx (lv' := [(4, vI 1), (0, vR 77), (1, vI live), (2, vL x2)]) (st' := [vI live, vR 77]) B235_71_73 rfl ?_
          have g187 : gi M182 77 41 = e := (u183.gi_ne (by decide) (Or.inr (by decide))).trans (i2)
          have g188 : gi M182 77 40 = t0 + 1 := p185
          refine r_vL (c := 77) (args := [vI live]) (rest := []) (pc' := 76) D235_73 rfl ck_11_virtual_391 TE236 rfl (Nat.le_of_ble_eq_true rfl) ⟨Nat.le_of_ble_eq_true rfl, Nat.le_of_ble_eq_true rfl⟩ sc_77 ⟨rfl, by decide⟩ H184.1 (by omega) (k236x E ihr (by omega) H184 live p q s a e (t0 + 1) F C (by omega) ((h1.fr f186 rfl)) (h2) (by omega) (by omega) (by omega) (by omega) (by omega) (by omega) (by omega) (by omega) (by omega)) ?_
          intro v189 M190 q196
          obtain ⟨H191, f192, q193, q194, q195⟩ := q196
          have f197 := f186.tr (f192.up rfl)
          obtain ⟨t198, ht199⟩ : ∃ q, q = gi M190 77 40 := ⟨_, rfl⟩
          rw [← ht199] at q193
          rw [← ht199] at q194
          rw [← ht199] at q195
          refine s_blx (lv' := [(5, vL v189), (4, vI 1), (0, vR 77), (1, vI live), (2, vL x2)]) (st' := [vI 1, vR 77]) B235_76_81 rfl ?_
          refine r_ifc (tgt := 91) (pc' := 84) D235_81 rfl rfl (by unfold inR; omega) (fun (c200 : 1 = 0) => ?_) (fun (c200 : ¬ (1 = 0)) => ?_)
          · exfalso; omega
          · refine s_blx (lv' := [(5, vL v189), (4, vI 1), (0, vR 77), (1, vI live), (2, vL x2)]) (st' := [vL (x2 + v189), vR 77]) B235_84_88 rfl ?_
            refine r_goto (tgt := 95) D235_88 rfl ?_
            refine s_blx (lv' := [(5, vL v189), (4, vI 1), (0, vR 77), (1, vI live), (2, vL x2)]) (st' := [vI live, vL (x2 + v189), vR 77]) B235_95_96 rfl ?_
            refine r_vL (c := 77) (args := [vL (x2 + v189), vI live]) (rest := []) (pc' := 99) D235_96 rfl ck_11_virtual_395 TE234 rfl (Nat.le_of_ble_eq_true rfl) ⟨Nat.le_of_ble_eq_true rfl, Nat.le_of_ble_eq_true rfl⟩ sc_77 ⟨rfl, by decide⟩ H191.1 (by omega) (k234x E (by omega) H191 (x2 + v189) live (by omega)) ?_
            intro v201 M202 q205
            obtain ⟨H203, f204⟩ := q205
            have f206 := f197.tr (f204.up rfl)
            refine s_blx (lv' := [(2, vL v201), (5, vL v189), (4, vI 1), (0, vR 77), (1, vI live)]) (st' := []) B235_99_100 rfl ?_
            refine r_goto (tgt := 6) D235_100 rfl ?_
            refine r_loc (lv' := [(0, vR 77), (1, vI live), (2, vL v201)]) ⟨rfl, rfl, rfl, trivial⟩ rfl rfl ?_
            have g207 : gi M202 77 40 = t198 := (f204.g rfl).trans (ht199.symm)
            have g208 : gi M202 77 41 = e := (f204.g rfl).trans ((f192.g rfl).trans ((u183.gi_ne (by decide) (Or.inr (by decide))).trans (i2)))
            exact ih v201 t198 M202 H203 f206 (by omega) (by omega) (by omega) (by omega) (by omega) (by omega)
set_option maxRecDepth 4000 in
theorem k235xr {base : Nat} {X : Nat → Option mC} {G : Nat → Value} (E : EnvOK base X G) : ∀ rr : Nat, ∀ {d : Nat} (_ : 4 + 3 * rr ≤ d) {M : mH} (_ : HI base M) (live : Int) (p : Int) (q : Int) (s : Int) (a : Int) (e : Int) (gg : Int) (F : Int → Int) (C : Int → Int), ((live = 0 ∨ live = 1)) → (KC C M) → (∀ j : Int, a ≤ j → j < e → F (j + 1) = dl (F j) (C j) ∧ F (j + 1) ≠ 0) → (F e = 2 ∨ F e = 20 ∨ F e = 2001) → (gi M 77 41 = e) → (0 ≤ a ∧ e ≤ 3200) → (gi M 77 40 = gg) → (a ≤ gg ∧ gg ≤ e) → (F gg = 1000 + 100 * p + 10 * q + s ∨ (F gg = 10 + p ∧ q = 0 ∧ s = 0 ∧ C gg ≠ 10 ∧ C gg ≠ 140 ∧ C gg ≠ 11 ∧ C gg ≠ 12)) → (0 ≤ p ∧ 0 ≤ q ∧ p + q ≤ 8) → (0 ≤ s ∧ s ≤ 1) → 8 - p - q < ((rr : Nat) : Int) → sOk base X G d T235 [vR 77, vI live] M (pL (fun v M' => HI base M' ∧ Fr [(77, 41), (77, 43)] M M' ∧ (gg < gi M' 77 40 ∧ gi M' 77 40 ≤ e) ∧ (F (gi M' 77 40) = 2000 + 100 * p + 10 * q + s) ∧ (gi M' 77 40 < e → C (gi M' 77 40) ≠ 142 ∧ C (gi M' 77 40) ≠ 147) ∧ (gi M' 77 40 < e → C (gi M' 77 40) ≠ 143 ∧ C (gi M' 77 40) ≠ 145))) := by
  intro rr
  induction rr with
  | zero => intro d hd M H live p q s a e gg F C h0 h1 h2 h3 h4 h5 h6 h7 h8 h9 h10 hrr; exfalso; omega
  | succ rr ihr =>
  intro d hd M H live p q s a e gg F C h0 h1 h2 h3 h4 h5 h6 h7 h8 h9 h10 hrr
  have f0 : Fr [(77, 41), (77, 43)] M M := Fr.rf
  refine sOk.of (show sRn base X G d T235 0 [(0, vR 77), (1, vI live)] [] M _ from ?_)
  refine s_blx (lv' := [(0, vR 77), (1, vI live)]) (st' := [vI live, vR 77]) B235_0_2 rfl ?_
  have g1 : gi M 77 41 = e := h4
  have g2 : gi M 77 40 = gg := h6
  refine r_vL (c := 77) (args := [vI live]) (rest := []) (pc' := 5) D235_2 rfl ck_11_virtual_391 TE236 rfl (Nat.le_of_ble_eq_true rfl) ⟨Nat.le_of_ble_eq_true rfl, Nat.le_of_ble_eq_true rfl⟩ sc_77 ⟨rfl, by decide⟩ H.1 (by omega) (k236x E ihr (by omega) H live p q s a e gg F C (by omega) (h1) (h2) (by omega) (by omega) (by omega) (by omega) (by omega) (by omega) (by omega) (by omega) (by omega)) ?_
  intro v3 M4 q10
  obtain ⟨H5, f6, q7, q8, q9⟩ := q10
  have f11 := f0.tr (f6.up rfl)
  obtain ⟨t12, ht13⟩ : ∃ q, q = gi M4 77 40 := ⟨_, rfl⟩
  rw [← ht13] at q7
  rw [← ht13] at q8
  rw [← ht13] at q9
  refine s_blx (lv' := [(2, vL v3), (0, vR 77), (1, vI live)]) (st' := []) B235_5_6 rfl ?_
  refine r_loc (lv' := [(0, vR 77), (1, vI live), (2, vL v3)]) ⟨rfl, rfl, rfl, trivial⟩ rfl rfl ?_
  have g14 : gi M4 77 40 = t12 := ht13.symm
  have g15 : gi M4 77 41 = e := (f6.g rfl).trans (h4)
  exact (L_k235x E ihr hd H live p q s a e gg F C h0 h1 h2 h3 h4 h5 h6 h7 h8 h9 h10 hrr (((3200 - t12) * 1 + 0 : Int) + 1).toNat) v3 t12 M4 H5 f11 (by omega) (by omega) (by omega) (by omega) (by omega) (by omega)
theorem k235x {base : Nat} {X : Nat → Option mC} {G : Nat → Value} (E : EnvOK base X G) {d : Nat} (hd : 31 ≤ d) {M : mH} (H : HI base M) (live : Int) (p : Int) (q : Int) (s : Int) (a : Int) (e : Int) (gg : Int) (F : Int → Int) (C : Int → Int) (h0 : (live = 0 ∨ live = 1)) (h1 : KC C M) (h2 : ∀ j : Int, a ≤ j → j < e → F (j + 1) = dl (F j) (C j) ∧ F (j + 1) ≠ 0) (h3 : F e = 2 ∨ F e = 20 ∨ F e = 2001) (h4 : gi M 77 41 = e) (h5 : 0 ≤ a ∧ e ≤ 3200) (h6 : gi M 77 40 = gg) (h7 : a ≤ gg ∧ gg ≤ e) (h8 : F gg = 1000 + 100 * p + 10 * q + s ∨ (F gg = 10 + p ∧ q = 0 ∧ s = 0 ∧ C gg ≠ 10 ∧ C gg ≠ 140 ∧ C gg ≠ 11 ∧ C gg ≠ 12)) (h9 : 0 ≤ p ∧ 0 ≤ q ∧ p + q ≤ 8) (h10 : 0 ≤ s ∧ s ≤ 1) : sOk base X G d T235 [vR 77, vI live] M (pL (fun v M' => HI base M' ∧ Fr [(77, 41), (77, 43)] M M' ∧ (gg < gi M' 77 40 ∧ gi M' 77 40 ≤ e) ∧ (F (gi M' 77 40) = 2000 + 100 * p + 10 * q + s) ∧ (gi M' 77 40 < e → C (gi M' 77 40) ≠ 142 ∧ C (gi M' 77 40) ≠ 147) ∧ (gi M' 77 40 < e → C (gi M' 77 40) ≠ 143 ∧ C (gi M' 77 40) ≠ 145))) := k235xr E 9 (by omega) H live p q s a e gg F C h0 h1 h2 h3 h4 h5 h6 h7 h8 h9 h10 (by omega)
