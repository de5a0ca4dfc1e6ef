theorem r_ior01 {base : Nat} {X : Nat → Option mC} {G : Nat → Value} {d : Nat} {t : mT} {pc pc' : Nat} {lv : sL} {st : List mV} {M : mH} {Q : Option Value → mH → Prop} {a b : Int} (hd : decode t.2.2.1 pc = .ok (.ior, 1)) (hn : pc + 1 = pc') (ha : a = 0 ∨ a = 1) (hb : b = 0 ∨ b = 1) (h : ∀ e, (e = 0 ∨ e = 1) → sRn base X G d t pc' lv (vI e :: st) M Q) : sRn base X G d t pc lv (vI b :: vI a :: st) M Q := by
  refine r_bin hd rfl hn (fun e he hq => h e ?_)
  have e0 : Int32.ofInt 0 ||| Int32.ofInt 0 = Int32.ofInt 0 := by decide
  have e1 : Int32.ofInt 0 ||| Int32.ofInt 1 = Int32.ofInt 1 := by decide
  have e2 : Int32.ofInt 1 ||| Int32.ofInt 0 = Int32.ofInt 1 := by decide
  have e3 : Int32.ofInt 1 ||| Int32.ofInt 1 = Int32.ofInt 1 := by decide
  have h0 : inR 0 := by unfold inR; omega
  have h1 : inR 1 := by unfold inR; omega
  rcases ha with rfl | rfl <;> rcases hb with rfl | rfl
  · rw [e0] at hq; exact Or.inl ((s_eq he h0).mp hq)
  · rw [e1] at hq; exact Or.inr ((s_eq he h1).mp hq)
  · rw [e2] at hq; exact Or.inr ((s_eq he h1).mp hq)
  · rw [e3] at hq; exact Or.inr ((s_eq he h1).mp hq)
noncomputable def T11 : mT := (1, yX1_extend, cX1_extend, 8, none)
set_option maxRecDepth 10000 in
theorem TE11 : sy_m[11]? = some T11 := rfl
theorem B11_0_2 : s_dk T11.2.2.1 0 [.iload_n 2, .aload_n 0] 2 = true := by decide +kernel
theorem gf_1_15_66 : s_gf 1 15 66 = some (1, 1) := by decide +kernel
theorem D11_2 : decode T11.2.2.1 2 = .ok (.getfield 15, 3) := by decide +kernel
theorem D11_5 : decode T11.2.2.1 5 = .ok (.if_icmp .lt 36, 3) := by decide +kernel
theorem B11_41_44 : s_dk T11.2.2.1 41 [.iconst 0, .istore 6] 44 = true := by decide +kernel
theorem B11_8_11 : s_dk T11.2.2.1 8 [.iload 4, .aload_n 0] 11 = true := by decide +kernel
theorem gf_1_22_66 : s_gf 1 22 66 = some (3, 1) := by decide +kernel
theorem D11_11 : decode T11.2.2.1 11 = .ok (.getfield 22, 3) := by decide +kernel
theorem D11_14 : decode T11.2.2.1 14 = .ok (.if_icmp .le 26, 3) := by decide +kernel
theorem D11_40 : decode T11.2.2.1 40 = .ok (.return_, 1) := by decide +kernel
theorem B11_17_20 : s_dk T11.2.2.1 17 [.aload_n 0, .iload 4] 20 = true := by decide +kernel
theorem pf_1_22_66 : s_pf 1 22 66 = some (3, 1) := by decide +kernel
theorem D11_20 : decode T11.2.2.1 20 = .ok (.putfield 22, 3) := by decide +kernel
theorem B11_23_24 : s_dk T11.2.2.1 23 [.aload_n 0] 24 = true := by decide +kernel
theorem gf_1_19_66 : s_gf 1 19 66 = some (2, 71) := by decide +kernel
theorem D11_24 : decode T11.2.2.1 24 = .ok (.getfield 19, 3) := by decide +kernel
theorem B11_27_29 : s_dk T11.2.2.1 27 [.iconst 0, .aload_n 0] 29 = true := by decide +kernel
theorem gf_1_9_66 : s_gf 1 9 66 = some (0, 70) := by decide +kernel
theorem D11_29 : decode T11.2.2.1 29 = .ok (.getfield 9, 3) := by decide +kernel
theorem B11_32_34 : s_dk T11.2.2.1 32 [.iconst 0, .aload_n 0] 34 = true := by decide +kernel
theorem D11_34 : decode T11.2.2.1 34 = .ok (.getfield 15, 3) := by decide +kernel
theorem D11_37 : decode T11.2.2.1 37 = .ok (.invokestatic 30, 3) := by decide +kernel
theorem mc_1_static_30 : m_call 1 (.invokestatic 30) = none := by decide +kernel
theorem sp_1_30 : m_sp 1 30 = some 1 := by decide +kernel
theorem B11_44_47 : s_dk T11.2.2.1 44 [.iload 6, .aload_n 0] 47 = true := by decide +kernel
theorem D11_47 : decode T11.2.2.1 47 = .ok (.getfield 15, 3) := by decide +kernel
theorem D11_50 : decode T11.2.2.1 50 = .ok (.if_icmp .ge 95, 3) := by decide +kernel
theorem D11_145 : decode T11.2.2.1 145 = .ok (.return_, 1) := by decide +kernel
theorem B11_53_56 : s_dk T11.2.2.1 53 [.iload_n 3, .iload 6] 56 = true := by decide +kernel
theorem D11_56 : decode T11.2.2.1 56 = .ok (.ishr, 1) := by decide +kernel
theorem B11_57_58 : s_dk T11.2.2.1 57 [.iconst 1] 58 = true := by decide +kernel
theorem D11_58 : decode T11.2.2.1 58 = .ok (.iand, 1) := by decide +kernel
theorem D11_59 : decode T11.2.2.1 59 = .ok (.ifCond .ne 80, 3) := by decide +kernel
theorem B11_139_142 : s_dk T11.2.2.1 139 [.iinc 6 1] 142 = true := by decide +kernel
theorem D11_142 : decode T11.2.2.1 142 = .ok (.goto (-98), 3) := by decide +kernel
theorem B11_62_63 : s_dk T11.2.2.1 62 [.aload_n 0] 63 = true := by decide +kernel
theorem D11_63 : decode T11.2.2.1 63 = .ok (.getfield 19, 3) := by decide +kernel
theorem B11_66_69 : s_dk T11.2.2.1 66 [.iload_n 2, .iload 6] 69 = true := by decide +kernel
theorem D11_69 : decode T11.2.2.1 69 = .ok (.iastore, 1) := by decide +kernel
theorem B11_70_72 : s_dk T11.2.2.1 70 [.iload 4] 72 = true := by decide +kernel
theorem D11_72 : decode T11.2.2.1 72 = .ok (.i2l, 1) := by decide +kernel
theorem B11_73_80 : s_dk T11.2.2.1 73 [.aload_n 1, .iload 6, .iconst 3, .imul, .iconst 1, .iadd] 80 = true := by decide +kernel
theorem D11_80 : decode T11.2.2.1 80 = .ok (.iaload, 1) := by decide +kernel
theorem D11_81 : decode T11.2.2.1 81 = .ok (.i2l, 1) := by decide +kernel
theorem B11_82_83 : s_dk T11.2.2.1 82 [.lmul] 83 = true := by decide +kernel
theorem cl_1_36 : m_cl 1 36 = some (100) := by decide +kernel
theorem D11_83 : decode T11.2.2.1 83 = .ok (.ldc2_w 36, 3) := by decide +kernel
theorem D11_86 : decode T11.2.2.1 86 = .ok (.ldiv, 1) := by decide +kernel
theorem D11_87 : decode T11.2.2.1 87 = .ok (.l2i, 1) := by decide +kernel
theorem B11_88_99 : s_dk T11.2.2.1 88 [.istore 7, .iload 5, .aload_n 1, .iload 6, .iconst 3, .imul, .iconst 2, .iadd] 99 = true := by decide +kernel
theorem D11_99 : decode T11.2.2.1 99 = .ok (.iaload, 1) := by decide +kernel
theorem D11_100 : decode T11.2.2.1 100 = .ok (.if_icmp .le 10, 3) := by decide +kernel
theorem B11_110_123 : s_dk T11.2.2.1 110 [.iload 7, .istore 7, .aload_n 0, .aload_n 1, .iload_n 2, .iconst 1, .iadd, .iload_n 3, .iconst 1, .iload 6] 123 = true := by decide +kernel
theorem D11_123 : decode T11.2.2.1 123 = .ok (.ishl, 1) := by decide +kernel
theorem D11_124 : decode T11.2.2.1 124 = .ok (.ior, 1) := by decide +kernel
theorem B11_125_134 : s_dk T11.2.2.1 125 [.iload 7, .iload 5, .aload_n 1, .iload 6, .iconst 3, .imul] 134 = true := by decide +kernel
theorem D11_134 : decode T11.2.2.1 134 = .ok (.iaload, 1) := by decide +kernel
theorem B11_135_136 : s_dk T11.2.2.1 135 [.iadd] 136 = true := by decide +kernel
theorem D11_136 : decode T11.2.2.1 136 = .ok (.invokevirtual 26, 3) := by decide +kernel
theorem ck_1_virtual_26 : m_call 1 (.invokevirtual 26) = some (0, 11, 5) := by decide +kernel
theorem B11_103_106 : s_dk T11.2.2.1 103 [.iload 7, .iconst 2] 106 = true := by decide +kernel
theorem D11_106 : decode T11.2.2.1 106 = .ok (.idiv, 1) := by decide +kernel
theorem D11_107 : decode T11.2.2.1 107 = .ok (.goto 5, 3) := by decide +kernel
theorem B11_112_123 : s_dk T11.2.2.1 112 [.istore 7, .aload_n 0, .aload_n 1, .iload_n 2, .iconst 1, .iadd, .iload_n 3, .iconst 1, .iload 6] 123 = true := by decide +kernel
noncomputable def T10 : mT := (1, yX1_find, cX1_find, 3, (some .int))
set_option maxRecDepth 10000 in
theorem TE10 : sy_m[10]? = some T10 := rfl
theorem B10_0_2 : s_dk T10.2.2.1 0 [.aload_n 0, .iload_n 2] 2 = true := by decide +kernel
theorem pf_1_15_66 : s_pf 1 15 66 = some (1, 1) := by decide +kernel
theorem D10_2 : decode T10.2.2.1 2 = .ok (.putfield 15, 3) := by decide +kernel
theorem B10_5_7 : s_dk T10.2.2.1 5 [.aload_n 0, .iconst (-1)] 7 = true := by decide +kernel
theorem D10_7 : decode T10.2.2.1 7 = .ok (.putfield 22, 3) := by decide +kernel
theorem B10_10_14 : s_dk T10.2.2.1 10 [.aload_n 0, .aload_n 1, .iconst 0, .iconst 0] 14 = true := by decide +kernel
theorem ci_1_25 : m_ci 1 25 = some (1000000) := by decide +kernel
theorem D10_14 : decode T10.2.2.1 14 = .ok (.ldc 25, 2) := by decide +kernel
theorem B10_16_17 : s_dk T10.2.2.1 16 [.iconst 0] 17 = true := by decide +kernel
theorem D10_17 : decode T10.2.2.1 17 = .ok (.invokevirtual 26, 3) := by decide +kernel
theorem B10_20_21 : s_dk T10.2.2.1 20 [.aload_n 0] 21 = true := by decide +kernel
theorem D10_21 : decode T10.2.2.1 21 = .ok (.getfield 22, 3) := by decide +kernel
theorem D10_24 : decode T10.2.2.1 24 = .ok (.ireturn, 1) := by decide +kernel
noncomputable def T82 : mT := (9, yX9_describe, cX9_describe, 9, none)
set_option maxRecDepth 10000 in
theorem TE82 : sy_m[82]? = some T82 := rfl
theorem B82_0_1 : s_dk T82.2.2.1 0 [.aload_n 0] 1 = true := by decide +kernel
theorem gf_9_18_20 : s_gf 9 18 20 = some (2, 26) := by decide +kernel
theorem D82_1 : decode T82.2.2.1 1 = .ok (.getfield 18, 3) := by decide +kernel
theorem B82_4_7 : s_dk T82.2.2.1 4 [.iload_n 2, .aload_n 1, .iload_n 3] 7 = true := by decide +kernel
theorem D82_7 : decode T82.2.2.1 7 = .ok (.invokevirtual 123, 3) := by decide +kernel
theorem ck_9_virtual_123 : m_call 9 (.invokevirtual 123) = some (0, 76, 1) := by decide +kernel
theorem D82_10 : decode T82.2.2.1 10 = .ok (.iastore, 1) := by decide +kernel
theorem B82_11_14 : s_dk T82.2.2.1 11 [.iconst 0, .istore 4] 14 = true := by decide +kernel
theorem B82_14_17 : s_dk T82.2.2.1 14 [.iload 4, .iconst 3] 17 = true := by decide +kernel
theorem D82_17 : decode T82.2.2.1 17 = .ok (.if_icmp .ge 191, 3) := by decide +kernel
theorem B82_20_33 : s_dk T82.2.2.1 20 [.iload_n 2, .iconst 3, .imul, .iload 4, .iadd, .istore 5, .aload_n 1, .iload_n 3, .iload 4, .aload_n 0] 33 = true := by decide +kernel
theorem gf_9_55_20 : s_gf 9 55 20 = some (14, 38) := by decide +kernel
theorem D82_33 : decode T82.2.2.1 33 = .ok (.getfield 55, 3) := by decide +kernel
theorem D82_36 : decode T82.2.2.1 36 = .ok (.invokevirtual 126, 3) := by decide +kernel
theorem ck_9_virtual_126 : m_call 9 (.invokevirtual 126) = some (0, 75, 3) := by decide +kernel
theorem B82_39_48 : s_dk T82.2.2.1 39 [.iconst 0, .istore 6, .iconst 0, .istore 7, .iconst 0, .istore 8] 48 = true := by decide +kernel
theorem B82_48_52 : s_dk T82.2.2.1 48 [.iload 8, .bipush 8] 52 = true := by decide +kernel
theorem D82_52 : decode T82.2.2.1 52 = .ok (.if_icmp .ge 58, 3) := by decide +kernel
theorem B82_55_58 : s_dk T82.2.2.1 55 [.iload 6, .aload_n 0] 58 = true := by decide +kernel
theorem D82_58 : decode T82.2.2.1 58 = .ok (.getfield 55, 3) := by decide +kernel
theorem B82_61_63 : s_dk T82.2.2.1 61 [.iload 8] 63 = true := by decide +kernel
theorem D82_63 : decode T82.2.2.1 63 = .ok (.iaload, 1) := by decide +kernel
theorem D82_64 : decode T82.2.2.1 64 = .ok (.ifCond .le 10, 3) := by decide +kernel
theorem B82_74_75 : s_dk T82.2.2.1 74 [.iconst 0] 75 = true := by decide +kernel
theorem D82_75 : decode T82.2.2.1 75 = .ok (.ior, 1) := by decide +kernel
theorem B82_76_79 : s_dk T82.2.2.1 76 [.istore 6, .aload_n 0] 79 = true := by decide +kernel
theorem D82_79 : decode T82.2.2.1 79 = .ok (.getfield 55, 3) := by decide +kernel
theorem B82_82_84 : s_dk T82.2.2.1 82 [.iload 8] 84 = true := by decide +kernel
theorem D82_84 : decode T82.2.2.1 84 = .ok (.iaload, 1) := by decide +kernel
theorem B82_85_86 : s_dk T82.2.2.1 85 [.aload_n 0] 86 = true := by decide +kernel
theorem D82_86 : decode T82.2.2.1 86 = .ok (.getfield 55, 3) := by decide +kernel
theorem B82_89_91 : s_dk T82.2.2.1 89 [.iload 7] 91 = true := by decide +kernel
theorem D82_91 : decode T82.2.2.1 91 = .ok (.iaload, 1) := by decide +kernel
theorem D82_92 : decode T82.2.2.1 92 = .ok (.if_icmp .le 8, 3) := by decide +kernel
theorem B82_100_107 : s_dk T82.2.2.1 100 [.iload 7, .istore 7, .iinc 8 1] 107 = true := by decide +kernel
theorem D82_107 : decode T82.2.2.1 107 = .ok (.goto (-59), 3) := by decide +kernel
theorem B82_95_97 : s_dk T82.2.2.1 95 [.iload 8] 97 = true := by decide +kernel
theorem D82_97 : decode T82.2.2.1 97 = .ok (.goto 5, 3) := by decide +kernel
theorem B82_102_107 : s_dk T82.2.2.1 102 [.istore 7, .iinc 8 1] 107 = true := by decide +kernel
theorem B82_67_70 : s_dk T82.2.2.1 67 [.iconst 1, .iload 8] 70 = true := by decide +kernel
theorem D82_70 : decode T82.2.2.1 70 = .ok (.ishl, 1) := by decide +kernel
theorem D82_71 : decode T82.2.2.1 71 = .ok (.goto 4, 3) := by decide +kernel
theorem B82_110_111 : s_dk T82.2.2.1 110 [.aload_n 0] 111 = true := by decide +kernel
theorem gf_9_31_20 : s_gf 9 31 20 = some (6, 30) := by decide +kernel
theorem D82_111 : decode T82.2.2.1 111 = .ok (.getfield 31, 3) := by decide +kernel
theorem B82_114_118 : s_dk T82.2.2.1 114 [.iload 5, .iload 6] 118 = true := by decide +kernel
theorem D82_118 : decode T82.2.2.1 118 = .ok (.iastore, 1) := by decide +kernel
theorem B82_119_120 : s_dk T82.2.2.1 119 [.aload_n 0] 120 = true := by decide +kernel
theorem gf_9_37_20 : s_gf 9 37 20 = some (8, 32) := by decide +kernel
theorem D82_120 : decode T82.2.2.1 120 = .ok (.getfield 37, 3) := by decide +kernel
theorem B82_123_127 : s_dk T82.2.2.1 123 [.iload 5, .iload 7] 127 = true := by decide +kernel
theorem D82_127 : decode T82.2.2.1 127 = .ok (.iastore, 1) := by decide +kernel
theorem B82_128_129 : s_dk T82.2.2.1 128 [.aload_n 0] 129 = true := by decide +kernel
theorem gf_9_40_20 : s_gf 9 40 20 = some (9, 33) := by decide +kernel
theorem D82_129 : decode T82.2.2.1 129 = .ok (.getfield 40, 3) := by decide +kernel
theorem B82_132_135 : s_dk T82.2.2.1 132 [.iload 5, .aload_n 0] 135 = true := by decide +kernel
theorem D82_135 : decode T82.2.2.1 135 = .ok (.getfield 55, 3) := by decide +kernel
theorem B82_138_140 : s_dk T82.2.2.1 138 [.iload 7] 140 = true := by decide +kernel
theorem D82_140 : decode T82.2.2.1 140 = .ok (.iaload, 1) := by decide +kernel
theorem D82_141 : decode T82.2.2.1 141 = .ok (.iastore, 1) := by decide +kernel
theorem B82_142_143 : s_dk T82.2.2.1 142 [.aload_n 0] 143 = true := by decide +kernel
theorem gf_9_34_20 : s_gf 9 34 20 = some (7, 31) := by decide +kernel
theorem D82_143 : decode T82.2.2.1 143 = .ok (.getfield 34, 3) := by decide +kernel
theorem B82_146_153 : s_dk T82.2.2.1 146 [.iload 5, .iload 6, .iconst 1, .iload 7] 153 = true := by decide +kernel
theorem D82_153 : decode T82.2.2.1 153 = .ok (.ishl, 1) := by decide +kernel
theorem D82_154 : decode T82.2.2.1 154 = .ok (.if_icmp .ne 8, 3) := by decide +kernel
theorem B82_162_163 : s_dk T82.2.2.1 162 [.iconst (-1)] 163 = true := by decide +kernel
theorem D82_163 : decode T82.2.2.1 163 = .ok (.iastore, 1) := by decide +kernel
theorem B82_164_169 : s_dk T82.2.2.1 164 [.aload_n 1, .iload 4, .iload 6] 169 = true := by decide +kernel
theorem D82_169 : decode T82.2.2.1 169 = .ok (.invokevirtual 130, 3) := by decide +kernel
theorem ck_9_virtual_130 : m_call 9 (.invokevirtual 130) = some (0, 77, 2) := by decide +kernel
theorem B82_172_175 : s_dk T82.2.2.1 172 [.istore 8, .aload_n 0] 175 = true := by decide +kernel
theorem gf_9_43_20 : s_gf 9 43 20 = some (10, 34) := by decide +kernel
theorem D82_175 : decode T82.2.2.1 175 = .ok (.getfield 43, 3) := by decide +kernel
theorem B82_178_183 : s_dk T82.2.2.1 178 [.iload 5, .iload 8, .iconst (-1)] 183 = true := by decide +kernel
theorem D82_183 : decode T82.2.2.1 183 = .ok (.if_icmp .ne 7, 3) := by decide +kernel
theorem B82_190_191 : s_dk T82.2.2.1 190 [.aload_n 1] 191 = true := by decide +kernel
theorem gf_9_133_1 : s_gf 9 133 1 = some (3, 7) := by decide +kernel
theorem D82_191 : decode T82.2.2.1 191 = .ok (.getfield 133, 3) := by decide +kernel
theorem B82_194_200 : s_dk T82.2.2.1 194 [.iload 8, .iconst 3, .imul, .iconst 2, .iadd] 200 = true := by decide +kernel
theorem D82_200 : decode T82.2.2.1 200 = .ok (.iaload, 1) := by decide +kernel
theorem D82_201 : decode T82.2.2.1 201 = .ok (.iastore, 1) := by decide +kernel
theorem B82_202_205 : s_dk T82.2.2.1 202 [.iinc 4 1] 205 = true := by decide +kernel
theorem D82_205 : decode T82.2.2.1 205 = .ok (.goto (-191), 3) := by decide +kernel
theorem B82_186_187 : s_dk T82.2.2.1 186 [.iconst 0] 187 = true := by decide +kernel
theorem D82_187 : decode T82.2.2.1 187 = .ok (.goto 14, 3) := by decide +kernel
theorem B82_157_159 : s_dk T82.2.2.1 157 [.iload 7] 159 = true := by decide +kernel
theorem D82_159 : decode T82.2.2.1 159 = .ok (.goto 4, 3) := by decide +kernel
theorem D82_208 : decode T82.2.2.1 208 = .ok (.return_, 1) := by decide +kernel
noncomputable def T81 : mT := (9, yX9_addPlace, cX9_addPlace, 6, (some .int))
set_option maxRecDepth 10000 in
theorem TE81 : sy_m[81]? = some T81 := rfl
theorem B81_0_1 : s_dk T81.2.2.1 0 [.aload_n 0] 1 = true := by decide +kernel
theorem gf_9_58_20 : s_gf 9 58 20 = some (15, 1) := by decide +kernel
theorem D81_1 : decode T81.2.2.1 1 = .ok (.getfield 58, 3) := by decide +kernel
theorem B81_4_7 : s_dk T81.2.2.1 4 [.sipush 144] 7 = true := by decide +kernel
theorem D81_7 : decode T81.2.2.1 7 = .ok (.invokestatic 115, 3) := by decide +kernel
theorem mc_9_static_115 : m_call 9 (.invokestatic 115) = none := by decide +kernel
theorem sp_9_115 : m_sp 9 115 = some 3 := by decide +kernel
theorem B81_10_17 : s_dk T81.2.2.1 10 [.istore 4, .aload_n 0, .iload 4, .iconst 1, .iadd] 17 = true := by decide +kernel
theorem pf_9_58_20 : s_pf 9 58 20 = some (15, 1) := by decide +kernel
theorem D81_17 : decode T81.2.2.1 17 = .ok (.putfield 58, 3) := by decide +kernel
theorem B81_20_21 : s_dk T81.2.2.1 20 [.aload_n 0] 21 = true := by decide +kernel
theorem gf_9_11_20 : s_gf 9 11 20 = some (0, 24) := by decide +kernel
theorem D81_21 : decode T81.2.2.1 21 = .ok (.getfield 11, 3) := by decide +kernel
theorem B81_24_27 : s_dk T81.2.2.1 24 [.iload 4, .iconst (-1)] 27 = true := by decide +kernel
theorem D81_27 : decode T81.2.2.1 27 = .ok (.iastore, 1) := by decide +kernel
theorem B81_28_29 : s_dk T81.2.2.1 28 [.aload_n 0] 29 = true := by decide +kernel
theorem gf_9_15_20 : s_gf 9 15 20 = some (1, 25) := by decide +kernel
theorem D81_29 : decode T81.2.2.1 29 = .ok (.getfield 15, 3) := by decide +kernel
theorem B81_32_35 : s_dk T81.2.2.1 32 [.iload 4, .aload_n 0] 35 = true := by decide +kernel
theorem D81_35 : decode T81.2.2.1 35 = .ok (.getfield 11, 3) := by decide +kernel
theorem B81_38_39 : s_dk T81.2.2.1 38 [.iload_n 1] 39 = true := by decide +kernel
theorem D81_39 : decode T81.2.2.1 39 = .ok (.iaload, 1) := by decide +kernel
theorem D81_40 : decode T81.2.2.1 40 = .ok (.iastore, 1) := by decide +kernel
theorem B81_41_42 : s_dk T81.2.2.1 41 [.aload_n 0] 42 = true := by decide +kernel
theorem D81_42 : decode T81.2.2.1 42 = .ok (.getfield 11, 3) := by decide +kernel
theorem B81_45_48 : s_dk T81.2.2.1 45 [.iload_n 1, .iload 4] 48 = true := by decide +kernel
theorem D81_48 : decode T81.2.2.1 48 = .ok (.iastore, 1) := by decide +kernel
theorem B81_49_50 : s_dk T81.2.2.1 49 [.aload_n 0] 50 = true := by decide +kernel
theorem gf_9_21_20 : s_gf 9 21 20 = some (3, 27) := by decide +kernel
theorem D81_50 : decode T81.2.2.1 50 = .ok (.getfield 21, 3) := by decide +kernel
theorem B81_53_56 : s_dk T81.2.2.1 53 [.iload 4, .aload_n 0] 56 = true := by decide +kernel
theorem D81_56 : decode T81.2.2.1 56 = .ok (.getfield 21, 3) := by decide +kernel
theorem B81_59_60 : s_dk T81.2.2.1 59 [.iload_n 1] 60 = true := by decide +kernel
theorem D81_60 : decode T81.2.2.1 60 = .ok (.iaload, 1) := by decide +kernel
theorem D81_61 : decode T81.2.2.1 61 = .ok (.iastore, 1) := by decide +kernel
theorem B81_62_63 : s_dk T81.2.2.1 62 [.aload_n 0] 63 = true := by decide +kernel
theorem gf_9_24_20 : s_gf 9 24 20 = some (4, 28) := by decide +kernel
theorem D81_63 : decode T81.2.2.1 63 = .ok (.getfield 24, 3) := by decide +kernel
theorem B81_66_69 : s_dk T81.2.2.1 66 [.iload 4, .iconst 0] 69 = true := by decide +kernel
theorem D81_69 : decode T81.2.2.1 69 = .ok (.bastore, 1) := by decide +kernel
theorem B81_70_75 : s_dk T81.2.2.1 70 [.aload_n 0, .aload_n 2, .iload 4, .iload_n 3] 75 = true := by decide +kernel
theorem D81_75 : decode T81.2.2.1 75 = .ok (.invokevirtual 120, 3) := by decide +kernel
theorem ck_9_virtual_120 : m_call 9 (.invokevirtual 120) = some (0, 82, 3) := by decide +kernel
theorem B81_78_79 : s_dk T81.2.2.1 78 [.aload_n 0] 79 = true := by decide +kernel
theorem gf_9_28_20 : s_gf 9 28 20 = some (5, 29) := by decide +kernel
theorem D81_79 : decode T81.2.2.1 79 = .ok (.getfield 28, 3) := by decide +kernel
theorem B81_82_85 : s_dk T81.2.2.1 82 [.iload 4, .iconst 0] 85 = true := by decide +kernel
theorem D81_85 : decode T81.2.2.1 85 = .ok (.bastore, 1) := by decide +kernel
theorem B81_86_89 : s_dk T81.2.2.1 86 [.iconst 0, .istore 5] 89 = true := by decide +kernel
theorem B81_89_92 : s_dk T81.2.2.1 89 [.iload 5, .iconst 3] 92 = true := by decide +kernel
theorem D81_92 : decode T81.2.2.1 92 = .ok (.if_icmp .ge 50, 3) := by decide +kernel
theorem B81_95_96 : s_dk T81.2.2.1 95 [.aload_n 0] 96 = true := by decide +kernel
theorem D81_96 : decode T81.2.2.1 96 = .ok (.getfield 28, 3) := by decide +kernel
theorem B81_99_102 : s_dk T81.2.2.1 99 [.iload 4, .dup2] 102 = true := by decide +kernel
theorem D81_102 : decode T81.2.2.1 102 = .ok (.baload, 1) := by decide +kernel
theorem B81_103_104 : s_dk T81.2.2.1 103 [.aload_n 0] 104 = true := by decide +kernel
theorem D81_104 : decode T81.2.2.1 104 = .ok (.getfield 31, 3) := by decide +kernel
theorem B81_107_114 : s_dk T81.2.2.1 107 [.iload 4, .iconst 3, .imul, .iload 5, .iadd] 114 = true := by decide +kernel
theorem D81_114 : decode T81.2.2.1 114 = .ok (.iaload, 1) := by decide +kernel
theorem B81_115_116 : s_dk T81.2.2.1 115 [.aload_n 0] 116 = true := by decide +kernel
theorem D81_116 : decode T81.2.2.1 116 = .ok (.getfield 31, 3) := by decide +kernel
theorem B81_119_125 : s_dk T81.2.2.1 119 [.iload_n 1, .iconst 3, .imul, .iload 5, .iadd] 125 = true := by decide +kernel
theorem D81_125 : decode T81.2.2.1 125 = .ok (.iaload, 1) := by decide +kernel
theorem D81_126 : decode T81.2.2.1 126 = .ok (.if_icmp .eq 7, 3) := by decide +kernel
theorem B81_133_134 : s_dk T81.2.2.1 133 [.iconst 0] 134 = true := by decide +kernel
theorem D81_134 : decode T81.2.2.1 134 = .ok (.ior, 1) := by decide +kernel
theorem D81_135 : decode T81.2.2.1 135 = .ok (.bastore, 1) := by decide +kernel
theorem B81_136_139 : s_dk T81.2.2.1 136 [.iinc 5 1] 139 = true := by decide +kernel
theorem D81_139 : decode T81.2.2.1 139 = .ok (.goto (-50), 3) := by decide +kernel
theorem B81_129_130 : s_dk T81.2.2.1 129 [.iconst 1] 130 = true := by decide +kernel
theorem D81_130 : decode T81.2.2.1 130 = .ok (.goto 4, 3) := by decide +kernel
theorem B81_142_144 : s_dk T81.2.2.1 142 [.iload 4] 144 = true := by decide +kernel
theorem D81_144 : decode T81.2.2.1 144 = .ok (.ireturn, 1) := by decide +kernel
noncomputable def T80 : mT := (9, yX9_growSentence, cX9_growSentence, 10, none)
set_option maxRecDepth 10000 in
theorem TE80 : sy_m[80]? = some T80 := rfl
theorem B80_0_1 : s_dk T80.2.2.1 0 [.aload_n 1] 1 = true := by decide +kernel
theorem gf_9_96_1 : s_gf 9 96 1 = some (7, 9) := by decide +kernel
theorem D80_1 : decode T80.2.2.1 1 = .ok (.getfield 96, 3) := by decide +kernel
theorem B80_4_5 : s_dk T80.2.2.1 4 [.iload_n 2] 5 = true := by decide +kernel
theorem D80_5 : decode T80.2.2.1 5 = .ok (.iaload, 1) := by decide +kernel
theorem B80_6_9 : s_dk T80.2.2.1 6 [.istore 4, .aload_n 0] 9 = true := by decide +kernel
theorem gf_9_49_20 : s_gf 9 49 20 = some (12, 36) := by decide +kernel
theorem D80_9 : decode T80.2.2.1 9 = .ok (.getfield 49, 3) := by decide +kernel
theorem B80_12_15 : s_dk T80.2.2.1 12 [.iload_n 2, .iload 4] 15 = true := by decide +kernel
theorem D80_15 : decode T80.2.2.1 15 = .ok (.iastore, 1) := by decide +kernel
theorem B80_16_22 : s_dk T80.2.2.1 16 [.iconst 0, .istore 5, .iconst 0, .istore 6] 22 = true := by decide +kernel
theorem B80_22_26 : s_dk T80.2.2.1 22 [.iload 6, .iload 4] 26 = true := by decide +kernel
theorem D80_26 : decode T80.2.2.1 26 = .ok (.if_icmp .ge 120, 3) := by decide +kernel
theorem B80_146_152 : s_dk T80.2.2.1 146 [.aload_n 0, .iload 5, .aload_n 1, .iconst 1, .iload_n 2] 152 = true := by decide +kernel
theorem D80_152 : decode T80.2.2.1 152 = .ok (.ishl, 1) := by decide +kernel
theorem D80_153 : decode T80.2.2.1 153 = .ok (.invokevirtual 105, 3) := by decide +kernel
theorem ck_9_virtual_105 : m_call 9 (.invokevirtual 105) = some (0, 81, 3) := by decide +kernel
theorem B80_156_159 : s_dk T80.2.2.1 156 [.istore 5, .aload_n 0] 159 = true := by decide +kernel
theorem D80_159 : decode T80.2.2.1 159 = .ok (.getfield 24, 3) := by decide +kernel
theorem B80_162_165 : s_dk T80.2.2.1 162 [.iload 5, .iconst 1] 165 = true := by decide +kernel
theorem D80_165 : decode T80.2.2.1 165 = .ok (.bastore, 1) := by decide +kernel
theorem B80_166_167 : s_dk T80.2.2.1 166 [.aload_n 0] 167 = true := by decide +kernel
theorem gf_9_46_20 : s_gf 9 46 20 = some (11, 35) := by decide +kernel
theorem D80_167 : decode T80.2.2.1 167 = .ok (.getfield 46, 3) := by decide +kernel
theorem B80_170_179 : s_dk T80.2.2.1 170 [.iload_n 2, .bipush 9, .imul, .iload 4, .iadd, .iload 5] 179 = true := by decide +kernel
theorem D80_179 : decode T80.2.2.1 179 = .ok (.iastore, 1) := by decide +kernel
theorem D80_180 : decode T80.2.2.1 180 = .ok (.return_, 1) := by decide +kernel
theorem B80_29_35 : s_dk T80.2.2.1 29 [.aload_n 1, .iload_n 2, .iload 6, .iconst 1, .iadd] 35 = true := by decide +kernel
theorem D80_35 : decode T80.2.2.1 35 = .ok (.invokevirtual 97, 3) := by decide +kernel
theorem ck_9_virtual_97 : m_call 9 (.invokevirtual 97) = some (0, 70, 2) := by decide +kernel
theorem B80_38_43 : s_dk T80.2.2.1 38 [.istore 7, .aload_n 1, .iload 7] 43 = true := by decide +kernel
theorem D80_43 : decode T80.2.2.1 43 = .ok (.invokevirtual 101, 3) := by decide +kernel
theorem ck_9_virtual_101 : m_call 9 (.invokevirtual 101) = some (0, 72, 1) := by decide +kernel
theorem B80_46_51 : s_dk T80.2.2.1 46 [.istore 8, .iload 8, .iload_n 2] 51 = true := by decide +kernel
theorem D80_51 : decode T80.2.2.1 51 = .ok (.if_icmp .ge 21, 3) := by decide +kernel
theorem B80_72_78 : s_dk T80.2.2.1 72 [.aload_n 0, .iload 5, .aload_n 1, .iload 7] 78 = true := by decide +kernel
theorem D80_78 : decode T80.2.2.1 78 = .ok (.invokevirtual 105, 3) := by decide +kernel
theorem B80_81_84 : s_dk T80.2.2.1 81 [.istore 5, .aload_n 1] 84 = true := by decide +kernel
theorem gf_9_109_1 : s_gf 9 109 1 = some (6, 8) := by decide +kernel
theorem D80_84 : decode T80.2.2.1 84 = .ok (.getfield 109, 3) := by decide +kernel
theorem B80_87_94 : s_dk T80.2.2.1 87 [.iload_n 2, .bipush 8, .imul, .iload 6, .iadd] 94 = true := by decide +kernel
theorem D80_94 : decode T80.2.2.1 94 = .ok (.iaload, 1) := by decide +kernel
theorem B80_95_98 : s_dk T80.2.2.1 95 [.istore 9, .aload_n 0] 98 = true := by decide +kernel
theorem D80_98 : decode T80.2.2.1 98 = .ok (.getfield 21, 3) := by decide +kernel
theorem B80_101_104 : s_dk T80.2.2.1 101 [.iload 5, .dup2] 104 = true := by decide +kernel
theorem D80_104 : decode T80.2.2.1 104 = .ok (.iaload, 1) := by decide +kernel
theorem B80_105_108 : s_dk T80.2.2.1 105 [.iload 9, .iload_n 3] 108 = true := by decide +kernel
theorem D80_108 : decode T80.2.2.1 108 = .ok (.if_icmp .ne 7, 3) := by decide +kernel
theorem B80_115_116 : s_dk T80.2.2.1 115 [.aload_n 1] 116 = true := by decide +kernel
theorem gf_9_112_1 : s_gf 9 112 1 = some (0, 5) := by decide +kernel
theorem D80_116 : decode T80.2.2.1 116 = .ok (.getfield 112, 3) := by decide +kernel
theorem B80_119_123 : s_dk T80.2.2.1 119 [.iconst 0, .iload 9, .iadd] 123 = true := by decide +kernel
theorem D80_123 : decode T80.2.2.1 123 = .ok (.iaload, 1) := by decide +kernel
theorem B80_124_125 : s_dk T80.2.2.1 124 [.iadd] 125 = true := by decide +kernel
theorem D80_125 : decode T80.2.2.1 125 = .ok (.iastore, 1) := by decide +kernel
theorem B80_126_127 : s_dk T80.2.2.1 126 [.aload_n 0] 127 = true := by decide +kernel
theorem D80_127 : decode T80.2.2.1 127 = .ok (.getfield 46, 3) := by decide +kernel
theorem B80_130_139 : s_dk T80.2.2.1 130 [.iload_n 2, .bipush 9, .imul, .iload 6, .iadd, .iload 5] 139 = true := by decide +kernel
theorem D80_139 : decode T80.2.2.1 139 = .ok (.iastore, 1) := by decide +kernel
theorem B80_140_143 : s_dk T80.2.2.1 140 [.iinc 6 1] 143 = true := by decide +kernel
theorem D80_143 : decode T80.2.2.1 143 = .ok (.goto (-121), 3) := by decide +kernel
theorem B80_111_112 : s_dk T80.2.2.1 111 [.iconst 0] 112 = true := by decide +kernel
theorem D80_112 : decode T80.2.2.1 112 = .ok (.goto 12, 3) := by decide +kernel
theorem B80_54_55 : s_dk T80.2.2.1 54 [.aload_n 0] 55 = true := by decide +kernel
theorem D80_55 : decode T80.2.2.1 55 = .ok (.getfield 46, 3) := by decide +kernel
theorem B80_58_66 : s_dk T80.2.2.1 58 [.iload 8, .bipush 9, .imul, .iload 6, .iadd] 66 = true := by decide +kernel
theorem D80_66 : decode T80.2.2.1 66 = .ok (.iaload, 1) := by decide +kernel
theorem B80_67_69 : s_dk T80.2.2.1 67 [.istore 5] 69 = true := by decide +kernel
theorem D80_69 : decode T80.2.2.1 69 = .ok (.goto 57, 3) := by decide +kernel
noncomputable def T79 : mT := (9, yX9_grow, cX9_grow, 4, none)
set_option maxRecDepth 10000 in
theorem TE79 : sy_m[79]? = some T79 := rfl
theorem B79_0_1 : s_dk T79.2.2.1 0 [.aload_n 1] 1 = true := by decide +kernel
theorem gf_9_68_1 : s_gf 9 68 1 = some (1, 6) := by decide +kernel
theorem D79_1 : decode T79.2.2.1 1 = .ok (.getfield 68, 3) := by decide +kernel
theorem B79_4_6 : s_dk T79.2.2.1 4 [.iconst 0, .aload_n 0] 6 = true := by decide +kernel
theorem gf_9_52_20 : s_gf 9 52 20 = some (13, 37) := by decide +kernel
theorem D79_6 : decode T79.2.2.1 6 = .ok (.getfield 52, 3) := by decide +kernel
theorem B79_9_12 : s_dk T79.2.2.1 9 [.iconst 0, .bipush 9] 12 = true := by decide +kernel
theorem D79_12 : decode T79.2.2.1 12 = .ok (.invokestatic 71, 3) := by decide +kernel
theorem mc_9_static_71 : m_call 9 (.invokestatic 71) = none := by decide +kernel
theorem sp_9_71 : m_sp 9 71 = some 1 := by decide +kernel
theorem B79_15_17 : s_dk T79.2.2.1 15 [.aload_n 0, .aload_n 1] 17 = true := by decide +kernel
theorem gf_9_77_1 : s_gf 9 77 1 = some (2, 1) := by decide +kernel
theorem D79_17 : decode T79.2.2.1 17 = .ok (.getfield 77, 3) := by decide +kernel
theorem pf_9_62_20 : s_pf 9 62 20 = some (16, 1) := by decide +kernel
theorem D79_20 : decode T79.2.2.1 20 = .ok (.putfield 62, 3) := by decide +kernel
theorem B79_23_25 : s_dk T79.2.2.1 23 [.aload_n 0, .aload_n 1] 25 = true := by decide +kernel
theorem gf_9_78_1 : s_gf 9 78 1 = some (5, 1) := by decide +kernel
theorem D79_25 : decode T79.2.2.1 25 = .ok (.getfield 78, 3) := by decide +kernel
theorem pf_9_65_20 : s_pf 9 65 20 = some (17, 1) := by decide +kernel
theorem D79_28 : decode T79.2.2.1 28 = .ok (.putfield 65, 3) := by decide +kernel
theorem B79_31_32 : s_dk T79.2.2.1 31 [.aload_n 0] 32 = true := by decide +kernel
theorem D79_32 : decode T79.2.2.1 32 = .ok (.getfield 49, 3) := by decide +kernel
theorem B79_35_36 : s_dk T79.2.2.1 35 [.iconst 0] 36 = true := by decide +kernel
theorem D79_36 : decode T79.2.2.1 36 = .ok (.invokestatic 79, 3) := by decide +kernel
theorem ck_9_static_79 : m_call 9 (.invokestatic 79) = some (1, 278, 2) := by decide +kernel
theorem B79_39_41 : s_dk T79.2.2.1 39 [.aload_n 0, .iconst 1] 41 = true := by decide +kernel
theorem D79_41 : decode T79.2.2.1 41 = .ok (.putfield 58, 3) := by decide +kernel
theorem B79_44_45 : s_dk T79.2.2.1 44 [.aload_n 0] 45 = true := by decide +kernel
theorem D79_45 : decode T79.2.2.1 45 = .ok (.getfield 11, 3) := by decide +kernel
theorem B79_48_50 : s_dk T79.2.2.1 48 [.iconst 0, .iconst (-1)] 50 = true := by decide +kernel
theorem D79_50 : decode T79.2.2.1 50 = .ok (.iastore, 1) := by decide +kernel
theorem B79_51_53 : s_dk T79.2.2.1 51 [.iconst 0, .istore_n 3] 53 = true := by decide +kernel
theorem B79_53_55 : s_dk T79.2.2.1 53 [.iload_n 3, .aload_n 1] 55 = true := by decide +kernel
theorem gf_9_85_1 : s_gf 9 85 1 = some (10, 1) := by decide +kernel
theorem D79_55 : decode T79.2.2.1 55 = .ok (.getfield 85, 3) := by decide +kernel
theorem D79_58 : decode T79.2.2.1 58 = .ok (.if_icmp .ge 24, 3) := by decide +kernel
theorem D79_82 : decode T79.2.2.1 82 = .ok (.return_, 1) := by decide +kernel
theorem B79_61_63 : s_dk T79.2.2.1 61 [.aload_n 1, .iload_n 3] 63 = true := by decide +kernel
theorem D79_63 : decode T79.2.2.1 63 = .ok (.invokevirtual 88, 3) := by decide +kernel
theorem ck_9_virtual_88 : m_call 9 (.invokevirtual 88) = some (0, 67, 1) := by decide +kernel
theorem D79_66 : decode T79.2.2.1 66 = .ok (.ifCond .eq 10, 3) := by decide +kernel
theorem B79_76_79 : s_dk T79.2.2.1 76 [.iinc 3 1] 79 = true := by decide +kernel
theorem D79_79 : decode T79.2.2.1 79 = .ok (.goto (-26), 3) := by decide +kernel
theorem B79_69_73 : s_dk T79.2.2.1 69 [.aload_n 0, .aload_n 1, .iload_n 3, .iload_n 2] 73 = true := by decide +kernel
theorem D79_73 : decode T79.2.2.1 73 = .ok (.invokevirtual 92, 3) := by decide +kernel
theorem ck_9_virtual_92 : m_call 9 (.invokevirtual 92) = some (0, 80, 3) := by decide +kernel
noncomputable def T83 : mT := (9, yX9_lengthOf, cX9_lengthOf, 2, (some .int))
set_option maxRecDepth 10000 in
theorem TE83 : sy_m[83]? = some T83 := rfl
theorem B83_0_4 : s_dk T83.2.2.1 0 [.iload_n 1, .iconst 0, .bipush 15] 4 = true := by decide +kernel
theorem D83_4 : decode T83.2.2.1 4 = .ok (.invokestatic 136, 3) := by decide +kernel
theorem ck_9_static_136 : m_call 9 (.invokestatic 136) = some (4, 142, 3) := by decide +kernel
theorem D83_7 : decode T83.2.2.1 7 = .ok (.ifCond .eq 21, 3) := by decide +kernel
theorem B83_28_29 : s_dk T83.2.2.1 28 [.iconst (-1)] 29 = true := by decide +kernel
theorem D83_29 : decode T83.2.2.1 29 = .ok (.ireturn, 1) := by decide +kernel
theorem B83_10_11 : s_dk T83.2.2.1 10 [.aload_n 0] 11 = true := by decide +kernel
theorem D83_11 : decode T83.2.2.1 11 = .ok (.getfield 49, 3) := by decide +kernel
theorem B83_14_15 : s_dk T83.2.2.1 14 [.iload_n 1] 15 = true := by decide +kernel
theorem D83_15 : decode T83.2.2.1 15 = .ok (.iaload, 1) := by decide +kernel
theorem D83_16 : decode T83.2.2.1 16 = .ok (.ifCond .le 12, 3) := by decide +kernel
theorem B83_19_20 : s_dk T83.2.2.1 19 [.aload_n 0] 20 = true := by decide +kernel
theorem D83_20 : decode T83.2.2.1 20 = .ok (.getfield 49, 3) := by decide +kernel
theorem B83_23_24 : s_dk T83.2.2.1 23 [.iload_n 1] 24 = true := by decide +kernel
theorem D83_24 : decode T83.2.2.1 24 = .ok (.iaload, 1) := by decide +kernel
theorem D83_25 : decode T83.2.2.1 25 = .ok (.goto 4, 3) := by decide +kernel
noncomputable def T84 : mT := (9, yX9_placeIn, cX9_placeIn, 3, (some .int))
set_option maxRecDepth 10000 in
theorem TE84 : sy_m[84]? = some T84 := rfl
theorem B84_0_1 : s_dk T84.2.2.1 0 [.aload_n 0] 1 = true := by decide +kernel
theorem D84_1 : decode T84.2.2.1 1 = .ok (.getfield 46, 3) := by decide +kernel
theorem B84_4_10 : s_dk T84.2.2.1 4 [.iload_n 1, .bipush 9, .imul, .iload_n 2, .aload_n 0] 10 = true := by decide +kernel
theorem D84_10 : decode T84.2.2.1 10 = .ok (.getfield 49, 3) := by decide +kernel
theorem B84_13_14 : s_dk T84.2.2.1 13 [.iload_n 1] 14 = true := by decide +kernel
theorem D84_14 : decode T84.2.2.1 14 = .ok (.iaload, 1) := by decide +kernel
theorem D84_15 : decode T84.2.2.1 15 = .ok (.invokestatic 115, 3) := by decide +kernel
theorem B84_18_19 : s_dk T84.2.2.1 18 [.iadd] 19 = true := by decide +kernel
theorem D84_19 : decode T84.2.2.1 19 = .ok (.iaload, 1) := by decide +kernel
theorem D84_20 : decode T84.2.2.1 20 = .ok (.ireturn, 1) := by decide +kernel
noncomputable def T85 : mT := (9, yX9_nextAt, cX9_nextAt, 3, (some .int))
set_option maxRecDepth 10000 in
theorem TE85 : sy_m[85]? = some T85 := rfl
theorem B85_0_3 : s_dk T85.2.2.1 0 [.iload_n 1, .iconst 3, .imul] 3 = true := by decide +kernel
theorem st_9_140 : m_st 9 140 = some 5 := by decide +kernel
theorem D85_3 : decode T85.2.2.1 3 = .ok (.getstatic 140, 3) := by decide +kernel
theorem B85_6_7 : s_dk T85.2.2.1 6 [.aload_n 0] 7 = true := by decide +kernel
theorem gf_9_62_20 : s_gf 9 62 20 = some (16, 1) := by decide +kernel
theorem D85_7 : decode T85.2.2.1 7 = .ok (.getfield 62, 3) := by decide +kernel
theorem B85_10_14 : s_dk T85.2.2.1 10 [.iconst 3, .imul, .iload_n 2, .iadd] 14 = true := by decide +kernel
theorem D85_14 : decode T85.2.2.1 14 = .ok (.iaload, 1) := by decide +kernel
theorem B85_15_16 : s_dk T85.2.2.1 15 [.iadd] 16 = true := by decide +kernel
theorem D85_16 : decode T85.2.2.1 16 = .ok (.ireturn, 1) := by decide +kernel
noncomputable def T90 : mT := (9, yX9_held, cX9_held, 3, (some .int))
set_option maxRecDepth 10000 in
theorem TE90 : sy_m[90]? = some T90 := rfl
theorem B90_0_1 : s_dk T90.2.2.1 0 [.aload_n 0] 1 = true := by decide +kernel
theorem D90_1 : decode T90.2.2.1 1 = .ok (.getfield 21, 3) := by decide +kernel
theorem B90_4_5 : s_dk T90.2.2.1 4 [.iload_n 1] 5 = true := by decide +kernel
theorem D90_5 : decode T90.2.2.1 5 = .ok (.iaload, 1) := by decide +kernel
theorem B90_6_7 : s_dk T90.2.2.1 6 [.aload_n 0] 7 = true := by decide +kernel
theorem D90_7 : decode T90.2.2.1 7 = .ok (.getfield 52, 3) := by decide +kernel
theorem B90_10_11 : s_dk T90.2.2.1 10 [.iconst 1] 11 = true := by decide +kernel
theorem D90_11 : decode T90.2.2.1 11 = .ok (.iaload, 1) := by decide +kernel
theorem B90_12_16 : s_dk T90.2.2.1 12 [.iload_n 2, .imul, .isub, .iconst 0] 16 = true := by decide +kernel
theorem D90_16 : decode T90.2.2.1 16 = .ok (.invokestatic 174, 3) := by decide +kernel
theorem mc_9_static_174 : m_call 9 (.invokestatic 174) = none := by decide +kernel
theorem sp_9_174 : m_sp 9 174 = some 2 := by decide +kernel
theorem D90_19 : decode T90.2.2.1 19 = .ok (.ireturn, 1) := by decide +kernel
noncomputable def T91 : mT := (9, yX9_canFade, cX9_canFade, 2, (some .boolean))
set_option maxRecDepth 10000 in
theorem TE91 : sy_m[91]? = some T91 := rfl
theorem B91_0_2 : s_dk T91.2.2.1 0 [.iconst 1, .istore_n 1] 2 = true := by decide +kernel
theorem B91_2_4 : s_dk T91.2.2.1 2 [.iload_n 1, .aload_n 0] 4 = true := by decide +kernel
theorem D91_4 : decode T91.2.2.1 4 = .ok (.getfield 58, 3) := by decide +kernel
theorem D91_7 : decode T91.2.2.1 7 = .ok (.if_icmp .ge 35, 3) := by decide +kernel
theorem B91_42_43 : s_dk T91.2.2.1 42 [.iconst 0] 43 = true := by decide +kernel
theorem D91_43 : decode T91.2.2.1 43 = .ok (.ireturn, 1) := by decide +kernel
theorem B91_10_11 : s_dk T91.2.2.1 10 [.aload_n 0] 11 = true := by decide +kernel
theorem D91_11 : decode T91.2.2.1 11 = .ok (.getfield 52, 3) := by decide +kernel
theorem B91_14_15 : s_dk T91.2.2.1 14 [.iconst 2] 15 = true := by decide +kernel
theorem D91_15 : decode T91.2.2.1 15 = .ok (.iaload, 1) := by decide +kernel
theorem D91_16 : decode T91.2.2.1 16 = .ok (.ifCond .le 20, 3) := by decide +kernel
theorem B91_36_39 : s_dk T91.2.2.1 36 [.iinc 1 1] 39 = true := by decide +kernel
theorem D91_39 : decode T91.2.2.1 39 = .ok (.goto (-37), 3) := by decide +kernel
theorem B91_19_20 : s_dk T91.2.2.1 19 [.aload_n 0] 20 = true := by decide +kernel
theorem D91_20 : decode T91.2.2.1 20 = .ok (.getfield 21, 3) := by decide +kernel
theorem B91_23_24 : s_dk T91.2.2.1 23 [.iload_n 1] 24 = true := by decide +kernel
theorem D91_24 : decode T91.2.2.1 24 = .ok (.iaload, 1) := by decide +kernel
theorem B91_25_26 : s_dk T91.2.2.1 25 [.aload_n 0] 26 = true := by decide +kernel
theorem D91_26 : decode T91.2.2.1 26 = .ok (.getfield 52, 3) := by decide +kernel
theorem B91_29_30 : s_dk T91.2.2.1 29 [.iconst 0] 30 = true := by decide +kernel
theorem D91_30 : decode T91.2.2.1 30 = .ok (.iaload, 1) := by decide +kernel
theorem D91_31 : decode T91.2.2.1 31 = .ok (.if_icmp .le 5, 3) := by decide +kernel
theorem B91_34_35 : s_dk T91.2.2.1 34 [.iconst 1] 35 = true := by decide +kernel
theorem D91_35 : decode T91.2.2.1 35 = .ok (.ireturn, 1) := by decide +kernel
noncomputable def T92 : mT := (9, yX9_secondLoss, cX9_secondLoss, 4, (some .int))
set_option maxRecDepth 10000 in
theorem TE92 : sy_m[92]? = some T92 := rfl
theorem B92_0_3 : s_dk T92.2.2.1 0 [.aload_n 0, .iload_n 1, .iload_n 2] 3 = true := by decide +kernel
theorem D92_3 : decode T92.2.2.1 3 = .ok (.invokevirtual 177, 3) := by decide +kernel
theorem ck_9_virtual_177 : m_call 9 (.invokevirtual 177) = some (0, 90, 2) := by decide +kernel
theorem B92_6_7 : s_dk T92.2.2.1 6 [.aload_n 0] 7 = true := by decide +kernel
theorem D92_7 : decode T92.2.2.1 7 = .ok (.getfield 52, 3) := by decide +kernel
theorem B92_10_11 : s_dk T92.2.2.1 10 [.iconst 0] 11 = true := by decide +kernel
theorem D92_11 : decode T92.2.2.1 11 = .ok (.iaload, 1) := by decide +kernel
theorem B92_12_14 : s_dk T92.2.2.1 12 [.isub, .iconst 0] 14 = true := by decide +kernel
theorem D92_14 : decode T92.2.2.1 14 = .ok (.invokestatic 174, 3) := by decide +kernel
theorem B92_17_19 : s_dk T92.2.2.1 17 [.istore_n 3, .aload_n 0] 19 = true := by decide +kernel
theorem D92_19 : decode T92.2.2.1 19 = .ok (.getfield 52, 3) := by decide +kernel
theorem B92_22_23 : s_dk T92.2.2.1 22 [.iconst 2] 23 = true := by decide +kernel
theorem D92_23 : decode T92.2.2.1 23 = .ok (.iaload, 1) := by decide +kernel
theorem B92_24_27 : s_dk T92.2.2.1 24 [.iload_n 3, .imul, .aload_n 0] 27 = true := by decide +kernel
theorem D92_27 : decode T92.2.2.1 27 = .ok (.getfield 24, 3) := by decide +kernel
theorem B92_30_31 : s_dk T92.2.2.1 30 [.iload_n 1] 31 = true := by decide +kernel
theorem D92_31 : decode T92.2.2.1 31 = .ok (.baload, 1) := by decide +kernel
theorem D92_32 : decode T92.2.2.1 32 = .ok (.ifCond .eq 12, 3) := by decide +kernel
theorem B92_44_46 : s_dk T92.2.2.1 44 [.iconst 0, .iadd] 46 = true := by decide +kernel
theorem D92_46 : decode T92.2.2.1 46 = .ok (.ireturn, 1) := by decide +kernel
theorem B92_35_36 : s_dk T92.2.2.1 35 [.aload_n 0] 36 = true := by decide +kernel
theorem D92_36 : decode T92.2.2.1 36 = .ok (.getfield 52, 3) := by decide +kernel
theorem B92_39_40 : s_dk T92.2.2.1 39 [.iconst 3] 40 = true := by decide +kernel
theorem D92_40 : decode T92.2.2.1 40 = .ok (.iaload, 1) := by decide +kernel
theorem D92_41 : decode T92.2.2.1 41 = .ok (.goto 4, 3) := by decide +kernel
theorem B92_45_46 : s_dk T92.2.2.1 45 [.iadd] 46 = true := by decide +kernel
theorem gf_9_18_39 : s_gf 9 18 39 = some (2, 45) := by decide +kernel
theorem gf_9_55_39 : s_gf 9 55 39 = some (14, 57) := by decide +kernel
theorem gf_9_31_39 : s_gf 9 31 39 = some (6, 49) := by decide +kernel
theorem gf_9_37_39 : s_gf 9 37 39 = some (8, 51) := by decide +kernel
theorem gf_9_40_39 : s_gf 9 40 39 = some (9, 52) := by decide +kernel
theorem gf_9_34_39 : s_gf 9 34 39 = some (7, 50) := by decide +kernel
theorem gf_9_43_39 : s_gf 9 43 39 = some (10, 53) := by decide +kernel
theorem gf_9_58_39 : s_gf 9 58 39 = some (15, 1) := by decide +kernel
theorem pf_9_58_39 : s_pf 9 58 39 = some (15, 1) := by decide +kernel
theorem gf_9_11_39 : s_gf 9 11 39 = some (0, 43) := by decide +kernel
theorem gf_9_15_39 : s_gf 9 15 39 = some (1, 44) := by decide +kernel
theorem gf_9_21_39 : s_gf 9 21 39 = some (3, 46) := by decide +kernel
theorem gf_9_24_39 : s_gf 9 24 39 = some (4, 47) := by decide +kernel
theorem gf_9_28_39 : s_gf 9 28 39 = some (5, 48) := by decide +kernel
theorem gf_9_49_39 : s_gf 9 49 39 = some (12, 55) := by decide +kernel
theorem gf_9_46_39 : s_gf 9 46 39 = some (11, 54) := by decide +kernel
theorem gf_9_52_39 : s_gf 9 52 39 = some (13, 56) := by decide +kernel
theorem pf_9_62_39 : s_pf 9 62 39 = some (16, 1) := by decide +kernel
theorem pf_9_65_39 : s_pf 9 65 39 = some (17, 1) := by decide +kernel
theorem gf_9_62_39 : s_gf 9 62 39 = some (16, 1) := by decide +kernel
set_option maxRecDepth 4000 in
theorem L_k11_66_10 {base : Nat} {X : Nat → Option mC} {G : Nat → Value} (E : EnvOK base X G) {rr : Nat} (ihr : ∀ {d : Nat} (_ : 0 + 1 * rr ≤ d) {M : mH} (_ : HI base M) (at_ : Int) (usedBits : Int) (amount : Int) (lags : Int), (0 ≤ at_ ∧ at_ ≤ 6) → (-2147483648 ≤ usedBits ∧ usedBits ≤ 2147483647) → (-2147483648 ≤ amount ∧ amount ≤ 2147483647) → (0 ≤ lags ∧ lags ≤ 300 * at_) → 6 - at_ < ((rr : Nat) : Int) → sOk base X G d T11 [vR 66, vR 10, vI at_, vI usedBits, vI amount, vI lags] M (pV (fun M' => HI base M' ∧ Fr [(66, 4), (67, 0), (68, 0)] M M' ∧ (gi M' 66 1 = gi M 66 1)))) {d : Nat} (hd : 0 + 1 * (rr + 1) ≤ d) {M : mH} (H : HI base M) (at_ : Int) (usedBits : Int) (amount : Int) (lags : Int) (h0 : 0 ≤ at_ ∧ at_ ≤ 6) (h1 : -2147483648 ≤ usedBits ∧ usedBits ≤ 2147483647) (h2 : -2147483648 ≤ amount ∧ amount ≤ 2147483647) (h3 : 0 ≤ lags ∧ lags ≤ 300 * at_) (hrr : 6 - at_ < ((rr + 1 : Nat) : Int)) : ∀ mz : Nat, (∀ (x6 : Int) (N : mH), HI base N → Fr [(66, 4), (67, 0), (68, 0)] M N → (gi N 66 1 = gi M 66 1) → (0 ≤ x6) → (x6 ≤ 6) → (0 ≤ at_) → (at_ ≤ 5) → (6 - x6) * 1 + 0 < (mz : Int) → sRn base X G d T11 44 [(0, vR 66), (1, vR 10), (2, vI at_), (3, vI usedBits), (4, vI amount), (5, vI lags), (6, vI x6)] [] N (s_Q base (pV (fun M' => HI base M' ∧ Fr [(66, 4), (67, 0), (68, 0)] M M' ∧ (gi M' 66 1 = gi M 66 1))))) := by
  have f0 : Fr [(66, 4), (67, 0), (68, 0)] M M := Fr.rf
  intro mz
  induction mz with
  | zero => exact fun x6 N _ _ z0 z1 z2 z3 z4 z5 => by omega
  | succ mz ih =>
    intro x6 N HN fN i0 i1 i2 i3 i4 hmu
    refine s_blx (lv' := [(0, vR 66), (1, vR 10), (2, vI at_), (3, vI usedBits), (4, vI amount), (5, vI lags), (6, vI x6)]) (st' := [vR 66, vI x6]) B11_44_47 rfl ?_
    refine r_gint (ki := 1) (pc' := 50) D11_47 rfl gf_1_15_66 rfl HN.1 ?_
    intro w25 e26 r27
    have b_w25 := HN.2 66 (1) 0 6 rfl
    rw [← e26] at b_w25; clear r27
    refine r_icmp (tgt := 145) (pc' := 53) D11_50 rfl rfl (by unfold inR; omega) (fun (c28 : w25 ≤ x6) => ?_) (fun (c28 : ¬ (w25 ≤ x6)) => ?_)
    · have g29 : gi N 66 1 = w25 := e26.symm
      exact r_retV D11_145 rfl (⟨HN, fN, by omega⟩)
    · refine s_blx (lv' := [(0, vR 66), (1, vR 10), (2, vI at_), (3, vI usedBits), (4, vI amount), (5, vI lags), (6, vI x6)]) (st' := [vI x6, vI usedBits]) B11_53_56 rfl ?_
      refine r_bin (pc' := 57) D11_56 rfl rfl ?_
      intro z30 r31 _; unfold inR at r31
      refine s_blx (lv' := [(0, vR 66), (1, vR 10), (2, vI at_), (3, vI usedBits), (4, vI amount), (5, vI lags), (6, vI x6)]) (st' := [vI 1, vI z30]) B11_57_58 rfl ?_
      refine r_and1 (pc' := 59) D11_58 rfl ?_
      refine r_ifc (tgt := 139) (pc' := 62) D11_59 rfl rfl (by unfold inR; omega) (fun (c32 : (z30 % 2) ≠ 0) => ?_) (fun (c32 : ¬ ((z30 % 2) ≠ 0)) => ?_)
      · refine s_blx (lv' := [(6, vI (x6 + 1)), (0, vR 66), (1, vR 10), (2, vI at_), (3, vI usedBits), (4, vI amount), (5, vI lags)]) (st' := []) B11_139_142 rfl ?_
        refine r_goto (tgt := 44) D11_142 rfl ?_
        refine r_loc (lv' := [(0, vR 66), (1, vR 10), (2, vI at_), (3, vI usedBits), (4, vI amount), (5, vI lags), (6, vI (x6 + 1))]) ⟨rfl, rfl, rfl, rfl, rfl, rfl, rfl, trivial⟩ rfl rfl ?_
        exact ih (x6 + 1) N HN fN (by omega) (by omega) (by omega) (by omega) (by omega) (by omega)
      · refine s_blx (lv' := [(0, vR 66), (1, vR 10), (2, vI at_), (3, vI usedBits), (4, vI amount), (5, vI lags), (6, vI x6)]) (st' := [vR 66]) B11_62_63 rfl ?_
        refine r_gfix (r := 68) (pc' := 66) D11_63 rfl gf_1_19_66 HN.1 ?_
        refine s_blx (lv' := [(0, vR 66), (1, vR 10), (2, vI at_), (3, vI usedBits), (4, vI amount), (5, vI lags), (6, vI x6)]) (st' := [vI x6, vI at_, vR 68]) B11_66_69 rfl ?_
        refine r_iast (pc' := 70) D11_69 rfl sc_68 HN (by omega) (by unfold inR; omega) trivial ?_
        intro M33 u34 H35 p36
        have f37 := fN.wr u34 rfl
        refine s_blx (lv' := [(0, vR 66), (1, vR 10), (2, vI at_), (3, vI usedBits), (4, vI amount), (5, vI lags), (6, vI x6)]) (st' := [vI amount]) B11_70_72 rfl ?_
        refine r_i2l (pc' := 73) D11_72 rfl (by unfold inR; omega) ?_
        refine s_blx (lv' := [(0, vR 66), (1, vR 10), (2, vI at_), (3, vI usedBits), (4, vI amount), (5, vI lags), (6, vI x6)]) (st' := [vI ((x6 * 3) + 1), vR 10, vL amount]) B11_73_80 rfl ?_
        refine r_iald (pc' := 81) D11_80 rfl sc_10 H35.1 (by omega) ?_
        intro w38 e39 r40
        have b_w38 := H35.2 10 ((x6 * 3) + 1) 0 300 rfl
        rw [← e39] at b_w38; clear r40
        refine r_i2l (pc' := 82) D11_81 rfl (by unfold inR; omega) ?_
        refine s_blx (lv' := [(0, vR 66), (1, vR 10), (2, vI at_), (3, vI usedBits), (4, vI amount), (5, vI lags), (6, vI x6)]) (st' := [vL (amount * w38)]) B11_82_83 rfl ?_
        refine r_ldc2 (e := 100) (pc' := 86) D11_83 rfl cl_1_36 (by decide) ?_
        refine r_ldiv (pc' := 87) D11_86 rfl (by unfold inJ; omega) ?_
        intro z41 _
        refine r_l2i (pc' := 88) D11_87 rfl ?_
        refine r_norm ?_
        intro z42 r43 _; unfold inR at r43
        refine s_blx (lv' := [(7, vI z42), (0, vR 66), (1, vR 10), (2, vI at_), (3, vI usedBits), (4, vI amount), (5, vI lags), (6, vI x6)]) (st' := [vI ((x6 * 3) + 2), vR 10, vI lags]) B11_88_99 rfl ?_
        refine r_iald (pc' := 100) D11_99 rfl sc_10 H35.1 (by omega) ?_
        intro w44 e45 r46
        have b_w44 := H35.2 10 ((x6 * 3) + 2) 0 300 rfl
        rw [← e45] at b_w44; clear r46
        refine r_icmp (tgt := 110) (pc' := 103) D11_100 rfl rfl (by unfold inR; omega) (fun (c47 : lags ≤ w44) => ?_) (fun (c47 : ¬ (lags ≤ w44)) => ?_)
        · refine s_blx (lv' := [(7, vI z42), (0, vR 66), (1, vR 10), (2, vI at_), (3, vI usedBits), (4, vI amount), (5, vI lags), (6, vI x6)]) (st' := [vI x6, vI 1, vI usedBits, vI (at_ + 1), vR 10, vR 66]) B11_110_123 rfl ?_
          refine r_bin (pc' := 124) D11_123 rfl rfl ?_
          intro z48 r49 _; unfold inR at r49
          refine r_bin (pc' := 125) D11_124 rfl rfl ?_
          intro z50 r51 _; unfold inR at r51
          refine s_blx (lv' := [(7, vI z42), (0, vR 66), (1, vR 10), (2, vI at_), (3, vI usedBits), (4, vI amount), (5, vI lags), (6, vI x6)]) (st' := [vI (x6 * 3), vR 10, vI lags, vI z42, vI z50, vI (at_ + 1), vR 10, vR 66]) B11_125_134 rfl ?_
          refine r_iald (pc' := 135) D11_134 rfl sc_10 H35.1 (by omega) ?_
          intro w52 e53 r54
          have b_w52 := H35.2 10 (x6 * 3) 0 300 rfl
          rw [← e53] at b_w52; clear r54
          refine s_blx (lv' := [(7, vI z42), (0, vR 66), (1, vR 10), (2, vI at_), (3, vI usedBits), (4, vI amount), (5, vI lags), (6, vI x6)]) (st' := [vI (lags + w52), vI z42, vI z50, vI (at_ + 1), vR 10, vR 66]) B11_135_136 rfl ?_
          refine r_vV (c := 66) (args := [vR 10, vI (at_ + 1), vI z50, vI z42, vI (lags + w52)]) (rest := []) (pc' := 139) D11_136 rfl ck_1_virtual_26 TE11 rfl (Nat.le_of_ble_eq_true rfl) ⟨Nat.le_of_ble_eq_true rfl, Nat.le_of_ble_eq_true rfl⟩ sc_66 ⟨rfl, by decide⟩ H35.1 (by omega) (ihr (by omega) H35 (at_ + 1) z50 z42 (lags + w52) (by omega) (by omega) (by omega) (by omega) (by omega)) ?_
          intro M56 q60
          obtain ⟨H57, f58, q59⟩ := q60
          have f61 := f37.tr (f58.up rfl)
          refine s_blx (lv' := [(6, vI (x6 + 1)), (7, vI z42), (0, vR 66), (1, vR 10), (2, vI at_), (3, vI usedBits), (4, vI amount), (5, vI lags)]) (st' := []) B11_139_142 rfl ?_
          refine r_goto (tgt := 44) D11_142 rfl ?_
          refine r_loc (lv' := [(0, vR 66), (1, vR 10), (2, vI at_), (3, vI usedBits), (4, vI amount), (5, vI lags), (6, vI (x6 + 1))]) ⟨rfl, rfl, rfl, rfl, rfl, rfl, rfl, trivial⟩ rfl rfl ?_
          have g62 : gi M56 66 1 = w25 := (f58.g rfl).trans ((u34.gi_ne (by omega) (Or.inl (by decide))).trans (e26.symm))
          exact ih (x6 + 1) M56 H57 f61 (by omega) (by omega) (by omega) (by omega) (by omega) (by omega)
        · refine s_blx (lv' := [(7, vI z42), (0, vR 66), (1, vR 10), (2, vI at_), (3, vI usedBits), (4, vI amount), (5, vI lags), (6, vI x6)]) (st' := [vI 2, vI z42]) B11_103_106 rfl ?_
          refine r_idivX (pc' := 107) D11_106 rfl (by unfold inR; omega) ?_
          intro z63 r64; unfold inR at r64
          refine r_goto (tgt := 112) D11_107 rfl ?_
          refine s_blx (lv' := [(7, vI z63), (0, vR 66), (1, vR 10), (2, vI at_), (3, vI usedBits), (4, vI amount), (5, vI lags), (6, vI x6)]) (st' := [vI x6, vI 1, vI usedBits, vI (at_ + 1), vR 10, vR 66]) B11_112_123 rfl ?_
          refine r_bin (pc' := 124) D11_123 rfl rfl ?_
          intro z65 r66 _; unfold inR at r66
          refine r_bin (pc' := 125) D11_124 rfl rfl ?_
          intro z67 r68 _; unfold inR at r68
          refine s_blx (lv' := [(7, vI z63), (0, vR 66), (1, vR 10), (2, vI at_), (3, vI usedBits), (4, vI amount), (5, vI lags), (6, vI x6)]) (st' := [vI (x6 * 3), vR 10, vI lags, vI z63, vI z67, vI (at_ + 1), vR 10, vR 66]) B11_125_134 rfl ?_
          refine r_iald (pc' := 135) D11_134 rfl sc_10 H35.1 (by omega) ?_
          intro w69 e70 r71
          have b_w69 := H35.2 10 (x6 * 3) 0 300 rfl
          rw [← e70] at b_w69; clear r71
          refine s_blx (lv' := [(7, vI z63), (0, vR 66), (1, vR 10), (2, vI at_), (3, vI usedBits), (4, vI amount), (5, vI lags), (6, vI x6)]) (st' := [vI (lags + w69), vI z63, vI z67, vI (at_ + 1), vR 10, vR 66]) B11_135_136 rfl ?_
          refine r_vV (c := 66) (args := [vR 10, vI (at_ + 1), vI z67, vI z63, vI (lags + w69)]) (rest := []) (pc' := 139) D11_136 rfl ck_1_virtual_26 TE11 rfl (Nat.le_of_ble_eq_true rfl) ⟨Nat.le_of_ble_eq_true rfl, Nat.le_of_ble_eq_true rfl⟩ sc_66 ⟨rfl, by decide⟩ H35.1 (by omega) (ihr (by omega) H35 (at_ + 1) z67 z63 (lags + w69) (by omega) (by omega) (by omega) (by omega) (by omega)) ?_
          intro M73 q77
          obtain ⟨H74, f75, q76⟩ := q77
          have f78 := f37.tr (f75.up rfl)
          refine s_blx (lv' := [(6, vI (x6 + 1)), (7, vI z63), (0, vR 66), (1, vR 10), (2, vI at_), (3, vI usedBits), (4, vI amount), (5, vI lags)]) (st' := []) B11_139_142 rfl ?_
          refine r_goto (tgt := 44) D11_142 rfl ?_
          refine r_loc (lv' := [(0, vR 66), (1, vR 10), (2, vI at_), (3, vI usedBits), (4, vI amount), (5, vI lags), (6, vI (x6 + 1))]) ⟨rfl, rfl, rfl, rfl, rfl, rfl, rfl, trivial⟩ rfl rfl ?_
          have g79 : gi M73 66 1 = w25 := (f75.g rfl).trans ((u34.gi_ne (by omega) (Or.inl (by decide))).trans (e26.symm))
          exact ih (x6 + 1) M73 H74 f78 (by omega) (by omega) (by omega) (by omega) (by omega) (by omega)
set_option maxRecDepth 4000 in
theorem k11_66_10r {base : Nat} {X : Nat → Option mC} {G : Nat → Value} (E : EnvOK base X G) : ∀ rr : Nat, ∀ {d : Nat} (_ : 0 + 1 * rr ≤ d) {M : mH} (_ : HI base M) (at_ : Int) (usedBits : Int) (amount : Int) (lags : Int), (0 ≤ at_ ∧ at_ ≤ 6) → (-2147483648 ≤ usedBits ∧ usedBits ≤ 2147483647) → (-2147483648 ≤ amount ∧ amount ≤ 2147483647) → (0 ≤ lags ∧ lags ≤ 300 * at_) → 6 - at_ < ((rr : Nat) : Int) → sOk base X G d T11 [vR 66, vR 10, vI at_, vI usedBits, vI amount, vI lags] M (pV (fun M' => HI base M' ∧ Fr [(66, 4), (67, 0), (68, 0)] M M' ∧ (gi M' 66 1 = gi M 66 1))) := by
  intro rr
  induction rr with
  | zero => intro d hd M H at_ usedBits amount lags h0 h1 h2 h3 hrr; exfalso; omega
  | succ rr ihr =>
  intro d hd M H at_ usedBits amount lags h0 h1 h2 h3 hrr
  have f0 : Fr [(66, 4), (67, 0), (68, 0)] M M := Fr.rf
  refine sOk.of (show sRn base X G d T11 0 [(0, vR 66), (1, vR 10), (2, vI at_), (3, vI usedBits), (4, vI amount), (5, vI lags)] [] M _ from ?_)
  refine s_blx (lv' := [(0, vR 66), (1, vR 10), (2, vI at_), (3, vI usedBits), (4, vI amount), (5, vI lags)]) (st' := [vR 66, vI at_]) B11_0_2 rfl ?_
  refine r_gint (ki := 1) (pc' := 5) D11_2 rfl gf_1_15_66 rfl H.1 ?_
  intro w1 e2 r3
  have b_w1 := H.2 66 (1) 0 6 rfl
  rw [← e2] at b_w1; clear r3
  refine r_icmp (tgt := 41) (pc' := 8) D11_5 rfl rfl (by unfold inR; omega) (fun (c4 : at_ < w1) => ?_) (fun (c4 : ¬ (at_ < w1)) => ?_)
  · refine s_blx (lv' := [(6, vI 0), (0, vR 66), (1, vR 10), (2, vI at_), (3, vI usedBits), (4, vI amount), (5, vI lags)]) (st' := []) B11_41_44 rfl ?_
    refine r_loc (lv' := [(0, vR 66), (1, vR 10), (2, vI at_), (3, vI usedBits), (4, vI amount), (5, vI lags), (6, vI 0)]) ⟨rfl, rfl, rfl, rfl, rfl, rfl, rfl, trivial⟩ rfl rfl ?_
    have g5 : gi M 66 1 = w1 := e2.symm
    exact (L_k11_66_10 E ihr hd H at_ usedBits amount lags h0 h1 h2 h3 hrr (((6 - 0) * 1 + 0 : Int) + 1).toNat) 0 M H f0 (by omega) (by omega) (by omega) (by omega) (by omega) (by omega)
  · refine s_blx (lv' := [(0, vR 66), (1, vR 10), (2, vI at_), (3, vI usedBits), (4, vI amount), (5, vI lags)]) (st' := [vR 66, vI amount]) B11_8_11 rfl ?_
    refine r_gint (ki := 3) (pc' := 14) D11_11 rfl gf_1_22_66 rfl H.1 ?_
    intro w6 e7 r8
    unfold inR at r8
    refine r_icmp (tgt := 40) (pc' := 17) D11_14 rfl rfl (by unfold inR; omega) (fun (c9 : amount ≤ w6) => ?_) (fun (c9 : ¬ (amount ≤ w6)) => ?_)
    · have g10 : gi M 66 1 = w1 := e2.symm
      exact r_retV D11_40 rfl (⟨H, f0, by omega⟩)
    · refine s_blx (lv' := [(0, vR 66), (1, vR 10), (2, vI at_), (3, vI usedBits), (4, vI amount), (5, vI lags)]) (st' := [vI amount, vR 66]) B11_17_20 rfl ?_
      refine r_pint (ki := 3) (pc' := 23) D11_20 rfl pf_1_22_66 rfl H (by unfold inR; omega) trivial ?_
      intro M11 u12 H13 p14
      have f15 := f0.wr u12 rfl
      refine s_blx (lv' := [(0, vR 66), (1, vR 10), (2, vI at_), (3, vI usedBits), (4, vI amount), (5, vI lags)]) (st' := [vR 66]) B11_23_24 rfl ?_
      refine r_gfix (r := 68) (pc' := 27) D11_24 rfl gf_1_19_66 H13.1 ?_
      refine s_blx (lv' := [(0, vR 66), (1, vR 10), (2, vI at_), (3, vI usedBits), (4, vI amount), (5, vI lags)]) (st' := [vR 66, vI 0, vR 68]) B11_27_29 rfl ?_
      refine r_gfix (r := 67) (pc' := 32) D11_29 rfl gf_1_9_66 H13.1 ?_
      refine s_blx (lv' := [(0, vR 66), (1, vR 10), (2, vI at_), (3, vI usedBits), (4, vI amount), (5, vI lags)]) (st' := [vR 66, vI 0, vR 67, vI 0, vR 68]) B11_32_34 rfl ?_
      refine r_gint (ki := 1) (pc' := 37) D11_34 rfl gf_1_15_66 rfl H13.1 ?_
      intro w16 e17 r18
      have e19 : w1 = w16 := (e17.trans ((u12.gi_ne (by decide) (Or.inr (by decide))).trans (e2.symm))).symm
      subst e19
      refine r_acpy (pc' := 40) D11_37 rfl mc_1_static_30 sp_1_30 (Nat.le_of_ble_eq_true rfl) sc_68 sc_67 H13 (by omega) (fun _ _ _ => trivial) ?_
      intro M20 u21 H22
      have f23 := f15.cp u21 (fun _ => rfl)
      have g24 : gi M20 66 1 = w1 := (u21.gi_ne (by decide) _).trans ((u12.gi_ne (by decide) (Or.inr (by decide))).trans (e2.symm))
      exact r_retV D11_40 rfl (⟨H22, f23, by omega⟩)
theorem k11_66_10 {base : Nat} {X : Nat → Option mC} {G : Nat → Value} (E : EnvOK base X G) {d : Nat} (hd : 7 ≤ d) {M : mH} (H : HI base M) (at_ : Int) (usedBits : Int) (amount : Int) (lags : Int) (h0 : 0 ≤ at_ ∧ at_ ≤ 6) (h1 : -2147483648 ≤ usedBits ∧ usedBits ≤ 2147483647) (h2 : -2147483648 ≤ amount ∧ amount ≤ 2147483647) (h3 : 0 ≤ lags ∧ lags ≤ 300 * at_) : sOk base X G d T11 [vR 66, vR 10, vI at_, vI usedBits, vI amount, vI lags] M (pV (fun M' => HI base M' ∧ Fr [(66, 4), (67, 0), (68, 0)] M M' ∧ (gi M' 66 1 = gi M 66 1))) := k11_66_10r E 7 (by omega) H at_ usedBits amount lags h0 h1 h2 h3 (by omega)
set_option maxRecDepth 4000 in
theorem k10_66_10 {base : Nat} {X : Nat → Option mC} {G : Nat → Value} (E : EnvOK base X G) {d : Nat} (hd : 8 ≤ d) {M : mH} (H : HI base M) (boxCount : Int) (h0 : 0 ≤ boxCount ∧ boxCount ≤ 6) : sOk base X G d T10 [vR 66, vR 10, vI boxCount] M (pI (fun v M' => HI base M' ∧ Fr [(66, 2), (66, 4), (67, 0), (68, 0)] M M' ∧ (-2147483648 ≤ v ∧ v ≤ 2147483647))) := by
  have f0 : Fr [(66, 2), (66, 4), (67, 0), (68, 0)] M M := Fr.rf
  refine sOk.of (show sRn base X G d T10 0 [(0, vR 66), (1, vR 10), (2, vI boxCount)] [] M _ from ?_)
  refine s_blx (lv' := [(0, vR 66), (1, vR 10), (2, vI boxCount)]) (st' := [vI boxCount, vR 66]) B10_0_2 rfl ?_
  refine r_pint (ki := 1) (pc' := 5) D10_2 rfl pf_1_15_66 rfl H (by unfold inR; omega) (show 0 ≤ boxCount ∧ boxCount ≤ 6 by omega) ?_
  intro M1 u2 H3 p4
  have f5 := f0.wr u2 rfl
  refine s_blx (lv' := [(0, vR 66), (1, vR 10), (2, vI boxCount)]) (st' := [vI (-1), vR 66]) B10_5_7 rfl ?_
  refine r_pint (ki := 3) (pc' := 10) D10_7 rfl pf_1_22_66 rfl H3 (by unfold inR; omega) trivial ?_
  intro M6 u7 H8 p9
  have f10 := f5.wr u7 rfl
  refine s_blx (lv' := [(0, vR 66), (1, vR 10), (2, vI boxCount)]) (st' := [vI 0, vI 0, vR 10, vR 66]) B10_10_14 rfl ?_
  refine r_ldc (e := 1000000) (pc' := 16) D10_14 rfl ci_1_25 (by decide) ?_
  refine s_blx (lv' := [(0, vR 66), (1, vR 10), (2, vI boxCount)]) (st' := [vI 0, vI 1000000, vI 0, vI 0, vR 10, vR 66]) B10_16_17 rfl ?_
  refine r_vV (c := 66) (args := [vR 10, vI 0, vI 0, vI 1000000, vI 0]) (rest := []) (pc' := 20) D10_17 rfl ck_1_virtual_26 TE11 rfl (Nat.le_of_ble_eq_true rfl) ⟨Nat.le_of_ble_eq_true rfl, Nat.le_of_ble_eq_true rfl⟩ sc_66 ⟨rfl, by decide⟩ H8.1 (dp_0 hd rfl) (k11_66_10 E (dp_n hd rfl) H8 0 0 1000000 0 (by omega) (by omega) (by omega) (by omega)) ?_
  intro M12 q16
  obtain ⟨H13, f14, q15⟩ := q16
  have f17 := f10.tr (f14.up rfl)
  refine s_blx (lv' := [(0, vR 66), (1, vR 10), (2, vI boxCount)]) (st' := [vR 66]) B10_20_21 rfl ?_
  refine r_gint (ki := 3) (pc' := 24) D10_21 rfl gf_1_22_66 rfl H13.1 ?_
  intro w18 e19 r20
  unfold inR at r20
  exact r_iretI D10_24 rfl (⟨H13, f17, by omega⟩)
set_option maxRecDepth 4000 in
theorem L_k82_20 {base : Nat} {X : Nat → Option mC} {G : Nat → Value} (E : EnvOK base X G) {d : Nat} (hd : 2 ≤ d) {M : mH} (H : HI base M) (place : Int) (comes : Int) (h0 : 0 ≤ place ∧ place ≤ 144) (h1 : -2147483648 ≤ comes ∧ comes ≤ 2147483647) : ∀ mz : Nat, (∀ (x4 : Int) (N : mH), HI base N → Fr [(23, 0), (27, 0), (28, 0), (29, 0), (30, 0), (31, 0), (35, 0)] M N → (0 ≤ x4) → (x4 ≤ 3) → (3 - x4) * 10 + 9 < (mz : Int) → sRn base X G d T82 14 [(0, vR 20), (1, vR 1), (2, vI place), (3, vI comes), (4, vI x4)] [] N (s_Q base (pV (fun M' => HI base M' ∧ Fr [(23, 0), (27, 0), (28, 0), (29, 0), (30, 0), (31, 0), (35, 0)] M M')))) ∧ (∀ (x4 x5 x6 x7 x8 : Int) (N : mH), HI base N → Fr [(23, 0), (27, 0), (28, 0), (29, 0), (30, 0), (31, 0), (35, 0)] M N → (0 ≤ x4) → (x4 ≤ 2) → (0 ≤ x5) → (x5 ≤ 434) → ((-2147483648) ≤ x6) → (x6 ≤ 2147483647) → (0 ≤ x7) → (x7 ≤ 7) → (0 ≤ x8) → (x8 ≤ 8) → (3 - x4) * 10 + 0 + (8 - x8) * 1 + 0 < (mz : Int) → sRn base X G d T82 48 [(0, vR 20), (1, vR 1), (2, vI place), (3, vI comes), (4, vI x4), (5, vI x5), (6, vI x6), (7, vI x7), (8, vI x8)] [] N (s_Q base (pV (fun M' => HI base M' ∧ Fr [(23, 0), (27, 0), (28, 0), (29, 0), (30, 0), (31, 0), (35, 0)] M M')))) := by
  have f0 : Fr [(23, 0), (27, 0), (28, 0), (29, 0), (30, 0), (31, 0), (35, 0)] M M := Fr.rf
  intro mz
  induction mz with
  | zero => exact ⟨fun x4 N _ _ z0 z1 z2 => by omega, fun x4 x5 x6 x7 x8 N _ _ z0 z1 z2 z3 z4 z5 z6 z7 z8 z9 z10 => by omega⟩
  | succ mz ih =>
    refine ⟨?_, ?_⟩
    · intro x4 N HN fN i0 i1 hmu
      refine s_blx (lv' := [(0, vR 20), (1, vR 1), (2, vI place), (3, vI comes), (4, vI x4)]) (st' := [vI 3, vI x4]) B82_14_17 rfl ?_
      refine r_icmp (tgt := 208) (pc' := 20) D82_17 rfl rfl (by unfold inR; omega) (fun (c10 : 3 ≤ x4) => ?_) (fun (c10 : ¬ (3 ≤ x4)) => ?_)
      · exact r_retV D82_208 rfl (⟨HN, fN⟩)
      · refine s_blx (lv' := [(5, vI ((place * 3) + x4)), (0, vR 20), (1, vR 1), (2, vI place), (3, vI comes), (4, vI x4)]) (st' := [vR 20, vI x4, vI comes, vR 1]) B82_20_33 rfl ?_
        refine r_gfix (r := 35) (pc' := 36) D82_33 rfl gf_9_55_20 HN.1 ?_
        refine r_vV (c := 1) (args := [vI comes, vI x4, vR 35]) (rest := []) (pc' := 39) D82_36 rfl ck_9_virtual_126 TE75 rfl (Nat.le_of_ble_eq_true rfl) ⟨Nat.le_of_ble_eq_true rfl, Nat.le_of_ble_eq_true rfl⟩ sc_1 ⟨rfl, by decide⟩ HN.1 (dp_0 hd rfl) (k75_1_35 E (dp_n hd rfl) HN comes x4 (by omega) (by omega)) ?_
        intro M12 q15
        obtain ⟨H13, f14⟩ := q15
        have f16 := fN.tr (f14.up rfl)
        refine s_blx (lv' := [(8, vI 0), (7, vI 0), (6, vI 0), (5, vI ((place * 3) + x4)), (0, vR 20), (1, vR 1), (2, vI place), (3, vI comes), (4, vI x4)]) (st' := []) B82_39_48 rfl ?_
        refine r_loc (lv' := [(0, vR 20), (1, vR 1), (2, vI place), (3, vI comes), (4, vI x4), (5, vI ((place * 3) + x4)), (6, vI 0), (7, vI 0), (8, vI 0)]) ⟨rfl, rfl, rfl, rfl, rfl, rfl, rfl, rfl, rfl, trivial⟩ rfl rfl ?_
        exact ih.2 x4 ((place * 3) + x4) 0 0 0 M12 H13 f16 (by omega) (by omega) (by omega) (by omega) (by omega) (by omega) (by omega) (by omega) (by omega) (by omega) (by omega)
    · intro x4 x5 x6 x7 x8 N HN fN i0 i1 i2 i3 i4 i5 i6 i7 i8 i9 hmu
      refine s_blx (lv' := [(0, vR 20), (1, vR 1), (2, vI place), (3, vI comes), (4, vI x4), (5, vI x5), (6, vI x6), (7, vI x7), (8, vI x8)]) (st' := [vI 8, vI x8]) B82_48_52 rfl ?_
      refine r_icmp (tgt := 110) (pc' := 55) D82_52 rfl rfl (by unfold inR; omega) (fun (c17 : 8 ≤ x8) => ?_) (fun (c17 : ¬ (8 ≤ x8)) => ?_)
      · refine s_blx (lv' := [(0, vR 20), (1, vR 1), (2, vI place), (3, vI comes), (4, vI x4), (5, vI x5), (6, vI x6), (7, vI x7), (8, vI x8)]) (st' := [vR 20]) B82_110_111 rfl ?_
        refine r_gfix (r := 27) (pc' := 114) D82_111 rfl gf_9_31_20 HN.1 ?_
        refine s_blx (lv' := [(0, vR 20), (1, vR 1), (2, vI place), (3, vI comes), (4, vI x4), (5, vI x5), (6, vI x6), (7, vI x7), (8, vI x8)]) (st' := [vI x6, vI x5, vR 27]) B82_114_118 rfl ?_
        refine r_iast (pc' := 119) D82_118 rfl sc_27 HN (by omega) (by unfold inR; omega) trivial ?_
        intro M18 u19 H20 p21
        have f22 := fN.wr u19 rfl
        refine s_blx (lv' := [(0, vR 20), (1, vR 1), (2, vI place), (3, vI comes), (4, vI x4), (5, vI x5), (6, vI x6), (7, vI x7), (8, vI x8)]) (st' := [vR 20]) B82_119_120 rfl ?_
        refine r_gfix (r := 29) (pc' := 123) D82_120 rfl gf_9_37_20 H20.1 ?_
        refine s_blx (lv' := [(0, vR 20), (1, vR 1), (2, vI place), (3, vI comes), (4, vI x4), (5, vI x5), (6, vI x6), (7, vI x7), (8, vI x8)]) (st' := [vI x7, vI x5, vR 29]) B82_123_127 rfl ?_
        refine r_iast (pc' := 128) D82_127 rfl sc_29 H20 (by omega) (by unfold inR; omega) (show 0 ≤ x7 ∧ x7 ≤ 7 by omega) ?_
        intro M23 u24 H25 p26
        have f27 := f22.wr u24 rfl
        refine s_blx (lv' := [(0, vR 20), (1, vR 1), (2, vI place), (3, vI comes), (4, vI x4), (5, vI x5), (6, vI x6), (7, vI x7), (8, vI x8)]) (st' := [vR 20]) B82_128_129 rfl ?_
        refine r_gfix (r := 30) (pc' := 132) D82_129 rfl gf_9_40_20 H25.1 ?_
        refine s_blx (lv' := [(0, vR 20), (1, vR 1), (2, vI place), (3, vI comes), (4, vI x4), (5, vI x5), (6, vI x6), (7, vI x7), (8, vI x8)]) (st' := [vR 20, vI x5, vR 30]) B82_132_135 rfl ?_
        refine r_gfix (r := 35) (pc' := 138) D82_135 rfl gf_9_55_20 H25.1 ?_
        refine s_blx (lv' := [(0, vR 20), (1, vR 1), (2, vI place), (3, vI comes), (4, vI x4), (5, vI x5), (6, vI x6), (7, vI x7), (8, vI x8)]) (st' := [vI x7, vR 35, vI x5, vR 30]) B82_138_140 rfl ?_
        refine r_iald (pc' := 141) D82_140 rfl sc_35 H25.1 (by omega) ?_
        intro w28 e29 r30
        unfold inR at r30
        refine r_iast (pc' := 142) D82_141 rfl sc_30 H25 (by omega) (by unfold inR; omega) trivial ?_
        intro M31 u32 H33 p34
        have f35 := f27.wr u32 rfl
        refine s_blx (lv' := [(0, vR 20), (1, vR 1), (2, vI place), (3, vI comes), (4, vI x4), (5, vI x5), (6, vI x6), (7, vI x7), (8, vI x8)]) (st' := [vR 20]) B82_142_143 rfl ?_
        refine r_gfix (r := 28) (pc' := 146) D82_143 rfl gf_9_34_20 H33.1 ?_
        refine s_blx (lv' := [(0, vR 20), (1, vR 1), (2, vI place), (3, vI comes), (4, vI x4), (5, vI x5), (6, vI x6), (7, vI x7), (8, vI x8)]) (st' := [vI x7, vI 1, vI x6, vI x5, vR 28]) B82_146_153 rfl ?_
        refine r_bin (pc' := 154) D82_153 rfl rfl ?_
        intro z36 r37 _; unfold inR at r37
        refine r_icmp (tgt := 162) (pc' := 157) D82_154 rfl rfl (by unfold inR; omega) (fun (c38 : x6 ≠ z36) => ?_) (fun (c38 : ¬ (x6 ≠ z36)) => ?_)
        · refine s_blx (lv' := [(0, vR 20), (1, vR 1), (2, vI place), (3, vI comes), (4, vI x4), (5, vI x5), (6, vI x6), (7, vI x7), (8, vI x8)]) (st' := [vI (-1), vI x5, vR 28]) B82_162_163 rfl ?_
          refine r_iast (pc' := 164) D82_163 rfl sc_28 H33 (by omega) (by unfold inR; omega) (show (-1) ≤ (-1) ∧ (-1) ≤ 7 by omega) ?_
          intro M39 u40 H41 p42
          have f43 := f35.wr u40 rfl
          refine s_blx (lv' := [(0, vR 20), (1, vR 1), (2, vI place), (3, vI comes), (4, vI x4), (5, vI x5), (6, vI x6), (7, vI x7), (8, vI x8)]) (st' := [vI x6, vI x4, vR 1]) B82_164_169 rfl ?_
          refine r_vIp (c := 1) (args := [vI x4, vI x6]) (rest := []) (pc' := 172) D82_169 rfl ck_9_virtual_130 TE77 rfl (Nat.le_of_ble_eq_true rfl) ⟨Nat.le_of_ble_eq_true rfl, Nat.le_of_ble_eq_true rfl⟩ sc_1 ⟨rfl, by decide⟩ H41.1 (dp_0 hd rfl) (k77_1 E (dp_n hd rfl) H41 x4 x6 (by omega) (by omega)) ?_
          intro v44 q47
          have q46 := q47; clear q47
          refine s_blx (lv' := [(8, vI v44), (0, vR 20), (1, vR 1), (2, vI place), (3, vI comes), (4, vI x4), (5, vI x5), (6, vI x6), (7, vI x7)]) (st' := [vR 20]) B82_172_175 rfl ?_
          refine r_gfix (r := 31) (pc' := 178) D82_175 rfl gf_9_43_20 H41.1 ?_
          refine s_blx (lv' := [(8, vI v44), (0, vR 20), (1, vR 1), (2, vI place), (3, vI comes), (4, vI x4), (5, vI x5), (6, vI x6), (7, vI x7)]) (st' := [vI (-1), vI v44, vI x5, vR 31]) B82_178_183 rfl ?_
          refine r_icmp (tgt := 190) (pc' := 186) D82_183 rfl rfl (by unfold inR; omega) (fun (c48 : v44 ≠ (-1)) => ?_) (fun (c48 : ¬ (v44 ≠ (-1))) => ?_)
          · refine s_blx (lv' := [(8, vI v44), (0, vR 20), (1, vR 1), (2, vI place), (3, vI comes), (4, vI x4), (5, vI x5), (6, vI x6), (7, vI x7)]) (st' := [vR 1, vI x5, vR 31]) B82_190_191 rfl ?_
            refine r_gfix (r := 4) (pc' := 194) D82_191 rfl gf_9_133_1 H41.1 ?_
            refine s_blx (lv' := [(8, vI v44), (0, vR 20), (1, vR 1), (2, vI place), (3, vI comes), (4, vI x4), (5, vI x5), (6, vI x6), (7, vI x7)]) (st' := [vI ((v44 * 3) + 2), vR 4, vI x5, vR 31]) B82_194_200 rfl ?_
            refine r_iald (pc' := 201) D82_200 rfl sc_4 H41.1 (by omega) ?_
            intro w49 e50 r51
            have b_w49 := H41.2 4 ((v44 * 3) + 2) 0 255 rfl
            rw [← e50] at b_w49; clear r51
            refine r_iast (pc' := 202) D82_201 rfl sc_31 H41 (by omega) (by unfold inR; omega) trivial ?_
            intro M52 u53 H54 p55
            have f56 := f43.wr u53 rfl
            refine s_blx (lv' := [(4, vI (x4 + 1)), (8, vI v44), (0, vR 20), (1, vR 1), (2, vI place), (3, vI comes), (5, vI x5), (6, vI x6), (7, vI x7)]) (st' := []) B82_202_205 rfl ?_
            refine r_goto (tgt := 14) D82_205 rfl ?_
            refine r_loc (lv' := [(0, vR 20), (1, vR 1), (2, vI place), (3, vI comes), (4, vI (x4 + 1))]) ⟨rfl, rfl, rfl, rfl, rfl, trivial⟩ rfl rfl ?_
            exact ih.1 (x4 + 1) M52 H54 f56 (by omega) (by omega) (by omega)
          · refine s_blx (lv' := [(8, vI v44), (0, vR 20), (1, vR 1), (2, vI place), (3, vI comes), (4, vI x4), (5, vI x5), (6, vI x6), (7, vI x7)]) (st' := [vI 0, vI x5, vR 31]) B82_186_187 rfl ?_
            refine r_goto (tgt := 201) D82_187 rfl ?_
            refine r_iast (pc' := 202) D82_201 rfl sc_31 H41 (by omega) (by unfold inR; omega) trivial ?_
            intro M57 u58 H59 p60
            have f61 := f43.wr u58 rfl
            refine s_blx (lv' := [(4, vI (x4 + 1)), (8, vI v44), (0, vR 20), (1, vR 1), (2, vI place), (3, vI comes), (5, vI x5), (6, vI x6), (7, vI x7)]) (st' := []) B82_202_205 rfl ?_
            refine r_goto (tgt := 14) D82_205 rfl ?_
            refine r_loc (lv' := [(0, vR 20), (1, vR 1), (2, vI place), (3, vI comes), (4, vI (x4 + 1))]) ⟨rfl, rfl, rfl, rfl, rfl, trivial⟩ rfl rfl ?_
            exact ih.1 (x4 + 1) M57 H59 f61 (by omega) (by omega) (by omega)
        · refine s_blx (lv' := [(0, vR 20), (1, vR 1), (2, vI place), (3, vI comes), (4, vI x4), (5, vI x5), (6, vI x6), (7, vI x7), (8, vI x8)]) (st' := [vI x7, vI x5, vR 28]) B82_157_159 rfl ?_
          refine r_goto (tgt := 163) D82_159 rfl ?_
          refine r_iast (pc' := 164) D82_163 rfl sc_28 H33 (by omega) (by unfold inR; omega) (show (-1) ≤ x7 ∧ x7 ≤ 7 by omega) ?_
          intro M62 u63 H64 p65
          have f66 := f35.wr u63 rfl
          refine s_blx (lv' := [(0, vR 20), (1, vR 1), (2, vI place), (3, vI comes), (4, vI x4), (5, vI x5), (6, vI x6), (7, vI x7), (8, vI x8)]) (st' := [vI x6, vI x4, vR 1]) B82_164_169 rfl ?_
          refine r_vIp (c := 1) (args := [vI x4, vI x6]) (rest := []) (pc' := 172) D82_169 rfl ck_9_virtual_130 TE77 rfl (Nat.le_of_ble_eq_true rfl) ⟨Nat.le_of_ble_eq_true rfl, Nat.le_of_ble_eq_true rfl⟩ sc_1 ⟨rfl, by decide⟩ H64.1 (dp_0 hd rfl) (k77_1 E (dp_n hd rfl) H64 x4 x6 (by omega) (by omega)) ?_
          intro v67 q70
          have q69 := q70; clear q70
          refine s_blx (lv' := [(8, vI v67), (0, vR 20), (1, vR 1), (2, vI place), (3, vI comes), (4, vI x4), (5, vI x5), (6, vI x6), (7, vI x7)]) (st' := [vR 20]) B82_172_175 rfl ?_
          refine r_gfix (r := 31) (pc' := 178) D82_175 rfl gf_9_43_20 H64.1 ?_
          refine s_blx (lv' := [(8, vI v67), (0, vR 20), (1, vR 1), (2, vI place), (3, vI comes), (4, vI x4), (5, vI x5), (6, vI x6), (7, vI x7)]) (st' := [vI (-1), vI v67, vI x5, vR 31]) B82_178_183 rfl ?_
          refine r_icmp (tgt := 190) (pc' := 186) D82_183 rfl rfl (by unfold inR; omega) (fun (c71 : v67 ≠ (-1)) => ?_) (fun (c71 : ¬ (v67 ≠ (-1))) => ?_)
          · refine s_blx (lv' := [(8, vI v67), (0, vR 20), (1, vR 1), (2, vI place), (3, vI comes), (4, vI x4), (5, vI x5), (6, vI x6), (7, vI x7)]) (st' := [vR 1, vI x5, vR 31]) B82_190_191 rfl ?_
            refine r_gfix (r := 4) (pc' := 194) D82_191 rfl gf_9_133_1 H64.1 ?_
            refine s_blx (lv' := [(8, vI v67), (0, vR 20), (1, vR 1), (2, vI place), (3, vI comes), (4, vI x4), (5, vI x5), (6, vI x6), (7, vI x7)]) (st' := [vI ((v67 * 3) + 2), vR 4, vI x5, vR 31]) B82_194_200 rfl ?_
            refine r_iald (pc' := 201) D82_200 rfl sc_4 H64.1 (by omega) ?_
            intro w72 e73 r74
            have b_w72 := H64.2 4 ((v67 * 3) + 2) 0 255 rfl
            rw [← e73] at b_w72; clear r74
            refine r_iast (pc' := 202) D82_201 rfl sc_31 H64 (by omega) (by unfold inR; omega) trivial ?_
            intro M75 u76 H77 p78
            have f79 := f66.wr u76 rfl
            refine s_blx (lv' := [(4, vI (x4 + 1)), (8, vI v67), (0, vR 20), (1, vR 1), (2, vI place), (3, vI comes), (5, vI x5), (6, vI x6), (7, vI x7)]) (st' := []) B82_202_205 rfl ?_
            refine r_goto (tgt := 14) D82_205 rfl ?_
            refine r_loc (lv' := [(0, vR 20), (1, vR 1), (2, vI place), (3, vI comes), (4, vI (x4 + 1))]) ⟨rfl, rfl, rfl, rfl, rfl, trivial⟩ rfl rfl ?_
            exact ih.1 (x4 + 1) M75 H77 f79 (by omega) (by omega) (by omega)
          · refine s_blx (lv' := [(8, vI v67), (0, vR 20), (1, vR 1), (2, vI place), (3, vI comes), (4, vI x4), (5, vI x5), (6, vI x6), (7, vI x7)]) (st' := [vI 0, vI x5, vR 31]) B82_186_187 rfl ?_
            refine r_goto (tgt := 201) D82_187 rfl ?_
            refine r_iast (pc' := 202) D82_201 rfl sc_31 H64 (by omega) (by unfold inR; omega) trivial ?_
            intro M80 u81 H82 p83
            have f84 := f66.wr u81 rfl
            refine s_blx (lv' := [(4, vI (x4 + 1)), (8, vI v67), (0, vR 20), (1, vR 1), (2, vI place), (3, vI comes), (5, vI x5), (6, vI x6), (7, vI x7)]) (st' := []) B82_202_205 rfl ?_
            refine r_goto (tgt := 14) D82_205 rfl ?_
            refine r_loc (lv' := [(0, vR 20), (1, vR 1), (2, vI place), (3, vI comes), (4, vI (x4 + 1))]) ⟨rfl, rfl, rfl, rfl, rfl, trivial⟩ rfl rfl ?_
            exact ih.1 (x4 + 1) M80 H82 f84 (by omega) (by omega) (by omega)
      · refine s_blx (lv' := [(0, vR 20), (1, vR 1), (2, vI place), (3, vI comes), (4, vI x4), (5, vI x5), (6, vI x6), (7, vI x7), (8, vI x8)]) (st' := [vR 20, vI x6]) B82_55_58 rfl ?_
        refine r_gfix (r := 35) (pc' := 61) D82_58 rfl gf_9_55_20 HN.1 ?_
        refine s_blx (lv' := [(0, vR 20), (1, vR 1), (2, vI place), (3, vI comes), (4, vI x4), (5, vI x5), (6, vI x6), (7, vI x7), (8, vI x8)]) (st' := [vI x8, vR 35, vI x6]) B82_61_63 rfl ?_
        refine r_iald (pc' := 64) D82_63 rfl sc_35 HN.1 (by omega) ?_
        intro w85 e86 r87
        unfold inR at r87
        refine r_ifc (tgt := 74) (pc' := 67) D82_64 rfl rfl (by unfold inR; omega) (fun (c88 : w85 ≤ 0) => ?_) (fun (c88 : ¬ (w85 ≤ 0)) => ?_)
        · refine s_blx (lv' := [(0, vR 20), (1, vR 1), (2, vI place), (3, vI comes), (4, vI x4), (5, vI x5), (6, vI x6), (7, vI x7), (8, vI x8)]) (st' := [vI 0, vI x6]) B82_74_75 rfl ?_
          refine r_bin (pc' := 76) D82_75 rfl rfl ?_
          intro z89 r90 _; unfold inR at r90
          refine s_blx (lv' := [(6, vI z89), (0, vR 20), (1, vR 1), (2, vI place), (3, vI comes), (4, vI x4), (5, vI x5), (7, vI x7), (8, vI x8)]) (st' := [vR 20]) B82_76_79 rfl ?_
          refine r_gfix (r := 35) (pc' := 82) D82_79 rfl gf_9_55_20 HN.1 ?_
          refine s_blx (lv' := [(6, vI z89), (0, vR 20), (1, vR 1), (2, vI place), (3, vI comes), (4, vI x4), (5, vI x5), (7, vI x7), (8, vI x8)]) (st' := [vI x8, vR 35]) B82_82_84 rfl ?_
          refine r_iald (pc' := 85) D82_84 rfl sc_35 HN.1 (by omega) ?_
          intro w91 e92 r93
          have e94 : w85 = w91 := (e92.trans (e86.symm)).symm
          subst e94
          refine s_blx (lv' := [(6, vI z89), (0, vR 20), (1, vR 1), (2, vI place), (3, vI comes), (4, vI x4), (5, vI x5), (7, vI x7), (8, vI x8)]) (st' := [vR 20, vI w85]) B82_85_86 rfl ?_
          refine r_gfix (r := 35) (pc' := 89) D82_86 rfl gf_9_55_20 HN.1 ?_
          refine s_blx (lv' := [(6, vI z89), (0, vR 20), (1, vR 1), (2, vI place), (3, vI comes), (4, vI x4), (5, vI x5), (7, vI x7), (8, vI x8)]) (st' := [vI x7, vR 35, vI w85]) B82_89_91 rfl ?_
          refine r_iald (pc' := 92) D82_91 rfl sc_35 HN.1 (by omega) ?_
          intro w95 e96 r97
          unfold inR at r97
          refine r_icmp (tgt := 100) (pc' := 95) D82_92 rfl rfl (by unfold inR; omega) (fun (c98 : w85 ≤ w95) => ?_) (fun (c98 : ¬ (w85 ≤ w95)) => ?_)
          · refine s_blx (lv' := [(8, vI (x8 + 1)), (7, vI x7), (6, vI z89), (0, vR 20), (1, vR 1), (2, vI place), (3, vI comes), (4, vI x4), (5, vI x5)]) (st' := []) B82_100_107 rfl ?_
            refine r_goto (tgt := 48) D82_107 rfl ?_
            refine r_loc (lv' := [(0, vR 20), (1, vR 1), (2, vI place), (3, vI comes), (4, vI x4), (5, vI x5), (6, vI z89), (7, vI x7), (8, vI (x8 + 1))]) ⟨rfl, rfl, rfl, rfl, rfl, rfl, rfl, rfl, rfl, trivial⟩ rfl rfl ?_
            exact ih.2 x4 x5 z89 x7 (x8 + 1) N HN fN (by omega) (by omega) (by omega) (by omega) (by omega) (by omega) (by omega) (by omega) (by omega) (by omega) (by omega)
          · refine s_blx (lv' := [(6, vI z89), (0, vR 20), (1, vR 1), (2, vI place), (3, vI comes), (4, vI x4), (5, vI x5), (7, vI x7), (8, vI x8)]) (st' := [vI x8]) B82_95_97 rfl ?_
            refine r_goto (tgt := 102) D82_97 rfl ?_
            refine s_blx (lv' := [(8, vI (x8 + 1)), (7, vI x8), (6, vI z89), (0, vR 20), (1, vR 1), (2, vI place), (3, vI comes), (4, vI x4), (5, vI x5)]) (st' := []) B82_102_107 rfl ?_
            refine r_goto (tgt := 48) D82_107 rfl ?_
            refine r_loc (lv' := [(0, vR 20), (1, vR 1), (2, vI place), (3, vI comes), (4, vI x4), (5, vI x5), (6, vI z89), (7, vI x8), (8, vI (x8 + 1))]) ⟨rfl, rfl, rfl, rfl, rfl, rfl, rfl, rfl, rfl, trivial⟩ rfl rfl ?_
            exact ih.2 x4 x5 z89 x8 (x8 + 1) N HN fN (by omega) (by omega) (by omega) (by omega) (by omega) (by omega) (by omega) (by omega) (by omega) (by omega) (by omega)
        · refine s_blx (lv' := [(0, vR 20), (1, vR 1), (2, vI place), (3, vI comes), (4, vI x4), (5, vI x5), (6, vI x6), (7, vI x7), (8, vI x8)]) (st' := [vI x8, vI 1, vI x6]) B82_67_70 rfl ?_
          refine r_bin (pc' := 71) D82_70 rfl rfl ?_
          intro z99 r100 _; unfold inR at r100
          refine r_goto (tgt := 75) D82_71 rfl ?_
          refine r_bin (pc' := 76) D82_75 rfl rfl ?_
          intro z101 r102 _; unfold inR at r102
          refine s_blx (lv' := [(6, vI z101), (0, vR 20), (1, vR 1), (2, vI place), (3, vI comes), (4, vI x4), (5, vI x5), (7, vI x7), (8, vI x8)]) (st' := [vR 20]) B82_76_79 rfl ?_
          refine r_gfix (r := 35) (pc' := 82) D82_79 rfl gf_9_55_20 HN.1 ?_
          refine s_blx (lv' := [(6, vI z101), (0, vR 20), (1, vR 1), (2, vI place), (3, vI comes), (4, vI x4), (5, vI x5), (7, vI x7), (8, vI x8)]) (st' := [vI x8, vR 35]) B82_82_84 rfl ?_
          refine r_iald (pc' := 85) D82_84 rfl sc_35 HN.1 (by omega) ?_
          intro w103 e104 r105
          have e106 : w85 = w103 := (e104.trans (e86.symm)).symm
          subst e106
          refine s_blx (lv' := [(6, vI z101), (0, vR 20), (1, vR 1), (2, vI place), (3, vI comes), (4, vI x4), (5, vI x5), (7, vI x7), (8, vI x8)]) (st' := [vR 20, vI w85]) B82_85_86 rfl ?_
          refine r_gfix (r := 35) (pc' := 89) D82_86 rfl gf_9_55_20 HN.1 ?_
          refine s_blx (lv' := [(6, vI z101), (0, vR 20), (1, vR 1), (2, vI place), (3, vI comes), (4, vI x4), (5, vI x5), (7, vI x7), (8, vI x8)]) (st' := [vI x7, vR 35, vI w85]) B82_89_91 rfl ?_
          refine r_iald (pc' := 92) D82_91 rfl sc_35 HN.1 (by omega) ?_
          intro w107 e108 r109
          unfold inR at r109
          refine r_icmp (tgt := 100) (pc' := 95) D82_92 rfl rfl (by unfold inR; omega) (fun (c110 : w85 ≤ w107) => ?_) (fun (c110 : ¬ (w85 ≤ w107)) => ?_)
          · refine s_blx (lv' := [(8, vI (x8 + 1)), (7, vI x7), (6, vI z101), (0, vR 20), (1, vR 1), (2, vI place), (3, vI comes), (4, vI x4), (5, vI x5)]) (st' := []) B82_100_107 rfl ?_
            refine r_goto (tgt := 48) D82_107 rfl ?_
            refine r_loc (lv' := [(0, vR 20), (1, vR 1), (2, vI place), (3, vI comes), (4, vI x4), (5, vI x5), (6, vI z101), (7, vI x7), (8, vI (x8 + 1))]) ⟨rfl, rfl, rfl, rfl, rfl, rfl, rfl, rfl, rfl, trivial⟩ rfl rfl ?_
            exact ih.2 x4 x5 z101 x7 (x8 + 1) N HN fN (by omega) (by omega) (by omega) (by omega) (by omega) (by omega) (by omega) (by omega) (by omega) (by omega) (by omega)
          · refine s_blx (lv' := [(6, vI z101), (0, vR 20), (1, vR 1), (2, vI place), (3, vI comes), (4, vI x4), (5, vI x5), (7, vI x7), (8, vI x8)]) (st' := [vI x8]) B82_95_97 rfl ?_
            refine r_goto (tgt := 102) D82_97 rfl ?_
            refine s_blx (lv' := [(8, vI (x8 + 1)), (7, vI x8), (6, vI z101), (0, vR 20), (1, vR 1), (2, vI place), (3, vI comes), (4, vI x4), (5, vI x5)]) (st' := []) B82_102_107 rfl ?_
            refine r_goto (tgt := 48) D82_107 rfl ?_
            refine r_loc (lv' := [(0, vR 20), (1, vR 1), (2, vI place), (3, vI comes), (4, vI x4), (5, vI x5), (6, vI z101), (7, vI x8), (8, vI (x8 + 1))]) ⟨rfl, rfl, rfl, rfl, rfl, rfl, rfl, rfl, rfl, trivial⟩ rfl rfl ?_
            exact ih.2 x4 x5 z101 x8 (x8 + 1) N HN fN (by omega) (by omega) (by omega) (by omega) (by omega) (by omega) (by omega) (by omega) (by omega) (by omega) (by omega)
set_option maxRecDepth 4000 in
theorem k82_20 {base : Nat} {X : Nat → Option mC} {G : Nat → Value} (E : EnvOK base X G) {d : Nat} (hd : 2 ≤ d) {M : mH} (H : HI base M) (place : Int) (comes : Int) (h0 : 0 ≤ place ∧ place ≤ 144) (h1 : -2147483648 ≤ comes ∧ comes ≤ 2147483647) : sOk base X G d T82 [vR 20, vR 1, vI place, vI comes] M (pV (fun M' => HI base M' ∧ Fr [(23, 0), (27, 0), (28, 0), (29, 0), (30, 0), (31, 0), (35, 0)] M M')) := by
  have f0 : Fr [(23, 0), (27, 0), (28, 0), (29, 0), (30, 0), (31, 0), (35, 0)] M M := Fr.rf
  refine sOk.of (show sRn base X G d T82 0 [(0, vR 20), (1, vR 1), (2, vI place), (3, vI comes)] [] M _ from ?_)
  refine s_blx (lv' := [(0, vR 20), (1, vR 1), (2, vI place), (3, vI comes)]) (st' := [vR 20]) B82_0_1 rfl ?_
  refine r_gfix (r := 23) (pc' := 4) D82_1 rfl gf_9_18_20 H.1 ?_
  refine s_blx (lv' := [(0, vR 20), (1, vR 1), (2, vI place), (3, vI comes)]) (st' := [vI comes, vR 1, vI place, vR 23]) B82_4_7 rfl ?_
  refine r_vIp (c := 1) (args := [vI comes]) (rest := [vI place, vR 23]) (pc' := 10) D82_7 rfl ck_9_virtual_123 TE76 rfl (Nat.le_of_ble_eq_true rfl) ⟨Nat.le_of_ble_eq_true rfl, Nat.le_of_ble_eq_true rfl⟩ sc_1 ⟨rfl, by decide⟩ H.1 (dp_0 hd rfl) (k76_1 E (dp_n hd rfl) H comes (by omega)) ?_
  intro v1 q4
  have q3 := q4; clear q4
  refine r_iast (pc' := 11) D82_10 rfl sc_23 H (by omega) (by unfold inR; omega) trivial ?_
  intro M5 u6 H7 p8
  have f9 := f0.wr u6 rfl
  refine s_blx (lv' := [(4, vI 0), (0, vR 20), (1, vR 1), (2, vI place), (3, vI comes)]) (st' := []) B82_11_14 rfl ?_
  refine r_loc (lv' := [(0, vR 20), (1, vR 1), (2, vI place), (3, vI comes), (4, vI 0)]) ⟨rfl, rfl, rfl, rfl, rfl, trivial⟩ rfl rfl ?_
  exact (L_k82_20 E hd H place comes h0 h1 (((3 - 0) * 10 + 9 : Int) + 1).toNat).1 0 M5 H7 f9 (by omega) (by omega) (by omega)
set_option maxRecDepth 4000 in
theorem L_k81_20 {base : Nat} {X : Nat → Option mC} {G : Nat → Value} (E : EnvOK base X G) {d : Nat} (hd : 3 ≤ d) {M : mH} (H : HI base M) (parent : Int) (comes : Int) (h0 : 0 ≤ parent ∧ parent ≤ 144) (h1 : -2147483648 ≤ comes ∧ comes ≤ 2147483647) : ∀ mz : Nat, (∀ (x4 x5 : Int) (N : mH), HI base N → Fr [(20, 16), (21, 0), (22, 0), (23, 0), (24, 0), (25, 0), (26, 0), (27, 0), (28, 0), (29, 0), (30, 0), (31, 0), (35, 0)] M N → (0 ≤ x4) → (x4 ≤ 144) → (0 ≤ x5) → (x5 ≤ 3) → (3 - x5) * 1 + 0 < (mz : Int) → sRn base X G d T81 89 [(0, vR 20), (1, vI parent), (4, vI x4), (5, vI x5)] [] N (s_Q base (pI (fun v M' => HI base M' ∧ Fr [(20, 16), (21, 0), (22, 0), (23, 0), (24, 0), (25, 0), (26, 0), (27, 0), (28, 0), (29, 0), (30, 0), (31, 0), (35, 0)] M M' ∧ (0 ≤ v ∧ v ≤ 144))))) := by
  have f0 : Fr [(20, 16), (21, 0), (22, 0), (23, 0), (24, 0), (25, 0), (26, 0), (27, 0), (28, 0), (29, 0), (30, 0), (31, 0), (35, 0)] M M := Fr.rf
  intro mz
  induction mz with
  | zero => exact fun x4 x5 N _ _ z0 z1 z2 z3 z4 => by omega
  | succ mz ih =>
    intro x4 x5 N HN fN i0 i1 i2 i3 hmu
    refine s_blx (lv' := [(0, vR 20), (1, vI parent), (4, vI x4), (5, vI x5)]) (st' := [vI 3, vI x5]) B81_89_92 rfl ?_
    refine r_icmp (tgt := 142) (pc' := 95) D81_92 rfl rfl (by unfold inR; omega) (fun (c55 : 3 ≤ x5) => ?_) (fun (c55 : ¬ (3 ≤ x5)) => ?_)
    · refine s_blx (lv' := [(0, vR 20), (1, vI parent), (4, vI x4), (5, vI x5)]) (st' := [vI x4]) B81_142_144 rfl ?_
      exact r_iretI D81_144 rfl (⟨HN, fN, by omega⟩)
    · refine s_blx (lv' := [(0, vR 20), (1, vI parent), (4, vI x4), (5, vI x5)]) (st' := [vR 20]) B81_95_96 rfl ?_
      refine r_gfix (r := 26) (pc' := 99) D81_96 rfl gf_9_28_20 HN.1 ?_
      refine s_blx (lv' := [(0, vR 20), (1, vI parent), (4, vI x4), (5, vI x5)]) (st' := [vI x4, vR 26, vI x4, vR 26]) B81_99_102 rfl ?_
      refine r_bald (pc' := 103) D81_102 rfl sc_26 (by decide) HN.1 (by omega) ?_
      intro w56 e57 r58
      have b_w56 := HN.2 26 (x4) 0 1 rfl
      rw [← e57] at b_w56; clear r58
      refine s_blx (lv' := [(0, vR 20), (1, vI parent), (4, vI x4), (5, vI x5)]) (st' := [vR 20, vI w56, vI x4, vR 26]) B81_103_104 rfl ?_
      refine r_gfix (r := 27) (pc' := 107) D81_104 rfl gf_9_31_20 HN.1 ?_
      refine s_blx (lv' := [(0, vR 20), (1, vI parent), (4, vI x4), (5, vI x5)]) (st' := [vI ((x4 * 3) + x5), vR 27, vI w56, vI x4, vR 26]) B81_107_114 rfl ?_
      refine r_iald (pc' := 115) D81_114 rfl sc_27 HN.1 (by omega) ?_
      intro w59 e60 r61
      unfold inR at r61
      refine s_blx (lv' := [(0, vR 20), (1, vI parent), (4, vI x4), (5, vI x5)]) (st' := [vR 20, vI w59, vI w56, vI x4, vR 26]) B81_115_116 rfl ?_
      refine r_gfix (r := 27) (pc' := 119) D81_116 rfl gf_9_31_20 HN.1 ?_
      refine s_blx (lv' := [(0, vR 20), (1, vI parent), (4, vI x4), (5, vI x5)]) (st' := [vI ((parent * 3) + x5), vR 27, vI w59, vI w56, vI x4, vR 26]) B81_119_125 rfl ?_
      refine r_iald (pc' := 126) D81_125 rfl sc_27 HN.1 (by omega) ?_
      intro w62 e63 r64
      unfold inR at r64
      refine r_icmp (tgt := 133) (pc' := 129) D81_126 rfl rfl (by unfold inR; omega) (fun (c65 : w59 = w62) => ?_) (fun (c65 : ¬ (w59 = w62)) => ?_)
      · refine s_blx (lv' := [(0, vR 20), (1, vI parent), (4, vI x4), (5, vI x5)]) (st' := [vI 0, vI w56, vI x4, vR 26]) B81_133_134 rfl ?_
        refine r_ior01 (pc' := 135) D81_134 rfl (by omega) (by omega) ?_
        intro z66 r67
        refine r_zast (pc' := 136) D81_135 rfl sc_26 HN (by omega) (by omega) (show 0 ≤ z66 ∧ z66 ≤ 1 by omega) ?_
        intro M68 u69 H70 p71
        have f72 := fN.wr u69 rfl
        refine s_blx (lv' := [(5, vI (x5 + 1)), (0, vR 20), (1, vI parent), (4, vI x4)]) (st' := []) B81_136_139 rfl ?_
        refine r_goto (tgt := 89) D81_139 rfl ?_
        refine r_loc (lv' := [(0, vR 20), (1, vI parent), (4, vI x4), (5, vI (x5 + 1))]) ⟨rfl, rfl, rfl, rfl, trivial⟩ rfl rfl ?_
        exact ih x4 (x5 + 1) M68 H70 f72 (by omega) (by omega) (by omega) (by omega) (by omega)
      · refine s_blx (lv' := [(0, vR 20), (1, vI parent), (4, vI x4), (5, vI x5)]) (st' := [vI 1, vI w56, vI x4, vR 26]) B81_129_130 rfl ?_
        refine r_goto (tgt := 134) D81_130 rfl ?_
        refine r_ior01 (pc' := 135) D81_134 rfl (by omega) (by omega) ?_
        intro z73 r74
        refine r_zast (pc' := 136) D81_135 rfl sc_26 HN (by omega) (by omega) (show 0 ≤ z73 ∧ z73 ≤ 1 by omega) ?_
        intro M75 u76 H77 p78
        have f79 := fN.wr u76 rfl
        refine s_blx (lv' := [(5, vI (x5 + 1)), (0, vR 20), (1, vI parent), (4, vI x4)]) (st' := []) B81_136_139 rfl ?_
        refine r_goto (tgt := 89) D81_139 rfl ?_
        refine r_loc (lv' := [(0, vR 20), (1, vI parent), (4, vI x4), (5, vI (x5 + 1))]) ⟨rfl, rfl, rfl, rfl, trivial⟩ rfl rfl ?_
        exact ih x4 (x5 + 1) M75 H77 f79 (by omega) (by omega) (by omega) (by omega) (by omega)
set_option maxRecDepth 4000 in
theorem k81_20 {base : Nat} {X : Nat → Option mC} {G : Nat → Value} (E : EnvOK base X G) {d : Nat} (hd : 3 ≤ d) {M : mH} (H : HI base M) (parent : Int) (comes : Int) (h0 : 0 ≤ parent ∧ parent ≤ 144) (h1 : -2147483648 ≤ comes ∧ comes ≤ 2147483647) : sOk base X G d T81 [vR 20, vI parent, vR 1, vI comes] M (pI (fun v M' => HI base M' ∧ Fr [(20, 16), (21, 0), (22, 0), (23, 0), (24, 0), (25, 0), (26, 0), (27, 0), (28, 0), (29, 0), (30, 0), (31, 0), (35, 0)] M M' ∧ (0 ≤ v ∧ v ≤ 144))) := by
  have f0 : Fr [(20, 16), (21, 0), (22, 0), (23, 0), (24, 0), (25, 0), (26, 0), (27, 0), (28, 0), (29, 0), (30, 0), (31, 0), (35, 0)] M M := Fr.rf
  refine sOk.of (show sRn base X G d T81 0 [(0, vR 20), (1, vI parent), (2, vR 1), (3, vI comes)] [] M _ from ?_)
  refine s_blx (lv' := [(0, vR 20), (1, vI parent), (2, vR 1), (3, vI comes)]) (st' := [vR 20]) B81_0_1 rfl ?_
  refine r_gint (ki := 15) (pc' := 4) D81_1 rfl gf_9_58_20 rfl H.1 ?_
  intro w1 e2 r3
  have b_w1 := H.2 20 (15) 0 145 rfl
  rw [← e2] at b_w1; clear r3
  refine s_blx (lv' := [(0, vR 20), (1, vI parent), (2, vR 1), (3, vI comes)]) (st' := [vI 144, vI w1]) B81_4_7 rfl ?_
  refine r_min (pc' := 10) D81_7 rfl mc_9_static_115 sp_9_115 (Nat.le_of_ble_eq_true rfl) (by unfold inR; omega) ?_
  intro z4 r5 r6 r7
  refine s_blx (lv' := [(4, vI z4), (0, vR 20), (1, vI parent), (2, vR 1), (3, vI comes)]) (st' := [vI (z4 + 1), vR 20]) B81_10_17 rfl ?_
  refine r_pint (ki := 15) (pc' := 20) D81_17 rfl pf_9_58_20 rfl H (by unfold inR; omega) (show 0 ≤ (z4 + 1) ∧ (z4 + 1) ≤ 145 by omega) ?_
  intro M8 u9 H10 p11
  have f12 := f0.wr u9 rfl
  refine s_blx (lv' := [(4, vI z4), (0, vR 20), (1, vI parent), (2, vR 1), (3, vI comes)]) (st' := [vR 20]) B81_20_21 rfl ?_
  refine r_gfix (r := 21) (pc' := 24) D81_21 rfl gf_9_11_20 H10.1 ?_
  refine s_blx (lv' := [(4, vI z4), (0, vR 20), (1, vI parent), (2, vR 1), (3, vI comes)]) (st' := [vI (-1), vI z4, vR 21]) B81_24_27 rfl ?_
  refine r_iast (pc' := 28) D81_27 rfl sc_21 H10 (by omega) (by unfold inR; omega) (show (-1) ≤ (-1) ∧ (-1) ≤ 144 by omega) ?_
  intro M13 u14 H15 p16
  have f17 := f12.wr u14 rfl
  refine s_blx (lv' := [(4, vI z4), (0, vR 20), (1, vI parent), (2, vR 1), (3, vI comes)]) (st' := [vR 20]) B81_28_29 rfl ?_
  refine r_gfix (r := 22) (pc' := 32) D81_29 rfl gf_9_15_20 H15.1 ?_
  refine s_blx (lv' := [(4, vI z4), (0, vR 20), (1, vI parent), (2, vR 1), (3, vI comes)]) (st' := [vR 20, vI z4, vR 22]) B81_32_35 rfl ?_
  refine r_gfix (r := 21) (pc' := 38) D81_35 rfl gf_9_11_20 H15.1 ?_
  refine s_blx (lv' := [(4, vI z4), (0, vR 20), (1, vI parent), (2, vR 1), (3, vI comes)]) (st' := [vI parent, vR 21, vI z4, vR 22]) B81_38_39 rfl ?_
  refine r_iald (pc' := 40) D81_39 rfl sc_21 H15.1 (by omega) ?_
  intro w18 e19 r20
  have b_w18 := H15.2 21 (parent) (-1) 144 rfl
  rw [← e19] at b_w18; clear r20
  refine r_iast (pc' := 41) D81_40 rfl sc_22 H15 (by omega) (by unfold inR; omega) (show (-1) ≤ w18 ∧ w18 ≤ 144 by omega) ?_
  intro M21 u22 H23 p24
  have f25 := f17.wr u22 rfl
  refine s_blx (lv' := [(4, vI z4), (0, vR 20), (1, vI parent), (2, vR 1), (3, vI comes)]) (st' := [vR 20]) B81_41_42 rfl ?_
  refine r_gfix (r := 21) (pc' := 45) D81_42 rfl gf_9_11_20 H23.1 ?_
  refine s_blx (lv' := [(4, vI z4), (0, vR 20), (1, vI parent), (2, vR 1), (3, vI comes)]) (st' := [vI z4, vI parent, vR 21]) B81_45_48 rfl ?_
  refine r_iast (pc' := 49) D81_48 rfl sc_21 H23 (by omega) (by unfold inR; omega) (show (-1) ≤ z4 ∧ z4 ≤ 144 by omega) ?_
  intro M26 u27 H28 p29
  have f30 := f25.wr u27 rfl
  refine s_blx (lv' := [(4, vI z4), (0, vR 20), (1, vI parent), (2, vR 1), (3, vI comes)]) (st' := [vR 20]) B81_49_50 rfl ?_
  refine r_gfix (r := 24) (pc' := 53) D81_50 rfl gf_9_21_20 H28.1 ?_
  refine s_blx (lv' := [(4, vI z4), (0, vR 20), (1, vI parent), (2, vR 1), (3, vI comes)]) (st' := [vR 20, vI z4, vR 24]) B81_53_56 rfl ?_
  refine r_gfix (r := 24) (pc' := 59) D81_56 rfl gf_9_21_20 H28.1 ?_
  refine s_blx (lv' := [(4, vI z4), (0, vR 20), (1, vI parent), (2, vR 1), (3, vI comes)]) (st' := [vI parent, vR 24, vI z4, vR 24]) B81_59_60 rfl ?_
  refine r_iald (pc' := 61) D81_60 rfl sc_24 H28.1 (by omega) ?_
  intro w31 e32 r33
  unfold inR at r33
  refine r_iast (pc' := 62) D81_61 rfl sc_24 H28 (by omega) (by unfold inR; omega) trivial ?_
  intro M34 u35 H36 p37
  have f38 := f30.wr u35 rfl
  refine s_blx (lv' := [(4, vI z4), (0, vR 20), (1, vI parent), (2, vR 1), (3, vI comes)]) (st' := [vR 20]) B81_62_63 rfl ?_
  refine r_gfix (r := 25) (pc' := 66) D81_63 rfl gf_9_24_20 H36.1 ?_
  refine s_blx (lv' := [(4, vI z4), (0, vR 20), (1, vI parent), (2, vR 1), (3, vI comes)]) (st' := [vI 0, vI z4, vR 25]) B81_66_69 rfl ?_
  refine r_zast (pc' := 70) D81_69 rfl sc_25 H36 (by omega) (by omega) (show 0 ≤ 0 ∧ 0 ≤ 1 by omega) ?_
  intro M39 u40 H41 p42
  have f43 := f38.wr u40 rfl
  refine s_blx (lv' := [(4, vI z4), (0, vR 20), (1, vI parent), (2, vR 1), (3, vI comes)]) (st' := [vI comes, vI z4, vR 1, vR 20]) B81_70_75 rfl ?_
  refine r_vV (c := 20) (args := [vR 1, vI z4, vI comes]) (rest := []) (pc' := 78) D81_75 rfl ck_9_virtual_120 TE82 rfl (Nat.le_of_ble_eq_true rfl) ⟨Nat.le_of_ble_eq_true rfl, Nat.le_of_ble_eq_true rfl⟩ sc_20 ⟨rfl, by decide⟩ H41.1 (dp_0 hd rfl) (k82_20 E (dp_n hd rfl) H41 z4 comes (by omega) (by omega)) ?_
  intro M45 q48
  obtain ⟨H46, f47⟩ := q48
  have f49 := f43.tr (f47.up rfl)
  refine s_blx (lv' := [(4, vI z4), (0, vR 20), (1, vI parent), (2, vR 1), (3, vI comes)]) (st' := [vR 20]) B81_78_79 rfl ?_
  refine r_gfix (r := 26) (pc' := 82) D81_79 rfl gf_9_28_20 H46.1 ?_
  refine s_blx (lv' := [(4, vI z4), (0, vR 20), (1, vI parent), (2, vR 1), (3, vI comes)]) (st' := [vI 0, vI z4, vR 26]) B81_82_85 rfl ?_
  refine r_zast (pc' := 86) D81_85 rfl sc_26 H46 (by omega) (by omega) (show 0 ≤ 0 ∧ 0 ≤ 1 by omega) ?_
  intro M50 u51 H52 p53
  have f54 := f49.wr u51 rfl
  refine s_blx (lv' := [(5, vI 0), (4, vI z4), (0, vR 20), (1, vI parent), (2, vR 1), (3, vI comes)]) (st' := []) B81_86_89 rfl ?_
  refine r_loc (lv' := [(0, vR 20), (1, vI parent), (4, vI z4), (5, vI 0)]) ⟨rfl, rfl, rfl, rfl, trivial⟩ rfl rfl ?_
  exact (L_k81_20 E hd H parent comes h0 h1 (((3 - 0) * 1 + 0 : Int) + 1).toNat) z4 0 M50 H52 f54 (by omega) (by omega) (by omega) (by omega) (by omega)
set_option maxRecDepth 4000 in
theorem L_k80_20 {base : Nat} {X : Nat → Option mC} {G : Nat → Value} (E : EnvOK base X G) {d : Nat} (hd : 4 ≤ d) {M : mH} (H : HI base M) (sentence : Int) (lightWord : Int) (h0 : 0 ≤ sentence ∧ sentence ≤ 15) (h1 : -2147483648 ≤ lightWord ∧ lightWord ≤ 2147483647) : ∀ mz : Nat, (∀ (x4 x5 x6 : Int) (N : mH), HI base N → Fr [(20, 16), (21, 0), (22, 0), (23, 0), (24, 0), (25, 0), (26, 0), (27, 0), (28, 0), (29, 0), (30, 0), (31, 0), (32, 0), (33, 0), (35, 0)] M N → (0 ≤ x4) → (x4 ≤ 8) → (0 ≤ x5) → (x5 ≤ 144) → (0 ≤ x6) → (x6 ≤ 8) → (8 - x6) * 1 + 0 < (mz : Int) → sRn base X G d T80 22 [(0, vR 20), (1, vR 1), (2, vI sentence), (3, vI lightWord), (4, vI x4), (5, vI x5), (6, vI x6)] [] N (s_Q base (pV (fun M' => HI base M' ∧ Fr [(20, 16), (21, 0), (22, 0), (23, 0), (24, 0), (25, 0), (26, 0), (27, 0), (28, 0), (29, 0), (30, 0), (31, 0), (32, 0), (33, 0), (35, 0)] M M')))) := by
  have f0 : Fr [(20, 16), (21, 0), (22, 0), (23, 0), (24, 0), (25, 0), (26, 0), (27, 0), (28, 0), (29, 0), (30, 0), (31, 0), (32, 0), (33, 0), (35, 0)] M M := Fr.rf
  intro mz
  induction mz with
  | zero => exact fun x4 x5 x6 N _ _ z0 z1 z2 z3 z4 z5 z6 => by omega
  | succ mz ih =>
    intro x4 x5 x6 N HN fN i0 i1 i2 i3 i4 i5 hmu
    refine s_blx (lv' := [(0, vR 20), (1, vR 1), (2, vI sentence), (3, vI lightWord), (4, vI x4), (5, vI x5), (6, vI x6)]) (st' := [vI x4, vI x6]) B80_22_26 rfl ?_
    refine r_icmp (tgt := 146) (pc' := 29) D80_26 rfl rfl (by unfold inR; omega) (fun (c9 : x4 ≤ x6) => ?_) (fun (c9 : ¬ (x4 ≤ x6)) => ?_)
    · refine s_blx (lv' := [(0, vR 20), (1, vR 1), (2, vI sentence), (3, vI lightWord), (4, vI x4), (5, vI x5), (6, vI x6)]) (st' := [vI sentence, vI 1, vR 1, vI x5, vR 20]) B80_146_152 rfl ?_
      refine r_bin (pc' := 153) D80_152 rfl rfl ?_
      intro z10 r11 _; unfold inR at r11
      refine r_vI (c := 20) (args := [vI x5, vR 1, vI z10]) (rest := []) (pc' := 156) D80_153 rfl ck_9_virtual_105 TE81 rfl (Nat.le_of_ble_eq_true rfl) ⟨Nat.le_of_ble_eq_true rfl, Nat.le_of_ble_eq_true rfl⟩ sc_20 ⟨rfl, by decide⟩ HN.1 (dp_0 hd rfl) (k81_20 E (dp_n hd rfl) HN x5 z10 (by omega) (by omega)) ?_
      intro v12 M13 q17
      obtain ⟨H14, f15, q16⟩ := q17
      have f18 := fN.tr (f15.up rfl)
      refine s_blx (lv' := [(5, vI v12), (0, vR 20), (1, vR 1), (2, vI sentence), (3, vI lightWord), (4, vI x4), (6, vI x6)]) (st' := [vR 20]) B80_156_159 rfl ?_
      refine r_gfix (r := 25) (pc' := 162) D80_159 rfl gf_9_24_20 H14.1 ?_
      refine s_blx (lv' := [(5, vI v12), (0, vR 20), (1, vR 1), (2, vI sentence), (3, vI lightWord), (4, vI x4), (6, vI x6)]) (st' := [vI 1, vI v12, vR 25]) B80_162_165 rfl ?_
      refine r_zast (pc' := 166) D80_165 rfl sc_25 H14 (by omega) (by omega) (show 0 ≤ 1 ∧ 1 ≤ 1 by omega) ?_
      intro M19 u20 H21 p22
      have f23 := f18.wr u20 rfl
      refine s_blx (lv' := [(5, vI v12), (0, vR 20), (1, vR 1), (2, vI sentence), (3, vI lightWord), (4, vI x4), (6, vI x6)]) (st' := [vR 20]) B80_166_167 rfl ?_
      refine r_gfix (r := 32) (pc' := 170) D80_167 rfl gf_9_46_20 H21.1 ?_
      refine s_blx (lv' := [(5, vI v12), (0, vR 20), (1, vR 1), (2, vI sentence), (3, vI lightWord), (4, vI x4), (6, vI x6)]) (st' := [vI v12, vI ((sentence * 9) + x4), vR 32]) B80_170_179 rfl ?_
      refine r_iast (pc' := 180) D80_179 rfl sc_32 H21 (by omega) (by unfold inR; omega) (show 0 ≤ v12 ∧ v12 ≤ 144 by omega) ?_
      intro M24 u25 H26 p27
      have f28 := f23.wr u25 rfl
      exact r_retV D80_180 rfl (⟨H26, f28⟩)
    · refine s_blx (lv' := [(0, vR 20), (1, vR 1), (2, vI sentence), (3, vI lightWord), (4, vI x4), (5, vI x5), (6, vI x6)]) (st' := [vI (x6 + 1), vI sentence, vR 1]) B80_29_35 rfl ?_
      refine r_vIp (c := 1) (args := [vI sentence, vI (x6 + 1)]) (rest := []) (pc' := 38) D80_35 rfl ck_9_virtual_97 TE70 rfl (Nat.le_of_ble_eq_true rfl) ⟨Nat.le_of_ble_eq_true rfl, Nat.le_of_ble_eq_true rfl⟩ sc_1 ⟨rfl, by decide⟩ HN.1 (dp_0 hd rfl) (k70_1 E (dp_n hd rfl) HN sentence (x6 + 1) (by omega) (by omega)) ?_
      intro v29 q32
      have q31 := q32; clear q32
      refine s_blx (lv' := [(7, vI v29), (0, vR 20), (1, vR 1), (2, vI sentence), (3, vI lightWord), (4, vI x4), (5, vI x5), (6, vI x6)]) (st' := [vI v29, vR 1]) B80_38_43 rfl ?_
      refine r_vIp (c := 1) (args := [vI v29]) (rest := []) (pc' := 46) D80_43 rfl ck_9_virtual_101 TE72 rfl (Nat.le_of_ble_eq_true rfl) ⟨Nat.le_of_ble_eq_true rfl, Nat.le_of_ble_eq_true rfl⟩ sc_1 ⟨rfl, by decide⟩ HN.1 (dp_0 hd rfl) (k72_1 E (dp_n hd rfl) HN v29 (by omega)) ?_
      intro v33 q36
      have q35 := q36; clear q36
      refine s_blx (lv' := [(8, vI v33), (7, vI v29), (0, vR 20), (1, vR 1), (2, vI sentence), (3, vI lightWord), (4, vI x4), (5, vI x5), (6, vI x6)]) (st' := [vI sentence, vI v33]) B80_46_51 rfl ?_
      refine r_icmp (tgt := 72) (pc' := 54) D80_51 rfl rfl (by unfold inR; omega) (fun (c37 : sentence ≤ v33) => ?_) (fun (c37 : ¬ (sentence ≤ v33)) => ?_)
      · refine s_blx (lv' := [(8, vI v33), (7, vI v29), (0, vR 20), (1, vR 1), (2, vI sentence), (3, vI lightWord), (4, vI x4), (5, vI x5), (6, vI x6)]) (st' := [vI v29, vR 1, vI x5, vR 20]) B80_72_78 rfl ?_
        refine r_vI (c := 20) (args := [vI x5, vR 1, vI v29]) (rest := []) (pc' := 81) D80_78 rfl ck_9_virtual_105 TE81 rfl (Nat.le_of_ble_eq_true rfl) ⟨Nat.le_of_ble_eq_true rfl, Nat.le_of_ble_eq_true rfl⟩ sc_20 ⟨rfl, by decide⟩ HN.1 (dp_0 hd rfl) (k81_20 E (dp_n hd rfl) HN x5 v29 (by omega) (by omega)) ?_
        intro v38 M39 q43
        obtain ⟨H40, f41, q42⟩ := q43
        have f44 := fN.tr (f41.up rfl)
        refine s_blx (lv' := [(5, vI v38), (8, vI v33), (7, vI v29), (0, vR 20), (1, vR 1), (2, vI sentence), (3, vI lightWord), (4, vI x4), (6, vI x6)]) (st' := [vR 1]) B80_81_84 rfl ?_
        refine r_gfix (r := 5) (pc' := 87) D80_84 rfl gf_9_109_1 H40.1 ?_
        refine s_blx (lv' := [(5, vI v38), (8, vI v33), (7, vI v29), (0, vR 20), (1, vR 1), (2, vI sentence), (3, vI lightWord), (4, vI x4), (6, vI x6)]) (st' := [vI ((sentence * 8) + x6), vR 5]) B80_87_94 rfl ?_
        refine r_iald (pc' := 95) D80_94 rfl sc_5 H40.1 (by omega) ?_
        intro w45 e46 r47
        have b_w45 := H40.2 5 ((sentence * 8) + x6) 0 29 rfl
        rw [← e46] at b_w45; clear r47
        refine s_blx (lv' := [(9, vI w45), (5, vI v38), (8, vI v33), (7, vI v29), (0, vR 20), (1, vR 1), (2, vI sentence), (3, vI lightWord), (4, vI x4), (6, vI x6)]) (st' := [vR 20]) B80_95_98 rfl ?_
        refine r_gfix (r := 24) (pc' := 101) D80_98 rfl gf_9_21_20 H40.1 ?_
        refine s_blx (lv' := [(9, vI w45), (5, vI v38), (8, vI v33), (7, vI v29), (0, vR 20), (1, vR 1), (2, vI sentence), (3, vI lightWord), (4, vI x4), (6, vI x6)]) (st' := [vI v38, vR 24, vI v38, vR 24]) B80_101_104 rfl ?_
        refine r_iald (pc' := 105) D80_104 rfl sc_24 H40.1 (by omega) ?_
        intro w48 e49 r50
        unfold inR at r50
        refine s_blx (lv' := [(9, vI w45), (5, vI v38), (8, vI v33), (7, vI v29), (0, vR 20), (1, vR 1), (2, vI sentence), (3, vI lightWord), (4, vI x4), (6, vI x6)]) (st' := [vI lightWord, vI w45, vI w48, vI v38, vR 24]) B80_105_108 rfl ?_
        refine r_icmp (tgt := 115) (pc' := 111) D80_108 rfl rfl (by unfold inR; omega) (fun (c51 : w45 ≠ lightWord) => ?_) (fun (c51 : ¬ (w45 ≠ lightWord)) => ?_)
        · refine s_blx (lv' := [(9, vI w45), (5, vI v38), (8, vI v33), (7, vI v29), (0, vR 20), (1, vR 1), (2, vI sentence), (3, vI lightWord), (4, vI x4), (6, vI x6)]) (st' := [vR 1, vI w48, vI v38, vR 24]) B80_115_116 rfl ?_
          refine r_gfix (r := 2) (pc' := 119) D80_116 rfl gf_9_112_1 H40.1 ?_
          refine s_blx (lv' := [(9, vI w45), (5, vI v38), (8, vI v33), (7, vI v29), (0, vR 20), (1, vR 1), (2, vI sentence), (3, vI lightWord), (4, vI x4), (6, vI x6)]) (st' := [vI (0 + w45), vR 2, vI w48, vI v38, vR 24]) B80_119_123 rfl ?_
          refine r_iald (pc' := 124) D80_123 rfl sc_2 H40.1 (by omega) ?_
          intro w52 e53 r54
          have b_w52 := H40.2 2 (0 + w45) 0 60 rfl
          rw [← e53] at b_w52; clear r54
          refine s_blx (lv' := [(9, vI w45), (5, vI v38), (8, vI v33), (7, vI v29), (0, vR 20), (1, vR 1), (2, vI sentence), (3, vI lightWord), (4, vI x4), (6, vI x6)]) (st' := [vI (w48 + w52), vI v38, vR 24]) B80_124_125 rfl ?_
          refine r_norm ?_
          intro z55 r56 _; unfold inR at r56
          refine r_iast (pc' := 126) D80_125 rfl sc_24 H40 (by omega) (by unfold inR; omega) trivial ?_
          intro M57 u58 H59 p60
          have f61 := f44.wr u58 rfl
          refine s_blx (lv' := [(9, vI w45), (5, vI v38), (8, vI v33), (7, vI v29), (0, vR 20), (1, vR 1), (2, vI sentence), (3, vI lightWord), (4, vI x4), (6, vI x6)]) (st' := [vR 20]) B80_126_127 rfl ?_
          refine r_gfix (r := 32) (pc' := 130) D80_127 rfl gf_9_46_20 H59.1 ?_
          refine s_blx (lv' := [(9, vI w45), (5, vI v38), (8, vI v33), (7, vI v29), (0, vR 20), (1, vR 1), (2, vI sentence), (3, vI lightWord), (4, vI x4), (6, vI x6)]) (st' := [vI v38, vI ((sentence * 9) + x6), vR 32]) B80_130_139 rfl ?_
          refine r_iast (pc' := 140) D80_139 rfl sc_32 H59 (by omega) (by unfold inR; omega) (show 0 ≤ v38 ∧ v38 ≤ 144 by omega) ?_
          intro M62 u63 H64 p65
          have f66 := f61.wr u63 rfl
          refine s_blx (lv' := [(6, vI (x6 + 1)), (9, vI w45), (5, vI v38), (8, vI v33), (7, vI v29), (0, vR 20), (1, vR 1), (2, vI sentence), (3, vI lightWord), (4, vI x4)]) (st' := []) B80_140_143 rfl ?_
          refine r_goto (tgt := 22) D80_143 rfl ?_
          refine r_loc (lv' := [(0, vR 20), (1, vR 1), (2, vI sentence), (3, vI lightWord), (4, vI x4), (5, vI v38), (6, vI (x6 + 1))]) ⟨rfl, rfl, rfl, rfl, rfl, rfl, rfl, trivial⟩ rfl rfl ?_
          exact ih x4 v38 (x6 + 1) M62 H64 f66 (by omega) (by omega) (by omega) (by omega) (by omega) (by omega) (by omega)
        · refine s_blx (lv' := [(9, vI w45), (5, vI v38), (8, vI v33), (7, vI v29), (0, vR 20), (1, vR 1), (2, vI sentence), (3, vI lightWord), (4, vI x4), (6, vI x6)]) (st' := [vI 0, vI w48, vI v38, vR 24]) B80_111_112 rfl ?_
          refine r_goto (tgt := 124) D80_112 rfl ?_
          refine s_blx (lv' := [(9, vI w45), (5, vI v38), (8, vI v33), (7, vI v29), (0, vR 20), (1, vR 1), (2, vI sentence), (3, vI lightWord), (4, vI x4), (6, vI x6)]) (st' := [vI (w48 + 0), vI v38, vR 24]) B80_124_125 rfl ?_
          refine r_iast (pc' := 126) D80_125 rfl sc_24 H40 (by omega) (by unfold inR; omega) trivial ?_
          intro M67 u68 H69 p70
          have f71 := f44.wr u68 rfl
          refine s_blx (lv' := [(9, vI w45), (5, vI v38), (8, vI v33), (7, vI v29), (0, vR 20), (1, vR 1), (2, vI sentence), (3, vI lightWord), (4, vI x4), (6, vI x6)]) (st' := [vR 20]) B80_126_127 rfl ?_
          refine r_gfix (r := 32) (pc' := 130) D80_127 rfl gf_9_46_20 H69.1 ?_
          refine s_blx (lv' := [(9, vI w45), (5, vI v38), (8, vI v33), (7, vI v29), (0, vR 20), (1, vR 1), (2, vI sentence), (3, vI lightWord), (4, vI x4), (6, vI x6)]) (st' := [vI v38, vI ((sentence * 9) + x6), vR 32]) B80_130_139 rfl ?_
          refine r_iast (pc' := 140) D80_139 rfl sc_32 H69 (by omega) (by unfold inR; omega) (show 0 ≤ v38 ∧ v38 ≤ 144 by omega) ?_
          intro M72 u73 H74 p75
          have f76 := f71.wr u73 rfl
          refine s_blx (lv' := [(6, vI (x6 + 1)), (9, vI w45), (5, vI v38), (8, vI v33), (7, vI v29), (0, vR 20), (1, vR 1), (2, vI sentence), (3, vI lightWord), (4, vI x4)]) (st' := []) B80_140_143 rfl ?_
          refine r_goto (tgt := 22) D80_143 rfl ?_
          refine r_loc (lv' := [(0, vR 20), (1, vR 1), (2, vI sentence), (3, vI lightWord), (4, vI x4), (5, vI v38), (6, vI (x6 + 1))]) ⟨rfl, rfl, rfl, rfl, rfl, rfl, rfl, trivial⟩ rfl rfl ?_
          exact ih x4 v38 (x6 + 1) M72 H74 f76 (by omega) (by omega) (by omega) (by omega) (by omega) (by omega) (by omega)
      · refine s_blx (lv' := [(8, vI v33), (7, vI v29), (0, vR 20), (1, vR 1), (2, vI sentence), (3, vI lightWord), (4, vI x4), (5, vI x5), (6, vI x6)]) (st' := [vR 20]) B80_54_55 rfl ?_
        refine r_gfix (r := 32) (pc' := 58) D80_55 rfl gf_9_46_20 HN.1 ?_
        refine s_blx (lv' := [(8, vI v33), (7, vI v29), (0, vR 20), (1, vR 1), (2, vI sentence), (3, vI lightWord), (4, vI x4), (5, vI x5), (6, vI x6)]) (st' := [vI ((v33 * 9) + x6), vR 32]) B80_58_66 rfl ?_
        refine r_iald (pc' := 67) D80_66 rfl sc_32 HN.1 (by omega) ?_
        intro w77 e78 r79
        have b_w77 := HN.2 32 ((v33 * 9) + x6) 0 144 rfl
        rw [← e78] at b_w77; clear r79
        refine s_blx (lv' := [(5, vI w77), (8, vI v33), (7, vI v29), (0, vR 20), (1, vR 1), (2, vI sentence), (3, vI lightWord), (4, vI x4), (6, vI x6)]) (st' := []) B80_67_69 rfl ?_
        refine r_goto (tgt := 126) D80_69 rfl ?_
        refine s_blx (lv' := [(5, vI w77), (8, vI v33), (7, vI v29), (0, vR 20), (1, vR 1), (2, vI sentence), (3, vI lightWord), (4, vI x4), (6, vI x6)]) (st' := [vR 20]) B80_126_127 rfl ?_
        refine r_gfix (r := 32) (pc' := 130) D80_127 rfl gf_9_46_20 HN.1 ?_
        refine s_blx (lv' := [(5, vI w77), (8, vI v33), (7, vI v29), (0, vR 20), (1, vR 1), (2, vI sentence), (3, vI lightWord), (4, vI x4), (6, vI x6)]) (st' := [vI w77, vI ((sentence * 9) + x6), vR 32]) B80_130_139 rfl ?_
        refine r_iast (pc' := 140) D80_139 rfl sc_32 HN (by omega) (by unfold inR; omega) (show 0 ≤ w77 ∧ w77 ≤ 144 by omega) ?_
        intro M80 u81 H82 p83
        have f84 := fN.wr u81 rfl
        refine s_blx (lv' := [(6, vI (x6 + 1)), (5, vI w77), (8, vI v33), (7, vI v29), (0, vR 20), (1, vR 1), (2, vI sentence), (3, vI lightWord), (4, vI x4)]) (st' := []) B80_140_143 rfl ?_
        refine r_goto (tgt := 22) D80_143 rfl ?_
        refine r_loc (lv' := [(0, vR 20), (1, vR 1), (2, vI sentence), (3, vI lightWord), (4, vI x4), (5, vI w77), (6, vI (x6 + 1))]) ⟨rfl, rfl, rfl, rfl, rfl, rfl, rfl, trivial⟩ rfl rfl ?_
        exact ih x4 w77 (x6 + 1) M80 H82 f84 (by omega) (by omega) (by omega) (by omega) (by omega) (by omega) (by omega)
set_option maxRecDepth 4000 in
theorem k80_20 {base : Nat} {X : Nat → Option mC} {G : Nat → Value} (E : EnvOK base X G) {d : Nat} (hd : 4 ≤ d) {M : mH} (H : HI base M) (sentence : Int) (lightWord : Int) (h0 : 0 ≤ sentence ∧ sentence ≤ 15) (h1 : -2147483648 ≤ lightWord ∧ lightWord ≤ 2147483647) : sOk base X G d T80 [vR 20, vR 1, vI sentence, vI lightWord] M (pV (fun M' => HI base M' ∧ Fr [(20, 16), (21, 0), (22, 0), (23, 0), (24, 0), (25, 0), (26, 0), (27, 0), (28, 0), (29, 0), (30, 0), (31, 0), (32, 0), (33, 0), (35, 0)] M M')) := by
  have f0 : Fr [(20, 16), (21, 0), (22, 0), (23, 0), (24, 0), (25, 0), (26, 0), (27, 0), (28, 0), (29, 0), (30, 0), (31, 0), (32, 0), (33, 0), (35, 0)] M M := Fr.rf
  refine sOk.of (show sRn base X G d T80 0 [(0, vR 20), (1, vR 1), (2, vI sentence), (3, vI lightWord)] [] M _ from ?_)
  refine s_blx (lv' := [(0, vR 20), (1, vR 1), (2, vI sentence), (3, vI lightWord)]) (st' := [vR 1]) B80_0_1 rfl ?_
  refine r_gfix (r := 6) (pc' := 4) D80_1 rfl gf_9_96_1 H.1 ?_
  refine s_blx (lv' := [(0, vR 20), (1, vR 1), (2, vI sentence), (3, vI lightWord)]) (st' := [vI sentence, vR 6]) B80_4_5 rfl ?_
  refine r_iald (pc' := 6) D80_5 rfl sc_6 H.1 (by omega) ?_
  intro w1 e2 r3
  have b_w1 := H.2 6 (sentence) 0 8 rfl
  rw [← e2] at b_w1; clear r3
  refine s_blx (lv' := [(4, vI w1), (0, vR 20), (1, vR 1), (2, vI sentence), (3, vI lightWord)]) (st' := [vR 20]) B80_6_9 rfl ?_
  refine r_gfix (r := 33) (pc' := 12) D80_9 rfl gf_9_49_20 H.1 ?_
  refine s_blx (lv' := [(4, vI w1), (0, vR 20), (1, vR 1), (2, vI sentence), (3, vI lightWord)]) (st' := [vI w1, vI sentence, vR 33]) B80_12_15 rfl ?_
  refine r_iast (pc' := 16) D80_15 rfl sc_33 H (by omega) (by unfold inR; omega) (show 0 ≤ w1 ∧ w1 ≤ 8 by omega) ?_
  intro M4 u5 H6 p7
  have f8 := f0.wr u5 rfl
  refine s_blx (lv' := [(6, vI 0), (5, vI 0), (4, vI w1), (0, vR 20), (1, vR 1), (2, vI sentence), (3, vI lightWord)]) (st' := []) B80_16_22 rfl ?_
  refine r_loc (lv' := [(0, vR 20), (1, vR 1), (2, vI sentence), (3, vI lightWord), (4, vI w1), (5, vI 0), (6, vI 0)]) ⟨rfl, rfl, rfl, rfl, rfl, rfl, rfl, trivial⟩ rfl rfl ?_
  exact (L_k80_20 E hd H sentence lightWord h0 h1 (((8 - 0) * 1 + 0 : Int) + 1).toNat) w1 0 0 M4 H6 f8 (by omega) (by omega) (by omega) (by omega) (by omega) (by omega) (by omega)
set_option maxRecDepth 4000 in
theorem L_k79_20 {base : Nat} {X : Nat → Option mC} {G : Nat → Value} (E : EnvOK base X G) {d : Nat} (hd : 5 ≤ d) {M : mH} (H : HI base M) (lightWord : Int) (h0 : -2147483648 ≤ lightWord ∧ lightWord ≤ 2147483647) : ∀ mz : Nat, (∀ (x3 : Int) (N : mH), HI base N → Fr [(20, 16), (20, 17), (20, 18), (21, 0), (22, 0), (23, 0), (24, 0), (25, 0), (26, 0), (27, 0), (28, 0), (29, 0), (30, 0), (31, 0), (32, 0), (33, 0), (34, 0), (35, 0)] M N → (0 ≤ x3) → (x3 ≤ 16) → (16 - x3) * 1 + 0 < (mz : Int) → sRn base X G d T79 53 [(0, vR 20), (1, vR 1), (2, vI lightWord), (3, vI x3)] [] N (s_Q base (pV (fun M' => HI base M' ∧ Fr [(20, 16), (20, 17), (20, 18), (21, 0), (22, 0), (23, 0), (24, 0), (25, 0), (26, 0), (27, 0), (28, 0), (29, 0), (30, 0), (31, 0), (32, 0), (33, 0), (34, 0), (35, 0)] M M')))) := by
  have f0 : Fr [(20, 16), (20, 17), (20, 18), (21, 0), (22, 0), (23, 0), (24, 0), (25, 0), (26, 0), (27, 0), (28, 0), (29, 0), (30, 0), (31, 0), (32, 0), (33, 0), (34, 0), (35, 0)] M M := Fr.rf
  intro mz
  induction mz with
  | zero => exact fun x3 N _ _ z0 z1 z2 => by omega
  | succ mz ih =>
    intro x3 N HN fN i0 i1 hmu
    refine s_blx (lv' := [(0, vR 20), (1, vR 1), (2, vI lightWord), (3, vI x3)]) (st' := [vR 1, vI x3]) B79_53_55 rfl ?_
    refine r_gint (ki := 10) (pc' := 58) D79_55 rfl gf_9_85_1 rfl HN.1 ?_
    intro w37 e38 r39
    have b_w37 := HN.2 1 (10) 0 16 rfl
    rw [← e38] at b_w37; clear r39
    refine r_icmp (tgt := 82) (pc' := 61) D79_58 rfl rfl (by unfold inR; omega) (fun (c40 : w37 ≤ x3) => ?_) (fun (c40 : ¬ (w37 ≤ x3)) => ?_)
    · exact r_retV D79_82 rfl (⟨HN, fN⟩)
    · refine s_blx (lv' := [(0, vR 20), (1, vR 1), (2, vI lightWord), (3, vI x3)]) (st' := [vI x3, vR 1]) B79_61_63 rfl ?_
      refine r_vIp (c := 1) (args := [vI x3]) (rest := []) (pc' := 66) D79_63 rfl ck_9_virtual_88 TE67 rfl (Nat.le_of_ble_eq_true rfl) ⟨Nat.le_of_ble_eq_true rfl, Nat.le_of_ble_eq_true rfl⟩ sc_1 ⟨rfl, by decide⟩ HN.1 (dp_0 hd rfl) (k67_1 E (dp_n hd rfl) HN x3 (by omega)) ?_
      intro v41 q45
      obtain ⟨q43, q44⟩ := q45
      refine r_ifc (tgt := 76) (pc' := 69) D79_66 rfl rfl (by unfold inR; omega) (fun (c46 : v41 = 0) => ?_) (fun (c46 : ¬ (v41 = 0)) => ?_)
      · refine s_blx (lv' := [(3, vI (x3 + 1)), (0, vR 20), (1, vR 1), (2, vI lightWord)]) (st' := []) B79_76_79 rfl ?_
        refine r_goto (tgt := 53) D79_79 rfl ?_
        refine r_loc (lv' := [(0, vR 20), (1, vR 1), (2, vI lightWord), (3, vI (x3 + 1))]) ⟨rfl, rfl, rfl, rfl, trivial⟩ rfl rfl ?_
        exact ih (x3 + 1) N HN fN (by omega) (by omega) (by omega)
      · refine s_blx (lv' := [(0, vR 20), (1, vR 1), (2, vI lightWord), (3, vI x3)]) (st' := [vI lightWord, vI x3, vR 1, vR 20]) B79_69_73 rfl ?_
        refine r_vV (c := 20) (args := [vR 1, vI x3, vI lightWord]) (rest := []) (pc' := 76) D79_73 rfl ck_9_virtual_92 TE80 rfl (Nat.le_of_ble_eq_true rfl) ⟨Nat.le_of_ble_eq_true rfl, Nat.le_of_ble_eq_true rfl⟩ sc_20 ⟨rfl, by decide⟩ HN.1 (dp_0 hd rfl) (k80_20 E (dp_n hd rfl) HN x3 lightWord (by omega) (by omega)) ?_
        intro M48 q51
        obtain ⟨H49, f50⟩ := q51
        have f52 := fN.tr (f50.up rfl)
        refine s_blx (lv' := [(3, vI (x3 + 1)), (0, vR 20), (1, vR 1), (2, vI lightWord)]) (st' := []) B79_76_79 rfl ?_
        refine r_goto (tgt := 53) D79_79 rfl ?_
        refine r_loc (lv' := [(0, vR 20), (1, vR 1), (2, vI lightWord), (3, vI (x3 + 1))]) ⟨rfl, rfl, rfl, rfl, trivial⟩ rfl rfl ?_
        exact ih (x3 + 1) M48 H49 f52 (by omega) (by omega) (by omega)
set_option maxRecDepth 4000 in
theorem k79_20 {base : Nat} {X : Nat → Option mC} {G : Nat → Value} (E : EnvOK base X G) {d : Nat} (hd : 5 ≤ d) {M : mH} (H : HI base M) (lightWord : Int) (h0 : -2147483648 ≤ lightWord ∧ lightWord ≤ 2147483647) : sOk base X G d T79 [vR 20, vR 1, vI lightWord] M (pV (fun M' => HI base M' ∧ Fr [(20, 16), (20, 17), (20, 18), (21, 0), (22, 0), (23, 0), (24, 0), (25, 0), (26, 0), (27, 0), (28, 0), (29, 0), (30, 0), (31, 0), (32, 0), (33, 0), (34, 0), (35, 0)] M M')) := by
  have f0 : Fr [(20, 16), (20, 17), (20, 18), (21, 0), (22, 0), (23, 0), (24, 0), (25, 0), (26, 0), (27, 0), (28, 0), (29, 0), (30, 0), (31, 0), (32, 0), (33, 0), (34, 0), (35, 0)] M M := Fr.rf
  refine sOk.of (show sRn base X G d T79 0 [(0, vR 20), (1, vR 1), (2, vI lightWord)] [] M _ from ?_)
  refine s_blx (lv' := [(0, vR 20), (1, vR 1), (2, vI lightWord)]) (st' := [vR 1]) B79_0_1 rfl ?_
  refine r_gfix (r := 3) (pc' := 4) D79_1 rfl gf_9_68_1 H.1 ?_
  refine s_blx (lv' := [(0, vR 20), (1, vR 1), (2, vI lightWord)]) (st' := [vR 20, vI 0, vR 3]) B79_4_6 rfl ?_
  refine r_gfix (r := 34) (pc' := 9) D79_6 rfl gf_9_52_20 H.1 ?_
  refine s_blx (lv' := [(0, vR 20), (1, vR 1), (2, vI lightWord)]) (st' := [vI 9, vI 0, vR 34, vI 0, vR 3]) B79_9_12 rfl ?_
  refine r_acpy (pc' := 15) D79_12 rfl mc_9_static_71 sp_9_71 (Nat.le_of_ble_eq_true rfl) sc_3 sc_34 H (by omega) (fun j h0 h1 => (show 0 ≤ _ ∧ _ ≤ 1000 from by have q := H.2 3 (0 + j) 0 1000 rfl; omega)) ?_
  intro M1 u2 H3
  have f4 := f0.cp u2 (fun _ => rfl)
  refine s_blx (lv' := [(0, vR 20), (1, vR 1), (2, vI lightWord)]) (st' := [vR 1, vR 20]) B79_15_17 rfl ?_
  refine r_gint (ki := 2) (pc' := 20) D79_17 rfl gf_9_77_1 rfl H3.1 ?_
  intro w5 e6 r7
  have b_w5 := H3.2 1 (2) 0 5 rfl
  rw [← e6] at b_w5; clear r7
  refine r_pint (ki := 16) (pc' := 23) D79_20 rfl pf_9_62_20 rfl H3 (by unfold inR; omega) (show 0 ≤ w5 ∧ w5 ≤ 5 by omega) ?_
  intro M8 u9 H10 p11
  have f12 := f4.wr u9 rfl
  refine s_blx (lv' := [(0, vR 20), (1, vR 1), (2, vI lightWord)]) (st' := [vR 1, vR 20]) B79_23_25 rfl ?_
  refine r_gint (ki := 5) (pc' := 28) D79_25 rfl gf_9_78_1 rfl H10.1 ?_
  intro w13 e14 r15
  have b_w13 := H10.2 1 (5) 0 3 rfl
  rw [← e14] at b_w13; clear r15
  refine r_pint (ki := 17) (pc' := 31) D79_28 rfl pf_9_65_20 rfl H10 (by unfold inR; omega) (show 0 ≤ w13 ∧ w13 ≤ 3 by omega) ?_
  intro M16 u17 H18 p19
  have f20 := f12.wr u17 rfl
  refine s_blx (lv' := [(0, vR 20), (1, vR 1), (2, vI lightWord)]) (st' := [vR 20]) B79_31_32 rfl ?_
  refine r_gfix (r := 33) (pc' := 35) D79_32 rfl gf_9_49_20 H18.1 ?_
  refine s_blx (lv' := [(0, vR 20), (1, vR 1), (2, vI lightWord)]) (st' := [vI 0, vR 33]) B79_35_36 rfl ?_
  refine r_sV (args := [vR 33, vI 0]) (rest := []) (pc' := 39) D79_36 rfl ck_9_static_79 TE278 rfl (Nat.le_of_ble_eq_true rfl) ⟨Nat.le_of_ble_eq_true rfl, Nat.le_of_ble_eq_true rfl⟩ (by decide) (dp_0 hd rfl) (k278_33 E (dp_n hd rfl) H18 0 (by omega)) ?_
  intro M22 q25
  obtain ⟨H23, f24⟩ := q25
  have f26 := f20.tr (f24.up rfl)
  refine s_blx (lv' := [(0, vR 20), (1, vR 1), (2, vI lightWord)]) (st' := [vI 1, vR 20]) B79_39_41 rfl ?_
  refine r_pint (ki := 15) (pc' := 44) D79_41 rfl pf_9_58_20 rfl H23 (by unfold inR; omega) (show 0 ≤ 1 ∧ 1 ≤ 145 by omega) ?_
  intro M27 u28 H29 p30
  have f31 := f26.wr u28 rfl
  refine s_blx (lv' := [(0, vR 20), (1, vR 1), (2, vI lightWord)]) (st' := [vR 20]) B79_44_45 rfl ?_
  refine r_gfix (r := 21) (pc' := 48) D79_45 rfl gf_9_11_20 H29.1 ?_
  refine s_blx (lv' := [(0, vR 20), (1, vR 1), (2, vI lightWord)]) (st' := [vI (-1), vI 0, vR 21]) B79_48_50 rfl ?_
  refine r_iast (pc' := 51) D79_50 rfl sc_21 H29 (by omega) (by unfold inR; omega) (show (-1) ≤ (-1) ∧ (-1) ≤ 144 by omega) ?_
  intro M32 u33 H34 p35
  have f36 := f31.wr u33 rfl
  refine s_blx (lv' := [(3, vI 0), (0, vR 20), (1, vR 1), (2, vI lightWord)]) (st' := []) B79_51_53 rfl ?_
  refine r_loc (lv' := [(0, vR 20), (1, vR 1), (2, vI lightWord), (3, vI 0)]) ⟨rfl, rfl, rfl, rfl, trivial⟩ rfl rfl ?_
  exact (L_k79_20 E hd H lightWord h0 (((16 - 0) * 1 + 0 : Int) + 1).toNat) 0 M32 H34 f36 (by omega) (by omega) (by omega)
set_option maxRecDepth 4000 in
theorem k83_20 {base : Nat} {X : Nat → Option mC} {G : Nat → Value} (E : EnvOK base X G) {d : Nat} (hd : 1 ≤ d) {M : mH} (H : HI base M) (sentence : Int) (h0 : -2147483648 ≤ sentence ∧ sentence ≤ 2147483647) : sOk base X G d T83 [vR 20, vI sentence] M (pI (fun v M' => M' = M ∧ (-1 ≤ v ∧ v ≤ 8) ∧ (0 ≤ v → 0 ≤ sentence ∧ sentence ≤ 15))) := by
  refine sOk.of (show sRn base X G d T83 0 [(0, vR 20), (1, vI sentence)] [] M _ from ?_)
  refine s_blx (lv' := [(0, vR 20), (1, vI sentence)]) (st' := [vI 15, vI 0, vI sentence]) B83_0_4 rfl ?_
  refine r_sIp (args := [vI sentence, vI 0, vI 15]) (rest := []) (pc' := 7) D83_4 rfl ck_9_static_136 TE142 rfl (Nat.le_of_ble_eq_true rfl) ⟨Nat.le_of_ble_eq_true rfl, Nat.le_of_ble_eq_true rfl⟩ (by decide) (dp_0 hd rfl) (k142 E (dp_n hd rfl) H sentence 0 15 (by omega) (by omega) (by omega)) ?_
  intro v1 q6
  obtain ⟨q3, q4, q5⟩ := q6
  refine r_ifc (tgt := 28) (pc' := 10) D83_7 rfl rfl (by unfold inR; omega) (fun (c7 : v1 = 0) => ?_) (fun (c7 : ¬ (v1 = 0)) => ?_)
  · refine s_blx (lv' := [(0, vR 20), (1, vI sentence)]) (st' := [vI (-1)]) B83_28_29 rfl ?_
    exact r_iretI D83_29 rfl (⟨rfl, by omega, by omega⟩)
  · refine s_blx (lv' := [(0, vR 20), (1, vI sentence)]) (st' := [vR 20]) B83_10_11 rfl ?_
    refine r_gfix (r := 33) (pc' := 14) D83_11 rfl gf_9_49_20 H.1 ?_
    refine s_blx (lv' := [(0, vR 20), (1, vI sentence)]) (st' := [vI sentence, vR 33]) B83_14_15 rfl ?_
    refine r_iald (pc' := 16) D83_15 rfl sc_33 H.1 (by omega) ?_
    intro w8 e9 r10
    have b_w8 := H.2 33 (sentence) 0 8 rfl
    rw [← e9] at b_w8; clear r10
    refine r_ifc (tgt := 28) (pc' := 19) D83_16 rfl rfl (by unfold inR; omega) (fun (c11 : w8 ≤ 0) => ?_) (fun (c11 : ¬ (w8 ≤ 0)) => ?_)
    · refine s_blx (lv' := [(0, vR 20), (1, vI sentence)]) (st' := [vI (-1)]) B83_28_29 rfl ?_
      exact r_iretI D83_29 rfl (⟨rfl, by omega, by omega⟩)
    · refine s_blx (lv' := [(0, vR 20), (1, vI sentence)]) (st' := [vR 20]) B83_19_20 rfl ?_
      refine r_gfix (r := 33) (pc' := 23) D83_20 rfl gf_9_49_20 H.1 ?_
      refine s_blx (lv' := [(0, vR 20), (1, vI sentence)]) (st' := [vI sentence, vR 33]) B83_23_24 rfl ?_
      refine r_iald (pc' := 25) D83_24 rfl sc_33 H.1 (by omega) ?_
      intro w12 e13 r14
      have e15 : w8 = w12 := (e13.trans (e9.symm)).symm
      subst e15
      refine r_goto (tgt := 29) D83_25 rfl ?_
      exact r_iretI D83_29 rfl (⟨rfl, by omega, by omega⟩)
set_option maxRecDepth 4000 in
theorem k84_20 {base : Nat} {X : Nat → Option mC} {G : Nat → Value} (E : EnvOK base X G) {d : Nat} (hd : 0 ≤ d) {M : mH} (H : HI base M) (sentence : Int) (second : Int) (h0 : 0 ≤ sentence ∧ sentence ≤ 15) (h1 : 0 ≤ second ∧ second ≤ 2147483647) : sOk base X G d T84 [vR 20, vI sentence, vI second] M (pI (fun v M' => M' = M ∧ (0 ≤ v ∧ v ≤ 144))) := by
  refine sOk.of (show sRn base X G d T84 0 [(0, vR 20), (1, vI sentence), (2, vI second)] [] M _ from ?_)
  refine s_blx (lv' := [(0, vR 20), (1, vI sentence), (2, vI second)]) (st' := [vR 20]) B84_0_1 rfl ?_
  refine r_gfix (r := 32) (pc' := 4) D84_1 rfl gf_9_46_20 H.1 ?_
  refine s_blx (lv' := [(0, vR 20), (1, vI sentence), (2, vI second)]) (st' := [vR 20, vI second, vI (sentence * 9), vR 32]) B84_4_10 rfl ?_
  refine r_gfix (r := 33) (pc' := 13) D84_10 rfl gf_9_49_20 H.1 ?_
  refine s_blx (lv' := [(0, vR 20), (1, vI sentence), (2, vI second)]) (st' := [vI sentence, vR 33, vI second, vI (sentence * 9), vR 32]) B84_13_14 rfl ?_
  refine r_iald (pc' := 15) D84_14 rfl sc_33 H.1 (by omega) ?_
  intro w1 e2 r3
  have b_w1 := H.2 33 (sentence) 0 8 rfl
  rw [← e2] at b_w1; clear r3
  refine r_min (pc' := 18) D84_15 rfl mc_9_static_115 sp_9_115 (Nat.le_of_ble_eq_true rfl) (by unfold inR; omega) ?_
  intro z4 r5 r6 r7
  refine s_blx (lv' := [(0, vR 20), (1, vI sentence), (2, vI second)]) (st' := [vI ((sentence * 9) + z4), vR 32]) B84_18_19 rfl ?_
  refine r_iald (pc' := 20) D84_19 rfl sc_32 H.1 (by omega) ?_
  intro w8 e9 r10
  have b_w8 := H.2 32 ((sentence * 9) + z4) 0 144 rfl
  rw [← e9] at b_w8; clear r10
  exact r_iretI D84_20 rfl (⟨rfl, by omega⟩)
set_option maxRecDepth 4000 in
theorem k85_20 {base : Nat} {X : Nat → Option mC} {G : Nat → Value} (E : EnvOK base X G) {d : Nat} (hd : 0 ≤ d) {M : mH} (H : HI base M) (place : Int) (done : Int) (h0 : 0 ≤ place ∧ place ≤ 144) (h1 : 0 ≤ done ∧ done ≤ 2) : sOk base X G d T85 [vR 20, vI place, vI done] M (pI (fun v M' => M' = M ∧ (place * 3 ≤ v ∧ v ≤ place * 3 + 2))) := by
  refine sOk.of (show sRn base X G d T85 0 [(0, vR 20), (1, vI place), (2, vI done)] [] M _ from ?_)
  refine s_blx (lv' := [(0, vR 20), (1, vI place), (2, vI done)]) (st' := [vI (place * 3)]) B85_0_3 rfl ?_
  obtain ⟨u1, f2, g3, g4, h5, k6⟩ := E.1 5 _ rfl
  refine r_gst (pc' := 6) D85_3 rfl st_9_140 g3 ?_
  refine s_blx (lv' := [(0, vR 20), (1, vI place), (2, vI done)]) (st' := [vR 20, vA u1, vI (place * 3)]) B85_6_7 rfl ?_
  refine r_gint (ki := 16) (pc' := 10) D85_7 rfl gf_9_62_20 rfl H.1 ?_
  intro w7 e8 r9
  have b_w7 := H.2 20 (16) 0 5 rfl
  rw [← e8] at b_w7; clear r9
  refine s_blx (lv' := [(0, vR 20), (1, vI place), (2, vI done)]) (st' := [vI ((w7 * 3) + done), vA u1, vI (place * 3)]) B85_10_14 rfl ?_
  refine r_ialdT (pc' := 15) D85_14 rfl h5 g4 k6 (by first | omega | (show _ ∧ _ ∧ _; simp only [List.length]; omega)) ?_
  intro w10 e11 r12
  have b_w10 := tb_5 ((w7 * 3) + done).toNat (by omega)
  rw [← e11] at b_w10; clear r12
  refine s_blx (lv' := [(0, vR 20), (1, vI place), (2, vI done)]) (st' := [vI ((place * 3) + w10)]) B85_15_16 rfl ?_
  exact r_iretI D85_16 rfl (⟨rfl, by omega⟩)
set_option maxRecDepth 4000 in
theorem k90_20 {base : Nat} {X : Nat → Option mC} {G : Nat → Value} (E : EnvOK base X G) {d : Nat} (hd : 0 ≤ d) {M : mH} (H : HI base M) (place : Int) (done : Int) (h0 : 0 ≤ place ∧ place ≤ 144) (h1 : 0 ≤ done ∧ done ≤ 3) : sOk base X G d T90 [vR 20, vI place, vI done] M (pI (fun v M' => M' = M ∧ (-2147483648 ≤ v ∧ v ≤ 2147483647))) := by
  refine sOk.of (show sRn base X G d T90 0 [(0, vR 20), (1, vI place), (2, vI done)] [] M _ from ?_)
  refine s_blx (lv' := [(0, vR 20), (1, vI place), (2, vI done)]) (st' := [vR 20]) B90_0_1 rfl ?_
  refine r_gfix (r := 24) (pc' := 4) D90_1 rfl gf_9_21_20 H.1 ?_
  refine s_blx (lv' := [(0, vR 20), (1, vI place), (2, vI done)]) (st' := [vI place, vR 24]) B90_4_5 rfl ?_
  refine r_iald (pc' := 6) D90_5 rfl sc_24 H.1 (by omega) ?_
  intro w1 e2 r3
  unfold inR at r3
  refine s_blx (lv' := [(0, vR 20), (1, vI place), (2, vI done)]) (st' := [vR 20, vI w1]) B90_6_7 rfl ?_
  refine r_gfix (r := 34) (pc' := 10) D90_7 rfl gf_9_52_20 H.1 ?_
  refine s_blx (lv' := [(0, vR 20), (1, vI place), (2, vI done)]) (st' := [vI 1, vR 34, vI w1]) B90_10_11 rfl ?_
  refine r_iald (pc' := 12) D90_11 rfl sc_34 H.1 (by omega) ?_
  intro w4 e5 r6
  have b_w4 := H.2 34 (1) 0 1000 rfl
  rw [← e5] at b_w4; clear r6
  refine s_blx (lv' := [(0, vR 20), (1, vI place), (2, vI done)]) (st' := [vI 0, vI (w1 - (w4 * done))]) B90_12_16 rfl ?_
  refine r_norm2 ?_
  intro z7 r8 _; unfold inR at r8
  refine r_max (pc' := 19) D90_16 rfl mc_9_static_174 sp_9_174 (Nat.le_of_ble_eq_true rfl) (by unfold inR; omega) ?_
  intro z9 r10 r11 r12
  exact r_iretI D90_19 rfl (⟨rfl, by omega⟩)
set_option maxRecDepth 4000 in
theorem L_k91_20 {base : Nat} {X : Nat → Option mC} {G : Nat → Value} (E : EnvOK base X G) {d : Nat} (hd : 0 ≤ d) {M : mH} (H : HI base M) : ∀ mz : Nat, (∀ (x1 : Int), (1 ≤ x1) → (x1 ≤ 145) → (145 - x1) * 1 + 0 < (mz : Int) → sRn base X G d T91 2 [(0, vR 20), (1, vI x1)] [] M (s_Q base (pI (fun v M' => M' = M ∧ (v = 0 ∨ v = 1))))) := by
  intro mz
  induction mz with
  | zero => exact fun x1 z0 z1 z2 => by omega
  | succ mz ih =>
    intro x1 i0 i1 hmu
    refine s_blx (lv' := [(0, vR 20), (1, vI x1)]) (st' := [vR 20, vI x1]) B91_2_4 rfl ?_
    refine r_gint (ki := 15) (pc' := 7) D91_4 rfl gf_9_58_20 rfl H.1 ?_
    intro w1 e2 r3
    have b_w1 := H.2 20 (15) 0 145 rfl
    rw [← e2] at b_w1; clear r3
    refine r_icmp (tgt := 42) (pc' := 10) D91_7 rfl rfl (by unfold inR; omega) (fun (c4 : w1 ≤ x1) => ?_) (fun (c4 : ¬ (w1 ≤ x1)) => ?_)
    · refine s_blx (lv' := [(0, vR 20), (1, vI x1)]) (st' := [vI 0]) B91_42_43 rfl ?_
      exact r_zretI D91_43 rfl (by omega) (⟨rfl, by omega⟩)
    · refine s_blx (lv' := [(0, vR 20), (1, vI x1)]) (st' := [vR 20]) B91_10_11 rfl ?_
      refine r_gfix (r := 34) (pc' := 14) D91_11 rfl gf_9_52_20 H.1 ?_
      refine s_blx (lv' := [(0, vR 20), (1, vI x1)]) (st' := [vI 2, vR 34]) B91_14_15 rfl ?_
      refine r_iald (pc' := 16) D91_15 rfl sc_34 H.1 (by omega) ?_
      intro w5 e6 r7
      have b_w5 := H.2 34 (2) 0 1000 rfl
      rw [← e6] at b_w5; clear r7
      refine r_ifc (tgt := 36) (pc' := 19) D91_16 rfl rfl (by unfold inR; omega) (fun (c8 : w5 ≤ 0) => ?_) (fun (c8 : ¬ (w5 ≤ 0)) => ?_)
      · refine s_blx (lv' := [(1, vI (x1 + 1)), (0, vR 20)]) (st' := []) B91_36_39 rfl ?_
        refine r_goto (tgt := 2) D91_39 rfl ?_
        refine r_loc (lv' := [(0, vR 20), (1, vI (x1 + 1))]) ⟨rfl, rfl, trivial⟩ rfl rfl ?_
        exact ih (x1 + 1) (by omega) (by omega) (by omega)
      · refine s_blx (lv' := [(0, vR 20), (1, vI x1)]) (st' := [vR 20]) B91_19_20 rfl ?_
        refine r_gfix (r := 24) (pc' := 23) D91_20 rfl gf_9_21_20 H.1 ?_
        refine s_blx (lv' := [(0, vR 20), (1, vI x1)]) (st' := [vI x1, vR 24]) B91_23_24 rfl ?_
        refine r_iald (pc' := 25) D91_24 rfl sc_24 H.1 (by omega) ?_
        intro w9 e10 r11
        unfold inR at r11
        refine s_blx (lv' := [(0, vR 20), (1, vI x1)]) (st' := [vR 20, vI w9]) B91_25_26 rfl ?_
        refine r_gfix (r := 34) (pc' := 29) D91_26 rfl gf_9_52_20 H.1 ?_
        refine s_blx (lv' := [(0, vR 20), (1, vI x1)]) (st' := [vI 0, vR 34, vI w9]) B91_29_30 rfl ?_
        refine r_iald (pc' := 31) D91_30 rfl sc_34 H.1 (by omega) ?_
        intro w12 e13 r14
        have b_w12 := H.2 34 (0) 0 1000 rfl
        rw [← e13] at b_w12; clear r14
        refine r_icmp (tgt := 36) (pc' := 34) D91_31 rfl rfl (by unfold inR; omega) (fun (c15 : w9 ≤ w12) => ?_) (fun (c15 : ¬ (w9 ≤ w12)) => ?_)
        · refine s_blx (lv' := [(1, vI (x1 + 1)), (0, vR 20)]) (st' := []) B91_36_39 rfl ?_
          refine r_goto (tgt := 2) D91_39 rfl ?_
          refine r_loc (lv' := [(0, vR 20), (1, vI (x1 + 1))]) ⟨rfl, rfl, trivial⟩ rfl rfl ?_
          exact ih (x1 + 1) (by omega) (by omega) (by omega)
        · refine s_blx (lv' := [(0, vR 20), (1, vI x1)]) (st' := [vI 1]) B91_34_35 rfl ?_
          exact r_zretI D91_35 rfl (by omega) (⟨rfl, by omega⟩)
set_option maxRecDepth 4000 in
theorem k91_20 {base : Nat} {X : Nat → Option mC} {G : Nat → Value} (E : EnvOK base X G) {d : Nat} (hd : 0 ≤ d) {M : mH} (H : HI base M) : sOk base X G d T91 [vR 20] M (pI (fun v M' => M' = M ∧ (v = 0 ∨ v = 1))) := by
  refine sOk.of (show sRn base X G d T91 0 [(0, vR 20)] [] M _ from ?_)
  refine s_blx (lv' := [(1, vI 1), (0, vR 20)]) (st' := []) B91_0_2 rfl ?_
  refine r_loc (lv' := [(0, vR 20), (1, vI 1)]) ⟨rfl, rfl, trivial⟩ rfl rfl ?_
  exact (L_k91_20 E hd H (((145 - 1) * 1 + 0 : Int) + 1).toNat) 1 (by omega) (by omega) (by omega)
set_option maxRecDepth 4000 in
theorem k92_20 {base : Nat} {X : Nat → Option mC} {G : Nat → Value} (E : EnvOK base X G) {d : Nat} (hd : 1 ≤ d) {M : mH} (H : HI base M) (place : Int) (done : Int) (h0 : 0 ≤ place ∧ place ≤ 144) (h1 : 0 ≤ done ∧ done ≤ 3) : sOk base X G d T92 [vR 20, vI place, vI done] M (pI (fun v M' => M' = M ∧ (-2147483648 ≤ v ∧ v ≤ 2147483647))) := by
  refine sOk.of (show sRn base X G d T92 0 [(0, vR 20), (1, vI place), (2, vI done)] [] M _ from ?_)
  refine s_blx (lv' := [(0, vR 20), (1, vI place), (2, vI done)]) (st' := [vI done, vI place, vR 20]) B92_0_3 rfl ?_
  refine r_vIp (c := 20) (args := [vI place, vI done]) (rest := []) (pc' := 6) D92_3 rfl ck_9_virtual_177 TE90 rfl (Nat.le_of_ble_eq_true rfl) ⟨Nat.le_of_ble_eq_true rfl, Nat.le_of_ble_eq_true rfl⟩ sc_20 ⟨rfl, by decide⟩ H.1 (dp_0 hd rfl) (k90_20 E (dp_n hd rfl) H place done (by omega) (by omega)) ?_
  intro v1 q4
  have q3 := q4; clear q4
  refine s_blx (lv' := [(0, vR 20), (1, vI place), (2, vI done)]) (st' := [vR 20, vI v1]) B92_6_7 rfl ?_
  refine r_gfix (r := 34) (pc' := 10) D92_7 rfl gf_9_52_20 H.1 ?_
  refine s_blx (lv' := [(0, vR 20), (1, vI place), (2, vI done)]) (st' := [vI 0, vR 34, vI v1]) B92_10_11 rfl ?_
  refine r_iald (pc' := 12) D92_11 rfl sc_34 H.1 (by omega) ?_
  intro w5 e6 r7
  have b_w5 := H.2 34 (0) 0 1000 rfl
  rw [← e6] at b_w5; clear r7
  refine s_blx (lv' := [(0, vR 20), (1, vI place), (2, vI done)]) (st' := [vI 0, vI (v1 - w5)]) B92_12_14 rfl ?_
  refine r_norm2 ?_
  intro z8 r9 _; unfold inR at r9
  refine r_max (pc' := 17) D92_14 rfl mc_9_static_174 sp_9_174 (Nat.le_of_ble_eq_true rfl) (by unfold inR; omega) ?_
  intro z10 r11 r12 r13
  refine s_blx (lv' := [(3, vI z10), (0, vR 20), (1, vI place), (2, vI done)]) (st' := [vR 20]) B92_17_19 rfl ?_
  refine r_gfix (r := 34) (pc' := 22) D92_19 rfl gf_9_52_20 H.1 ?_
  refine s_blx (lv' := [(3, vI z10), (0, vR 20), (1, vI place), (2, vI done)]) (st' := [vI 2, vR 34]) B92_22_23 rfl ?_
  refine r_iald (pc' := 24) D92_23 rfl sc_34 H.1 (by omega) ?_
  intro w14 e15 r16
  have b_w14 := H.2 34 (2) 0 1000 rfl
  rw [← e15] at b_w14; clear r16
  refine s_blx (lv' := [(3, vI z10), (0, vR 20), (1, vI place), (2, vI done)]) (st' := [vR 20, vI (w14 * z10)]) B92_24_27 rfl ?_
  refine r_gfix (r := 25) (pc' := 30) D92_27 rfl gf_9_24_20 H.1 ?_
  refine s_blx (lv' := [(3, vI z10), (0, vR 20), (1, vI place), (2, vI done)]) (st' := [vI place, vR 25, vI (w14 * z10)]) B92_30_31 rfl ?_
  refine r_bald (pc' := 32) D92_31 rfl sc_25 (by decide) H.1 (by omega) ?_
  intro w17 e18 r19
  have b_w17 := H.2 25 (place) 0 1 rfl
  rw [← e18] at b_w17; clear r19
  refine r_ifc (tgt := 44) (pc' := 35) D92_32 rfl rfl (by unfold inR; omega) (fun (c20 : w17 = 0) => ?_) (fun (c20 : ¬ (w17 = 0)) => ?_)
  · refine s_blx (lv' := [(3, vI z10), (0, vR 20), (1, vI place), (2, vI done)]) (st' := [vI ((w14 * z10) + 0)]) B92_44_46 rfl ?_
    refine r_norm ?_
    intro z21 r22 _; unfold inR at r22
    exact r_iretI D92_46 rfl (⟨rfl, by omega⟩)
  · refine s_blx (lv' := [(3, vI z10), (0, vR 20), (1, vI place), (2, vI done)]) (st' := [vR 20, vI (w14 * z10)]) B92_35_36 rfl ?_
    refine r_gfix (r := 34) (pc' := 39) D92_36 rfl gf_9_52_20 H.1 ?_
    refine s_blx (lv' := [(3, vI z10), (0, vR 20), (1, vI place), (2, vI done)]) (st' := [vI 3, vR 34, vI (w14 * z10)]) B92_39_40 rfl ?_
    refine r_iald (pc' := 41) D92_40 rfl sc_34 H.1 (by omega) ?_
    intro w23 e24 r25
    have b_w23 := H.2 34 (3) 0 1000 rfl
    rw [← e24] at b_w23; clear r25
    refine r_goto (tgt := 45) D92_41 rfl ?_
    refine s_blx (lv' := [(3, vI z10), (0, vR 20), (1, vI place), (2, vI done)]) (st' := [vI ((w14 * z10) + w23)]) B92_45_46 rfl ?_
    refine r_norm ?_
    intro z26 r27 _; unfold inR at r27
    exact r_iretI D92_46 rfl (⟨rfl, by omega⟩)
set_option maxRecDepth 4000 in
theorem L_k82_39 {base : Nat} {X : Nat → Option mC} {G : Nat → Value} (E : EnvOK base X G) {d : Nat} (hd : 2 ≤ d) {M : mH} (H : HI base M) (place : Int) (comes : Int) (h0 : 0 ≤ place ∧ place ≤ 144) (h1 : -2147483648 ≤ comes ∧ comes ≤ 2147483647) : ∀ mz : Nat, (∀ (x4 : Int) (N : mH), HI base N → Fr [(42, 0), (46, 0), (47, 0), (48, 0), (49, 0), (50, 0), (54, 0)] M N → (0 ≤ x4) → (x4 ≤ 3) → (3 - x4) * 10 + 9 < (mz : Int) → sRn base X G d T82 14 [(0, vR 39), (1, vR 1), (2, vI place), (3, vI comes), (4, vI x4)] [] N (s_Q base (pV (fun M' => HI base M' ∧ Fr [(42, 0), (46, 0), (47, 0), (48, 0), (49, 0), (50, 0), (54, 0)] M M')))) ∧ (∀ (x4 x5 x6 x7 x8 : Int) (N : mH), HI base N → Fr [(42, 0), (46, 0), (47, 0), (48, 0), (49, 0), (50, 0), (54, 0)] M N → (0 ≤ x4) → (x4 ≤ 2) → (0 ≤ x5) → (x5 ≤ 434) → ((-2147483648) ≤ x6) → (x6 ≤ 2147483647) → (0 ≤ x7) → (x7 ≤ 7) → (0 ≤ x8) → (x8 ≤ 8) → (3 - x4) * 10 + 0 + (8 - x8) * 1 + 0 < (mz : Int) → sRn base X G d T82 48 [(0, vR 39), (1, vR 1), (2, vI place), (3, vI comes), (4, vI x4), (5, vI x5), (6, vI x6), (7, vI x7), (8, vI x8)] [] N (s_Q base (pV (fun M' => HI base M' ∧ Fr [(42, 0), (46, 0), (47, 0), (48, 0), (49, 0), (50, 0), (54, 0)] M M')))) := by
  have f0 : Fr [(42, 0), (46, 0), (47, 0), (48, 0), (49, 0), (50, 0), (54, 0)] M M := Fr.rf
  intro mz
  induction mz with
  | zero => exact ⟨fun x4 N _ _ z0 z1 z2 => by omega, fun x4 x5 x6 x7 x8 N _ _ z0 z1 z2 z3 z4 z5 z6 z7 z8 z9 z10 => by omega⟩
  | succ mz ih =>
    refine ⟨?_, ?_⟩
    · intro x4 N HN fN i0 i1 hmu
      refine s_blx (lv' := [(0, vR 39), (1, vR 1), (2, vI place), (3, vI comes), (4, vI x4)]) (st' := [vI 3, vI x4]) B82_14_17 rfl ?_
      refine r_icmp (tgt := 208) (pc' := 20) D82_17 rfl rfl (by unfold inR; omega) (fun (c10 : 3 ≤ x4) => ?_) (fun (c10 : ¬ (3 ≤ x4)) => ?_)
      · exact r_retV D82_208 rfl (⟨HN, fN⟩)
      · refine s_blx (lv' := [(5, vI ((place * 3) + x4)), (0, vR 39), (1, vR 1), (2, vI place), (3, vI comes), (4, vI x4)]) (st' := [vR 39, vI x4, vI comes, vR 1]) B82_20_33 rfl ?_
        refine r_gfix (r := 54) (pc' := 36) D82_33 rfl gf_9_55_39 HN.1 ?_
        refine r_vV (c := 1) (args := [vI comes, vI x4, vR 54]) (rest := []) (pc' := 39) D82_36 rfl ck_9_virtual_126 TE75 rfl (Nat.le_of_ble_eq_true rfl) ⟨Nat.le_of_ble_eq_true rfl, Nat.le_of_ble_eq_true rfl⟩ sc_1 ⟨rfl, by decide⟩ HN.1 (dp_0 hd rfl) (k75_1_54 E (dp_n hd rfl) HN comes x4 (by omega) (by omega)) ?_
        intro M12 q15
        obtain ⟨H13, f14⟩ := q15
        have f16 := fN.tr (f14.up rfl)
        refine s_blx (lv' := [(8, vI 0), (7, vI 0), (6, vI 0), (5, vI ((place * 3) + x4)), (0, vR 39), (1, vR 1), (2, vI place), (3, vI comes), (4, vI x4)]) (st' := []) B82_39_48 rfl ?_
        refine r_loc (lv' := [(0, vR 39), (1, vR 1), (2, vI place), (3, vI comes), (4, vI x4), (5, vI ((place * 3) + x4)), (6, vI 0), (7, vI 0), (8, vI 0)]) ⟨rfl, rfl, rfl, rfl, rfl, rfl, rfl, rfl, rfl, trivial⟩ rfl rfl ?_
        exact ih.2 x4 ((place * 3) + x4) 0 0 0 M12 H13 f16 (by omega) (by omega) (by omega) (by omega) (by omega) (by omega) (by omega) (by omega) (by omega) (by omega) (by omega)
    · intro x4 x5 x6 x7 x8 N HN fN i0 i1 i2 i3 i4 i5 i6 i7 i8 i9 hmu
      refine s_blx (lv' := [(0, vR 39), (1, vR 1), (2, vI place), (3, vI comes), (4, vI x4), (5, vI x5), (6, vI x6), (7, vI x7), (8, vI x8)]) (st' := [vI 8, vI x8]) B82_48_52 rfl ?_
      refine r_icmp (tgt := 110) (pc' := 55) D82_52 rfl rfl (by unfold inR; omega) (fun (c17 : 8 ≤ x8) => ?_) (fun (c17 : ¬ (8 ≤ x8)) => ?_)
      · refine s_blx (lv' := [(0, vR 39), (1, vR 1), (2, vI place), (3, vI comes), (4, vI x4), (5, vI x5), (6, vI x6), (7, vI x7), (8, vI x8)]) (st' := [vR 39]) B82_110_111 rfl ?_
        refine r_gfix (r := 46) (pc' := 114) D82_111 rfl gf_9_31_39 HN.1 ?_
        refine s_blx (lv' := [(0, vR 39), (1, vR 1), (2, vI place), (3, vI comes), (4, vI x4), (5, vI x5), (6, vI x6), (7, vI x7), (8, vI x8)]) (st' := [vI x6, vI x5, vR 46]) B82_114_118 rfl ?_
        refine r_iast (pc' := 119) D82_118 rfl sc_46 HN (by omega) (by unfold inR; omega) trivial ?_
        intro M18 u19 H20 p21
        have f22 := fN.wr u19 rfl
        refine s_blx (lv' := [(0, vR 39), (1, vR 1), (2, vI place), (3, vI comes), (4, vI x4), (5, vI x5), (6, vI x6), (7, vI x7), (8, vI x8)]) (st' := [vR 39]) B82_119_120 rfl ?_
        refine r_gfix (r := 48) (pc' := 123) D82_120 rfl gf_9_37_39 H20.1 ?_
        refine s_blx (lv' := [(0, vR 39), (1, vR 1), (2, vI place), (3, vI comes), (4, vI x4), (5, vI x5), (6, vI x6), (7, vI x7), (8, vI x8)]) (st' := [vI x7, vI x5, vR 48]) B82_123_127 rfl ?_
        refine r_iast (pc' := 128) D82_127 rfl sc_48 H20 (by omega) (by unfold inR; omega) (show 0 ≤ x7 ∧ x7 ≤ 7 by omega) ?_
        intro M23 u24 H25 p26
        have f27 := f22.wr u24 rfl
        refine s_blx (lv' := [(0, vR 39), (1, vR 1), (2, vI place), (3, vI comes), (4, vI x4), (5, vI x5), (6, vI x6), (7, vI x7), (8, vI x8)]) (st' := [vR 39]) B82_128_129 rfl ?_
        refine r_gfix (r := 49) (pc' := 132) D82_129 rfl gf_9_40_39 H25.1 ?_
        refine s_blx (lv' := [(0, vR 39), (1, vR 1), (2, vI place), (3, vI comes), (4, vI x4), (5, vI x5), (6, vI x6), (7, vI x7), (8, vI x8)]) (st' := [vR 39, vI x5, vR 49]) B82_132_135 rfl ?_
        refine r_gfix (r := 54) (pc' := 138) D82_135 rfl gf_9_55_39 H25.1 ?_
        refine s_blx (lv' := [(0, vR 39), (1, vR 1), (2, vI place), (3, vI comes), (4, vI x4), (5, vI x5), (6, vI x6), (7, vI x7), (8, vI x8)]) (st' := [vI x7, vR 54, vI x5, vR 49]) B82_138_140 rfl ?_
        refine r_iald (pc' := 141) D82_140 rfl sc_54 H25.1 (by omega) ?_
        intro w28 e29 r30
        unfold inR at r30
        refine r_iast (pc' := 142) D82_141 rfl sc_49 H25 (by omega) (by unfold inR; omega) trivial ?_
        intro M31 u32 H33 p34
        have f35 := f27.wr u32 rfl
        refine s_blx (lv' := [(0, vR 39), (1, vR 1), (2, vI place), (3, vI comes), (4, vI x4), (5, vI x5), (6, vI x6), (7, vI x7), (8, vI x8)]) (st' := [vR 39]) B82_142_143 rfl ?_
        refine r_gfix (r := 47) (pc' := 146) D82_143 rfl gf_9_34_39 H33.1 ?_
        refine s_blx (lv' := [(0, vR 39), (1, vR 1), (2, vI place), (3, vI comes), (4, vI x4), (5, vI x5), (6, vI x6), (7, vI x7), (8, vI x8)]) (st' := [vI x7, vI 1, vI x6, vI x5, vR 47]) B82_146_153 rfl ?_
        refine r_bin (pc' := 154) D82_153 rfl rfl ?_
        intro z36 r37 _; unfold inR at r37
        refine r_icmp (tgt := 162) (pc' := 157) D82_154 rfl rfl (by unfold inR; omega) (fun (c38 : x6 ≠ z36) => ?_) (fun (c38 : ¬ (x6 ≠ z36)) => ?_)
        · refine s_blx (lv' := [(0, vR 39), (1, vR 1), (2, vI place), (3, vI comes), (4, vI x4), (5, vI x5), (6, vI x6), (7, vI x7), (8, vI x8)]) (st' := [vI (-1), vI x5, vR 47]) B82_162_163 rfl ?_
          refine r_iast (pc' := 164) D82_163 rfl sc_47 H33 (by omega) (by unfold inR; omega) (show (-1) ≤ (-1) ∧ (-1) ≤ 7 by omega) ?_
          intro M39 u40 H41 p42
          have f43 := f35.wr u40 rfl
          refine s_blx (lv' := [(0, vR 39), (1, vR 1), (2, vI place), (3, vI comes), (4, vI x4), (5, vI x5), (6, vI x6), (7, vI x7), (8, vI x8)]) (st' := [vI x6, vI x4, vR 1]) B82_164_169 rfl ?_
          refine r_vIp (c := 1) (args := [vI x4, vI x6]) (rest := []) (pc' := 172) D82_169 rfl ck_9_virtual_130 TE77 rfl (Nat.le_of_ble_eq_true rfl) ⟨Nat.le_of_ble_eq_true rfl, Nat.le_of_ble_eq_true rfl⟩ sc_1 ⟨rfl, by decide⟩ H41.1 (dp_0 hd rfl) (k77_1 E (dp_n hd rfl) H41 x4 x6 (by omega) (by omega)) ?_
          intro v44 q47
          have q46 := q47; clear q47
          refine s_blx (lv' := [(8, vI v44), (0, vR 39), (1, vR 1), (2, vI place), (3, vI comes), (4, vI x4), (5, vI x5), (6, vI x6), (7, vI x7)]) (st' := [vR 39]) B82_172_175 rfl ?_
          refine r_gfix (r := 50) (pc' := 178) D82_175 rfl gf_9_43_39 H41.1 ?_
          refine s_blx (lv' := [(8, vI v44), (0, vR 39), (1, vR 1), (2, vI place), (3, vI comes), (4, vI x4), (5, vI x5), (6, vI x6), (7, vI x7)]) (st' := [vI (-1), vI v44, vI x5, vR 50]) B82_178_183 rfl ?_
          refine r_icmp (tgt := 190) (pc' := 186) D82_183 rfl rfl (by unfold inR; omega) (fun (c48 : v44 ≠ (-1)) => ?_) (fun (c48 : ¬ (v44 ≠ (-1))) => ?_)
          · refine s_blx (lv' := [(8, vI v44), (0, vR 39), (1, vR 1), (2, vI place), (3, vI comes), (4, vI x4), (5, vI x5), (6, vI x6), (7, vI x7)]) (st' := [vR 1, vI x5, vR 50]) B82_190_191 rfl ?_
            refine r_gfix (r := 4) (pc' := 194) D82_191 rfl gf_9_133_1 H41.1 ?_
            refine s_blx (lv' := [(8, vI v44), (0, vR 39), (1, vR 1), (2, vI place), (3, vI comes), (4, vI x4), (5, vI x5), (6, vI x6), (7, vI x7)]) (st' := [vI ((v44 * 3) + 2), vR 4, vI x5, vR 50]) B82_194_200 rfl ?_
            refine r_iald (pc' := 201) D82_200 rfl sc_4 H41.1 (by omega) ?_
            intro w49 e50 r51
            have b_w49 := H41.2 4 ((v44 * 3) + 2) 0 255 rfl
            rw [← e50] at b_w49; clear r51
            refine r_iast (pc' := 202) D82_201 rfl sc_50 H41 (by omega) (by unfold inR; omega) trivial ?_
            intro M52 u53 H54 p55
            have f56 := f43.wr u53 rfl
            refine s_blx (lv' := [(4, vI (x4 + 1)), (8, vI v44), (0, vR 39), (1, vR 1), (2, vI place), (3, vI comes), (5, vI x5), (6, vI x6), (7, vI x7)]) (st' := []) B82_202_205 rfl ?_
            refine r_goto (tgt := 14) D82_205 rfl ?_
            refine r_loc (lv' := [(0, vR 39), (1, vR 1), (2, vI place), (3, vI comes), (4, vI (x4 + 1))]) ⟨rfl, rfl, rfl, rfl, rfl, trivial⟩ rfl rfl ?_
            exact ih.1 (x4 + 1) M52 H54 f56 (by omega) (by omega) (by omega)
          · refine s_blx (lv' := [(8, vI v44), (0, vR 39), (1, vR 1), (2, vI place), (3, vI comes), (4, vI x4), (5, vI x5), (6, vI x6), (7, vI x7)]) (st' := [vI 0, vI x5, vR 50]) B82_186_187 rfl ?_
            refine r_goto (tgt := 201) D82_187 rfl ?_
            refine r_iast (pc' := 202) D82_201 rfl sc_50 H41 (by omega) (by unfold inR; omega) trivial ?_
            intro M57 u58 H59 p60
            have f61 := f43.wr u58 rfl
            refine s_blx (lv' := [(4, vI (x4 + 1)), (8, vI v44), (0, vR 39), (1, vR 1), (2, vI place), (3, vI comes), (5, vI x5), (6, vI x6), (7, vI x7)]) (st' := []) B82_202_205 rfl ?_
            refine r_goto (tgt := 14) D82_205 rfl ?_
            refine r_loc (lv' := [(0, vR 39), (1, vR 1), (2, vI place), (3, vI comes), (4, vI (x4 + 1))]) ⟨rfl, rfl, rfl, rfl, rfl, trivial⟩ rfl rfl ?_
            exact ih.1 (x4 + 1) M57 H59 f61 (by omega) (by omega) (by omega)
        · refine s_blx (lv' := [(0, vR 39), (1, vR 1), (2, vI place), (3, vI comes), (4, vI x4), (5, vI x5), (6, vI x6), (7, vI x7), (8, vI x8)]) (st' := [vI x7, vI x5, vR 47]) B82_157_159 rfl ?_
          refine r_goto (tgt := 163) D82_159 rfl ?_
          refine r_iast (pc' := 164) D82_163 rfl sc_47 H33 (by omega) (by unfold inR; omega) (show (-1) ≤ x7 ∧ x7 ≤ 7 by omega) ?_
          intro M62 u63 H64 p65
          have f66 := f35.wr u63 rfl
          refine s_blx (lv' := [(0, vR 39), (1, vR 1), (2, vI place), (3, vI comes), (4, vI x4), (5, vI x5), (6, vI x6), (7, vI x7), (8, vI x8)]) (st' := [vI x6, vI x4, vR 1]) B82_164_169 rfl ?_
          refine r_vIp (c := 1) (args := [vI x4, vI x6]) (rest := []) (pc' := 172) D82_169 rfl ck_9_virtual_130 TE77 rfl (Nat.le_of_ble_eq_true rfl) ⟨Nat.le_of_ble_eq_true rfl, Nat.le_of_ble_eq_true rfl⟩ sc_1 ⟨rfl, by decide⟩ H64.1 (dp_0 hd rfl) (k77_1 E (dp_n hd rfl) H64 x4 x6 (by omega) (by omega)) ?_
          intro v67 q70
          have q69 := q70; clear q70
          refine s_blx (lv' := [(8, vI v67), (0, vR 39), (1, vR 1), (2, vI place), (3, vI comes), (4, vI x4), (5, vI x5), (6, vI x6), (7, vI x7)]) (st' := [vR 39]) B82_172_175 rfl ?_
          refine r_gfix (r := 50) (pc' := 178) D82_175 rfl gf_9_43_39 H64.1 ?_
          refine s_blx (lv' := [(8, vI v67), (0, vR 39), (1, vR 1), (2, vI place), (3, vI comes), (4, vI x4), (5, vI x5), (6, vI x6), (7, vI x7)]) (st' := [vI (-1), vI v67, vI x5, vR 50]) B82_178_183 rfl ?_
          refine r_icmp (tgt := 190) (pc' := 186) D82_183 rfl rfl (by unfold inR; omega) (fun (c71 : v67 ≠ (-1)) => ?_) (fun (c71 : ¬ (v67 ≠ (-1))) => ?_)
          · refine s_blx (lv' := [(8, vI v67), (0, vR 39), (1, vR 1), (2, vI place), (3, vI comes), (4, vI x4), (5, vI x5), (6, vI x6), (7, vI x7)]) (st' := [vR 1, vI x5, vR 50]) B82_190_191 rfl ?_
            refine r_gfix (r := 4) (pc' := 194) D82_191 rfl gf_9_133_1 H64.1 ?_
            refine s_blx (lv' := [(8, vI v67), (0, vR 39), (1, vR 1), (2, vI place), (3, vI comes), (4, vI x4), (5, vI x5), (6, vI x6), (7, vI x7)]) (st' := [vI ((v67 * 3) + 2), vR 4, vI x5, vR 50]) B82_194_200 rfl ?_
            refine r_iald (pc' := 201) D82_200 rfl sc_4 H64.1 (by omega) ?_
            intro w72 e73 r74
            have b_w72 := H64.2 4 ((v67 * 3) + 2) 0 255 rfl
            rw [← e73] at b_w72; clear r74
            refine r_iast (pc' := 202) D82_201 rfl sc_50 H64 (by omega) (by unfold inR; omega) trivial ?_
            intro M75 u76 H77 p78
            have f79 := f66.wr u76 rfl
            refine s_blx (lv' := [(4, vI (x4 + 1)), (8, vI v67), (0, vR 39), (1, vR 1), (2, vI place), (3, vI comes), (5, vI x5), (6, vI x6), (7, vI x7)]) (st' := []) B82_202_205 rfl ?_
            refine r_goto (tgt := 14) D82_205 rfl ?_
            refine r_loc (lv' := [(0, vR 39), (1, vR 1), (2, vI place), (3, vI comes), (4, vI (x4 + 1))]) ⟨rfl, rfl, rfl, rfl, rfl, trivial⟩ rfl rfl ?_
            exact ih.1 (x4 + 1) M75 H77 f79 (by omega) (by omega) (by omega)
          · refine s_blx (lv' := [(8, vI v67), (0, vR 39), (1, vR 1), (2, vI place), (3, vI comes), (4, vI x4), (5, vI x5), (6, vI x6), (7, vI x7)]) (st' := [vI 0, vI x5, vR 50]) B82_186_187 rfl ?_
            refine r_goto (tgt := 201) D82_187 rfl ?_
            refine r_iast (pc' := 202) D82_201 rfl sc_50 H64 (by omega) (by unfold inR; omega) trivial ?_
            intro M80 u81 H82 p83
            have f84 := f66.wr u81 rfl
            refine s_blx (lv' := [(4, vI (x4 + 1)), (8, vI v67), (0, vR 39), (1, vR 1), (2, vI place), (3, vI comes), (5, vI x5), (6, vI x6), (7, vI x7)]) (st' := []) B82_202_205 rfl ?_
            refine r_goto (tgt := 14) D82_205 rfl ?_
            refine r_loc (lv' := [(0, vR 39), (1, vR 1), (2, vI place), (3, vI comes), (4, vI (x4 + 1))]) ⟨rfl, rfl, rfl, rfl, rfl, trivial⟩ rfl rfl ?_
            exact ih.1 (x4 + 1) M80 H82 f84 (by omega) (by omega) (by omega)
      · refine s_blx (lv' := [(0, vR 39), (1, vR 1), (2, vI place), (3, vI comes), (4, vI x4), (5, vI x5), (6, vI x6), (7, vI x7), (8, vI x8)]) (st' := [vR 39, vI x6]) B82_55_58 rfl ?_
        refine r_gfix (r := 54) (pc' := 61) D82_58 rfl gf_9_55_39 HN.1 ?_
        refine s_blx (lv' := [(0, vR 39), (1, vR 1), (2, vI place), (3, vI comes), (4, vI x4), (5, vI x5), (6, vI x6), (7, vI x7), (8, vI x8)]) (st' := [vI x8, vR 54, vI x6]) B82_61_63 rfl ?_
        refine r_iald (pc' := 64) D82_63 rfl sc_54 HN.1 (by omega) ?_
        intro w85 e86 r87
        unfold inR at r87
        refine r_ifc (tgt := 74) (pc' := 67) D82_64 rfl rfl (by unfold inR; omega) (fun (c88 : w85 ≤ 0) => ?_) (fun (c88 : ¬ (w85 ≤ 0)) => ?_)
        · refine s_blx (lv' := [(0, vR 39), (1, vR 1), (2, vI place), (3, vI comes), (4, vI x4), (5, vI x5), (6, vI x6), (7, vI x7), (8, vI x8)]) (st' := [vI 0, vI x6]) B82_74_75 rfl ?_
          refine r_bin (pc' := 76) D82_75 rfl rfl ?_
          intro z89 r90 _; unfold inR at r90
          refine s_blx (lv' := [(6, vI z89), (0, vR 39), (1, vR 1), (2, vI place), (3, vI comes), (4, vI x4), (5, vI x5), (7, vI x7), (8, vI x8)]) (st' := [vR 39]) B82_76_79 rfl ?_
          refine r_gfix (r := 54) (pc' := 82) D82_79 rfl gf_9_55_39 HN.1 ?_
          refine s_blx (lv' := [(6, vI z89), (0, vR 39), (1, vR 1), (2, vI place), (3, vI comes), (4, vI x4), (5, vI x5), (7, vI x7), (8, vI x8)]) (st' := [vI x8, vR 54]) B82_82_84 rfl ?_
          refine r_iald (pc' := 85) D82_84 rfl sc_54 HN.1 (by omega) ?_
          intro w91 e92 r93
          have e94 : w85 = w91 := (e92.trans (e86.symm)).symm
          subst e94
          refine s_blx (lv' := [(6, vI z89), (0, vR 39), (1, vR 1), (2, vI place), (3, vI comes), (4, vI x4), (5, vI x5), (7, vI x7), (8, vI x8)]) (st' := [vR 39, vI w85]) B82_85_86 rfl ?_
          refine r_gfix (r := 54) (pc' := 89) D82_86 rfl gf_9_55_39 HN.1 ?_
          refine s_blx (lv' := [(6, vI z89), (0, vR 39), (1, vR 1), (2, vI place), (3, vI comes), (4, vI x4), (5, vI x5), (7, vI x7), (8, vI x8)]) (st' := [vI x7, vR 54, vI w85]) B82_89_91 rfl ?_
          refine r_iald (pc' := 92) D82_91 rfl sc_54 HN.1 (by omega) ?_
          intro w95 e96 r97
          unfold inR at r97
          refine r_icmp (tgt := 100) (pc' := 95) D82_92 rfl rfl (by unfold inR; omega) (fun (c98 : w85 ≤ w95) => ?_) (fun (c98 : ¬ (w85 ≤ w95)) => ?_)
          · refine s_blx (lv' := [(8, vI (x8 + 1)), (7, vI x7), (6, vI z89), (0, vR 39), (1, vR 1), (2, vI place), (3, vI comes), (4, vI x4), (5, vI x5)]) (st' := []) B82_100_107 rfl ?_
            refine r_goto (tgt := 48) D82_107 rfl ?_
            refine r_loc (lv' := [(0, vR 39), (1, vR 1), (2, vI place), (3, vI comes), (4, vI x4), (5, vI x5), (6, vI z89), (7, vI x7), (8, vI (x8 + 1))]) ⟨rfl, rfl, rfl, rfl, rfl, rfl, rfl, rfl, rfl, trivial⟩ rfl rfl ?_
            exact ih.2 x4 x5 z89 x7 (x8 + 1) N HN fN (by omega) (by omega) (by omega) (by omega) (by omega) (by omega) (by omega) (by omega) (by omega) (by omega) (by omega)
          · refine s_blx (lv' := [(6, vI z89), (0, vR 39), (1, vR 1), (2, vI place), (3, vI comes), (4, vI x4), (5, vI x5), (7, vI x7), (8, vI x8)]) (st' := [vI x8]) B82_95_97 rfl ?_
            refine r_goto (tgt := 102) D82_97 rfl ?_
            refine s_blx (lv' := [(8, vI (x8 + 1)), (7, vI x8), (6, vI z89), (0, vR 39), (1, vR 1), (2, vI place), (3, vI comes), (4, vI x4), (5, vI x5)]) (st' := []) B82_102_107 rfl ?_
            refine r_goto (tgt := 48) D82_107 rfl ?_
            refine r_loc (lv' := [(0, vR 39), (1, vR 1), (2, vI place), (3, vI comes), (4, vI x4), (5, vI x5), (6, vI z89), (7, vI x8), (8, vI (x8 + 1))]) ⟨rfl, rfl, rfl, rfl, rfl, rfl, rfl, rfl, rfl, trivial⟩ rfl rfl ?_
            exact ih.2 x4 x5 z89 x8 (x8 + 1) N HN fN (by omega) (by omega) (by omega) (by omega) (by omega) (by omega) (by omega) (by omega) (by omega) (by omega) (by omega)
        · refine s_blx (lv' := [(0, vR 39), (1, vR 1), (2, vI place), (3, vI comes), (4, vI x4), (5, vI x5), (6, vI x6), (7, vI x7), (8, vI x8)]) (st' := [vI x8, vI 1, vI x6]) B82_67_70 rfl ?_
          refine r_bin (pc' := 71) D82_70 rfl rfl ?_
          intro z99 r100 _; unfold inR at r100
          refine r_goto (tgt := 75) D82_71 rfl ?_
          refine r_bin (pc' := 76) D82_75 rfl rfl ?_
          intro z101 r102 _; unfold inR at r102
          refine s_blx (lv' := [(6, vI z101), (0, vR 39), (1, vR 1), (2, vI place), (3, vI comes), (4, vI x4), (5, vI x5), (7, vI x7), (8, vI x8)]) (st' := [vR 39]) B82_76_79 rfl ?_
          refine r_gfix (r := 54) (pc' := 82) D82_79 rfl gf_9_55_39 HN.1 ?_
          refine s_blx (lv' := [(6, vI z101), (0, vR 39), (1, vR 1), (2, vI place), (3, vI comes), (4, vI x4), (5, vI x5), (7, vI x7), (8, vI x8)]) (st' := [vI x8, vR 54]) B82_82_84 rfl ?_
          refine r_iald (pc' := 85) D82_84 rfl sc_54 HN.1 (by omega) ?_
          intro w103 e104 r105
          have e106 : w85 = w103 := (e104.trans (e86.symm)).symm
          subst e106
          refine s_blx (lv' := [(6, vI z101), (0, vR 39), (1, vR 1), (2, vI place), (3, vI comes), (4, vI x4), (5, vI x5), (7, vI x7), (8, vI x8)]) (st' := [vR 39, vI w85]) B82_85_86 rfl ?_
          refine r_gfix (r := 54) (pc' := 89) D82_86 rfl gf_9_55_39 HN.1 ?_
          refine s_blx (lv' := [(6, vI z101), (0, vR 39), (1, vR 1), (2, vI place), (3, vI comes), (4, vI x4), (5, vI x5), (7, vI x7), (8, vI x8)]) (st' := [vI x7, vR 54, vI w85]) B82_89_91 rfl ?_
          refine r_iald (pc' := 92) D82_91 rfl sc_54 HN.1 (by omega) ?_
          intro w107 e108 r109
          unfold inR at r109
          refine r_icmp (tgt := 100) (pc' := 95) D82_92 rfl rfl (by unfold inR; omega) (fun (c110 : w85 ≤ w107) => ?_) (fun (c110 : ¬ (w85 ≤ w107)) => ?_)
          · refine s_blx (lv' := [(8, vI (x8 + 1)), (7, vI x7), (6, vI z101), (0, vR 39), (1, vR 1), (2, vI place), (3, vI comes), (4, vI x4), (5, vI x5)]) (st' := []) B82_100_107 rfl ?_
            refine r_goto (tgt := 48) D82_107 rfl ?_
            refine r_loc (lv' := [(0, vR 39), (1, vR 1), (2, vI place), (3, vI comes), (4, vI x4), (5, vI x5), (6, vI z101), (7, vI x7), (8, vI (x8 + 1))]) ⟨rfl, rfl, rfl, rfl, rfl, rfl, rfl, rfl, rfl, trivial⟩ rfl rfl ?_
            exact ih.2 x4 x5 z101 x7 (x8 + 1) N HN fN (by omega) (by omega) (by omega) (by omega) (by omega) (by omega) (by omega) (by omega) (by omega) (by omega) (by omega)
          · refine s_blx (lv' := [(6, vI z101), (0, vR 39), (1, vR 1), (2, vI place), (3, vI comes), (4, vI x4), (5, vI x5), (7, vI x7), (8, vI x8)]) (st' := [vI x8]) B82_95_97 rfl ?_
            refine r_goto (tgt := 102) D82_97 rfl ?_
            refine s_blx (lv' := [(8, vI (x8 + 1)), (7, vI x8), (6, vI z101), (0, vR 39), (1, vR 1), (2, vI place), (3, vI comes), (4, vI x4), (5, vI x5)]) (st' := []) B82_102_107 rfl ?_
            refine r_goto (tgt := 48) D82_107 rfl ?_
            refine r_loc (lv' := [(0, vR 39), (1, vR 1), (2, vI place), (3, vI comes), (4, vI x4), (5, vI x5), (6, vI z101), (7, vI x8), (8, vI (x8 + 1))]) ⟨rfl, rfl, rfl, rfl, rfl, rfl, rfl, rfl, rfl, trivial⟩ rfl rfl ?_
            exact ih.2 x4 x5 z101 x8 (x8 + 1) N HN fN (by omega) (by omega) (by omega) (by omega) (by omega) (by omega) (by omega) (by omega) (by omega) (by omega) (by omega)
set_option maxRecDepth 4000 in
theorem k82_39 {base : Nat} {X : Nat → Option mC} {G : Nat → Value} (E : EnvOK base X G) {d : Nat} (hd : 2 ≤ d) {M : mH} (H : HI base M) (place : Int) (comes : Int) (h0 : 0 ≤ place ∧ place ≤ 144) (h1 : -2147483648 ≤ comes ∧ comes ≤ 2147483647) : sOk base X G d T82 [vR 39, vR 1, vI place, vI comes] M (pV (fun M' => HI base M' ∧ Fr [(42, 0), (46, 0), (47, 0), (48, 0), (49, 0), (50, 0), (54, 0)] M M')) := by
  have f0 : Fr [(42, 0), (46, 0), (47, 0), (48, 0), (49, 0), (50, 0), (54, 0)] M M := Fr.rf
  refine sOk.of (show sRn base X G d T82 0 [(0, vR 39), (1, vR 1), (2, vI place), (3, vI comes)] [] M _ from ?_)
  refine s_blx (lv' := [(0, vR 39), (1, vR 1), (2, vI place), (3, vI comes)]) (st' := [vR 39]) B82_0_1 rfl ?_
  refine r_gfix (r := 42) (pc' := 4) D82_1 rfl gf_9_18_39 H.1 ?_
  refine s_blx (lv' := [(0, vR 39), (1, vR 1), (2, vI place), (3, vI comes)]) (st' := [vI comes, vR 1, vI place, vR 42]) B82_4_7 rfl ?_
  refine r_vIp (c := 1) (args := [vI comes]) (rest := [vI place, vR 42]) (pc' := 10) D82_7 rfl ck_9_virtual_123 TE76 rfl (Nat.le_of_ble_eq_true rfl) ⟨Nat.le_of_ble_eq_true rfl, Nat.le_of_ble_eq_true rfl⟩ sc_1 ⟨rfl, by decide⟩ H.1 (dp_0 hd rfl) (k76_1 E (dp_n hd rfl) H comes (by omega)) ?_
  intro v1 q4
  have q3 := q4; clear q4
  refine r_iast (pc' := 11) D82_10 rfl sc_42 H (by omega) (by unfold inR; omega) trivial ?_
  intro M5 u6 H7 p8
  have f9 := f0.wr u6 rfl
  refine s_blx (lv' := [(4, vI 0), (0, vR 39), (1, vR 1), (2, vI place), (3, vI comes)]) (st' := []) B82_11_14 rfl ?_
  refine r_loc (lv' := [(0, vR 39), (1, vR 1), (2, vI place), (3, vI comes), (4, vI 0)]) ⟨rfl, rfl, rfl, rfl, rfl, trivial⟩ rfl rfl ?_
  exact (L_k82_39 E hd H place comes h0 h1 (((3 - 0) * 10 + 9 : Int) + 1).toNat).1 0 M5 H7 f9 (by omega) (by omega) (by omega)
set_option maxRecDepth 4000 in
theorem L_k81_39 {base : Nat} {X : Nat → Option mC} {G : Nat → Value} (E : EnvOK base X G) {d : Nat} (hd : 3 ≤ d) {M : mH} (H : HI base M) (parent : Int) (comes : Int) (h0 : 0 ≤ parent ∧ parent ≤ 144) (h1 : -2147483648 ≤ comes ∧ comes ≤ 2147483647) : ∀ mz : Nat, (∀ (x4 x5 : Int) (N : mH), HI base N → Fr [(39, 16), (40, 0), (41, 0), (42, 0), (43, 0), (44, 0), (45, 0), (46, 0), (47, 0), (48, 0), (49, 0), (50, 0), (54, 0)] M N → (0 ≤ x4) → (x4 ≤ 144) → (0 ≤ x5) → (x5 ≤ 3) → (3 - x5) * 1 + 0 < (mz : Int) → sRn base X G d T81 89 [(0, vR 39), (1, vI parent), (4, vI x4), (5, vI x5)] [] N (s_Q base (pI (fun v M' => HI base M' ∧ Fr [(39, 16), (40, 0), (41, 0), (42, 0), (43, 0), (44, 0), (45, 0), (46, 0), (47, 0), (48, 0), (49, 0), (50, 0), (54, 0)] M M' ∧ (0 ≤ v ∧ v ≤ 144))))) := by
  have f0 : Fr [(39, 16), (40, 0), (41, 0), (42, 0), (43, 0), (44, 0), (45, 0), (46, 0), (47, 0), (48, 0), (49, 0), (50, 0), (54, 0)] M M := Fr.rf
  intro mz
  induction mz with
  | zero => exact fun x4 x5 N _ _ z0 z1 z2 z3 z4 => by omega
  | succ mz ih =>
    intro x4 x5 N HN fN i0 i1 i2 i3 hmu
    refine s_blx (lv' := [(0, vR 39), (1, vI parent), (4, vI x4), (5, vI x5)]) (st' := [vI 3, vI x5]) B81_89_92 rfl ?_
    refine r_icmp (tgt := 142) (pc' := 95) D81_92 rfl rfl (by unfold inR; omega) (fun (c55 : 3 ≤ x5) => ?_) (fun (c55 : ¬ (3 ≤ x5)) => ?_)
    · refine s_blx (lv' := [(0, vR 39), (1, vI parent), (4, vI x4), (5, vI x5)]) (st' := [vI x4]) B81_142_144 rfl ?_
      exact r_iretI D81_144 rfl (⟨HN, fN, by omega⟩)
    · refine s_blx (lv' := [(0, vR 39), (1, vI parent), (4, vI x4), (5, vI x5)]) (st' := [vR 39]) B81_95_96 rfl ?_
      refine r_gfix (r := 45) (pc' := 99) D81_96 rfl gf_9_28_39 HN.1 ?_
      refine s_blx (lv' := [(0, vR 39), (1, vI parent), (4, vI x4), (5, vI x5)]) (st' := [vI x4, vR 45, vI x4, vR 45]) B81_99_102 rfl ?_
      refine r_bald (pc' := 103) D81_102 rfl sc_45 (by decide) HN.1 (by omega) ?_
      intro w56 e57 r58
      have b_w56 := HN.2 45 (x4) 0 1 rfl
      rw [← e57] at b_w56; clear r58
      refine s_blx (lv' := [(0, vR 39), (1, vI parent), (4, vI x4), (5, vI x5)]) (st' := [vR 39, vI w56, vI x4, vR 45]) B81_103_104 rfl ?_
      refine r_gfix (r := 46) (pc' := 107) D81_104 rfl gf_9_31_39 HN.1 ?_
      refine s_blx (lv' := [(0, vR 39), (1, vI parent), (4, vI x4), (5, vI x5)]) (st' := [vI ((x4 * 3) + x5), vR 46, vI w56, vI x4, vR 45]) B81_107_114 rfl ?_
      refine r_iald (pc' := 115) D81_114 rfl sc_46 HN.1 (by omega) ?_
      intro w59 e60 r61
      unfold inR at r61
      refine s_blx (lv' := [(0, vR 39), (1, vI parent), (4, vI x4), (5, vI x5)]) (st' := [vR 39, vI w59, vI w56, vI x4, vR 45]) B81_115_116 rfl ?_
      refine r_gfix (r := 46) (pc' := 119) D81_116 rfl gf_9_31_39 HN.1 ?_
      refine s_blx (lv' := [(0, vR 39), (1, vI parent), (4, vI x4), (5, vI x5)]) (st' := [vI ((parent * 3) + x5), vR 46, vI w59, vI w56, vI x4, vR 45]) B81_119_125 rfl ?_
      refine r_iald (pc' := 126) D81_125 rfl sc_46 HN.1 (by omega) ?_
      intro w62 e63 r64
      unfold inR at r64
      refine r_icmp (tgt := 133) (pc' := 129) D81_126 rfl rfl (by unfold inR; omega) (fun (c65 : w59 = w62) => ?_) (fun (c65 : ¬ (w59 = w62)) => ?_)
      · refine s_blx (lv' := [(0, vR 39), (1, vI parent), (4, vI x4), (5, vI x5)]) (st' := [vI 0, vI w56, vI x4, vR 45]) B81_133_134 rfl ?_
        refine r_ior01 (pc' := 135) D81_134 rfl (by omega) (by omega) ?_
        intro z66 r67
        refine r_zast (pc' := 136) D81_135 rfl sc_45 HN (by omega) (by omega) (show 0 ≤ z66 ∧ z66 ≤ 1 by omega) ?_
        intro M68 u69 H70 p71
        have f72 := fN.wr u69 rfl
        refine s_blx (lv' := [(5, vI (x5 + 1)), (0, vR 39), (1, vI parent), (4, vI x4)]) (st' := []) B81_136_139 rfl ?_
        refine r_goto (tgt := 89) D81_139 rfl ?_
        refine r_loc (lv' := [(0, vR 39), (1, vI parent), (4, vI x4), (5, vI (x5 + 1))]) ⟨rfl, rfl, rfl, rfl, trivial⟩ rfl rfl ?_
        exact ih x4 (x5 + 1) M68 H70 f72 (by omega) (by omega) (by omega) (by omega) (by omega)
      · refine s_blx (lv' := [(0, vR 39), (1, vI parent), (4, vI x4), (5, vI x5)]) (st' := [vI 1, vI w56, vI x4, vR 45]) B81_129_130 rfl ?_
        refine r_goto (tgt := 134) D81_130 rfl ?_
        refine r_ior01 (pc' := 135) D81_134 rfl (by omega) (by omega) ?_
        intro z73 r74
        refine r_zast (pc' := 136) D81_135 rfl sc_45 HN (by omega) (by omega) (show 0 ≤ z73 ∧ z73 ≤ 1 by omega) ?_
        intro M75 u76 H77 p78
        have f79 := fN.wr u76 rfl
        refine s_blx (lv' := [(5, vI (x5 + 1)), (0, vR 39), (1, vI parent), (4, vI x4)]) (st' := []) B81_136_139 rfl ?_
        refine r_goto (tgt := 89) D81_139 rfl ?_
        refine r_loc (lv' := [(0, vR 39), (1, vI parent), (4, vI x4), (5, vI (x5 + 1))]) ⟨rfl, rfl, rfl, rfl, trivial⟩ rfl rfl ?_
        exact ih x4 (x5 + 1) M75 H77 f79 (by omega) (by omega) (by omega) (by omega) (by omega)
set_option maxRecDepth 4000 in
theorem k81_39 {base : Nat} {X : Nat → Option mC} {G : Nat → Value} (E : EnvOK base X G) {d : Nat} (hd : 3 ≤ d) {M : mH} (H : HI base M) (parent : Int) (comes : Int) (h0 : 0 ≤ parent ∧ parent ≤ 144) (h1 : -2147483648 ≤ comes ∧ comes ≤ 2147483647) : sOk base X G d T81 [vR 39, vI parent, vR 1, vI comes] M (pI (fun v M' => HI base M' ∧ Fr [(39, 16), (40, 0), (41, 0), (42, 0), (43, 0), (44, 0), (45, 0), (46, 0), (47, 0), (48, 0), (49, 0), (50, 0), (54, 0)] M M' ∧ (0 ≤ v ∧ v ≤ 144))) := by
  have f0 : Fr [(39, 16), (40, 0), (41, 0), (42, 0), (43, 0), (44, 0), (45, 0), (46, 0), (47, 0), (48, 0), (49, 0), (50, 0), (54, 0)] M M := Fr.rf
  refine sOk.of (show sRn base X G d T81 0 [(0, vR 39), (1, vI parent), (2, vR 1), (3, vI comes)] [] M _ from ?_)
  refine s_blx (lv' := [(0, vR 39), (1, vI parent), (2, vR 1), (3, vI comes)]) (st' := [vR 39]) B81_0_1 rfl ?_
  refine r_gint (ki := 15) (pc' := 4) D81_1 rfl gf_9_58_39 rfl H.1 ?_
  intro w1 e2 r3
  have b_w1 := H.2 39 (15) 0 145 rfl
  rw [← e2] at b_w1; clear r3
  refine s_blx (lv' := [(0, vR 39), (1, vI parent), (2, vR 1), (3, vI comes)]) (st' := [vI 144, vI w1]) B81_4_7 rfl ?_
  refine r_min (pc' := 10) D81_7 rfl mc_9_static_115 sp_9_115 (Nat.le_of_ble_eq_true rfl) (by unfold inR; omega) ?_
  intro z4 r5 r6 r7
  refine s_blx (lv' := [(4, vI z4), (0, vR 39), (1, vI parent), (2, vR 1), (3, vI comes)]) (st' := [vI (z4 + 1), vR 39]) B81_10_17 rfl ?_
  refine r_pint (ki := 15) (pc' := 20) D81_17 rfl pf_9_58_39 rfl H (by unfold inR; omega) (show 0 ≤ (z4 + 1) ∧ (z4 + 1) ≤ 145 by omega) ?_
  intro M8 u9 H10 p11
  have f12 := f0.wr u9 rfl
  refine s_blx (lv' := [(4, vI z4), (0, vR 39), (1, vI parent), (2, vR 1), (3, vI comes)]) (st' := [vR 39]) B81_20_21 rfl ?_
  refine r_gfix (r := 40) (pc' := 24) D81_21 rfl gf_9_11_39 H10.1 ?_
  refine s_blx (lv' := [(4, vI z4), (0, vR 39), (1, vI parent), (2, vR 1), (3, vI comes)]) (st' := [vI (-1), vI z4, vR 40]) B81_24_27 rfl ?_
  refine r_iast (pc' := 28) D81_27 rfl sc_40 H10 (by omega) (by unfold inR; omega) (show (-1) ≤ (-1) ∧ (-1) ≤ 144 by omega) ?_
  intro M13 u14 H15 p16
  have f17 := f12.wr u14 rfl
  refine s_blx (lv' := [(4, vI z4), (0, vR 39), (1, vI parent), (2, vR 1), (3, vI comes)]) (st' := [vR 39]) B81_28_29 rfl ?_
  refine r_gfix (r := 41) (pc' := 32) D81_29 rfl gf_9_15_39 H15.1 ?_
  refine s_blx (lv' := [(4, vI z4), (0, vR 39), (1, vI parent), (2, vR 1), (3, vI comes)]) (st' := [vR 39, vI z4, vR 41]) B81_32_35 rfl ?_
  refine r_gfix (r := 40) (pc' := 38) D81_35 rfl gf_9_11_39 H15.1 ?_
  refine s_blx (lv' := [(4, vI z4), (0, vR 39), (1, vI parent), (2, vR 1), (3, vI comes)]) (st' := [vI parent, vR 40, vI z4, vR 41]) B81_38_39 rfl ?_
  refine r_iald (pc' := 40) D81_39 rfl sc_40 H15.1 (by omega) ?_
  intro w18 e19 r20
  have b_w18 := H15.2 40 (parent) (-1) 144 rfl
  rw [← e19] at b_w18; clear r20
  refine r_iast (pc' := 41) D81_40 rfl sc_41 H15 (by omega) (by unfold inR; omega) (show (-1) ≤ w18 ∧ w18 ≤ 144 by omega) ?_
  intro M21 u22 H23 p24
  have f25 := f17.wr u22 rfl
  refine s_blx (lv' := [(4, vI z4), (0, vR 39), (1, vI parent), (2, vR 1), (3, vI comes)]) (st' := [vR 39]) B81_41_42 rfl ?_
  refine r_gfix (r := 40) (pc' := 45) D81_42 rfl gf_9_11_39 H23.1 ?_
  refine s_blx (lv' := [(4, vI z4), (0, vR 39), (1, vI parent), (2, vR 1), (3, vI comes)]) (st' := [vI z4, vI parent, vR 40]) B81_45_48 rfl ?_
  refine r_iast (pc' := 49) D81_48 rfl sc_40 H23 (by omega) (by unfold inR; omega) (show (-1) ≤ z4 ∧ z4 ≤ 144 by omega) ?_
  intro M26 u27 H28 p29
  have f30 := f25.wr u27 rfl
  refine s_blx (lv' := [(4, vI z4), (0, vR 39), (1, vI parent), (2, vR 1), (3, vI comes)]) (st' := [vR 39]) B81_49_50 rfl ?_
  refine r_gfix (r := 43) (pc' := 53) D81_50 rfl gf_9_21_39 H28.1 ?_
  refine s_blx (lv' := [(4, vI z4), (0, vR 39), (1, vI parent), (2, vR 1), (3, vI comes)]) (st' := [vR 39, vI z4, vR 43]) B81_53_56 rfl ?_
  refine r_gfix (r := 43) (pc' := 59) D81_56 rfl gf_9_21_39 H28.1 ?_
  refine s_blx (lv' := [(4, vI z4), (0, vR 39), (1, vI parent), (2, vR 1), (3, vI comes)]) (st' := [vI parent, vR 43, vI z4, vR 43]) B81_59_60 rfl ?_
  refine r_iald (pc' := 61) D81_60 rfl sc_43 H28.1 (by omega) ?_
  intro w31 e32 r33
  unfold inR at r33
  refine r_iast (pc' := 62) D81_61 rfl sc_43 H28 (by omega) (by unfold inR; omega) trivial ?_
  intro M34 u35 H36 p37
  have f38 := f30.wr u35 rfl
  refine s_blx (lv' := [(4, vI z4), (0, vR 39), (1, vI parent), (2, vR 1), (3, vI comes)]) (st' := [vR 39]) B81_62_63 rfl ?_
  refine r_gfix (r := 44) (pc' := 66) D81_63 rfl gf_9_24_39 H36.1 ?_
  refine s_blx (lv' := [(4, vI z4), (0, vR 39), (1, vI parent), (2, vR 1), (3, vI comes)]) (st' := [vI 0, vI z4, vR 44]) B81_66_69 rfl ?_
  refine r_zast (pc' := 70) D81_69 rfl sc_44 H36 (by omega) (by omega) (show 0 ≤ 0 ∧ 0 ≤ 1 by omega) ?_
  intro M39 u40 H41 p42
  have f43 := f38.wr u40 rfl
  refine s_blx (lv' := [(4, vI z4), (0, vR 39), (1, vI parent), (2, vR 1), (3, vI comes)]) (st' := [vI comes, vI z4, vR 1, vR 39]) B81_70_75 rfl ?_
  refine r_vV (c := 39) (args := [vR 1, vI z4, vI comes]) (rest := []) (pc' := 78) D81_75 rfl ck_9_virtual_120 TE82 rfl (Nat.le_of_ble_eq_true rfl) ⟨Nat.le_of_ble_eq_true rfl, Nat.le_of_ble_eq_true rfl⟩ sc_39 ⟨rfl, by decide⟩ H41.1 (dp_0 hd rfl) (k82_39 E (dp_n hd rfl) H41 z4 comes (by omega) (by omega)) ?_
  intro M45 q48
  obtain ⟨H46, f47⟩ := q48
  have f49 := f43.tr (f47.up rfl)
  refine s_blx (lv' := [(4, vI z4), (0, vR 39), (1, vI parent), (2, vR 1), (3, vI comes)]) (st' := [vR 39]) B81_78_79 rfl ?_
  refine r_gfix (r := 45) (pc' := 82) D81_79 rfl gf_9_28_39 H46.1 ?_
  refine s_blx (lv' := [(4, vI z4), (0, vR 39), (1, vI parent), (2, vR 1), (3, vI comes)]) (st' := [vI 0, vI z4, vR 45]) B81_82_85 rfl ?_
  refine r_zast (pc' := 86) D81_85 rfl sc_45 H46 (by omega) (by omega) (show 0 ≤ 0 ∧ 0 ≤ 1 by omega) ?_
  intro M50 u51 H52 p53
  have f54 := f49.wr u51 rfl
  refine s_blx (lv' := [(5, vI 0), (4, vI z4), (0, vR 39), (1, vI parent), (2, vR 1), (3, vI comes)]) (st' := []) B81_86_89 rfl ?_
  refine r_loc (lv' := [(0, vR 39), (1, vI parent), (4, vI z4), (5, vI 0)]) ⟨rfl, rfl, rfl, rfl, trivial⟩ rfl rfl ?_
  exact (L_k81_39 E hd H parent comes h0 h1 (((3 - 0) * 1 + 0 : Int) + 1).toNat) z4 0 M50 H52 f54 (by omega) (by omega) (by omega) (by omega) (by omega)
set_option maxRecDepth 4000 in
theorem L_k80_39 {base : Nat} {X : Nat → Option mC} {G : Nat → Value} (E : EnvOK base X G) {d : Nat} (hd : 4 ≤ d) {M : mH} (H : HI base M) (sentence : Int) (lightWord : Int) (h0 : 0 ≤ sentence ∧ sentence ≤ 15) (h1 : -2147483648 ≤ lightWord ∧ lightWord ≤ 2147483647) : ∀ mz : Nat, (∀ (x4 x5 x6 : Int) (N : mH), HI base N → Fr [(39, 16), (40, 0), (41, 0), (42, 0), (43, 0), (44, 0), (45, 0), (46, 0), (47, 0), (48, 0), (49, 0), (50, 0), (51, 0), (52, 0), (54, 0)] M N → (0 ≤ x4) → (x4 ≤ 8) → (0 ≤ x5) → (x5 ≤ 144) → (0 ≤ x6) → (x6 ≤ 8) → (8 - x6) * 1 + 0 < (mz : Int) → sRn base X G d T80 22 [(0, vR 39), (1, vR 1), (2, vI sentence), (3, vI lightWord), (4, vI x4), (5, vI x5), (6, vI x6)] [] N (s_Q base (pV (fun M' => HI base M' ∧ Fr [(39, 16), (40, 0), (41, 0), (42, 0), (43, 0), (44, 0), (45, 0), (46, 0), (47, 0), (48, 0), (49, 0), (50, 0), (51, 0), (52, 0), (54, 0)] M M')))) := by
  have f0 : Fr [(39, 16), (40, 0), (41, 0), (42, 0), (43, 0), (44, 0), (45, 0), (46, 0), (47, 0), (48, 0), (49, 0), (50, 0), (51, 0), (52, 0), (54, 0)] M M := Fr.rf
  intro mz
  induction mz with
  | zero => exact fun x4 x5 x6 N _ _ z0 z1 z2 z3 z4 z5 z6 => by omega
  | succ mz ih =>
    intro x4 x5 x6 N HN fN i0 i1 i2 i3 i4 i5 hmu
    refine s_blx (lv' := [(0, vR 39), (1, vR 1), (2, vI sentence), (3, vI lightWord), (4, vI x4), (5, vI x5), (6, vI x6)]) (st' := [vI x4, vI x6]) B80_22_26 rfl ?_
    refine r_icmp (tgt := 146) (pc' := 29) D80_26 rfl rfl (by unfold inR; omega) (fun (c9 : x4 ≤ x6) => ?_) (fun (c9 : ¬ (x4 ≤ x6)) => ?_)
    · refine s_blx (lv' := [(0, vR 39), (1, vR 1), (2, vI sentence), (3, vI lightWord), (4, vI x4), (5, vI x5), (6, vI x6)]) (st' := [vI sentence, vI 1, vR 1, vI x5, vR 39]) B80_146_152 rfl ?_
      refine r_bin (pc' := 153) D80_152 rfl rfl ?_
      intro z10 r11 _; unfold inR at r11
      refine r_vI (c := 39) (args := [vI x5, vR 1, vI z10]) (rest := []) (pc' := 156) D80_153 rfl ck_9_virtual_105 TE81 rfl (Nat.le_of_ble_eq_true rfl) ⟨Nat.le_of_ble_eq_true rfl, Nat.le_of_ble_eq_true rfl⟩ sc_39 ⟨rfl, by decide⟩ HN.1 (dp_0 hd rfl) (k81_39 E (dp_n hd rfl) HN x5 z10 (by omega) (by omega)) ?_
      intro v12 M13 q17
      obtain ⟨H14, f15, q16⟩ := q17
      have f18 := fN.tr (f15.up rfl)
      refine s_blx (lv' := [(5, vI v12), (0, vR 39), (1, vR 1), (2, vI sentence), (3, vI lightWord), (4, vI x4), (6, vI x6)]) (st' := [vR 39]) B80_156_159 rfl ?_
      refine r_gfix (r := 44) (pc' := 162) D80_159 rfl gf_9_24_39 H14.1 ?_
      refine s_blx (lv' := [(5, vI v12), (0, vR 39), (1, vR 1), (2, vI sentence), (3, vI lightWord), (4, vI x4), (6, vI x6)]) (st' := [vI 1, vI v12, vR 44]) B80_162_165 rfl ?_
      refine r_zast (pc' := 166) D80_165 rfl sc_44 H14 (by omega) (by omega) (show 0 ≤ 1 ∧ 1 ≤ 1 by omega) ?_
      intro M19 u20 H21 p22
      have f23 := f18.wr u20 rfl
      refine s_blx (lv' := [(5, vI v12), (0, vR 39), (1, vR 1), (2, vI sentence), (3, vI lightWord), (4, vI x4), (6, vI x6)]) (st' := [vR 39]) B80_166_167 rfl ?_
      refine r_gfix (r := 51) (pc' := 170) D80_167 rfl gf_9_46_39 H21.1 ?_
      refine s_blx (lv' := [(5, vI v12), (0, vR 39), (1, vR 1), (2, vI sentence), (3, vI lightWord), (4, vI x4), (6, vI x6)]) (st' := [vI v12, vI ((sentence * 9) + x4), vR 51]) B80_170_179 rfl ?_
      refine r_iast (pc' := 180) D80_179 rfl sc_51 H21 (by omega) (by unfold inR; omega) (show 0 ≤ v12 ∧ v12 ≤ 144 by omega) ?_
      intro M24 u25 H26 p27
      have f28 := f23.wr u25 rfl
      exact r_retV D80_180 rfl (⟨H26, f28⟩)
    · refine s_blx (lv' := [(0, vR 39), (1, vR 1), (2, vI sentence), (3, vI lightWord), (4, vI x4), (5, vI x5), (6, vI x6)]) (st' := [vI (x6 + 1), vI sentence, vR 1]) B80_29_35 rfl ?_
      refine r_vIp (c := 1) (args := [vI sentence, vI (x6 + 1)]) (rest := []) (pc' := 38) D80_35 rfl ck_9_virtual_97 TE70 rfl (Nat.le_of_ble_eq_true rfl) ⟨Nat.le_of_ble_eq_true rfl, Nat.le_of_ble_eq_true rfl⟩ sc_1 ⟨rfl, by decide⟩ HN.1 (dp_0 hd rfl) (k70_1 E (dp_n hd rfl) HN sentence (x6 + 1) (by omega) (by omega)) ?_
      intro v29 q32
      have q31 := q32; clear q32
      refine s_blx (lv' := [(7, vI v29), (0, vR 39), (1, vR 1), (2, vI sentence), (3, vI lightWord), (4, vI x4), (5, vI x5), (6, vI x6)]) (st' := [vI v29, vR 1]) B80_38_43 rfl ?_
      refine r_vIp (c := 1) (args := [vI v29]) (rest := []) (pc' := 46) D80_43 rfl ck_9_virtual_101 TE72 rfl (Nat.le_of_ble_eq_true rfl) ⟨Nat.le_of_ble_eq_true rfl, Nat.le_of_ble_eq_true rfl⟩ sc_1 ⟨rfl, by decide⟩ HN.1 (dp_0 hd rfl) (k72_1 E (dp_n hd rfl) HN v29 (by omega)) ?_
      intro v33 q36
      have q35 := q36; clear q36
      refine s_blx (lv' := [(8, vI v33), (7, vI v29), (0, vR 39), (1, vR 1), (2, vI sentence), (3, vI lightWord), (4, vI x4), (5, vI x5), (6, vI x6)]) (st' := [vI sentence, vI v33]) B80_46_51 rfl ?_
      refine r_icmp (tgt := 72) (pc' := 54) D80_51 rfl rfl (by unfold inR; omega) (fun (c37 : sentence ≤ v33) => ?_) (fun (c37 : ¬ (sentence ≤ v33)) => ?_)
      · refine s_blx (lv' := [(8, vI v33), (7, vI v29), (0, vR 39), (1, vR 1), (2, vI sentence), (3, vI lightWord), (4, vI x4), (5, vI x5), (6, vI x6)]) (st' := [vI v29, vR 1, vI x5, vR 39]) B80_72_78 rfl ?_
        refine r_vI (c := 39) (args := [vI x5, vR 1, vI v29]) (rest := []) (pc' := 81) D80_78 rfl ck_9_virtual_105 TE81 rfl (Nat.le_of_ble_eq_true rfl) ⟨Nat.le_of_ble_eq_true rfl, Nat.le_of_ble_eq_true rfl⟩ sc_39 ⟨rfl, by decide⟩ HN.1 (dp_0 hd rfl) (k81_39 E (dp_n hd rfl) HN x5 v29 (by omega) (by omega)) ?_
        intro v38 M39 q43
        obtain ⟨H40, f41, q42⟩ := q43
        have f44 := fN.tr (f41.up rfl)
        refine s_blx (lv' := [(5, vI v38), (8, vI v33), (7, vI v29), (0, vR 39), (1, vR 1), (2, vI sentence), (3, vI lightWord), (4, vI x4), (6, vI x6)]) (st' := [vR 1]) B80_81_84 rfl ?_
        refine r_gfix (r := 5) (pc' := 87) D80_84 rfl gf_9_109_1 H40.1 ?_
        refine s_blx (lv' := [(5, vI v38), (8, vI v33), (7, vI v29), (0, vR 39), (1, vR 1), (2, vI sentence), (3, vI lightWord), (4, vI x4), (6, vI x6)]) (st' := [vI ((sentence * 8) + x6), vR 5]) B80_87_94 rfl ?_
        refine r_iald (pc' := 95) D80_94 rfl sc_5 H40.1 (by omega) ?_
        intro w45 e46 r47
        have b_w45 := H40.2 5 ((sentence * 8) + x6) 0 29 rfl
        rw [← e46] at b_w45; clear r47
        refine s_blx (lv' := [(9, vI w45), (5, vI v38), (8, vI v33), (7, vI v29), (0, vR 39), (1, vR 1), (2, vI sentence), (3, vI lightWord), (4, vI x4), (6, vI x6)]) (st' := [vR 39]) B80_95_98 rfl ?_
        refine r_gfix (r := 43) (pc' := 101) D80_98 rfl gf_9_21_39 H40.1 ?_
        refine s_blx (lv' := [(9, vI w45), (5, vI v38), (8, vI v33), (7, vI v29), (0, vR 39), (1, vR 1), (2, vI sentence), (3, vI lightWord), (4, vI x4), (6, vI x6)]) (st' := [vI v38, vR 43, vI v38, vR 43]) B80_101_104 rfl ?_
        refine r_iald (pc' := 105) D80_104 rfl sc_43 H40.1 (by omega) ?_
        intro w48 e49 r50
        unfold inR at r50
        refine s_blx (lv' := [(9, vI w45), (5, vI v38), (8, vI v33), (7, vI v29), (0, vR 39), (1, vR 1), (2, vI sentence), (3, vI lightWord), (4, vI x4), (6, vI x6)]) (st' := [vI lightWord, vI w45, vI w48, vI v38, vR 43]) B80_105_108 rfl ?_
        refine r_icmp (tgt := 115) (pc' := 111) D80_108 rfl rfl (by unfold inR; omega) (fun (c51 : w45 ≠ lightWord) => ?_) (fun (c51 : ¬ (w45 ≠ lightWord)) => ?_)
        · refine s_blx (lv' := [(9, vI w45), (5, vI v38), (8, vI v33), (7, vI v29), (0, vR 39), (1, vR 1), (2, vI sentence), (3, vI lightWord), (4, vI x4), (6, vI x6)]) (st' := [vR 1, vI w48, vI v38, vR 43]) B80_115_116 rfl ?_
          refine r_gfix (r := 2) (pc' := 119) D80_116 rfl gf_9_112_1 H40.1 ?_
          refine s_blx (lv' := [(9, vI w45), (5, vI v38), (8, vI v33), (7, vI v29), (0, vR 39), (1, vR 1), (2, vI sentence), (3, vI lightWord), (4, vI x4), (6, vI x6)]) (st' := [vI (0 + w45), vR 2, vI w48, vI v38, vR 43]) B80_119_123 rfl ?_
          refine r_iald (pc' := 124) D80_123 rfl sc_2 H40.1 (by omega) ?_
          intro w52 e53 r54
          have b_w52 := H40.2 2 (0 + w45) 0 60 rfl
          rw [← e53] at b_w52; clear r54
          refine s_blx (lv' := [(9, vI w45), (5, vI v38), (8, vI v33), (7, vI v29), (0, vR 39), (1, vR 1), (2, vI sentence), (3, vI lightWord), (4, vI x4), (6, vI x6)]) (st' := [vI (w48 + w52), vI v38, vR 43]) B80_124_125 rfl ?_
          refine r_norm ?_
          intro z55 r56 _; unfold inR at r56
          refine r_iast (pc' := 126) D80_125 rfl sc_43 H40 (by omega) (by unfold inR; omega) trivial ?_
          intro M57 u58 H59 p60
          have f61 := f44.wr u58 rfl
          refine s_blx (lv' := [(9, vI w45), (5, vI v38), (8, vI v33), (7, vI v29), (0, vR 39), (1, vR 1), (2, vI sentence), (3, vI lightWord), (4, vI x4), (6, vI x6)]) (st' := [vR 39]) B80_126_127 rfl ?_
          refine r_gfix (r := 51) (pc' := 130) D80_127 rfl gf_9_46_39 H59.1 ?_
          refine s_blx (lv' := [(9, vI w45), (5, vI v38), (8, vI v33), (7, vI v29), (0, vR 39), (1, vR 1), (2, vI sentence), (3, vI lightWord), (4, vI x4), (6, vI x6)]) (st' := [vI v38, vI ((sentence * 9) + x6), vR 51]) B80_130_139 rfl ?_
          refine r_iast (pc' := 140) D80_139 rfl sc_51 H59 (by omega) (by unfold inR; omega) (show 0 ≤ v38 ∧ v38 ≤ 144 by omega) ?_
          intro M62 u63 H64 p65
          have f66 := f61.wr u63 rfl
          refine s_blx (lv' := [(6, vI (x6 + 1)), (9, vI w45), (5, vI v38), (8, vI v33), (7, vI v29), (0, vR 39), (1, vR 1), (2, vI sentence), (3, vI lightWord), (4, vI x4)]) (st' := []) B80_140_143 rfl ?_
          refine r_goto (tgt := 22) D80_143 rfl ?_
          refine r_loc (lv' := [(0, vR 39), (1, vR 1), (2, vI sentence), (3, vI lightWord), (4, vI x4), (5, vI v38), (6, vI (x6 + 1))]) ⟨rfl, rfl, rfl, rfl, rfl, rfl, rfl, trivial⟩ rfl rfl ?_
          exact ih x4 v38 (x6 + 1) M62 H64 f66 (by omega) (by omega) (by omega) (by omega) (by omega) (by omega) (by omega)
        · refine s_blx (lv' := [(9, vI w45), (5, vI v38), (8, vI v33), (7, vI v29), (0, vR 39), (1, vR 1), (2, vI sentence), (3, vI lightWord), (4, vI x4), (6, vI x6)]) (st' := [vI 0, vI w48, vI v38, vR 43]) B80_111_112 rfl ?_
          refine r_goto (tgt := 124) D80_112 rfl ?_
          refine s_blx (lv' := [(9, vI w45), (5, vI v38), (8, vI v33), (7, vI v29), (0, vR 39), (1, vR 1), (2, vI sentence), (3, vI lightWord), (4, vI x4), (6, vI x6)]) (st' := [vI (w48 + 0), vI v38, vR 43]) B80_124_125 rfl ?_
          refine r_iast (pc' := 126) D80_125 rfl sc_43 H40 (by omega) (by unfold inR; omega) trivial ?_
          intro M67 u68 H69 p70
          have f71 := f44.wr u68 rfl
          refine s_blx (lv' := [(9, vI w45), (5, vI v38), (8, vI v33), (7, vI v29), (0, vR 39), (1, vR 1), (2, vI sentence), (3, vI lightWord), (4, vI x4), (6, vI x6)]) (st' := [vR 39]) B80_126_127 rfl ?_
          refine r_gfix (r := 51) (pc' := 130) D80_127 rfl gf_9_46_39 H69.1 ?_
          refine s_blx (lv' := [(9, vI w45), (5, vI v38), (8, vI v33), (7, vI v29), (0, vR 39), (1, vR 1), (2, vI sentence), (3, vI lightWord), (4, vI x4), (6, vI x6)]) (st' := [vI v38, vI ((sentence * 9) + x6), vR 51]) B80_130_139 rfl ?_
          refine r_iast (pc' := 140) D80_139 rfl sc_51 H69 (by omega) (by unfold inR; omega) (show 0 ≤ v38 ∧ v38 ≤ 144 by omega) ?_
          intro M72 u73 H74 p75
          have f76 := f71.wr u73 rfl
          refine s_blx (lv' := [(6, vI (x6 + 1)), (9, vI w45), (5, vI v38), (8, vI v33), (7, vI v29), (0, vR 39), (1, vR 1), (2, vI sentence), (3, vI lightWord), (4, vI x4)]) (st' := []) B80_140_143 rfl ?_
          refine r_goto (tgt := 22) D80_143 rfl ?_
          refine r_loc (lv' := [(0, vR 39), (1, vR 1), (2, vI sentence), (3, vI lightWord), (4, vI x4), (5, vI v38), (6, vI (x6 + 1))]) ⟨rfl, rfl, rfl, rfl, rfl, rfl, rfl, trivial⟩ rfl rfl ?_
          exact ih x4 v38 (x6 + 1) M72 H74 f76 (by omega) (by omega) (by omega) (by omega) (by omega) (by omega) (by omega)
      · refine s_blx (lv' := [(8, vI v33), (7, vI v29), (0, vR 39), (1, vR 1), (2, vI sentence), (3, vI lightWord), (4, vI x4), (5, vI x5), (6, vI x6)]) (st' := [vR 39]) B80_54_55 rfl ?_
        refine r_gfix (r := 51) (pc' := 58) D80_55 rfl gf_9_46_39 HN.1 ?_
        refine s_blx (lv' := [(8, vI v33), (7, vI v29), (0, vR 39), (1, vR 1), (2, vI sentence), (3, vI lightWord), (4, vI x4), (5, vI x5), (6, vI x6)]) (st' := [vI ((v33 * 9) + x6), vR 51]) B80_58_66 rfl ?_
        refine r_iald (pc' := 67) D80_66 rfl sc_51 HN.1 (by omega) ?_
        intro w77 e78 r79
        have b_w77 := HN.2 51 ((v33 * 9) + x6) 0 144 rfl
        rw [← e78] at b_w77; clear r79
        refine s_blx (lv' := [(5, vI w77), (8, vI v33), (7, vI v29), (0, vR 39), (1, vR 1), (2, vI sentence), (3, vI lightWord), (4, vI x4), (6, vI x6)]) (st' := []) B80_67_69 rfl ?_
        refine r_goto (tgt := 126) D80_69 rfl ?_
        refine s_blx (lv' := [(5, vI w77), (8, vI v33), (7, vI v29), (0, vR 39), (1, vR 1), (2, vI sentence), (3, vI lightWord), (4, vI x4), (6, vI x6)]) (st' := [vR 39]) B80_126_127 rfl ?_
        refine r_gfix (r := 51) (pc' := 130) D80_127 rfl gf_9_46_39 HN.1 ?_
        refine s_blx (lv' := [(5, vI w77), (8, vI v33), (7, vI v29), (0, vR 39), (1, vR 1), (2, vI sentence), (3, vI lightWord), (4, vI x4), (6, vI x6)]) (st' := [vI w77, vI ((sentence * 9) + x6), vR 51]) B80_130_139 rfl ?_
        refine r_iast (pc' := 140) D80_139 rfl sc_51 HN (by omega) (by unfold inR; omega) (show 0 ≤ w77 ∧ w77 ≤ 144 by omega) ?_
        intro M80 u81 H82 p83
        have f84 := fN.wr u81 rfl
        refine s_blx (lv' := [(6, vI (x6 + 1)), (5, vI w77), (8, vI v33), (7, vI v29), (0, vR 39), (1, vR 1), (2, vI sentence), (3, vI lightWord), (4, vI x4)]) (st' := []) B80_140_143 rfl ?_
        refine r_goto (tgt := 22) D80_143 rfl ?_
        refine r_loc (lv' := [(0, vR 39), (1, vR 1), (2, vI sentence), (3, vI lightWord), (4, vI x4), (5, vI w77), (6, vI (x6 + 1))]) ⟨rfl, rfl, rfl, rfl, rfl, rfl, rfl, trivial⟩ rfl rfl ?_
        exact ih x4 w77 (x6 + 1) M80 H82 f84 (by omega) (by omega) (by omega) (by omega) (by omega) (by omega) (by omega)
set_option maxRecDepth 4000 in
theorem k80_39 {base : Nat} {X : Nat → Option mC} {G : Nat → Value} (E : EnvOK base X G) {d : Nat} (hd : 4 ≤ d) {M : mH} (H : HI base M) (sentence : Int) (lightWord : Int) (h0 : 0 ≤ sentence ∧ sentence ≤ 15) (h1 : -2147483648 ≤ lightWord ∧ lightWord ≤ 2147483647) : sOk base X G d T80 [vR 39, vR 1, vI sentence, vI lightWord] M (pV (fun M' => HI base M' ∧ Fr [(39, 16), (40, 0), (41, 0), (42, 0), (43, 0), (44, 0), (45, 0), (46, 0), (47, 0), (48, 0), (49, 0), (50, 0), (51, 0), (52, 0), (54, 0)] M M')) := by
  have f0 : Fr [(39, 16), (40, 0), (41, 0), (42, 0), (43, 0), (44, 0), (45, 0), (46, 0), (47, 0), (48, 0), (49, 0), (50, 0), (51, 0), (52, 0), (54, 0)] M M := Fr.rf
  refine sOk.of (show sRn base X G d T80 0 [(0, vR 39), (1, vR 1), (2, vI sentence), (3, vI lightWord)] [] M _ from ?_)
  refine s_blx (lv' := [(0, vR 39), (1, vR 1), (2, vI sentence), (3, vI lightWord)]) (st' := [vR 1]) B80_0_1 rfl ?_
  refine r_gfix (r := 6) (pc' := 4) D80_1 rfl gf_9_96_1 H.1 ?_
  refine s_blx (lv' := [(0, vR 39), (1, vR 1), (2, vI sentence), (3, vI lightWord)]) (st' := [vI sentence, vR 6]) B80_4_5 rfl ?_
  refine r_iald (pc' := 6) D80_5 rfl sc_6 H.1 (by omega) ?_
  intro w1 e2 r3
  have b_w1 := H.2 6 (sentence) 0 8 rfl
  rw [← e2] at b_w1; clear r3
  refine s_blx (lv' := [(4, vI w1), (0, vR 39), (1, vR 1), (2, vI sentence), (3, vI lightWord)]) (st' := [vR 39]) B80_6_9 rfl ?_
  refine r_gfix (r := 52) (pc' := 12) D80_9 rfl gf_9_49_39 H.1 ?_
  refine s_blx (lv' := [(4, vI w1), (0, vR 39), (1, vR 1), (2, vI sentence), (3, vI lightWord)]) (st' := [vI w1, vI sentence, vR 52]) B80_12_15 rfl ?_
  refine r_iast (pc' := 16) D80_15 rfl sc_52 H (by omega) (by unfold inR; omega) (show 0 ≤ w1 ∧ w1 ≤ 8 by omega) ?_
  intro M4 u5 H6 p7
  have f8 := f0.wr u5 rfl
  refine s_blx (lv' := [(6, vI 0), (5, vI 0), (4, vI w1), (0, vR 39), (1, vR 1), (2, vI sentence), (3, vI lightWord)]) (st' := []) B80_16_22 rfl ?_
  refine r_loc (lv' := [(0, vR 39), (1, vR 1), (2, vI sentence), (3, vI lightWord), (4, vI w1), (5, vI 0), (6, vI 0)]) ⟨rfl, rfl, rfl, rfl, rfl, rfl, rfl, trivial⟩ rfl rfl ?_
  exact (L_k80_39 E hd H sentence lightWord h0 h1 (((8 - 0) * 1 + 0 : Int) + 1).toNat) w1 0 0 M4 H6 f8 (by omega) (by omega) (by omega) (by omega) (by omega) (by omega) (by omega)
set_option maxRecDepth 4000 in
theorem L_k79_39 {base : Nat} {X : Nat → Option mC} {G : Nat → Value} (E : EnvOK base X G) {d : Nat} (hd : 5 ≤ d) {M : mH} (H : HI base M) (lightWord : Int) (h0 : -2147483648 ≤ lightWord ∧ lightWord ≤ 2147483647) : ∀ mz : Nat, (∀ (x3 : Int) (N : mH), HI base N → Fr [(39, 16), (39, 17), (39, 18), (40, 0), (41, 0), (42, 0), (43, 0), (44, 0), (45, 0), (46, 0), (47, 0), (48, 0), (49, 0), (50, 0), (51, 0), (52, 0), (53, 0), (54, 0)] M N → (0 ≤ x3) → (x3 ≤ 16) → (16 - x3) * 1 + 0 < (mz : Int) → sRn base X G d T79 53 [(0, vR 39), (1, vR 1), (2, vI lightWord), (3, vI x3)] [] N (s_Q base (pV (fun M' => HI base M' ∧ Fr [(39, 16), (39, 17), (39, 18), (40, 0), (41, 0), (42, 0), (43, 0), (44, 0), (45, 0), (46, 0), (47, 0), (48, 0), (49, 0), (50, 0), (51, 0), (52, 0), (53, 0), (54, 0)] M M')))) := by
  have f0 : Fr [(39, 16), (39, 17), (39, 18), (40, 0), (41, 0), (42, 0), (43, 0), (44, 0), (45, 0), (46, 0), (47, 0), (48, 0), (49, 0), (50, 0), (51, 0), (52, 0), (53, 0), (54, 0)] M M := Fr.rf
  intro mz
  induction mz with
  | zero => exact fun x3 N _ _ z0 z1 z2 => by omega
  | succ mz ih =>
    intro x3 N HN fN i0 i1 hmu
    refine s_blx (lv' := [(0, vR 39), (1, vR 1), (2, vI lightWord), (3, vI x3)]) (st' := [vR 1, vI x3]) B79_53_55 rfl ?_
    refine r_gint (ki := 10) (pc' := 58) D79_55 rfl gf_9_85_1 rfl HN.1 ?_
    intro w37 e38 r39
    have b_w37 := HN.2 1 (10) 0 16 rfl
    rw [← e38] at b_w37; clear r39
    refine r_icmp (tgt := 82) (pc' := 61) D79_58 rfl rfl (by unfold inR; omega) (fun (c40 : w37 ≤ x3) => ?_) (fun (c40 : ¬ (w37 ≤ x3)) => ?_)
    · exact r_retV D79_82 rfl (⟨HN, fN⟩)
    · refine s_blx (lv' := [(0, vR 39), (1, vR 1), (2, vI lightWord), (3, vI x3)]) (st' := [vI x3, vR 1]) B79_61_63 rfl ?_
      refine r_vIp (c := 1) (args := [vI x3]) (rest := []) (pc' := 66) D79_63 rfl ck_9_virtual_88 TE67 rfl (Nat.le_of_ble_eq_true rfl) ⟨Nat.le_of_ble_eq_true rfl, Nat.le_of_ble_eq_true rfl⟩ sc_1 ⟨rfl, by decide⟩ HN.1 (dp_0 hd rfl) (k67_1 E (dp_n hd rfl) HN x3 (by omega)) ?_
      intro v41 q45
      obtain ⟨q43, q44⟩ := q45
      refine r_ifc (tgt := 76) (pc' := 69) D79_66 rfl rfl (by unfold inR; omega) (fun (c46 : v41 = 0) => ?_) (fun (c46 : ¬ (v41 = 0)) => ?_)
      · refine s_blx (lv' := [(3, vI (x3 + 1)), (0, vR 39), (1, vR 1), (2, vI lightWord)]) (st' := []) B79_76_79 rfl ?_
        refine r_goto (tgt := 53) D79_79 rfl ?_
        refine r_loc (lv' := [(0, vR 39), (1, vR 1), (2, vI lightWord), (3, vI (x3 + 1))]) ⟨rfl, rfl, rfl, rfl, trivial⟩ rfl rfl ?_
        exact ih (x3 + 1) N HN fN (by omega) (by omega) (by omega)
      · refine s_blx (lv' := [(0, vR 39), (1, vR 1), (2, vI lightWord), (3, vI x3)]) (st' := [vI lightWord, vI x3, vR 1, vR 39]) B79_69_73 rfl ?_
        refine r_vV (c := 39) (args := [vR 1, vI x3, vI lightWord]) (rest := []) (pc' := 76) D79_73 rfl ck_9_virtual_92 TE80 rfl (Nat.le_of_ble_eq_true rfl) ⟨Nat.le_of_ble_eq_true rfl, Nat.le_of_ble_eq_true rfl⟩ sc_39 ⟨rfl, by decide⟩ HN.1 (dp_0 hd rfl) (k80_39 E (dp_n hd rfl) HN x3 lightWord (by omega) (by omega)) ?_
        intro M48 q51
        obtain ⟨H49, f50⟩ := q51
        have f52 := fN.tr (f50.up rfl)
        refine s_blx (lv' := [(3, vI (x3 + 1)), (0, vR 39), (1, vR 1), (2, vI lightWord)]) (st' := []) B79_76_79 rfl ?_
        refine r_goto (tgt := 53) D79_79 rfl ?_
        refine r_loc (lv' := [(0, vR 39), (1, vR 1), (2, vI lightWord), (3, vI (x3 + 1))]) ⟨rfl, rfl, rfl, rfl, trivial⟩ rfl rfl ?_
        exact ih (x3 + 1) M48 H49 f52 (by omega) (by omega) (by omega)
set_option maxRecDepth 4000 in
theorem k79_39 {base : Nat} {X : Nat → Option mC} {G : Nat → Value} (E : EnvOK base X G) {d : Nat} (hd : 5 ≤ d) {M : mH} (H : HI base M) (lightWord : Int) (h0 : -2147483648 ≤ lightWord ∧ lightWord ≤ 2147483647) : sOk base X G d T79 [vR 39, vR 1, vI lightWord] M (pV (fun M' => HI base M' ∧ Fr [(39, 16), (39, 17), (39, 18), (40, 0), (41, 0), (42, 0), (43, 0), (44, 0), (45, 0), (46, 0), (47, 0), (48, 0), (49, 0), (50, 0), (51, 0), (52, 0), (53, 0), (54, 0)] M M')) := by
  have f0 : Fr [(39, 16), (39, 17), (39, 18), (40, 0), (41, 0), (42, 0), (43, 0), (44, 0), (45, 0), (46, 0), (47, 0), (48, 0), (49, 0), (50, 0), (51, 0), (52, 0), (53, 0), (54, 0)] M M := Fr.rf
  refine sOk.of (show sRn base X G d T79 0 [(0, vR 39), (1, vR 1), (2, vI lightWord)] [] M _ from ?_)
  refine s_blx (lv' := [(0, vR 39), (1, vR 1), (2, vI lightWord)]) (st' := [vR 1]) B79_0_1 rfl ?_
  refine r_gfix (r := 3) (pc' := 4) D79_1 rfl gf_9_68_1 H.1 ?_
  refine s_blx (lv' := [(0, vR 39), (1, vR 1), (2, vI lightWord)]) (st' := [vR 39, vI 0, vR 3]) B79_4_6 rfl ?_
  refine r_gfix (r := 53) (pc' := 9) D79_6 rfl gf_9_52_39 H.1 ?_
  refine s_blx (lv' := [(0, vR 39), (1, vR 1), (2, vI lightWord)]) (st' := [vI 9, vI 0, vR 53, vI 0, vR 3]) B79_9_12 rfl ?_
  refine r_acpy (pc' := 15) D79_12 rfl mc_9_static_71 sp_9_71 (Nat.le_of_ble_eq_true rfl) sc_3 sc_53 H (by omega) (fun j h0 h1 => (show 0 ≤ _ ∧ _ ≤ 1000 from by have q := H.2 3 (0 + j) 0 1000 rfl; omega)) ?_
  intro M1 u2 H3
  have f4 := f0.cp u2 (fun _ => rfl)
  refine s_blx (lv' := [(0, vR 39), (1, vR 1), (2, vI lightWord)]) (st' := [vR 1, vR 39]) B79_15_17 rfl ?_
  refine r_gint (ki := 2) (pc' := 20) D79_17 rfl gf_9_77_1 rfl H3.1 ?_
  intro w5 e6 r7
  have b_w5 := H3.2 1 (2) 0 5 rfl
  rw [← e6] at b_w5; clear r7
  refine r_pint (ki := 16) (pc' := 23) D79_20 rfl pf_9_62_39 rfl H3 (by unfold inR; omega) (show 0 ≤ w5 ∧ w5 ≤ 5 by omega) ?_
  intro M8 u9 H10 p11
  have f12 := f4.wr u9 rfl
  refine s_blx (lv' := [(0, vR 39), (1, vR 1), (2, vI lightWord)]) (st' := [vR 1, vR 39]) B79_23_25 rfl ?_
  refine r_gint (ki := 5) (pc' := 28) D79_25 rfl gf_9_78_1 rfl H10.1 ?_
  intro w13 e14 r15
  have b_w13 := H10.2 1 (5) 0 3 rfl
  rw [← e14] at b_w13; clear r15
  refine r_pint (ki := 17) (pc' := 31) D79_28 rfl pf_9_65_39 rfl H10 (by unfold inR; omega) (show 0 ≤ w13 ∧ w13 ≤ 3 by omega) ?_
  intro M16 u17 H18 p19
  have f20 := f12.wr u17 rfl
  refine s_blx (lv' := [(0, vR 39), (1, vR 1), (2, vI lightWord)]) (st' := [vR 39]) B79_31_32 rfl ?_
  refine r_gfix (r := 52) (pc' := 35) D79_32 rfl gf_9_49_39 H18.1 ?_
  refine s_blx (lv' := [(0, vR 39), (1, vR 1), (2, vI lightWord)]) (st' := [vI 0, vR 52]) B79_35_36 rfl ?_
  refine r_sV (args := [vR 52, vI 0]) (rest := []) (pc' := 39) D79_36 rfl ck_9_static_79 TE278 rfl (Nat.le_of_ble_eq_true rfl) ⟨Nat.le_of_ble_eq_true rfl, Nat.le_of_ble_eq_true rfl⟩ (by decide) (dp_0 hd rfl) (k278_52 E (dp_n hd rfl) H18 0 (by omega)) ?_
  intro M22 q25
  obtain ⟨H23, f24⟩ := q25
  have f26 := f20.tr (f24.up rfl)
  refine s_blx (lv' := [(0, vR 39), (1, vR 1), (2, vI lightWord)]) (st' := [vI 1, vR 39]) B79_39_41 rfl ?_
  refine r_pint (ki := 15) (pc' := 44) D79_41 rfl pf_9_58_39 rfl H23 (by unfold inR; omega) (show 0 ≤ 1 ∧ 1 ≤ 145 by omega) ?_
  intro M27 u28 H29 p30
  have f31 := f26.wr u28 rfl
  refine s_blx (lv' := [(0, vR 39), (1, vR 1), (2, vI lightWord)]) (st' := [vR 39]) B79_44_45 rfl ?_
  refine r_gfix (r := 40) (pc' := 48) D79_45 rfl gf_9_11_39 H29.1 ?_
  refine s_blx (lv' := [(0, vR 39), (1, vR 1), (2, vI lightWord)]) (st' := [vI (-1), vI 0, vR 40]) B79_48_50 rfl ?_
  refine r_iast (pc' := 51) D79_50 rfl sc_40 H29 (by omega) (by unfold inR; omega) (show (-1) ≤ (-1) ∧ (-1) ≤ 144 by omega) ?_
  intro M32 u33 H34 p35
  have f36 := f31.wr u33 rfl
  refine s_blx (lv' := [(3, vI 0), (0, vR 39), (1, vR 1), (2, vI lightWord)]) (st' := []) B79_51_53 rfl ?_
  refine r_loc (lv' := [(0, vR 39), (1, vR 1), (2, vI lightWord), (3, vI 0)]) ⟨rfl, rfl, rfl, rfl, trivial⟩ rfl rfl ?_
  exact (L_k79_39 E hd H lightWord h0 (((16 - 0) * 1 + 0 : Int) + 1).toNat) 0 M32 H34 f36 (by omega) (by omega) (by omega)
set_option maxRecDepth 4000 in
theorem k83_39 {base : Nat} {X : Nat → Option mC} {G : Nat → Value} (E : EnvOK base X G) {d : Nat} (hd : 1 ≤ d) {M : mH} (H : HI base M) (sentence : Int) (h0 : -2147483648 ≤ sentence ∧ sentence ≤ 2147483647) : sOk base X G d T83 [vR 39, vI sentence] M (pI (fun v M' => M' = M ∧ (-1 ≤ v ∧ v ≤ 8) ∧ (0 ≤ v → 0 ≤ sentence ∧ sentence ≤ 15))) := by
  refine sOk.of (show sRn base X G d T83 0 [(0, vR 39), (1, vI sentence)] [] M _ from ?_)
  refine s_blx (lv' := [(0, vR 39), (1, vI sentence)]) (st' := [vI 15, vI 0, vI sentence]) B83_0_4 rfl ?_
  refine r_sIp (args := [vI sentence, vI 0, vI 15]) (rest := []) (pc' := 7) D83_4 rfl ck_9_static_136 TE142 rfl (Nat.le_of_ble_eq_true rfl) ⟨Nat.le_of_ble_eq_true rfl, Nat.le_of_ble_eq_true rfl⟩ (by decide) (dp_0 hd rfl) (k142 E (dp_n hd rfl) H sentence 0 15 (by omega) (by omega) (by omega)) ?_
  intro v1 q6
  obtain ⟨q3, q4, q5⟩ := q6
  refine r_ifc (tgt := 28) (pc' := 10) D83_7 rfl rfl (by unfold inR; omega) (fun (c7 : v1 = 0) => ?_) (fun (c7 : ¬ (v1 = 0)) => ?_)
  · refine s_blx (lv' := [(0, vR 39), (1, vI sentence)]) (st' := [vI (-1)]) B83_28_29 rfl ?_
    exact r_iretI D83_29 rfl (⟨rfl, by omega, by omega⟩)
  · refine s_blx (lv' := [(0, vR 39), (1, vI sentence)]) (st' := [vR 39]) B83_10_11 rfl ?_
    refine r_gfix (r := 52) (pc' := 14) D83_11 rfl gf_9_49_39 H.1 ?_
    refine s_blx (lv' := [(0, vR 39), (1, vI sentence)]) (st' := [vI sentence, vR 52]) B83_14_15 rfl ?_
    refine r_iald (pc' := 16) D83_15 rfl sc_52 H.1 (by omega) ?_
    intro w8 e9 r10
    have b_w8 := H.2 52 (sentence) 0 8 rfl
    rw [← e9] at b_w8; clear r10
    refine r_ifc (tgt := 28) (pc' := 19) D83_16 rfl rfl (by unfold inR; omega) (fun (c11 : w8 ≤ 0) => ?_) (fun (c11 : ¬ (w8 ≤ 0)) => ?_)
    · refine s_blx (lv' := [(0, vR 39), (1, vI sentence)]) (st' := [vI (-1)]) B83_28_29 rfl ?_
      exact r_iretI D83_29 rfl (⟨rfl, by omega, by omega⟩)
    · refine s_blx (lv' := [(0, vR 39), (1, vI sentence)]) (st' := [vR 39]) B83_19_20 rfl ?_
      refine r_gfix (r := 52) (pc' := 23) D83_20 rfl gf_9_49_39 H.1 ?_
      refine s_blx (lv' := [(0, vR 39), (1, vI sentence)]) (st' := [vI sentence, vR 52]) B83_23_24 rfl ?_
      refine r_iald (pc' := 25) D83_24 rfl sc_52 H.1 (by omega) ?_
      intro w12 e13 r14
      have e15 : w8 = w12 := (e13.trans (e9.symm)).symm
      subst e15
      refine r_goto (tgt := 29) D83_25 rfl ?_
      exact r_iretI D83_29 rfl (⟨rfl, by omega, by omega⟩)
set_option maxRecDepth 4000 in
theorem k84_39 {base : Nat} {X : Nat → Option mC} {G : Nat → Value} (E : EnvOK base X G) {d : Nat} (hd : 0 ≤ d) {M : mH} (H : HI base M) (sentence : Int) (second : Int) (h0 : 0 ≤ sentence ∧ sentence ≤ 15) (h1 : 0 ≤ second ∧ second ≤ 2147483647) : sOk base X G d T84 [vR 39, vI sentence, vI second] M (pI (fun v M' => M' = M ∧ (0 ≤ v ∧ v ≤ 144))) := by
  refine sOk.of (show sRn base X G d T84 0 [(0, vR 39), (1, vI sentence), (2, vI second)] [] M _ from ?_)
  refine s_blx (lv' := [(0, vR 39), (1, vI sentence), (2, vI second)]) (st' := [vR 39]) B84_0_1 rfl ?_
  refine r_gfix (r := 51) (pc' := 4) D84_1 rfl gf_9_46_39 H.1 ?_
  refine s_blx (lv' := [(0, vR 39), (1, vI sentence), (2, vI second)]) (st' := [vR 39, vI second, vI (sentence * 9), vR 51]) B84_4_10 rfl ?_
  refine r_gfix (r := 52) (pc' := 13) D84_10 rfl gf_9_49_39 H.1 ?_
  refine s_blx (lv' := [(0, vR 39), (1, vI sentence), (2, vI second)]) (st' := [vI sentence, vR 52, vI second, vI (sentence * 9), vR 51]) B84_13_14 rfl ?_
  refine r_iald (pc' := 15) D84_14 rfl sc_52 H.1 (by omega) ?_
  intro w1 e2 r3
  have b_w1 := H.2 52 (sentence) 0 8 rfl
  rw [← e2] at b_w1; clear r3
  refine r_min (pc' := 18) D84_15 rfl mc_9_static_115 sp_9_115 (Nat.le_of_ble_eq_true rfl) (by unfold inR; omega) ?_
  intro z4 r5 r6 r7
  refine s_blx (lv' := [(0, vR 39), (1, vI sentence), (2, vI second)]) (st' := [vI ((sentence * 9) + z4), vR 51]) B84_18_19 rfl ?_
  refine r_iald (pc' := 20) D84_19 rfl sc_51 H.1 (by omega) ?_
  intro w8 e9 r10
  have b_w8 := H.2 51 ((sentence * 9) + z4) 0 144 rfl
  rw [← e9] at b_w8; clear r10
  exact r_iretI D84_20 rfl (⟨rfl, by omega⟩)
set_option maxRecDepth 4000 in
theorem k85_39 {base : Nat} {X : Nat → Option mC} {G : Nat → Value} (E : EnvOK base X G) {d : Nat} (hd : 0 ≤ d) {M : mH} (H : HI base M) (place : Int) (done : Int) (h0 : 0 ≤ place ∧ place ≤ 144) (h1 : 0 ≤ done ∧ done ≤ 2) : sOk base X G d T85 [vR 39, vI place, vI done] M (pI (fun v M' => M' = M ∧ (place * 3 ≤ v ∧ v ≤ place * 3 + 2))) := by
  refine sOk.of (show sRn base X G d T85 0 [(0, vR 39), (1, vI place), (2, vI done)] [] M _ from ?_)
  refine s_blx (lv' := [(0, vR 39), (1, vI place), (2, vI done)]) (st' := [vI (place * 3)]) B85_0_3 rfl ?_
  obtain ⟨u1, f2, g3, g4, h5, k6⟩ := E.1 5 _ rfl
  refine r_gst (pc' := 6) D85_3 rfl st_9_140 g3 ?_
  refine s_blx (lv' := [(0, vR 39), (1, vI place), (2, vI done)]) (st' := [vR 39, vA u1, vI (place * 3)]) B85_6_7 rfl ?_
  refine r_gint (ki := 16) (pc' := 10) D85_7 rfl gf_9_62_39 rfl H.1 ?_
  intro w7 e8 r9
  have b_w7 := H.2 39 (16) 0 5 rfl
  rw [← e8] at b_w7; clear r9
  refine s_blx (lv' := [(0, vR 39), (1, vI place), (2, vI done)]) (st' := [vI ((w7 * 3) + done), vA u1, vI (place * 3)]) B85_10_14 rfl ?_
  refine r_ialdT (pc' := 15) D85_14 rfl h5 g4 k6 (by first | omega | (show _ ∧ _ ∧ _; simp only [List.length]; omega)) ?_
  intro w10 e11 r12
  have b_w10 := tb_5 ((w7 * 3) + done).toNat (by omega)
  rw [← e11] at b_w10; clear r12
  refine s_blx (lv' := [(0, vR 39), (1, vI place), (2, vI done)]) (st' := [vI ((place * 3) + w10)]) B85_15_16 rfl ?_
  exact r_iretI D85_16 rfl (⟨rfl, by omega⟩)
set_option maxRecDepth 4000 in
theorem k90_39 {base : Nat} {X : Nat → Option mC} {G : Nat → Value} (E : EnvOK base X G) {d : Nat} (hd : 0 ≤ d) {M : mH} (H : HI base M) (place : Int) (done : Int) (h0 : 0 ≤ place ∧ place ≤ 144) (h1 : 0 ≤ done ∧ done ≤ 3) : sOk base X G d T90 [vR 39, vI place, vI done] M (pI (fun v M' => M' = M ∧ (-2147483648 ≤ v ∧ v ≤ 2147483647))) := by
  refine sOk.of (show sRn base X G d T90 0 [(0, vR 39), (1, vI place), (2, vI done)] [] M _ from ?_)
  refine s_blx (lv' := [(0, vR 39), (1, vI place), (2, vI done)]) (st' := [vR 39]) B90_0_1 rfl ?_
  refine r_gfix (r := 43) (pc' := 4) D90_1 rfl gf_9_21_39 H.1 ?_
  refine s_blx (lv' := [(0, vR 39), (1, vI place), (2, vI done)]) (st' := [vI place, vR 43]) B90_4_5 rfl ?_
  refine r_iald (pc' := 6) D90_5 rfl sc_43 H.1 (by omega) ?_
  intro w1 e2 r3
  unfold inR at r3
  refine s_blx (lv' := [(0, vR 39), (1, vI place), (2, vI done)]) (st' := [vR 39, vI w1]) B90_6_7 rfl ?_
  refine r_gfix (r := 53) (pc' := 10) D90_7 rfl gf_9_52_39 H.1 ?_
  refine s_blx (lv' := [(0, vR 39), (1, vI place), (2, vI done)]) (st' := [vI 1, vR 53, vI w1]) B90_10_11 rfl ?_
  refine r_iald (pc' := 12) D90_11 rfl sc_53 H.1 (by omega) ?_
  intro w4 e5 r6
  have b_w4 := H.2 53 (1) 0 1000 rfl
  rw [← e5] at b_w4; clear r6
  refine s_blx (lv' := [(0, vR 39), (1, vI place), (2, vI done)]) (st' := [vI 0, vI (w1 - (w4 * done))]) B90_12_16 rfl ?_
  refine r_norm2 ?_
  intro z7 r8 _; unfold inR at r8
  refine r_max (pc' := 19) D90_16 rfl mc_9_static_174 sp_9_174 (Nat.le_of_ble_eq_true rfl) (by unfold inR; omega) ?_
  intro z9 r10 r11 r12
  exact r_iretI D90_19 rfl (⟨rfl, by omega⟩)
set_option maxRecDepth 4000 in
theorem L_k91_39 {base : Nat} {X : Nat → Option mC} {G : Nat → Value} (E : EnvOK base X G) {d : Nat} (hd : 0 ≤ d) {M : mH} (H : HI base M) : ∀ mz : Nat, (∀ (x1 : Int), (1 ≤ x1) → (x1 ≤ 145) → (145 - x1) * 1 + 0 < (mz : Int) → sRn base X G d T91 2 [(0, vR 39), (1, vI x1)] [] M (s_Q base (pI (fun v M' => M' = M ∧ (v = 0 ∨ v = 1))))) := by
  intro mz
  induction mz with
  | zero => exact fun x1 z0 z1 z2 => by omega
  | succ mz ih =>
    intro x1 i0 i1 hmu
    refine s_blx (lv' := [(0, vR 39), (1, vI x1)]) (st' := [vR 39, vI x1]) B91_2_4 rfl ?_
    refine r_gint (ki := 15) (pc' := 7) D91_4 rfl gf_9_58_39 rfl H.1 ?_
    intro w1 e2 r3
    have b_w1 := H.2 39 (15) 0 145 rfl
    rw [← e2] at b_w1; clear r3
    refine r_icmp (tgt := 42) (pc' := 10) D91_7 rfl rfl (by unfold inR; omega) (fun (c4 : w1 ≤ x1) => ?_) (fun (c4 : ¬ (w1 ≤ x1)) => ?_)
    · refine s_blx (lv' := [(0, vR 39), (1, vI x1)]) (st' := [vI 0]) B91_42_43 rfl ?_
      exact r_zretI D91_43 rfl (by omega) (⟨rfl, by omega⟩)
    · refine s_blx (lv' := [(0, vR 39), (1, vI x1)]) (st' := [vR 39]) B91_10_11 rfl ?_
      refine r_gfix (r := 53) (pc' := 14) D91_11 rfl gf_9_52_39 H.1 ?_
      refine s_blx (lv' := [(0, vR 39), (1, vI x1)]) (st' := [vI 2, vR 53]) B91_14_15 rfl ?_
      refine r_iald (pc' := 16) D91_15 rfl sc_53 H.1 (by omega) ?_
      intro w5 e6 r7
      have b_w5 := H.2 53 (2) 0 1000 rfl
      rw [← e6] at b_w5; clear r7
      refine r_ifc (tgt := 36) (pc' := 19) D91_16 rfl rfl (by unfold inR; omega) (fun (c8 : w5 ≤ 0) => ?_) (fun (c8 : ¬ (w5 ≤ 0)) => ?_)
      · refine s_blx (lv' := [(1, vI (x1 + 1)), (0, vR 39)]) (st' := []) B91_36_39 rfl ?_
        refine r_goto (tgt := 2) D91_39 rfl ?_
        refine r_loc (lv' := [(0, vR 39), (1, vI (x1 + 1))]) ⟨rfl, rfl, trivial⟩ rfl rfl ?_
        exact ih (x1 + 1) (by omega) (by omega) (by omega)
      · refine s_blx (lv' := [(0, vR 39), (1, vI x1)]) (st' := [vR 39]) B91_19_20 rfl ?_
        refine r_gfix (r := 43) (pc' := 23) D91_20 rfl gf_9_21_39 H.1 ?_
        refine s_blx (lv' := [(0, vR 39), (1, vI x1)]) (st' := [vI x1, vR 43]) B91_23_24 rfl ?_
        refine r_iald (pc' := 25) D91_24 rfl sc_43 H.1 (by omega) ?_
        intro w9 e10 r11
        unfold inR at r11
        refine s_blx (lv' := [(0, vR 39), (1, vI x1)]) (st' := [vR 39, vI w9]) B91_25_26 rfl ?_
        refine r_gfix (r := 53) (pc' := 29) D91_26 rfl gf_9_52_39 H.1 ?_
        refine s_blx (lv' := [(0, vR 39), (1, vI x1)]) (st' := [vI 0, vR 53, vI w9]) B91_29_30 rfl ?_
        refine r_iald (pc' := 31) D91_30 rfl sc_53 H.1 (by omega) ?_
        intro w12 e13 r14
        have b_w12 := H.2 53 (0) 0 1000 rfl
        rw [← e13] at b_w12; clear r14
        refine r_icmp (tgt := 36) (pc' := 34) D91_31 rfl rfl (by unfold inR; omega) (fun (c15 : w9 ≤ w12) => ?_) (fun (c15 : ¬ (w9 ≤ w12)) => ?_)
        · refine s_blx (lv' := [(1, vI (x1 + 1)), (0, vR 39)]) (st' := []) B91_36_39 rfl ?_
          refine r_goto (tgt := 2) D91_39 rfl ?_
          refine r_loc (lv' := [(0, vR 39), (1, vI (x1 + 1))]) ⟨rfl, rfl, trivial⟩ rfl rfl ?_
          exact ih (x1 + 1) (by omega) (by omega) (by omega)
        · refine s_blx (lv' := [(0, vR 39), (1, vI x1)]) (st' := [vI 1]) B91_34_35 rfl ?_
          exact r_zretI D91_35 rfl (by omega) (⟨rfl, by omega⟩)
set_option maxRecDepth 4000 in
theorem k91_39 {base : Nat} {X : Nat → Option mC} {G : Nat → Value} (E : EnvOK base X G) {d : Nat} (hd : 0 ≤ d) {M : mH} (H : HI base M) : sOk base X G d T91 [vR 39] M (pI (fun v M' => M' = M ∧ (v = 0 ∨ v = 1))) := by
  refine sOk.of (show sRn base X G d T91 0 [(0, vR 39)] [] M _ from ?_)
  refine s_blx (lv' := [(1, vI 1), (0, vR 39)]) (st' := []) B91_0_2 rfl ?_
  refine r_loc (lv' := [(0, vR 39), (1, vI 1)]) ⟨rfl, rfl, trivial⟩ rfl rfl ?_
  exact (L_k91_39 E hd H (((145 - 1) * 1 + 0 : Int) + 1).toNat) 1 (by omega) (by omega) (by omega)
set_option maxRecDepth 4000 in
theorem k92_39 {base : Nat} {X : Nat → Option mC} {G : Nat → Value} (E : EnvOK base X G) {d : Nat} (hd : 1 ≤ d) {M : mH} (H : HI base M) (place : Int) (done : Int) (h0 : 0 ≤ place ∧ place ≤ 144) (h1 : 0 ≤ done ∧ done ≤ 3) : sOk base X G d T92 [vR 39, vI place, vI done] M (pI (fun v M' => M' = M ∧ (-2147483648 ≤ v ∧ v ≤ 2147483647))) := by
  refine sOk.of (show sRn base X G d T92 0 [(0, vR 39), (1, vI place), (2, vI done)] [] M _ from ?_)
  refine s_blx (lv' := [(0, vR 39), (1, vI place), (2, vI done)]) (st' := [vI done, vI place, vR 39]) B92_0_3 rfl ?_
  refine r_vIp (c := 39) (args := [vI place, vI done]) (rest := []) (pc' := 6) D92_3 rfl ck_9_virtual_177 TE90 rfl (Nat.le_of_ble_eq_true rfl) ⟨Nat.le_of_ble_eq_true rfl, Nat.le_of_ble_eq_true rfl⟩ sc_39 ⟨rfl, by decide⟩ H.1 (dp_0 hd rfl) (k90_39 E (dp_n hd rfl) H place done (by omega) (by omega)) ?_
  intro v1 q4
  have q3 := q4; clear q4
  refine s_blx (lv' := [(0, vR 39), (1, vI place), (2, vI done)]) (st' := [vR 39, vI v1]) B92_6_7 rfl ?_
  refine r_gfix (r := 53) (pc' := 10) D92_7 rfl gf_9_52_39 H.1 ?_
  refine s_blx (lv' := [(0, vR 39), (1, vI place), (2, vI done)]) (st' := [vI 0, vR 53, vI v1]) B92_10_11 rfl ?_
  refine r_iald (pc' := 12) D92_11 rfl sc_53 H.1 (by omega) ?_
  intro w5 e6 r7
  have b_w5 := H.2 53 (0) 0 1000 rfl
  rw [← e6] at b_w5; clear r7
  refine s_blx (lv' := [(0, vR 39), (1, vI place), (2, vI done)]) (st' := [vI 0, vI (v1 - w5)]) B92_12_14 rfl ?_
  refine r_norm2 ?_
  intro z8 r9 _; unfold inR at r9
  refine r_max (pc' := 17) D92_14 rfl mc_9_static_174 sp_9_174 (Nat.le_of_ble_eq_true rfl) (by unfold inR; omega) ?_
  intro z10 r11 r12 r13
  refine s_blx (lv' := [(3, vI z10), (0, vR 39), (1, vI place), (2, vI done)]) (st' := [vR 39]) B92_17_19 rfl ?_
  refine r_gfix (r := 53) (pc' := 22) D92_19 rfl gf_9_52_39 H.1 ?_
  refine s_blx (lv' := [(3, vI z10), (0, vR 39), (1, vI place), (2, vI done)]) (st' := [vI 2, vR 53]) B92_22_23 rfl ?_
  refine r_iald (pc' := 24) D92_23 rfl sc_53 H.1 (by omega) ?_
  intro w14 e15 r16
  have b_w14 := H.2 53 (2) 0 1000 rfl
  rw [← e15] at b_w14; clear r16
  refine s_blx (lv' := [(3, vI z10), (0, vR 39), (1, vI place), (2, vI done)]) (st' := [vR 39, vI (w14 * z10)]) B92_24_27 rfl ?_
  refine r_gfix (r := 44) (pc' := 30) D92_27 rfl gf_9_24_39 H.1 ?_
  refine s_blx (lv' := [(3, vI z10), (0, vR 39), (1, vI place), (2, vI done)]) (st' := [vI place, vR 44, vI (w14 * z10)]) B92_30_31 rfl ?_
  refine r_bald (pc' := 32) D92_31 rfl sc_44 (by decide) H.1 (by omega) ?_
  intro w17 e18 r19
  have b_w17 := H.2 44 (place) 0 1 rfl
  rw [← e18] at b_w17; clear r19
  refine r_ifc (tgt := 44) (pc' := 35) D92_32 rfl rfl (by unfold inR; omega) (fun (c20 : w17 = 0) => ?_) (fun (c20 : ¬ (w17 = 0)) => ?_)
  · refine s_blx (lv' := [(3, vI z10), (0, vR 39), (1, vI place), (2, vI done)]) (st' := [vI ((w14 * z10) + 0)]) B92_44_46 rfl ?_
    refine r_norm ?_
    intro z21 r22 _; unfold inR at r22
    exact r_iretI D92_46 rfl (⟨rfl, by omega⟩)
  · refine s_blx (lv' := [(3, vI z10), (0, vR 39), (1, vI place), (2, vI done)]) (st' := [vR 39, vI (w14 * z10)]) B92_35_36 rfl ?_
    refine r_gfix (r := 53) (pc' := 39) D92_36 rfl gf_9_52_39 H.1 ?_
    refine s_blx (lv' := [(3, vI z10), (0, vR 39), (1, vI place), (2, vI done)]) (st' := [vI 3, vR 53, vI (w14 * z10)]) B92_39_40 rfl ?_
    refine r_iald (pc' := 41) D92_40 rfl sc_53 H.1 (by omega) ?_
    intro w23 e24 r25
    have b_w23 := H.2 53 (3) 0 1000 rfl
    rw [← e24] at b_w23; clear r25
    refine r_goto (tgt := 45) D92_41 rfl ?_
    refine s_blx (lv' := [(3, vI z10), (0, vR 39), (1, vI place), (2, vI done)]) (st' := [vI ((w14 * z10) + w23)]) B92_45_46 rfl ?_
    refine r_norm ?_
    intro z26 r27 _; unfold inR at r27
    exact r_iretI D92_46 rfl (⟨rfl, by omega⟩)
