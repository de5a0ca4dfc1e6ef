/-! A test that isn't ended: there is a word more. -/
theorem ne_acc {F : Int → Int} {e t x : Int} (h : F e = 2 ∨ F e = 20 ∨ F e = 2001) (hx : F t = x) (hn : x ≠ 2 ∧ x ≠ 20 ∧ x ≠ 2001) : t ≠ e := by
  intro q; subst q; omega
theorem ne_accB {F : Int → Int} {e t p : Int} {Q : Prop} (h : F e = 2 ∨ F e = 20 ∨ F e = 2001) (hx : F t = 20 + p ∨ (F t = 2001 + 100 * p ∧ Q)) (h1 : 1 ≤ p) (h2 : p ≤ 8) : t ≠ e := by
  intro q; subst q
  rcases hx with hx | ⟨hx, _⟩ <;> omega
def T241 : mT := (11, yX11_positiveOf, cX11_positiveOf, 8, (some .boolean))
set_option maxRecDepth 10000 in
theorem TE241 : sy_m[241]? = some T241 := rfl
theorem B241_0_3 : s_dk T241.2.2.1 0 [.aload_n 0, .bipush 40] 3 = true := by decide +kernel
theorem D241_3 : decode T241.2.2.1 3 = .ok (.invokestatic 346, 3) := by decide +kernel
theorem D241_6 : decode T241.2.2.1 6 = .ok (.invokevirtual 402, 3) := by decide +kernel
theorem D241_9 : decode T241.2.2.1 9 = .ok (.ifCond .eq 21, 3) := by decide +kernel
theorem B241_30_32 : s_dk T241.2.2.1 30 [.aload_n 0, .aload_n 0] 32 = true := by decide +kernel
theorem D241_32 : decode T241.2.2.1 32 = .ok (.getfield 378, 3) := by decide +kernel
theorem D241_35 : decode T241.2.2.1 35 = .ok (.invokevirtual 381, 3) := by decide +kernel
theorem B241_38_42 : s_dk T241.2.2.1 38 [.istore_n 2, .iload_n 2, .bipush 11] 42 = true := by decide +kernel
theorem D241_42 : decode T241.2.2.1 42 = .ok (.if_icmp .eq 9, 3) := by decide +kernel
theorem B241_51_53 : s_dk T241.2.2.1 51 [.aload_n 0, .dup] 53 = true := by decide +kernel
theorem D241_53 : decode T241.2.2.1 53 = .ok (.getfield 378, 3) := by decide +kernel
theorem B241_56_58 : s_dk T241.2.2.1 56 [.iconst 1, .iadd] 58 = true := by decide +kernel
theorem D241_58 : decode T241.2.2.1 58 = .ok (.putfield 378, 3) := by decide +kernel
theorem B241_61_62 : s_dk T241.2.2.1 61 [.iload_n 1] 62 = true := by decide +kernel
theorem D241_62 : decode T241.2.2.1 62 = .ok (.ifCond .eq 51, 3) := by decide +kernel
theorem B241_113_114 : s_dk T241.2.2.1 113 [.iconst 0] 114 = true := by decide +kernel
theorem D241_114 : decode T241.2.2.1 114 = .ok (.ireturn, 1) := by decide +kernel
theorem B241_65_66 : s_dk T241.2.2.1 65 [.aload_n 0] 66 = true := by decide +kernel
theorem D241_66 : decode T241.2.2.1 66 = .ok (.getfield 388, 3) := by decide +kernel
theorem D241_69 : decode T241.2.2.1 69 = .ok (.ifCond .ne 44, 3) := by decide +kernel
theorem B241_72_75 : s_dk T241.2.2.1 72 [.iload_n 2, .bipush 12] 75 = true := by decide +kernel
theorem D241_75 : decode T241.2.2.1 75 = .ok (.if_icmp .ne 13, 3) := by decide +kernel
theorem B241_88_89 : s_dk T241.2.2.1 88 [.aload_n 0] 89 = true := by decide +kernel
theorem D241_89 : decode T241.2.2.1 89 = .ok (.getfield 212, 3) := by decide +kernel
theorem B241_92_93 : s_dk T241.2.2.1 92 [.iconst (-1)] 93 = true := by decide +kernel
theorem D241_93 : decode T241.2.2.1 93 = .ok (.if_icmp .eq 20, 3) := by decide +kernel
theorem B241_96_97 : s_dk T241.2.2.1 96 [.aload_n 0] 97 = true := by decide +kernel
theorem D241_97 : decode T241.2.2.1 97 = .ok (.getfield 33, 3) := by decide +kernel
theorem B241_100_101 : s_dk T241.2.2.1 100 [.aload_n 0] 101 = true := by decide +kernel
theorem D241_101 : decode T241.2.2.1 101 = .ok (.getfield 212, 3) := by decide +kernel
theorem D241_104 : decode T241.2.2.1 104 = .ok (.iaload, 1) := by decide +kernel
theorem B241_105_106 : s_dk T241.2.2.1 105 [.iconst (-1)] 106 = true := by decide +kernel
theorem D241_106 : decode T241.2.2.1 106 = .ok (.if_icmp .eq 7, 3) := by decide +kernel
theorem B241_109_110 : s_dk T241.2.2.1 109 [.iconst 1] 110 = true := by decide +kernel
theorem D241_110 : decode T241.2.2.1 110 = .ok (.goto 4, 3) := by decide +kernel
theorem B241_45_48 : s_dk T241.2.2.1 45 [.iload_n 2, .bipush 12] 48 = true := by decide +kernel
theorem D241_48 : decode T241.2.2.1 48 = .ok (.if_icmp .ne 67, 3) := by decide +kernel
theorem B241_115_117 : s_dk T241.2.2.1 115 [.aload_n 0, .iload_n 1] 117 = true := by decide +kernel
theorem D241_117 : decode T241.2.2.1 117 = .ok (.invokevirtual 405, 3) := by decide +kernel
theorem B241_120_123 : s_dk T241.2.2.1 120 [.lstore_n 3, .aload_n 0, .aload_n 0] 123 = true := by decide +kernel
theorem D241_123 : decode T241.2.2.1 123 = .ok (.getfield 378, 3) := by decide +kernel
theorem D241_126 : decode T241.2.2.1 126 = .ok (.invokevirtual 381, 3) := by decide +kernel
theorem B241_129_133 : s_dk T241.2.2.1 129 [.istore 5, .aload_n 0, .dup] 133 = true := by decide +kernel
theorem D241_133 : decode T241.2.2.1 133 = .ok (.getfield 378, 3) := by decide +kernel
theorem B241_136_138 : s_dk T241.2.2.1 136 [.iconst 1, .iadd] 138 = true := by decide +kernel
theorem D241_138 : decode T241.2.2.1 138 = .ok (.putfield 378, 3) := by decide +kernel
theorem B241_141_143 : s_dk T241.2.2.1 141 [.aload_n 0, .iload_n 1] 143 = true := by decide +kernel
theorem D241_143 : decode T241.2.2.1 143 = .ok (.invokevirtual 405, 3) := by decide +kernel
theorem B241_146_149 : s_dk T241.2.2.1 146 [.lstore 6, .iload_n 1] 149 = true := by decide +kernel
theorem D241_149 : decode T241.2.2.1 149 = .ok (.ifCond .eq 61, 3) := by decide +kernel
theorem B241_210_211 : s_dk T241.2.2.1 210 [.iconst 0] 211 = true := by decide +kernel
theorem D241_211 : decode T241.2.2.1 211 = .ok (.ireturn, 1) := by decide +kernel
theorem B241_152_153 : s_dk T241.2.2.1 152 [.aload_n 0] 153 = true := by decide +kernel
theorem D241_153 : decode T241.2.2.1 153 = .ok (.getfield 388, 3) := by decide +kernel
theorem D241_156 : decode T241.2.2.1 156 = .ok (.ifCond .ne 54, 3) := by decide +kernel
theorem B241_159_163 : s_dk T241.2.2.1 159 [.iload 5, .bipush 60] 163 = true := by decide +kernel
theorem D241_163 : decode T241.2.2.1 163 = .ok (.invokestatic 346, 3) := by decide +kernel
theorem D241_166 : decode T241.2.2.1 166 = .ok (.if_icmp .ne 13, 3) := by decide +kernel
theorem B241_179_183 : s_dk T241.2.2.1 179 [.iload 5, .bipush 62] 183 = true := by decide +kernel
theorem D241_183 : decode T241.2.2.1 183 = .ok (.invokestatic 346, 3) := by decide +kernel
theorem D241_186 : decode T241.2.2.1 186 = .ok (.if_icmp .ne 13, 3) := by decide +kernel
theorem B241_199_202 : s_dk T241.2.2.1 199 [.lload_n 3, .lload 6] 202 = true := by decide +kernel
theorem D241_202 : decode T241.2.2.1 202 = .ok (.lcmp, 1) := by decide +kernel
theorem D241_203 : decode T241.2.2.1 203 = .ok (.ifCond .ne 7, 3) := by decide +kernel
theorem B241_206_207 : s_dk T241.2.2.1 206 [.iconst 1] 207 = true := by decide +kernel
theorem D241_207 : decode T241.2.2.1 207 = .ok (.goto 4, 3) := by decide +kernel
theorem B241_189_192 : s_dk T241.2.2.1 189 [.lload_n 3, .lload 6] 192 = true := by decide +kernel
theorem D241_192 : decode T241.2.2.1 192 = .ok (.lcmp, 1) := by decide +kernel
theorem D241_193 : decode T241.2.2.1 193 = .ok (.ifCond .le 17, 3) := by decide +kernel
theorem D241_196 : decode T241.2.2.1 196 = .ok (.goto 10, 3) := by decide +kernel
theorem B241_169_172 : s_dk T241.2.2.1 169 [.lload_n 3, .lload 6] 172 = true := by decide +kernel
theorem D241_172 : decode T241.2.2.1 172 = .ok (.lcmp, 1) := by decide +kernel
theorem D241_173 : decode T241.2.2.1 173 = .ok (.ifCond .ge 37, 3) := by decide +kernel
theorem D241_176 : decode T241.2.2.1 176 = .ok (.goto 30, 3) := by decide +kernel
theorem B241_78_79 : s_dk T241.2.2.1 78 [.aload_n 0] 79 = true := by decide +kernel
theorem D241_79 : decode T241.2.2.1 79 = .ok (.getfield 190, 3) := by decide +kernel
theorem D241_82 : decode T241.2.2.1 82 = .ok (.ifCond .eq 31, 3) := by decide +kernel
theorem D241_85 : decode T241.2.2.1 85 = .ok (.goto 24, 3) := by decide +kernel
theorem B241_12_14 : s_dk T241.2.2.1 12 [.aload_n 0, .iload_n 1] 14 = true := by decide +kernel
theorem D241_14 : decode T241.2.2.1 14 = .ok (.invokevirtual 418, 3) := by decide +kernel
theorem ck_11_virtual_418 : m_call 11 (.invokevirtual 418) = some (0, 238, 1) := by decide +kernel
def T238 : mT := (11, yX11_testOf, cX11_testOf, 4, (some .boolean))
set_option maxRecDepth 10000 in
theorem TE238 : sy_m[238]? = some T238 := rfl
theorem B241_17_20 : s_dk T241.2.2.1 17 [.istore_n 2, .aload_n 0, .dup] 20 = true := by decide +kernel
theorem D241_20 : decode T241.2.2.1 20 = .ok (.getfield 378, 3) := by decide +kernel
theorem B241_23_25 : s_dk T241.2.2.1 23 [.iconst 1, .iadd] 25 = true := by decide +kernel
theorem D241_25 : decode T241.2.2.1 25 = .ok (.putfield 378, 3) := by decide +kernel
theorem B241_28_29 : s_dk T241.2.2.1 28 [.iload_n 2] 29 = true := by decide +kernel
theorem D241_29 : decode T241.2.2.1 29 = .ok (.ireturn, 1) := by decide +kernel
def T240 : mT := (11, yX11_plainOf, cX11_plainOf, 3, (some .boolean))
set_option maxRecDepth 10000 in
theorem TE240 : sy_m[240]? = some T240 := rfl
theorem B240_0_2 : s_dk T240.2.2.1 0 [.iconst 0, .istore_n 2] 2 = true := by decide +kernel
theorem B240_2_5 : s_dk T240.2.2.1 2 [.aload_n 0, .bipush 10] 5 = true := by decide +kernel
theorem D240_5 : decode T240.2.2.1 5 = .ok (.invokevirtual 402, 3) := by decide +kernel
theorem D240_8 : decode T240.2.2.1 8 = .ok (.ifCond .eq 16, 3) := by decide +kernel
theorem B240_24_26 : s_dk T240.2.2.1 24 [.aload_n 0, .iload_n 1] 26 = true := by decide +kernel
theorem D240_26 : decode T240.2.2.1 26 = .ok (.invokevirtual 415, 3) := by decide +kernel
theorem ck_11_virtual_415 : m_call 11 (.invokevirtual 415) = some (0, 241, 1) := by decide +kernel
theorem B240_29_30 : s_dk T240.2.2.1 29 [.iload_n 2] 30 = true := by decide +kernel
theorem D240_30 : decode T240.2.2.1 30 = .ok (.if_icmp .eq 7, 3) := by decide +kernel
theorem B240_37_38 : s_dk T240.2.2.1 37 [.iconst 0] 38 = true := by decide +kernel
theorem D240_38 : decode T240.2.2.1 38 = .ok (.ireturn, 1) := by decide +kernel
theorem B240_33_34 : s_dk T240.2.2.1 33 [.iconst 1] 34 = true := by decide +kernel
theorem D240_34 : decode T240.2.2.1 34 = .ok (.goto 4, 3) := by decide +kernel
theorem B240_11_12 : s_dk T240.2.2.1 11 [.iload_n 2] 12 = true := by decide +kernel
theorem D240_12 : decode T240.2.2.1 12 = .ok (.ifCond .ne 7, 3) := by decide +kernel
theorem B240_15_16 : s_dk T240.2.2.1 15 [.iconst 1] 16 = true := by decide +kernel
theorem D240_16 : decode T240.2.2.1 16 = .ok (.goto 4, 3) := by decide +kernel
theorem B240_20_21 : s_dk T240.2.2.1 20 [.istore_n 2] 21 = true := by decide +kernel
theorem D240_21 : decode T240.2.2.1 21 = .ok (.goto (-19), 3) := by decide +kernel
theorem B240_19_21 : s_dk T240.2.2.1 19 [.iconst 0, .istore_n 2] 21 = true := by decide +kernel
def T239 : mT := (11, yX11_bothOf, cX11_bothOf, 4, (some .boolean))
set_option maxRecDepth 10000 in
theorem TE239 : sy_m[239]? = some T239 := rfl
theorem B239_0_2 : s_dk T239.2.2.1 0 [.aload_n 0, .iload_n 1] 2 = true := by decide +kernel
theorem D239_2 : decode T239.2.2.1 2 = .ok (.invokevirtual 412, 3) := by decide +kernel
theorem ck_11_virtual_412 : m_call 11 (.invokevirtual 412) = some (0, 240, 1) := by decide +kernel
theorem B239_5_6 : s_dk T239.2.2.1 5 [.istore_n 2] 6 = true := by decide +kernel
theorem B239_6_9 : s_dk T239.2.2.1 6 [.aload_n 0, .bipush 9] 9 = true := by decide +kernel
theorem D239_9 : decode T239.2.2.1 9 = .ok (.invokevirtual 402, 3) := by decide +kernel
theorem D239_12 : decode T239.2.2.1 12 = .ok (.ifCond .eq 38, 3) := by decide +kernel
theorem B239_50_51 : s_dk T239.2.2.1 50 [.iload_n 2] 51 = true := by decide +kernel
theorem D239_51 : decode T239.2.2.1 51 = .ok (.ireturn, 1) := by decide +kernel
theorem B239_15_17 : s_dk T239.2.2.1 15 [.aload_n 0, .iload_n 1] 17 = true := by decide +kernel
theorem D239_17 : decode T239.2.2.1 17 = .ok (.ifCond .eq 11, 3) := by decide +kernel
theorem B239_28_29 : s_dk T239.2.2.1 28 [.iconst 0] 29 = true := by decide +kernel
theorem D239_29 : decode T239.2.2.1 29 = .ok (.invokevirtual 412, 3) := by decide +kernel
theorem B239_32_34 : s_dk T239.2.2.1 32 [.istore_n 3, .iload_n 2] 34 = true := by decide +kernel
theorem D239_34 : decode T239.2.2.1 34 = .ok (.ifCond .eq 11, 3) := by decide +kernel
theorem B239_45_47 : s_dk T239.2.2.1 45 [.iconst 0, .istore_n 2] 47 = true := by decide +kernel
theorem D239_47 : decode T239.2.2.1 47 = .ok (.goto (-41), 3) := by decide +kernel
theorem B239_37_38 : s_dk T239.2.2.1 37 [.iload_n 3] 38 = true := by decide +kernel
theorem D239_38 : decode T239.2.2.1 38 = .ok (.ifCond .eq 7, 3) := by decide +kernel
theorem B239_41_42 : s_dk T239.2.2.1 41 [.iconst 1] 42 = true := by decide +kernel
theorem D239_42 : decode T239.2.2.1 42 = .ok (.goto 4, 3) := by decide +kernel
theorem B239_46_47 : s_dk T239.2.2.1 46 [.istore_n 2] 47 = true := by decide +kernel
theorem B239_20_21 : s_dk T239.2.2.1 20 [.iload_n 2] 21 = true := by decide +kernel
theorem D239_21 : decode T239.2.2.1 21 = .ok (.ifCond .eq 7, 3) := by decide +kernel
theorem B239_24_25 : s_dk T239.2.2.1 24 [.iconst 1] 25 = true := by decide +kernel
theorem D239_25 : decode T239.2.2.1 25 = .ok (.goto 4, 3) := by decide +kernel
theorem B238_0_2 : s_dk T238.2.2.1 0 [.aload_n 0, .iload_n 1] 2 = true := by decide +kernel
theorem D238_2 : decode T238.2.2.1 2 = .ok (.invokevirtual 408, 3) := by decide +kernel
theorem ck_11_virtual_408 : m_call 11 (.invokevirtual 408) = some (0, 239, 1) := by decide +kernel
theorem B238_5_6 : s_dk T238.2.2.1 5 [.istore_n 2] 6 = true := by decide +kernel
theorem B238_6_9 : s_dk T238.2.2.1 6 [.aload_n 0, .bipush 8] 9 = true := by decide +kernel
theorem D238_9 : decode T238.2.2.1 9 = .ok (.invokevirtual 402, 3) := by decide +kernel
theorem D238_12 : decode T238.2.2.1 12 = .ok (.ifCond .eq 38, 3) := by decide +kernel
theorem B238_50_51 : s_dk T238.2.2.1 50 [.iload_n 2] 51 = true := by decide +kernel
theorem D238_51 : decode T238.2.2.1 51 = .ok (.ireturn, 1) := by decide +kernel
theorem B238_15_17 : s_dk T238.2.2.1 15 [.aload_n 0, .iload_n 1] 17 = true := by decide +kernel
theorem D238_17 : decode T238.2.2.1 17 = .ok (.ifCond .eq 11, 3) := by decide +kernel
theorem B238_28_29 : s_dk T238.2.2.1 28 [.iconst 0] 29 = true := by decide +kernel
theorem D238_29 : decode T238.2.2.1 29 = .ok (.invokevirtual 408, 3) := by decide +kernel
theorem B238_32_34 : s_dk T238.2.2.1 32 [.istore_n 3, .iload_n 2] 34 = true := by decide +kernel
theorem D238_34 : decode T238.2.2.1 34 = .ok (.ifCond .ne 7, 3) := by decide +kernel
theorem B238_41_42 : s_dk T238.2.2.1 41 [.iconst 1] 42 = true := by decide +kernel
theorem D238_42 : decode T238.2.2.1 42 = .ok (.goto 4, 3) := by decide +kernel
theorem B238_46_47 : s_dk T238.2.2.1 46 [.istore_n 2] 47 = true := by decide +kernel
theorem D238_47 : decode T238.2.2.1 47 = .ok (.goto (-41), 3) := by decide +kernel
theorem B238_37_38 : s_dk T238.2.2.1 37 [.iload_n 3] 38 = true := by decide +kernel
theorem D238_38 : decode T238.2.2.1 38 = .ok (.ifCond .eq 7, 3) := by decide +kernel
theorem B238_45_47 : s_dk T238.2.2.1 45 [.iconst 0, .istore_n 2] 47 = true := by decide +kernel
theorem B238_20_21 : s_dk T238.2.2.1 20 [.iload_n 2] 21 = true := by decide +kernel
theorem D238_21 : decode T238.2.2.1 21 = .ok (.ifCond .ne 7, 3) := by decide +kernel
theorem B238_24_25 : s_dk T238.2.2.1 24 [.iconst 1] 25 = true := by decide +kernel
theorem D238_25 : decode T238.2.2.1 25 = .ok (.goto 4, 3) := by decide +kernel
