/-! A test that isn't ended: there is a word more. -/
theorem ne_acc {F : Int → Int} {e t x : Int} (h : F e = 2 ∨ F e = 20 ∨ F e = 2001) (hx : F t = x) (hn : x ≠ 2 ∧ x ≠ 20 ∧ x ≠ 2001) : t ≠ e := by
  intro q; subst q; omega
theorem ne_accB {F : Int → Int} {e t p : Int} {Q : Prop} (h : F e = 2 ∨ F e = 20 ∨ F e = 2001) (hx : F t = 20 + p ∨ (F t = 2001 + 100 * p ∧ Q)) (h1 : 1 ≤ p) (h2 : p ≤ 8) : t ≠ e := by
  intro q; subst q
  rcases hx with hx | ⟨hx, _⟩ <;> omega
noncomputable def T241 : mT := (11, yX11_positiveOf, cX11_positiveOf, 8, (some .boolean))
set_option maxRecDepth 10000 in
theorem TE241 : sy_m[241]? = some T241 := rfl
theorem B241_0_3 : s_dk T241.2.2.1 0 [.aload_n 0, .bipush 40] 3 = true := by decide +kernel
theorem D241_3 : decode T241.2.2.1 3 = .ok (.invokestatic 346, 3) := by decide +kernel
theorem D241_6 : decode T241.2.2.1 6 = .ok (.invokevirtual 402, 3) := by decide +kernel
theorem D241_9 : decode T241.2.2.1 9 = .ok (.ifCond .eq 21, 3) := by decide +kernel
theorem B241_30_32 : s_dk T241.2.2.1 30 [.aload_n 0, .aload_n 0] 32 = true := by decide +kernel
theorem D241_32 : decode T241.2.2.1 32 = .ok (.getfield 378, 3) := by decide +kernel
theorem D241_35 : decode T241.2.2.1 35 = .ok (.invokevirtual 381, 3) := by decide +kernel
theorem B241_38_42 : s_dk T241.2.2.1 38 [.istore_n 2, .iload_n 2, .bipush 11] 42 = true := by decide +kernel
theorem D241_42 : decode T241.2.2.1 42 = .ok (.if_icmp .eq 9, 3) := by decide +kernel
theorem B241_51_53 : s_dk T241.2.2.1 51 [.aload_n 0, .dup] 53 = true := by decide +kernel
theorem D241_53 : decode T241.2.2.1 53 = .ok (.getfield 378, 3) := by decide +kernel
theorem B241_56_58 : s_dk T241.2.2.1 56 [.iconst 1, .iadd] 58 = true := by decide +kernel
theorem D241_58 : decode T241.2.2.1 58 = .ok (.putfield 378, 3) := by decide +kernel
theorem B241_61_62 : s_dk T241.2.2.1 61 [.iload_n 1] 62 = true := by decide +kernel
theorem D241_62 : decode T241.2.2.1 62 = .ok (.ifCond .eq 51, 3) := by decide +kernel
theorem B241_113_114 : s_dk T241.2.2.1 113 [.iconst 0] 114 = true := by decide +kernel
theorem D241_114 : decode T241.2.2.1 114 = .ok (.ireturn, 1) := by decide +kernel
theorem B241_65_66 : s_dk T241.2.2.1 65 [.aload_n 0] 66 = true := by decide +kernel
theorem D241_66 : decode T241.2.2.1 66 = .ok (.getfield 388, 3) := by decide +kernel
theorem D241_69 : decode T241.2.2.1 69 = .ok (.ifCond .ne 44, 3) := by decide +kernel
theorem B241_72_75 : s_dk T241.2.2.1 72 [.iload_n 2, .bipush 12] 75 = true := by decide +kernel
theorem D241_75 : decode T241.2.2.1 75 = .ok (.if_icmp .ne 13, 3) := by decide +kernel
theorem B241_88_89 : s_dk T241.2.2.1 88 [.aload_n 0] 89 = true := by decide +kernel
theorem D241_89 : decode T241.2.2.1 89 = .ok (.getfield 212, 3) := by decide +kernel
theorem B241_92_93 : s_dk T241.2.2.1 92 [.iconst (-1)] 93 = true := by decide +kernel
theorem D241_93 : decode T241.2.2.1 93 = .ok (.if_icmp .eq 20, 3) := by decide +kernel
theorem B241_96_97 : s_dk T241.2.2.1 96 [.aload_n 0] 97 = true := by decide +kernel
theorem D241_97 : decode T241.2.2.1 97 = .ok (.getfield 33, 3) := by decide +kernel
theorem B241_100_101 : s_dk T241.2.2.1 100 [.aload_n 0] 101 = true := by decide +kernel
theorem D241_101 : decode T241.2.2.1 101 = .ok (.getfield 212, 3) := by decide +kernel
theorem D241_104 : decode T241.2.2.1 104 = .ok (.iaload, 1) := by decide +kernel
theorem B241_105_106 : s_dk T241.2.2.1 105 [.iconst (-1)] 106 = true := by decide +kernel
theorem D241_106 : decode T241.2.2.1 106 = .ok (.if_icmp .eq 7, 3) := by decide +kernel
theorem B241_109_110 : s_dk T241.2.2.1 109 [.iconst 1] 110 = true := by decide +kernel
theorem D241_110 : decode T241.2.2.1 110 = .ok (.goto 4, 3) := by decide +kernel
theorem B241_45_48 : s_dk T241.2.2.1 45 [.iload_n 2, .bipush 12] 48 = true := by decide +kernel
theorem D241_48 : decode T241.2.2.1 48 = .ok (.if_icmp .ne 67, 3) := by decide +kernel
theorem B241_115_117 : s_dk T241.2.2.1 115 [.aload_n 0, .iload_n 1] 117 = true := by decide +kernel
theorem D241_117 : decode T241.2.2.1 117 = .ok (.invokevirtual 405, 3) := by decide +kernel
theorem B241_120_123 : s_dk T241.2.2.1 120 [.lstore_n 3, .aload_n 0, .aload_n 0] 123 = true := by decide +kernel
theorem D241_123 : decode T241.2.2.1 123 = .ok (.getfield 378, 3) := by decide +kernel
theorem D241_126 : decode T241.2.2.1 126 = .ok (.invokevirtual 381, 3) := by decide +kernel
theorem B241_129_133 : s_dk T241.2.2.1 129 [.istore 5, .aload_n 0, .dup] 133 = true := by decide +kernel
theorem D241_133 : decode T241.2.2.1 133 = .ok (.getfield 378, 3) := by decide +kernel
theorem B241_136_138 : s_dk T241.2.2.1 136 [.iconst 1, .iadd] 138 = true := by decide +kernel
theorem D241_138 : decode T241.2.2.1 138 = .ok (.putfield 378, 3) := by decide +kernel
theorem B241_141_143 : s_dk T241.2.2.1 141 [.aload_n 0, .iload_n 1] 143 = true := by decide +kernel
theorem D241_143 : decode T241.2.2.1 143 = .ok (.invokevirtual 405, 3) := by decide +kernel
theorem B241_146_149 : s_dk T241.2.2.1 146 [.lstore 6, .iload_n 1] 149 = true := by decide +kernel
theorem D241_149 : decode T241.2.2.1 149 = .ok (.ifCond .eq 61, 3) := by decide +kernel
theorem B241_210_211 : s_dk T241.2.2.1 210 [.iconst 0] 211 = true := by decide +kernel
theorem D241_211 : decode T241.2.2.1 211 = .ok (.ireturn, 1) := by decide +kernel
theorem B241_152_153 : s_dk T241.2.2.1 152 [.aload_n 0] 153 = true := by decide +kernel
theorem D241_153 : decode T241.2.2.1 153 = .ok (.getfield 388, 3) := by decide +kernel
theorem D241_156 : decode T241.2.2.1 156 = .ok (.ifCond .ne 54, 3) := by decide +kernel
theorem B241_159_163 : s_dk T241.2.2.1 159 [.iload 5, .bipush 60] 163 = true := by decide +kernel
theorem D241_163 : decode T241.2.2.1 163 = .ok (.invokestatic 346, 3) := by decide +kernel
theorem D241_166 : decode T241.2.2.1 166 = .ok (.if_icmp .ne 13, 3) := by decide +kernel
theorem B241_179_183 : s_dk T241.2.2.1 179 [.iload 5, .bipush 62] 183 = true := by decide +kernel
theorem D241_183 : decode T241.2.2.1 183 = .ok (.invokestatic 346, 3) := by decide +kernel
theorem D241_186 : decode T241.2.2.1 186 = .ok (.if_icmp .ne 13, 3) := by decide +kernel
theorem B241_199_202 : s_dk T241.2.2.1 199 [.lload_n 3, .lload 6] 202 = true := by decide +kernel
theorem D241_202 : decode T241.2.2.1 202 = .ok (.lcmp, 1) := by decide +kernel
theorem D241_203 : decode T241.2.2.1 203 = .ok (.ifCond .ne 7, 3) := by decide +kernel
theorem B241_206_207 : s_dk T241.2.2.1 206 [.iconst 1] 207 = true := by decide +kernel
theorem D241_207 : decode T241.2.2.1 207 = .ok (.goto 4, 3) := by decide +kernel
theorem B241_189_192 : s_dk T241.2.2.1 189 [.lload_n 3, .lload 6] 192 = true := by decide +kernel
theorem D241_192 : decode T241.2.2.1 192 = .ok (.lcmp, 1) := by decide +kernel
theorem D241_193 : decode T241.2.2.1 193 = .ok (.ifCond .le 17, 3) := by decide +kernel
theorem D241_196 : decode T241.2.2.1 196 = .ok (.goto 10, 3) := by decide +kernel
theorem B241_169_172 : s_dk T241.2.2.1 169 [.lload_n 3, .lload 6] 172 = true := by decide +kernel
theorem D241_172 : decode T241.2.2.1 172 = .ok (.lcmp, 1) := by decide +kernel
theorem D241_173 : decode T241.2.2.1 173 = .ok (.ifCond .ge 37, 3) := by decide +kernel
theorem D241_176 : decode T241.2.2.1 176 = .ok (.goto 30, 3) := by decide +kernel
theorem B241_78_79 : s_dk T241.2.2.1 78 [.aload_n 0] 79 = true := by decide +kernel
theorem D241_79 : decode T241.2.2.1 79 = .ok (.getfield 190, 3) := by decide +kernel
theorem D241_82 : decode T241.2.2.1 82 = .ok (.ifCond .eq 31, 3) := by decide +kernel
theorem D241_85 : decode T241.2.2.1 85 = .ok (.goto 24, 3) := by decide +kernel
theorem B241_12_14 : s_dk T241.2.2.1 12 [.aload_n 0, .iload_n 1] 14 = true := by decide +kernel
theorem D241_14 : decode T241.2.2.1 14 = .ok (.invokevirtual 418, 3) := by decide +kernel
theorem ck_11_virtual_418 : m_call 11 (.invokevirtual 418) = some (0, 238, 1) := by decide +kernel
noncomputable def T238 : mT := (11, yX11_testOf, cX11_testOf, 4, (some .boolean))
set_option maxRecDepth 10000 in
theorem TE238 : sy_m[238]? = some T238 := rfl
theorem B241_17_20 : s_dk T241.2.2.1 17 [.istore_n 2, .aload_n 0, .dup] 20 = true := by decide +kernel
theorem D241_20 : decode T241.2.2.1 20 = .ok (.getfield 378, 3) := by decide +kernel
theorem B241_23_25 : s_dk T241.2.2.1 23 [.iconst 1, .iadd] 25 = true := by decide +kernel
theorem D241_25 : decode T241.2.2.1 25 = .ok (.putfield 378, 3) := by decide +kernel
theorem B241_28_29 : s_dk T241.2.2.1 28 [.iload_n 2] 29 = true := by decide +kernel
theorem D241_29 : decode T241.2.2.1 29 = .ok (.ireturn, 1) := by decide +kernel
noncomputable def T240 : mT := (11, yX11_plainOf, cX11_plainOf, 3, (some .boolean))
set_option maxRecDepth 10000 in
theorem TE240 : sy_m[240]? = some T240 := rfl
theorem B240_0_2 : s_dk T240.2.2.1 0 [.iconst 0, .istore_n 2] 2 = true := by decide +kernel
theorem B240_2_5 : s_dk T240.2.2.1 2 [.aload_n 0, .bipush 10] 5 = true := by decide +kernel
theorem D240_5 : decode T240.2.2.1 5 = .ok (.invokevirtual 402, 3) := by decide +kernel
theorem D240_8 : decode T240.2.2.1 8 = .ok (.ifCond .eq 16, 3) := by decide +kernel
theorem B240_24_26 : s_dk T240.2.2.1 24 [.aload_n 0, .iload_n 1] 26 = true := by decide +kernel
theorem D240_26 : decode T240.2.2.1 26 = .ok (.invokevirtual 415, 3) := by decide +kernel
theorem ck_11_virtual_415 : m_call 11 (.invokevirtual 415) = some (0, 241, 1) := by decide +kernel
theorem B240_29_30 : s_dk T240.2.2.1 29 [.iload_n 2] 30 = true := by decide +kernel
theorem D240_30 : decode T240.2.2.1 30 = .ok (.if_icmp .eq 7, 3) := by decide +kernel
theorem B240_37_38 : s_dk T240.2.2.1 37 [.iconst 0] 38 = true := by decide +kernel
theorem D240_38 : decode T240.2.2.1 38 = .ok (.ireturn, 1) := by decide +kernel
theorem B240_33_34 : s_dk T240.2.2.1 33 [.iconst 1] 34 = true := by decide +kernel
theorem D240_34 : decode T240.2.2.1 34 = .ok (.goto 4, 3) := by decide +kernel
theorem B240_11_12 : s_dk T240.2.2.1 11 [.iload_n 2] 12 = true := by decide +kernel
theorem D240_12 : decode T240.2.2.1 12 = .ok (.ifCond .ne 7, 3) := by decide +kernel
theorem B240_15_16 : s_dk T240.2.2.1 15 [.iconst 1] 16 = true := by decide +kernel
theorem D240_16 : decode T240.2.2.1 16 = .ok (.goto 4, 3) := by decide +kernel
theorem B240_20_21 : s_dk T240.2.2.1 20 [.istore_n 2] 21 = true := by decide +kernel
theorem D240_21 : decode T240.2.2.1 21 = .ok (.goto (-19), 3) := by decide +kernel
theorem B240_19_21 : s_dk T240.2.2.1 19 [.iconst 0, .istore_n 2] 21 = true := by decide +kernel
noncomputable def T239 : mT := (11, yX11_bothOf, cX11_bothOf, 4, (some .boolean))
set_option maxRecDepth 10000 in
theorem TE239 : sy_m[239]? = some T239 := rfl
theorem B239_0_2 : s_dk T239.2.2.1 0 [.aload_n 0, .iload_n 1] 2 = true := by decide +kernel
theorem D239_2 : decode T239.2.2.1 2 = .ok (.invokevirtual 412, 3) := by decide +kernel
theorem ck_11_virtual_412 : m_call 11 (.invokevirtual 412) = some (0, 240, 1) := by decide +kernel
theorem B239_5_6 : s_dk T239.2.2.1 5 [.istore_n 2] 6 = true := by decide +kernel
theorem B239_6_9 : s_dk T239.2.2.1 6 [.aload_n 0, .bipush 9] 9 = true := by decide +kernel
theorem D239_9 : decode T239.2.2.1 9 = .ok (.invokevirtual 402, 3) := by decide +kernel
theorem D239_12 : decode T239.2.2.1 12 = .ok (.ifCond .eq 38, 3) := by decide +kernel
theorem B239_50_51 : s_dk T239.2.2.1 50 [.iload_n 2] 51 = true := by decide +kernel
theorem D239_51 : decode T239.2.2.1 51 = .ok (.ireturn, 1) := by decide +kernel
theorem B239_15_17 : s_dk T239.2.2.1 15 [.aload_n 0, .iload_n 1] 17 = true := by decide +kernel
theorem D239_17 : decode T239.2.2.1 17 = .ok (.ifCond .eq 11, 3) := by decide +kernel
theorem B239_28_29 : s_dk T239.2.2.1 28 [.iconst 0] 29 = true := by decide +kernel
theorem D239_29 : decode T239.2.2.1 29 = .ok (.invokevirtual 412, 3) := by decide +kernel
theorem B239_32_34 : s_dk T239.2.2.1 32 [.istore_n 3, .iload_n 2] 34 = true := by decide +kernel
theorem D239_34 : decode T239.2.2.1 34 = .ok (.ifCond .eq 11, 3) := by decide +kernel
theorem B239_45_47 : s_dk T239.2.2.1 45 [.iconst 0, .istore_n 2] 47 = true := by decide +kernel
theorem D239_47 : decode T239.2.2.1 47 = .ok (.goto (-41), 3) := by decide +kernel
theorem B239_37_38 : s_dk T239.2.2.1 37 [.iload_n 3] 38 = true := by decide +kernel
theorem D239_38 : decode T239.2.2.1 38 = .ok (.ifCond .eq 7, 3) := by decide +kernel
theorem B239_41_42 : s_dk T239.2.2.1 41 [.iconst 1] 42 = true := by decide +kernel
theorem D239_42 : decode T239.2.2.1 42 = .ok (.goto 4, 3) := by decide +kernel
theorem B239_46_47 : s_dk T239.2.2.1 46 [.istore_n 2] 47 = true := by decide +kernel
theorem B239_20_21 : s_dk T239.2.2.1 20 [.iload_n 2] 21 = true := by decide +kernel
theorem D239_21 : decode T239.2.2.1 21 = .ok (.ifCond .eq 7, 3) := by decide +kernel
theorem B239_24_25 : s_dk T239.2.2.1 24 [.iconst 1] 25 = true := by decide +kernel
theorem D239_25 : decode T239.2.2.1 25 = .ok (.goto 4, 3) := by decide +kernel
theorem B238_0_2 : s_dk T238.2.2.1 0 [.aload_n 0, .iload_n 1] 2 = true := by decide +kernel
theorem D238_2 : decode T238.2.2.1 2 = .ok (.invokevirtual 408, 3) := by decide +kernel
theorem ck_11_virtual_408 : m_call 11 (.invokevirtual 408) = some (0, 239, 1) := by decide +kernel
theorem B238_5_6 : s_dk T238.2.2.1 5 [.istore_n 2] 6 = true := by decide +kernel
theorem B238_6_9 : s_dk T238.2.2.1 6 [.aload_n 0, .bipush 8] 9 = true := by decide +kernel
theorem D238_9 : decode T238.2.2.1 9 = .ok (.invokevirtual 402, 3) := by decide +kernel
theorem D238_12 : decode T238.2.2.1 12 = .ok (.ifCond .eq 38, 3) := by decide +kernel
theorem B238_50_51 : s_dk T238.2.2.1 50 [.iload_n 2] 51 = true := by decide +kernel
theorem D238_51 : decode T238.2.2.1 51 = .ok (.ireturn, 1) := by decide +kernel
theorem B238_15_17 : s_dk T238.2.2.1 15 [.aload_n 0, .iload_n 1] 17 = true := by decide +kernel
theorem D238_17 : decode T238.2.2.1 17 = .ok (.ifCond .eq 11, 3) := by decide +kernel
theorem B238_28_29 : s_dk T238.2.2.1 28 [.iconst 0] 29 = true := by decide +kernel
theorem D238_29 : decode T238.2.2.1 29 = .ok (.invokevirtual 408, 3) := by decide +kernel
theorem B238_32_34 : s_dk T238.2.2.1 32 [.istore_n 3, .iload_n 2] 34 = true := by decide +kernel
theorem D238_34 : decode T238.2.2.1 34 = .ok (.ifCond .ne 7, 3) := by decide +kernel
theorem B238_41_42 : s_dk T238.2.2.1 41 [.iconst 1] 42 = true := by decide +kernel
theorem D238_42 : decode T238.2.2.1 42 = .ok (.goto 4, 3) := by decide +kernel
theorem B238_46_47 : s_dk T238.2.2.1 46 [.istore_n 2] 47 = true := by decide +kernel
theorem D238_47 : decode T238.2.2.1 47 = .ok (.goto (-41), 3) := by decide +kernel
theorem B238_37_38 : s_dk T238.2.2.1 37 [.iload_n 3] 38 = true := by decide +kernel
theorem D238_38 : decode T238.2.2.1 38 = .ok (.ifCond .eq 7, 3) := by decide +kernel
theorem B238_45_47 : s_dk T238.2.2.1 45 [.iconst 0, .istore_n 2] 47 = true := by decide +kernel
theorem B238_20_21 : s_dk T238.2.2.1 20 [.iload_n 2] 21 = true := by decide +kernel
theorem D238_21 : decode T238.2.2.1 21 = .ok (.ifCond .ne 7, 3) := by decide +kernel
theorem B238_24_25 : s_dk T238.2.2.1 24 [.iconst 1] 25 = true := by decide +kernel
theorem D238_25 : decode T238.2.2.1 25 = .ok (.goto 4, 3) := by decide +kernel
set_option maxRecDepth 4000 in
set_option maxHeartbeats 4000000 in
theorem k241x {base : Nat} {X : Nat → Option mC} {G : Nat → Value} (E : EnvOK base X G) {rr : Nat} (ihr : ∀ {d : Nat} (_ : 31 + 4 * rr ≤ d) {M : mH} (_ : HI base M) (live : Int) (p : Int) (a : Int) (e : Int) (gg : Int) (F : Int → Int) (C : Int → Int), ((live = 0 ∨ live = 1)) → (KC C M) → (∀ j : Int, a ≤ j → j < e → F (j + 1) = dl (F j) (C j) ∧ F (j + 1) ≠ 0) → (F e = 2 ∨ F e = 20 ∨ F e = 2001) → (gi M 77 41 = e) → (0 ≤ a ∧ e ≤ 3200) → (gi M 77 40 = gg) → (a ≤ gg ∧ gg ≤ e) → (F gg = 10 + p) → (0 ≤ p ∧ p ≤ 8) → 8 - p < ((rr : Nat) : Int) → sOk base X G d T238 [vR 77, vI live] M (pI (fun v M' => HI base M' ∧ Fr [(77, 41), (77, 43)] M M' ∧ (v = 0 ∨ v = 1) ∧ (gg < gi M' 77 40 ∧ gi M' 77 40 ≤ e) ∧ (F (gi M' 77 40) = 20 + p ∨ (F (gi M' 77 40) = 2001 + 100 * p ∧ ((gi M' 77 40) < e → C (gi M' 77 40) ≠ 142 ∧ C (gi M' 77 40) ≠ 143 ∧ C (gi M' 77 40) ≠ 145 ∧ C (gi M' 77 40) ≠ 147))) ∧ ((gi M' 77 40) < e → C (gi M' 77 40) ≠ 8 ∧ C (gi M' 77 40) ≠ 9)))) {d : Nat} (hd : 32 + 4 * rr ≤ d) {M : mH} (H : HI base M) (live : Int) (p : Int) (a : Int) (e : Int) (gg : Int) (F : Int → Int) (C : Int → Int) (h0 : (live = 0 ∨ live = 1)) (h1 : KC C M) (h2 : ∀ j : Int, a ≤ j → j < e → F (j + 1) = dl (F j) (C j) ∧ F (j + 1) ≠ 0) (h3 : F e = 2 ∨ F e = 20 ∨ F e = 2001) (h4 : gi M 77 41 = e) (h5 : 0 ≤ a ∧ e ≤ 3200) (h6 : gi M 77 40 = gg) (h7 : a ≤ gg ∧ gg ≤ e) (h8 : F gg = 10 + p) (h9 : 0 ≤ p ∧ p ≤ 8) (h10 : gg < e → C gg ≠ 10) (h11 : 8 - p < (rr : Int) + 1) : sOk base X G d T241 [vR 77, vI live] M (pI (fun v M' => HI base M' ∧ Fr [(77, 41), (77, 43)] M M' ∧ (v = 0 ∨ v = 1) ∧ (gg < gi M' 77 40 ∧ gi M' 77 40 ≤ e) ∧ (F (gi M' 77 40) = 20 + p ∨ (F (gi M' 77 40) = 2001 + 100 * p ∧ ((gi M' 77 40) < e → C (gi M' 77 40) ≠ 142 ∧ C (gi M' 77 40) ≠ 143 ∧ C (gi M' 77 40) ≠ 145 ∧ C (gi M' 77 40) ≠ 147))))) := by
  have f0 : Fr [(77, 41), (77, 43)] M M := Fr.rf
  refine sOk.of (show sRn base X G d T241 0 [(0, vR 77), (1, vI live)] [] M _ from ?_)
  refine s_blx (lv' := [(0, vR 77), (1, vI live)]) (st' := [vI 40, vR 77]) B241_0_3 rfl ?_
  have kne : gg ≠ e := ne_acc h3 h8 (by omega)
  have kd := h2 gg (by omega) (by omega)
  have ks := e_T (x := F gg) (c := C gg) (p := p) (by omega) (by omega) (by omega) (by omega)
  refine r_sIp (args := [vI 40]) (rest := [vR 77]) (pc' := 6) D241_3 rfl ck_11_static_346 TE221 rfl (Nat.le_of_ble_eq_true rfl) ⟨Nat.le_of_ble_eq_true rfl, Nat.le_of_ble_eq_true rfl⟩ (by decide) (by omega) (k221 E (by omega) H 40 (by omega)) ?_
  intro v1 q4
  have q3 := q4; clear q4
  have e5 : v1 = 140 := by omega
  subst e5
  have g6 : gi M 77 41 = e := h4
  have g7 : gi M 77 40 = gg := h6
  refine r_vI (c := 77) (args := [vI 140]) (rest := []) (pc' := 9) D241_6 rfl ck_11_virtual_402 TE233 rfl (Nat.le_of_ble_eq_true rfl) ⟨Nat.le_of_ble_eq_true rfl, Nat.le_of_ble_eq_true rfl⟩ sc_77 ⟨rfl, by decide⟩ H.1 (by omega) (k233x E (by omega) H 140 a e gg F C (h1) (h2) (by omega) (by omega) (by omega) (by omega) (by omega) (by omega) (by omega)) ?_
  intro v8 M9 q16
  obtain ⟨H10, f11, q12, q13, q14, q15⟩ := q16
  have f17 := f0.tr (f11.up rfl)
  obtain ⟨t18, ht19⟩ : ∃ q, q = gi M9 77 40 := ⟨_, rfl⟩
  rw [← ht19] at q13
  rw [← ht19] at q14
  rw [← ht19] at q15
  have kpa := q14
  have kpb := q15
  clear q14 q15
  refine r_ifc (tgt := 30) (pc' := 12) D241_9 rfl rfl (by unfold inR; omega) (fun (c20 : v8 = 0) => ?_) (fun (c20 : ¬ (v8 = 0)) => ?_)
  · refine s_blx (lv' := [(0, vR 77), (1, vI live)]) (st' := [vR 77, vR 77]) B241_30_32 rfl ?_
    refine r_gint (ki := 40) (pc' := 35) D241_32 rfl gf_11_378_77 rfl H10.1 ?_
    intro w21 e22 r23
    have e24 : t18 = w21 := (e22.trans (ht19.symm)).symm
    subst e24
    have kpp := kpb (by omega)
    clear kpa kpb
    have g25 : gi M9 77 41 = e := (f11.g rfl).trans (h4)
    refine r_vIp (c := 77) (args := [vI t18]) (rest := []) (pc' := 38) D241_35 rfl ck_11_virtual_381 TE232 rfl (Nat.le_of_ble_eq_true rfl) ⟨Nat.le_of_ble_eq_true rfl, Nat.le_of_ble_eq_true rfl⟩ sc_77 ⟨rfl, by decide⟩ H10.1 (by omega) (k232x E (by omega) H10 t18 e C ((h1.fr f17 rfl)) (by omega) (by omega) (by omega)) ?_
    intro v26 q31
    obtain ⟨q28, q29, q30⟩ := q31
    refine s_blx (lv' := [(2, vI v26), (0, vR 77), (1, vI live)]) (st' := [vI 11, vI v26]) B241_38_42 rfl ?_
    refine r_icmp (tgt := 51) (pc' := 45) D241_42 rfl rfl (by unfold inR; omega) (fun (c32 : v26 = 11) => ?_) (fun (c32 : ¬ (v26 = 11)) => ?_)
    · refine s_blx (lv' := [(2, vI v26), (0, vR 77), (1, vI live)]) (st' := [vR 77, vR 77]) B241_51_53 rfl ?_
      refine r_gint (ki := 40) (pc' := 56) D241_53 rfl gf_11_378_77 rfl H10.1 ?_
      intro w33 e34 r35
      have e36 : t18 = w33 := (e34.trans (ht19.symm)).symm
      subst e36
      refine s_blx (lv' := [(2, vI v26), (0, vR 77), (1, vI live)]) (st' := [vI (t18 + 1), vR 77]) B241_56_58 rfl ?_
      refine r_pint (ki := 40) (pc' := 61) D241_58 rfl pf_11_378_77 rfl H10 (by unfold inR; omega) trivial ?_
      intro M37 u38 H39 p40
      have f41 := f17.wr u38 rfl
      have kf : F ((t18 + 1)) = dl (F gg) (C gg) := by rw [show (t18 + 1) = gg + 1 by omega]; exact kd.1
      have k3 := d_kn (x := F gg) (c := C gg) (by omega) (by omega) (by omega)
      clear ks
      refine s_blx (lv' := [(2, vI v26), (0, vR 77), (1, vI live)]) (st' := [vI live]) B241_61_62 rfl ?_
      refine r_ifc (tgt := 113) (pc' := 65) D241_62 rfl rfl (by unfold inR; omega) (fun (c42 : live = 0) => ?_) (fun (c42 : ¬ (live = 0)) => ?_)
      · refine s_blx (lv' := [(2, vI v26), (0, vR 77), (1, vI live)]) (st' := [vI 0]) B241_113_114 rfl ?_
        have g43 : gi M37 77 40 = t18 + 1 := p40
        exact r_zretI D241_114 rfl (by omega) (⟨H39, f41, by omega, by rw [g43]; omega, by rw [g43]; omega⟩)
      · refine s_blx (lv' := [(2, vI v26), (0, vR 77), (1, vI live)]) (st' := [vR 77]) B241_65_66 rfl ?_
        refine r_gint (ki := 42) (pc' := 69) D241_66 rfl gf_11_388_77 rfl H39.1 ?_
        intro w44 e45 r46
        have b_w44 := H39.2 77 (42) 0 1 rfl
        rw [← e45] at b_w44; clear r46
        refine r_ifc (tgt := 113) (pc' := 72) D241_69 rfl rfl (by unfold inR; omega) (fun (c47 : w44 ≠ 0) => ?_) (fun (c47 : ¬ (w44 ≠ 0)) => ?_)
        · refine s_blx (lv' := [(2, vI v26), (0, vR 77), (1, vI live)]) (st' := [vI 0]) B241_113_114 rfl ?_
          have g48 : gi M37 77 40 = t18 + 1 := p40
          exact r_zretI D241_114 rfl (by omega) (⟨H39, f41, by omega, by rw [g48]; omega, by rw [g48]; omega⟩)
        · refine s_blx (lv' := [(2, vI v26), (0, vR 77), (1, vI live)]) (st' := [vI 12, vI v26]) B241_72_75 rfl ?_
          refine r_icmp (tgt := 88) (pc' := 78) D241_75 rfl rfl (by unfold inR; omega) (fun (c49 : v26 ≠ 12) => ?_) (fun (c49 : ¬ (v26 ≠ 12)) => ?_)
          · refine s_blx (lv' := [(2, vI v26), (0, vR 77), (1, vI live)]) (st' := [vR 77]) B241_88_89 rfl ?_
            refine r_gint (ki := 13) (pc' := 92) D241_89 rfl gf_11_212_77 rfl H39.1 ?_
            intro w50 e51 r52
            have b_w50 := H39.2 77 (13) (-1) 2 rfl
            rw [← e51] at b_w50; clear r52
            refine s_blx (lv' := [(2, vI v26), (0, vR 77), (1, vI live)]) (st' := [vI (-1), vI w50]) B241_92_93 rfl ?_
            refine r_icmp (tgt := 113) (pc' := 96) D241_93 rfl rfl (by unfold inR; omega) (fun (c53 : w50 = (-1)) => ?_) (fun (c53 : ¬ (w50 = (-1))) => ?_)
            · refine s_blx (lv' := [(2, vI v26), (0, vR 77), (1, vI live)]) (st' := [vI 0]) B241_113_114 rfl ?_
              have g54 : gi M37 77 40 = t18 + 1 := p40
              exact r_zretI D241_114 rfl (by omega) (⟨H39, f41, by omega, by rw [g54]; omega, by rw [g54]; omega⟩)
            · refine s_blx (lv' := [(2, vI v26), (0, vR 77), (1, vI live)]) (st' := [vR 77]) B241_96_97 rfl ?_
              refine r_gfix (r := 84) (pc' := 100) D241_97 rfl gf_11_33_77 H39.1 ?_
              refine s_blx (lv' := [(2, vI v26), (0, vR 77), (1, vI live)]) (st' := [vR 77, vR 84]) B241_100_101 rfl ?_
              refine r_gint (ki := 13) (pc' := 104) D241_101 rfl gf_11_212_77 rfl H39.1 ?_
              intro w55 e56 r57
              have e58 : w50 = w55 := (e56.trans (e51.symm)).symm
              subst e58
              refine r_iald (pc' := 105) D241_104 rfl sc_84 H39.1 (by omega) ?_
              intro w59 e60 r61
              have b_w59 := H39.2 84 (w50) (-1) 7 rfl
              rw [← e60] at b_w59; clear r61
              refine s_blx (lv' := [(2, vI v26), (0, vR 77), (1, vI live)]) (st' := [vI (-1), vI w59]) B241_105_106 rfl ?_
              refine r_icmp (tgt := 113) (pc' := 109) D241_106 rfl rfl (by unfold inR; omega) (fun (c62 : w59 = (-1)) => ?_) (fun (c62 : ¬ (w59 = (-1))) => ?_)
              · refine s_blx (lv' := [(2, vI v26), (0, vR 77), (1, vI live)]) (st' := [vI 0]) B241_113_114 rfl ?_
                have g63 : gi M37 77 40 = t18 + 1 := p40
                exact r_zretI D241_114 rfl (by omega) (⟨H39, f41, by omega, by rw [g63]; omega, by rw [g63]; omega⟩)
              · refine s_blx (lv' := [(2, vI v26), (0, vR 77), (1, vI live)]) (st' := [vI 1]) B241_109_110 rfl ?_
                refine r_goto (tgt := 114) D241_110 rfl ?_
                have g64 : gi M37 77 40 = t18 + 1 := p40
                exact r_zretI D241_114 rfl (by omega) (⟨H39, f41, by omega, by rw [g64]; omega, by rw [g64]; omega⟩)
          · exfalso; omega
    · refine s_blx (lv' := [(2, vI v26), (0, vR 77), (1, vI live)]) (st' := [vI 12, vI v26]) B241_45_48 rfl ?_
      refine r_icmp (tgt := 115) (pc' := 51) D241_48 rfl rfl (by unfold inR; omega) (fun (c65 : v26 ≠ 12) => ?_) (fun (c65 : ¬ (v26 ≠ 12)) => ?_)
      · refine s_blx (lv' := [(2, vI v26), (0, vR 77), (1, vI live)]) (st' := [vI live, vR 77]) B241_115_117 rfl ?_
        have ksp : C t18 ≠ 10 ∧ C t18 ≠ 140 ∧ C t18 ≠ 11 ∧ C t18 ≠ 12 := by omega
        have ksq : F t18 = 10 + p := by omega
        clear ks kd h11
        have g66 : gi M9 77 41 = e := (f11.g rfl).trans (h4)
        have g67 : gi M9 77 40 = t18 := ht19.symm
        refine r_vL (c := 77) (args := [vI live]) (rest := []) (pc' := 120) D241_117 rfl ck_11_virtual_405 TE235 rfl (Nat.le_of_ble_eq_true rfl) ⟨Nat.le_of_ble_eq_true rfl, Nat.le_of_ble_eq_true rfl⟩ sc_77 ⟨rfl, by decide⟩ H10.1 (by omega) (k235x E (by omega) H10 live p 0 0 a e t18 F C (by omega) ((h1.fr f17 rfl)) (h2) (by omega) (by omega) (by omega) (by omega) (by omega) (Or.inr ⟨ksq, rfl, rfl, ksp⟩) (by omega) (by omega)) ?_
        intro v68 M69 q76
        obtain ⟨H70, f71, q72, q73, q74, q75⟩ := q76
        have f77 := f17.tr (f71.up rfl)
        obtain ⟨t78, ht79⟩ : ∃ q, q = gi M69 77 40 := ⟨_, rfl⟩
        rw [← ht79] at q72
        rw [← ht79] at q73
        rw [← ht79] at q74
        rw [← ht79] at q75
        have km : t78 ≠ e := ne_acc h3 q73 (by omega)
        have kd2 := h2 t78 (by omega) (by omega)
        have ka1 := q74 (by omega)
        have ka2 := q75 (by omega)
        clear q74 q75
        have ka := e_A (x := F t78) (c := C t78) (p := p) (q := 0) (s := 0) (by omega) (by omega) (by omega) (by omega) (by omega) (by omega) (by omega) (by omega) (by omega) (by omega) (by omega)
        have kcm : C t78 = 160 ∨ C t78 = 161 ∨ C t78 = 162 := by omega
        clear ka ka1 ka2
        have kb := d_cm (x := F t78) (C t78) kcm (by omega) (by omega) (by omega)
        refine s_blx (lv' := [(3, vL v68), (2, vI v26), (0, vR 77), (1, vI live)]) (st' := [vR 77, vR 77]) B241_120_123 rfl ?_
        refine r_gint (ki := 40) (pc' := 126) D241_123 rfl gf_11_378_77 rfl H70.1 ?_
        intro w80 e81 r82
        have e83 : t78 = w80 := (e81.trans (ht79.symm)).symm
        subst e83
        have g84 : gi M69 77 41 = e := (f71.g rfl).trans ((f11.g rfl).trans (h4))
        refine r_vIp (c := 77) (args := [vI t78]) (rest := []) (pc' := 129) D241_126 rfl ck_11_virtual_381 TE232 rfl (Nat.le_of_ble_eq_true rfl) ⟨Nat.le_of_ble_eq_true rfl, Nat.le_of_ble_eq_true rfl⟩ sc_77 ⟨rfl, by decide⟩ H70.1 (by omega) (k232x E (by omega) H70 t78 e C ((h1.fr f77 rfl)) (by omega) (by omega) (by omega)) ?_
        intro v85 q90
        obtain ⟨q87, q88, q89⟩ := q90
        refine s_blx (lv' := [(5, vI v85), (3, vL v68), (2, vI v26), (0, vR 77), (1, vI live)]) (st' := [vR 77, vR 77]) B241_129_133 rfl ?_
        refine r_gint (ki := 40) (pc' := 136) D241_133 rfl gf_11_378_77 rfl H70.1 ?_
        intro w91 e92 r93
        have e94 : t78 = w91 := (e92.trans (ht79.symm)).symm
        subst e94
        refine s_blx (lv' := [(5, vI v85), (3, vL v68), (2, vI v26), (0, vR 77), (1, vI live)]) (st' := [vI (t78 + 1), vR 77]) B241_136_138 rfl ?_
        refine r_pint (ki := 40) (pc' := 141) D241_138 rfl pf_11_378_77 rfl H70 (by unfold inR; omega) trivial ?_
        intro M95 u96 H97 p98
        have f99 := f77.wr u96 rfl
        refine s_blx (lv' := [(5, vI v85), (3, vL v68), (2, vI v26), (0, vR 77), (1, vI live)]) (st' := [vI live, vR 77]) B241_141_143 rfl ?_
        have g100 : gi M95 77 41 = e := (u96.gi_ne (by decide) (Or.inr (by decide))).trans ((f71.g rfl).trans ((f11.g rfl).trans (h4)))
        have g101 : gi M95 77 40 = t78 + 1 := p98
        refine r_vL (c := 77) (args := [vI live]) (rest := []) (pc' := 146) D241_143 rfl ck_11_virtual_405 TE235 rfl (Nat.le_of_ble_eq_true rfl) ⟨Nat.le_of_ble_eq_true rfl, Nat.le_of_ble_eq_true rfl⟩ sc_77 ⟨rfl, by decide⟩ H97.1 (by omega) (k235x E (by omega) H97 live p 0 1 a e (t78 + 1) F C (by omega) ((h1.fr f99 rfl)) (h2) (by omega) (by omega) (by omega) (by omega) (by omega) (by omega) (by omega) (by omega)) ?_
        intro v102 M103 q110
        obtain ⟨H104, f105, q106, q107, q108, q109⟩ := q110
        have f111 := f99.tr (f105.up rfl)
        obtain ⟨t112, ht113⟩ : ∃ q, q = gi M103 77 40 := ⟨_, rfl⟩
        rw [← ht113] at q106
        rw [← ht113] at q107
        rw [← ht113] at q108
        rw [← ht113] at q109
        refine s_blx (lv' := [(6, vL v102), (5, vI v85), (3, vL v68), (2, vI v26), (0, vR 77), (1, vI live)]) (st' := [vI live]) B241_146_149 rfl ?_
        refine r_ifc (tgt := 210) (pc' := 152) D241_149 rfl rfl (by unfold inR; omega) (fun (c114 : live = 0) => ?_) (fun (c114 : ¬ (live = 0)) => ?_)
        · refine s_blx (lv' := [(6, vL v102), (5, vI v85), (3, vL v68), (2, vI v26), (0, vR 77), (1, vI live)]) (st' := [vI 0]) B241_210_211 rfl ?_
          have g115 : gi M103 77 40 = t112 := ht113.symm
          exact r_zretI D241_211 rfl (by omega) (⟨H104, f111, by omega, by rw [g115]; omega, by rw [g115]; omega⟩)
        · refine s_blx (lv' := [(6, vL v102), (5, vI v85), (3, vL v68), (2, vI v26), (0, vR 77), (1, vI live)]) (st' := [vR 77]) B241_152_153 rfl ?_
          refine r_gint (ki := 42) (pc' := 156) D241_153 rfl gf_11_388_77 rfl H104.1 ?_
          intro w116 e117 r118
          have b_w116 := H104.2 77 (42) 0 1 rfl
          rw [← e117] at b_w116; clear r118
          refine r_ifc (tgt := 210) (pc' := 159) D241_156 rfl rfl (by unfold inR; omega) (fun (c119 : w116 ≠ 0) => ?_) (fun (c119 : ¬ (w116 ≠ 0)) => ?_)
          · refine s_blx (lv' := [(6, vL v102), (5, vI v85), (3, vL v68), (2, vI v26), (0, vR 77), (1, vI live)]) (st' := [vI 0]) B241_210_211 rfl ?_
            have g120 : gi M103 77 40 = t112 := ht113.symm
            exact r_zretI D241_211 rfl (by omega) (⟨H104, f111, by omega, by rw [g120]; omega, by rw [g120]; omega⟩)
          · refine s_blx (lv' := [(6, vL v102), (5, vI v85), (3, vL v68), (2, vI v26), (0, vR 77), (1, vI live)]) (st' := [vI 60, vI v85]) B241_159_163 rfl ?_
            refine r_sIp (args := [vI 60]) (rest := [vI v85]) (pc' := 166) D241_163 rfl ck_11_static_346 TE221 rfl (Nat.le_of_ble_eq_true rfl) ⟨Nat.le_of_ble_eq_true rfl, Nat.le_of_ble_eq_true rfl⟩ (by decide) (by omega) (k221 E (by omega) H104 60 (by omega)) ?_
            intro v121 q124
            have q123 := q124; clear q124
            have e125 : v121 = 160 := by omega
            subst e125
            refine r_icmp (tgt := 179) (pc' := 169) D241_166 rfl rfl (by unfold inR; omega) (fun (c126 : v85 ≠ 160) => ?_) (fun (c126 : ¬ (v85 ≠ 160)) => ?_)
            · refine s_blx (lv' := [(6, vL v102), (5, vI v85), (3, vL v68), (2, vI v26), (0, vR 77), (1, vI live)]) (st' := [vI 62, vI v85]) B241_179_183 rfl ?_
              refine r_sIp (args := [vI 62]) (rest := [vI v85]) (pc' := 186) D241_183 rfl ck_11_static_346 TE221 rfl (Nat.le_of_ble_eq_true rfl) ⟨Nat.le_of_ble_eq_true rfl, Nat.le_of_ble_eq_true rfl⟩ (by decide) (by omega) (k221 E (by omega) H104 62 (by omega)) ?_
              intro v127 q130
              have q129 := q130; clear q130
              have e131 : v127 = 162 := by omega
              subst e131
              refine r_icmp (tgt := 199) (pc' := 189) D241_186 rfl rfl (by unfold inR; omega) (fun (c132 : v85 ≠ 162) => ?_) (fun (c132 : ¬ (v85 ≠ 162)) => ?_)
              · refine s_blx (lv' := [(6, vL v102), (5, vI v85), (3, vL v68), (2, vI v26), (0, vR 77), (1, vI live)]) (st' := [vL v102, vL v68]) B241_199_202 rfl ?_
                refine r_lcmp (pc' := 203) D241_202 rfl ?_
                intro z133 r134 r135
                refine r_ifc (tgt := 210) (pc' := 206) D241_203 rfl rfl (by unfold inR; omega) (fun (c136 : z133 ≠ 0) => ?_) (fun (c136 : ¬ (z133 ≠ 0)) => ?_)
                · refine s_blx (lv' := [(6, vL v102), (5, vI v85), (3, vL v68), (2, vI v26), (0, vR 77), (1, vI live)]) (st' := [vI 0]) B241_210_211 rfl ?_
                  have g137 : gi M103 77 40 = t112 := ht113.symm
                  exact r_zretI D241_211 rfl (by omega) (⟨H104, f111, by omega, by rw [g137]; omega, by rw [g137]; omega⟩)
                · refine s_blx (lv' := [(6, vL v102), (5, vI v85), (3, vL v68), (2, vI v26), (0, vR 77), (1, vI live)]) (st' := [vI 1]) B241_206_207 rfl ?_
                  refine r_goto (tgt := 211) D241_207 rfl ?_
                  have g138 : gi M103 77 40 = t112 := ht113.symm
                  exact r_zretI D241_211 rfl (by omega) (⟨H104, f111, by omega, by rw [g138]; omega, by rw [g138]; omega⟩)
              · refine s_blx (lv' := [(6, vL v102), (5, vI v85), (3, vL v68), (2, vI v26), (0, vR 77), (1, vI live)]) (st' := [vL v102, vL v68]) B241_189_192 rfl ?_
                refine r_lcmp (pc' := 193) D241_192 rfl ?_
                intro z139 r140 r141
                refine r_ifc (tgt := 210) (pc' := 196) D241_193 rfl rfl (by unfold inR; omega) (fun (c142 : z139 ≤ 0) => ?_) (fun (c142 : ¬ (z139 ≤ 0)) => ?_)
                · refine s_blx (lv' := [(6, vL v102), (5, vI v85), (3, vL v68), (2, vI v26), (0, vR 77), (1, vI live)]) (st' := [vI 0]) B241_210_211 rfl ?_
                  have g143 : gi M103 77 40 = t112 := ht113.symm
                  exact r_zretI D241_211 rfl (by omega) (⟨H104, f111, by omega, by rw [g143]; omega, by rw [g143]; omega⟩)
                · refine r_goto (tgt := 206) D241_196 rfl ?_
                  refine s_blx (lv' := [(6, vL v102), (5, vI v85), (3, vL v68), (2, vI v26), (0, vR 77), (1, vI live)]) (st' := [vI 1]) B241_206_207 rfl ?_
                  refine r_goto (tgt := 211) D241_207 rfl ?_
                  have g144 : gi M103 77 40 = t112 := ht113.symm
                  exact r_zretI D241_211 rfl (by omega) (⟨H104, f111, by omega, by rw [g144]; omega, by rw [g144]; omega⟩)
            · refine s_blx (lv' := [(6, vL v102), (5, vI v85), (3, vL v68), (2, vI v26), (0, vR 77), (1, vI live)]) (st' := [vL v102, vL v68]) B241_169_172 rfl ?_
              refine r_lcmp (pc' := 173) D241_172 rfl ?_
              intro z145 r146 r147
              refine r_ifc (tgt := 210) (pc' := 176) D241_173 rfl rfl (by unfold inR; omega) (fun (c148 : 0 ≤ z145) => ?_) (fun (c148 : ¬ (0 ≤ z145)) => ?_)
              · refine s_blx (lv' := [(6, vL v102), (5, vI v85), (3, vL v68), (2, vI v26), (0, vR 77), (1, vI live)]) (st' := [vI 0]) B241_210_211 rfl ?_
                have g149 : gi M103 77 40 = t112 := ht113.symm
                exact r_zretI D241_211 rfl (by omega) (⟨H104, f111, by omega, by rw [g149]; omega, by rw [g149]; omega⟩)
              · refine r_goto (tgt := 206) D241_176 rfl ?_
                refine s_blx (lv' := [(6, vL v102), (5, vI v85), (3, vL v68), (2, vI v26), (0, vR 77), (1, vI live)]) (st' := [vI 1]) B241_206_207 rfl ?_
                refine r_goto (tgt := 211) D241_207 rfl ?_
                have g150 : gi M103 77 40 = t112 := ht113.symm
                exact r_zretI D241_211 rfl (by omega) (⟨H104, f111, by omega, by rw [g150]; omega, by rw [g150]; omega⟩)
      · refine s_blx (lv' := [(2, vI v26), (0, vR 77), (1, vI live)]) (st' := [vR 77, vR 77]) B241_51_53 rfl ?_
        refine r_gint (ki := 40) (pc' := 56) D241_53 rfl gf_11_378_77 rfl H10.1 ?_
        intro w151 e152 r153
        have e154 : t18 = w151 := (e152.trans (ht19.symm)).symm
        subst e154
        refine s_blx (lv' := [(2, vI v26), (0, vR 77), (1, vI live)]) (st' := [vI (t18 + 1), vR 77]) B241_56_58 rfl ?_
        refine r_pint (ki := 40) (pc' := 61) D241_58 rfl pf_11_378_77 rfl H10 (by unfold inR; omega) trivial ?_
        intro M155 u156 H157 p158
        have f159 := f17.wr u156 rfl
        have kf : F ((t18 + 1)) = dl (F gg) (C gg) := by rw [show (t18 + 1) = gg + 1 by omega]; exact kd.1
        have k3 := d_kn (x := F gg) (c := C gg) (by omega) (by omega) (by omega)
        clear ks
        refine s_blx (lv' := [(2, vI v26), (0, vR 77), (1, vI live)]) (st' := [vI live]) B241_61_62 rfl ?_
        refine r_ifc (tgt := 113) (pc' := 65) D241_62 rfl rfl (by unfold inR; omega) (fun (c160 : live = 0) => ?_) (fun (c160 : ¬ (live = 0)) => ?_)
        · refine s_blx (lv' := [(2, vI v26), (0, vR 77), (1, vI live)]) (st' := [vI 0]) B241_113_114 rfl ?_
          have g161 : gi M155 77 40 = t18 + 1 := p158
          exact r_zretI D241_114 rfl (by omega) (⟨H157, f159, by omega, by rw [g161]; omega, by rw [g161]; omega⟩)
        · refine s_blx (lv' := [(2, vI v26), (0, vR 77), (1, vI live)]) (st' := [vR 77]) B241_65_66 rfl ?_
          refine r_gint (ki := 42) (pc' := 69) D241_66 rfl gf_11_388_77 rfl H157.1 ?_
          intro w162 e163 r164
          have b_w162 := H157.2 77 (42) 0 1 rfl
          rw [← e163] at b_w162; clear r164
          refine r_ifc (tgt := 113) (pc' := 72) D241_69 rfl rfl (by unfold inR; omega) (fun (c165 : w162 ≠ 0) => ?_) (fun (c165 : ¬ (w162 ≠ 0)) => ?_)
          · refine s_blx (lv' := [(2, vI v26), (0, vR 77), (1, vI live)]) (st' := [vI 0]) B241_113_114 rfl ?_
            have g166 : gi M155 77 40 = t18 + 1 := p158
            exact r_zretI D241_114 rfl (by omega) (⟨H157, f159, by omega, by rw [g166]; omega, by rw [g166]; omega⟩)
          · refine s_blx (lv' := [(2, vI v26), (0, vR 77), (1, vI live)]) (st' := [vI 12, vI v26]) B241_72_75 rfl ?_
            refine r_icmp (tgt := 88) (pc' := 78) D241_75 rfl rfl (by unfold inR; omega) (fun (c167 : v26 ≠ 12) => ?_) (fun (c167 : ¬ (v26 ≠ 12)) => ?_)
            · exfalso; omega
            · refine s_blx (lv' := [(2, vI v26), (0, vR 77), (1, vI live)]) (st' := [vR 77]) B241_78_79 rfl ?_
              refine r_gint (ki := 9) (pc' := 82) D241_79 rfl gf_11_190_77 rfl H157.1 ?_
              intro w168 e169 r170
              have b_w168 := H157.2 77 (9) 0 1 rfl
              rw [← e169] at b_w168; clear r170
              refine r_ifc (tgt := 113) (pc' := 85) D241_82 rfl rfl (by unfold inR; omega) (fun (c171 : w168 = 0) => ?_) (fun (c171 : ¬ (w168 = 0)) => ?_)
              · refine s_blx (lv' := [(2, vI v26), (0, vR 77), (1, vI live)]) (st' := [vI 0]) B241_113_114 rfl ?_
                have g172 : gi M155 77 40 = t18 + 1 := p158
                exact r_zretI D241_114 rfl (by omega) (⟨H157, f159, by omega, by rw [g172]; omega, by rw [g172]; omega⟩)
              · refine r_goto (tgt := 109) D241_85 rfl ?_
                refine s_blx (lv' := [(2, vI v26), (0, vR 77), (1, vI live)]) (st' := [vI 1]) B241_109_110 rfl ?_
                refine r_goto (tgt := 114) D241_110 rfl ?_
                have g173 : gi M155 77 40 = t18 + 1 := p158
                exact r_zretI D241_114 rfl (by omega) (⟨H157, f159, by omega, by rw [g173]; omega, by rw [g173]; omega⟩)
  · refine s_blx (lv' := [(0, vR 77), (1, vI live)]) (st' := [vI live, vR 77]) B241_12_14 rfl ?_
    have kpp := kpa (by omega)
    clear kpa kpb
    have kp7 : p ≤ 7 := by omega
    have k1 := d_po (x := F gg) (by omega) (by omega)
    clear ks
    have g174 : gi M9 77 41 = e := (f11.g rfl).trans (h4)
    have g175 : gi M9 77 40 = t18 := ht19.symm
    refine r_vI (c := 77) (args := [vI live]) (rest := []) (pc' := 17) D241_14 rfl ck_11_virtual_418 TE238 rfl (Nat.le_of_ble_eq_true rfl) ⟨Nat.le_of_ble_eq_true rfl, Nat.le_of_ble_eq_true rfl⟩ sc_77 ⟨rfl, by decide⟩ H10.1 (by omega) (ihr (by omega) H10 live (p + 1) a e t18 F C (by omega) ((h1.fr f17 rfl)) (h2) (by omega) (by omega) (by omega) (by omega) (by omega) (by omega) (by omega) (by omega)) ?_
    intro v176 M177 q184
    obtain ⟨H178, f179, q180, q181, q182, q183⟩ := q184
    have f185 := f17.tr (f179.up rfl)
    obtain ⟨t186, ht187⟩ : ∃ q, q = gi M177 77 40 := ⟨_, rfl⟩
    rw [← ht187] at q181
    rw [← ht187] at q182
    rw [← ht187] at q183
    have km : t186 ≠ e := ne_accB h3 q182 (by omega) (by omega)
    have kd2 := h2 t186 (by omega) (by omega)
    have ka := e_B (x := F t186) (c := C t186) (p := p + 1) (by omega) (by omega) (by omega) (by omega) (by omega) (by omega)
    have kb := d_cp (x := F t186) (p := p + 1) (by omega) (by omega) (by omega)
    have kb2 : C t186 = 141 := by omega
    clear ka q182 q183
    rw [kb2] at kd2
    refine s_blx (lv' := [(2, vI v176), (0, vR 77), (1, vI live)]) (st' := [vR 77, vR 77]) B241_17_20 rfl ?_
    refine r_gint (ki := 40) (pc' := 23) D241_20 rfl gf_11_378_77 rfl H178.1 ?_
    intro w188 e189 r190
    have e191 : t186 = w188 := (e189.trans (ht187.symm)).symm
    subst e191
    refine s_blx (lv' := [(2, vI v176), (0, vR 77), (1, vI live)]) (st' := [vI (t186 + 1), vR 77]) B241_23_25 rfl ?_
    refine r_pint (ki := 40) (pc' := 28) D241_25 rfl pf_11_378_77 rfl H178 (by unfold inR; omega) trivial ?_
    intro M192 u193 H194 p195
    have f196 := f185.wr u193 rfl
    refine s_blx (lv' := [(2, vI v176), (0, vR 77), (1, vI live)]) (st' := [vI v176]) B241_28_29 rfl ?_
    have g197 : gi M192 77 40 = t186 + 1 := p195
    exact r_zretI D241_29 rfl (by omega) (⟨H194, f196, by omega, by rw [g197]; omega, by rw [g197]; omega⟩)
set_option maxRecDepth 4000 in
theorem L_k240x {base : Nat} {X : Nat → Option mC} {G : Nat → Value} (E : EnvOK base X G) {rr : Nat} (ihr : ∀ {d : Nat} (_ : 31 + 4 * rr ≤ d) {M : mH} (_ : HI base M) (live : Int) (p : Int) (a : Int) (e : Int) (gg : Int) (F : Int → Int) (C : Int → Int), ((live = 0 ∨ live = 1)) → (KC C M) → (∀ j : Int, a ≤ j → j < e → F (j + 1) = dl (F j) (C j) ∧ F (j + 1) ≠ 0) → (F e = 2 ∨ F e = 20 ∨ F e = 2001) → (gi M 77 41 = e) → (0 ≤ a ∧ e ≤ 3200) → (gi M 77 40 = gg) → (a ≤ gg ∧ gg ≤ e) → (F gg = 10 + p) → (0 ≤ p ∧ p ≤ 8) → 8 - p < ((rr : Nat) : Int) → sOk base X G d T238 [vR 77, vI live] M (pI (fun v M' => HI base M' ∧ Fr [(77, 41), (77, 43)] M M' ∧ (v = 0 ∨ v = 1) ∧ (gg < gi M' 77 40 ∧ gi M' 77 40 ≤ e) ∧ (F (gi M' 77 40) = 20 + p ∨ (F (gi M' 77 40) = 2001 + 100 * p ∧ ((gi M' 77 40) < e → C (gi M' 77 40) ≠ 142 ∧ C (gi M' 77 40) ≠ 143 ∧ C (gi M' 77 40) ≠ 145 ∧ C (gi M' 77 40) ≠ 147))) ∧ ((gi M' 77 40) < e → C (gi M' 77 40) ≠ 8 ∧ C (gi M' 77 40) ≠ 9)))) {d : Nat} (hd : 33 + 4 * rr ≤ d) {M : mH} (H : HI base M) (live : Int) (p : Int) (a : Int) (e : Int) (gg : Int) (F : Int → Int) (C : Int → Int) (h0 : (live = 0 ∨ live = 1)) (h1 : KC C M) (h2 : ∀ j : Int, a ≤ j → j < e → F (j + 1) = dl (F j) (C j) ∧ F (j + 1) ≠ 0) (h3 : F e = 2 ∨ F e = 20 ∨ F e = 2001) (h4 : gi M 77 41 = e) (h5 : 0 ≤ a ∧ e ≤ 3200) (h6 : gi M 77 40 = gg) (h7 : a ≤ gg ∧ gg ≤ e) (h8 : F gg = 10 + p) (h9 : 0 ≤ p ∧ p ≤ 8) (h10 : 8 - p < (rr : Int) + 1) : ∀ mz : Nat, (∀ (x2 t0 : Int) (N : mH), HI base N → Fr [(77, 41), (77, 43)] M N → (gi N 77 40 = t0) → (gg ≤ t0 ∧ t0 ≤ e) → (gi N 77 41 = e) → (F t0 = 10 + p) → (0 ≤ x2 ∧ x2 ≤ 1) → (0 ≤ x2) → (x2 ≤ 1) → (3200 - t0) * 1 + 0 < (mz : Int) → sRn base X G d T240 2 [(0, vR 77), (1, vI live), (2, vI x2)] [] N (s_Q base (pI (fun v M' => HI base M' ∧ Fr [(77, 41), (77, 43)] M M' ∧ (v = 0 ∨ v = 1) ∧ (gg < gi M' 77 40 ∧ gi M' 77 40 ≤ e) ∧ (F (gi M' 77 40) = 20 + p ∨ (F (gi M' 77 40) = 2001 + 100 * p ∧ ((gi M' 77 40) < e → C (gi M' 77 40) ≠ 142 ∧ C (gi M' 77 40) ≠ 143 ∧ C (gi M' 77 40) ≠ 145 ∧ C (gi M' 77 40) ≠ 147))))))) := by
  have f0 : Fr [(77, 41), (77, 43)] M M := Fr.rf
  intro mz
  induction mz with
  | zero => exact fun x2 t0 N _ _ z0 z1 z2 z3 z4 z5 z6 z7 => by omega
  | succ mz ih =>
    intro x2 t0 N HN fN i0 i1 i2 i3 i4 i5 i6 hmu
    refine s_blx (lv' := [(0, vR 77), (1, vI live), (2, vI x2)]) (st' := [vI 10, vR 77]) B240_2_5 rfl ?_
    have k1 := d_not (x := F t0)
    have g3 : gi N 77 41 = e := i2
    have g4 : gi N 77 40 = t0 := i0
    refine r_vI (c := 77) (args := [vI 10]) (rest := []) (pc' := 8) D240_5 rfl ck_11_virtual_402 TE233 rfl (Nat.le_of_ble_eq_true rfl) ⟨Nat.le_of_ble_eq_true rfl, Nat.le_of_ble_eq_true rfl⟩ sc_77 ⟨rfl, by decide⟩ HN.1 (by omega) (k233x E (by omega) HN 10 a e t0 F C ((h1.fr fN rfl)) (h2) (by omega) (by omega) (by omega) (by omega) (by omega) (by omega) (by omega)) ?_
    intro v5 M6 q13
    obtain ⟨H7, f8, q9, q10, q11, q12⟩ := q13
    have f14 := fN.tr (f8.up rfl)
    obtain ⟨t15, ht16⟩ : ∃ q, q = gi M6 77 40 := ⟨_, rfl⟩
    rw [← ht16] at q10
    rw [← ht16] at q11
    rw [← ht16] at q12
    refine r_ifc (tgt := 24) (pc' := 11) D240_8 rfl rfl (by unfold inR; omega) (fun (c17 : v5 = 0) => ?_) (fun (c17 : ¬ (v5 = 0)) => ?_)
    · refine s_blx (lv' := [(0, vR 77), (1, vI live), (2, vI x2)]) (st' := [vI live, vR 77]) B240_24_26 rfl ?_
      have g18 : gi M6 77 41 = e := (f8.g rfl).trans (i2)
      have g19 : gi M6 77 40 = t15 := ht16.symm
      refine r_vI (c := 77) (args := [vI live]) (rest := []) (pc' := 29) D240_26 rfl ck_11_virtual_415 TE241 rfl (Nat.le_of_ble_eq_true rfl) ⟨Nat.le_of_ble_eq_true rfl, Nat.le_of_ble_eq_true rfl⟩ sc_77 ⟨rfl, by decide⟩ H7.1 (by omega) (k241x E ihr (by omega) H7 live p a e t15 F C (by omega) ((h1.fr f14 rfl)) (h2) (by omega) (by omega) (by omega) (by omega) (by omega) (by omega) (by omega) (by omega) (by omega)) ?_
      intro v20 M21 q27
      obtain ⟨H22, f23, q24, q25, q26⟩ := q27
      have f28 := f14.tr (f23.up rfl)
      obtain ⟨t29, ht30⟩ : ∃ q, q = gi M21 77 40 := ⟨_, rfl⟩
      rw [← ht30] at q25
      rw [← ht30] at q26
      refine s_blx (lv' := [(0, vR 77), (1, vI live), (2, vI x2)]) (st' := [vI x2, vI v20]) B240_29_30 rfl ?_
      refine r_icmp (tgt := 37) (pc' := 33) D240_30 rfl rfl (by unfold inR; omega) (fun (c31 : v20 = x2) => ?_) (fun (c31 : ¬ (v20 = x2)) => ?_)
      · refine s_blx (lv' := [(0, vR 77), (1, vI live), (2, vI x2)]) (st' := [vI 0]) B240_37_38 rfl ?_
        have g32 : gi M21 77 40 = t29 := ht30.symm
        exact r_zretI D240_38 rfl (by omega) (⟨H22, f28, by omega, by rw [g32]; omega, by rw [g32]; omega⟩)
      · refine s_blx (lv' := [(0, vR 77), (1, vI live), (2, vI x2)]) (st' := [vI 1]) B240_33_34 rfl ?_
        refine r_goto (tgt := 38) D240_34 rfl ?_
        have g33 : gi M21 77 40 = t29 := ht30.symm
        exact r_zretI D240_38 rfl (by omega) (⟨H22, f28, by omega, by rw [g33]; omega, by rw [g33]; omega⟩)
    · refine s_blx (lv' := [(0, vR 77), (1, vI live), (2, vI x2)]) (st' := [vI x2]) B240_11_12 rfl ?_
      refine r_ifc (tgt := 19) (pc' := 15) D240_12 rfl rfl (by unfold inR; omega) (fun (c34 : x2 ≠ 0) => ?_) (fun (c34 : ¬ (x2 ≠ 0)) => ?_)
      · refine s_blx (lv' := [(2, vI 0), (0, vR 77), (1, vI live)]) (st' := []) B240_19_21 rfl ?_
        refine r_goto (tgt := 2) D240_21 rfl ?_
        refine r_loc (lv' := [(0, vR 77), (1, vI live), (2, vI 0)]) ⟨rfl, rfl, rfl, trivial⟩ rfl rfl ?_
        have g35 : gi M6 77 40 = t15 := ht16.symm
        have g36 : gi M6 77 41 = e := (f8.g rfl).trans (i2)
        exact ih 0 t15 M6 H7 f14 (by omega) (by omega) (by omega) (by omega) (by omega) (by omega) (by omega) (by omega)
      · refine s_blx (lv' := [(0, vR 77), (1, vI live), (2, vI x2)]) (st' := [vI 1]) B240_15_16 rfl ?_
        refine r_goto (tgt := 20) D240_16 rfl ?_
        refine s_blx (lv' := [(2, vI 1), (0, vR 77), (1, vI live)]) (st' := []) B240_20_21 rfl ?_
        refine r_goto (tgt := 2) D240_21 rfl ?_
        refine r_loc (lv' := [(0, vR 77), (1, vI live), (2, vI 1)]) ⟨rfl, rfl, rfl, trivial⟩ rfl rfl ?_
        have g37 : gi M6 77 40 = t15 := ht16.symm
        have g38 : gi M6 77 41 = e := (f8.g rfl).trans (i2)
        exact ih 1 t15 M6 H7 f14 (by omega) (by omega) (by omega) (by omega) (by omega) (by omega) (by omega) (by omega)
set_option maxRecDepth 4000 in
theorem k240x {base : Nat} {X : Nat → Option mC} {G : Nat → Value} (E : EnvOK base X G) {rr : Nat} (ihr : ∀ {d : Nat} (_ : 31 + 4 * rr ≤ d) {M : mH} (_ : HI base M) (live : Int) (p : Int) (a : Int) (e : Int) (gg : Int) (F : Int → Int) (C : Int → Int), ((live = 0 ∨ live = 1)) → (KC C M) → (∀ j : Int, a ≤ j → j < e → F (j + 1) = dl (F j) (C j) ∧ F (j + 1) ≠ 0) → (F e = 2 ∨ F e = 20 ∨ F e = 2001) → (gi M 77 41 = e) → (0 ≤ a ∧ e ≤ 3200) → (gi M 77 40 = gg) → (a ≤ gg ∧ gg ≤ e) → (F gg = 10 + p) → (0 ≤ p ∧ p ≤ 8) → 8 - p < ((rr : Nat) : Int) → sOk base X G d T238 [vR 77, vI live] M (pI (fun v M' => HI base M' ∧ Fr [(77, 41), (77, 43)] M M' ∧ (v = 0 ∨ v = 1) ∧ (gg < gi M' 77 40 ∧ gi M' 77 40 ≤ e) ∧ (F (gi M' 77 40) = 20 + p ∨ (F (gi M' 77 40) = 2001 + 100 * p ∧ ((gi M' 77 40) < e → C (gi M' 77 40) ≠ 142 ∧ C (gi M' 77 40) ≠ 143 ∧ C (gi M' 77 40) ≠ 145 ∧ C (gi M' 77 40) ≠ 147))) ∧ ((gi M' 77 40) < e → C (gi M' 77 40) ≠ 8 ∧ C (gi M' 77 40) ≠ 9)))) {d : Nat} (hd : 33 + 4 * rr ≤ d) {M : mH} (H : HI base M) (live : Int) (p : Int) (a : Int) (e : Int) (gg : Int) (F : Int → Int) (C : Int → Int) (h0 : (live = 0 ∨ live = 1)) (h1 : KC C M) (h2 : ∀ j : Int, a ≤ j → j < e → F (j + 1) = dl (F j) (C j) ∧ F (j + 1) ≠ 0) (h3 : F e = 2 ∨ F e = 20 ∨ F e = 2001) (h4 : gi M 77 41 = e) (h5 : 0 ≤ a ∧ e ≤ 3200) (h6 : gi M 77 40 = gg) (h7 : a ≤ gg ∧ gg ≤ e) (h8 : F gg = 10 + p) (h9 : 0 ≤ p ∧ p ≤ 8) (h10 : 8 - p < (rr : Int) + 1) : sOk base X G d T240 [vR 77, vI live] M (pI (fun v M' => HI base M' ∧ Fr [(77, 41), (77, 43)] M M' ∧ (v = 0 ∨ v = 1) ∧ (gg < gi M' 77 40 ∧ gi M' 77 40 ≤ e) ∧ (F (gi M' 77 40) = 20 + p ∨ (F (gi M' 77 40) = 2001 + 100 * p ∧ ((gi M' 77 40) < e → C (gi M' 77 40) ≠ 142 ∧ C (gi M' 77 40) ≠ 143 ∧ C (gi M' 77 40) ≠ 145 ∧ C (gi M' 77 40) ≠ 147))))) := by
  have f0 : Fr [(77, 41), (77, 43)] M M := Fr.rf
  refine sOk.of (show sRn base X G d T240 0 [(0, vR 77), (1, vI live)] [] M _ from ?_)
  refine s_blx (lv' := [(2, vI 0), (0, vR 77), (1, vI live)]) (st' := []) B240_0_2 rfl ?_
  refine r_loc (lv' := [(0, vR 77), (1, vI live), (2, vI 0)]) ⟨rfl, rfl, rfl, trivial⟩ rfl rfl ?_
  have g1 : gi M 77 40 = gg := h6
  have g2 : gi M 77 41 = e := h4
  exact (L_k240x E ihr hd H live p a e gg F C h0 h1 h2 h3 h4 h5 h6 h7 h8 h9 h10 (((3200 - gg) * 1 + 0 : Int) + 1).toNat) 0 gg M H f0 (by omega) (by omega) (by omega) (by omega) (by omega) (by omega) (by omega) (by omega)
set_option maxRecDepth 4000 in
theorem L_k239x {base : Nat} {X : Nat → Option mC} {G : Nat → Value} (E : EnvOK base X G) {rr : Nat} (ihr : ∀ {d : Nat} (_ : 31 + 4 * rr ≤ d) {M : mH} (_ : HI base M) (live : Int) (p : Int) (a : Int) (e : Int) (gg : Int) (F : Int → Int) (C : Int → Int), ((live = 0 ∨ live = 1)) → (KC C M) → (∀ j : Int, a ≤ j → j < e → F (j + 1) = dl (F j) (C j) ∧ F (j + 1) ≠ 0) → (F e = 2 ∨ F e = 20 ∨ F e = 2001) → (gi M 77 41 = e) → (0 ≤ a ∧ e ≤ 3200) → (gi M 77 40 = gg) → (a ≤ gg ∧ gg ≤ e) → (F gg = 10 + p) → (0 ≤ p ∧ p ≤ 8) → 8 - p < ((rr : Nat) : Int) → sOk base X G d T238 [vR 77, vI live] M (pI (fun v M' => HI base M' ∧ Fr [(77, 41), (77, 43)] M M' ∧ (v = 0 ∨ v = 1) ∧ (gg < gi M' 77 40 ∧ gi M' 77 40 ≤ e) ∧ (F (gi M' 77 40) = 20 + p ∨ (F (gi M' 77 40) = 2001 + 100 * p ∧ ((gi M' 77 40) < e → C (gi M' 77 40) ≠ 142 ∧ C (gi M' 77 40) ≠ 143 ∧ C (gi M' 77 40) ≠ 145 ∧ C (gi M' 77 40) ≠ 147))) ∧ ((gi M' 77 40) < e → C (gi M' 77 40) ≠ 8 ∧ C (gi M' 77 40) ≠ 9)))) {d : Nat} (hd : 34 + 4 * rr ≤ d) {M : mH} (H : HI base M) (live : Int) (p : Int) (a : Int) (e : Int) (gg : Int) (F : Int → Int) (C : Int → Int) (h0 : (live = 0 ∨ live = 1)) (h1 : KC C M) (h2 : ∀ j : Int, a ≤ j → j < e → F (j + 1) = dl (F j) (C j) ∧ F (j + 1) ≠ 0) (h3 : F e = 2 ∨ F e = 20 ∨ F e = 2001) (h4 : gi M 77 41 = e) (h5 : 0 ≤ a ∧ e ≤ 3200) (h6 : gi M 77 40 = gg) (h7 : a ≤ gg ∧ gg ≤ e) (h8 : F gg = 10 + p) (h9 : 0 ≤ p ∧ p ≤ 8) (h10 : 8 - p < (rr : Int) + 1) : ∀ mz : Nat, (∀ (x2 t0 : Int) (N : mH), HI base N → Fr [(77, 41), (77, 43)] M N → (gi N 77 40 = t0) → (gg < t0 ∧ t0 ≤ e) → (gi N 77 41 = e) → (F t0 = 20 + p ∨ (F t0 = 2001 + 100 * p ∧ (t0 < e → C t0 ≠ 142 ∧ C t0 ≠ 143 ∧ C t0 ≠ 145 ∧ C t0 ≠ 147))) → (0 ≤ x2) → (x2 ≤ 1) → (3200 - t0) * 1 + 0 < (mz : Int) → sRn base X G d T239 6 [(0, vR 77), (1, vI live), (2, vI x2)] [] N (s_Q base (pI (fun v M' => HI base M' ∧ Fr [(77, 41), (77, 43)] M M' ∧ (v = 0 ∨ v = 1) ∧ (gg < gi M' 77 40 ∧ gi M' 77 40 ≤ e) ∧ (F (gi M' 77 40) = 20 + p ∨ (F (gi M' 77 40) = 2001 + 100 * p ∧ ((gi M' 77 40) < e → C (gi M' 77 40) ≠ 142 ∧ C (gi M' 77 40) ≠ 143 ∧ C (gi M' 77 40) ≠ 145 ∧ C (gi M' 77 40) ≠ 147))) ∧ ((gi M' 77 40) < e → C (gi M' 77 40) ≠ 9))))) := by
  have f0 : Fr [(77, 41), (77, 43)] M M := Fr.rf
  intro mz
  induction mz with
  | zero => exact fun x2 t0 N _ _ z0 z1 z2 z3 z4 z5 z6 => by omega
  | succ mz ih =>
    intro x2 t0 N HN fN i0 i1 i2 i3 i4 i5 hmu
    refine s_blx (lv' := [(0, vR 77), (1, vI live), (2, vI x2)]) (st' := [vI 9, vR 77]) B239_6_9 rfl ?_
    have k1 := d_or (x := F t0) (p := p) 9 (by decide)
    have g16 : gi N 77 41 = e := i2
    have g17 : gi N 77 40 = t0 := i0
    refine r_vI (c := 77) (args := [vI 9]) (rest := []) (pc' := 12) D239_9 rfl ck_11_virtual_402 TE233 rfl (Nat.le_of_ble_eq_true rfl) ⟨Nat.le_of_ble_eq_true rfl, Nat.le_of_ble_eq_true rfl⟩ sc_77 ⟨rfl, by decide⟩ HN.1 (by omega) (k233x E (by omega) HN 9 a e t0 F C ((h1.fr fN rfl)) (h2) (by omega) (by omega) (by omega) (by omega) (by omega) (by omega) (by omega)) ?_
    intro v18 M19 q26
    obtain ⟨H20, f21, q22, q23, q24, q25⟩ := q26
    have f27 := fN.tr (f21.up rfl)
    obtain ⟨t28, ht29⟩ : ∃ q, q = gi M19 77 40 := ⟨_, rfl⟩
    rw [← ht29] at q23
    rw [← ht29] at q24
    rw [← ht29] at q25
    refine r_ifc (tgt := 50) (pc' := 15) D239_12 rfl rfl (by unfold inR; omega) (fun (c30 : v18 = 0) => ?_) (fun (c30 : ¬ (v18 = 0)) => ?_)
    · refine s_blx (lv' := [(0, vR 77), (1, vI live), (2, vI x2)]) (st' := [vI x2]) B239_50_51 rfl ?_
      have g31 : gi M19 77 40 = t28 := ht29.symm
      exact r_zretI D239_51 rfl (by omega) (⟨H20, f27, by omega, by rw [g31]; omega, by rw [g31]; omega, by rw [g31]; omega⟩)
    · refine s_blx (lv' := [(0, vR 77), (1, vI live), (2, vI x2)]) (st' := [vI live, vR 77]) B239_15_17 rfl ?_
      refine r_ifc (tgt := 28) (pc' := 20) D239_17 rfl rfl (by unfold inR; omega) (fun (c32 : live = 0) => ?_) (fun (c32 : ¬ (live = 0)) => ?_)
      · refine s_blx (lv' := [(0, vR 77), (1, vI live), (2, vI x2)]) (st' := [vI 0, vR 77]) B239_28_29 rfl ?_
        have g33 : gi M19 77 41 = e := (f21.g rfl).trans (i2)
        have g34 : gi M19 77 40 = t28 := ht29.symm
        refine r_vI (c := 77) (args := [vI 0]) (rest := []) (pc' := 32) D239_29 rfl ck_11_virtual_412 TE240 rfl (Nat.le_of_ble_eq_true rfl) ⟨Nat.le_of_ble_eq_true rfl, Nat.le_of_ble_eq_true rfl⟩ sc_77 ⟨rfl, by decide⟩ H20.1 (by omega) (k240x E ihr (by omega) H20 0 p a e t28 F C (by omega) ((h1.fr f27 rfl)) (h2) (by omega) (by omega) (by omega) (by omega) (by omega) (by omega) (by omega) (by omega)) ?_
        intro v35 M36 q42
        obtain ⟨H37, f38, q39, q40, q41⟩ := q42
        have f43 := f27.tr (f38.up rfl)
        obtain ⟨t44, ht45⟩ : ∃ q, q = gi M36 77 40 := ⟨_, rfl⟩
        rw [← ht45] at q40
        rw [← ht45] at q41
        refine s_blx (lv' := [(3, vI v35), (0, vR 77), (1, vI live), (2, vI x2)]) (st' := [vI x2]) B239_32_34 rfl ?_
        refine r_ifc (tgt := 45) (pc' := 37) D239_34 rfl rfl (by unfold inR; omega) (fun (c46 : x2 = 0) => ?_) (fun (c46 : ¬ (x2 = 0)) => ?_)
        · refine s_blx (lv' := [(2, vI 0), (3, vI v35), (0, vR 77), (1, vI live)]) (st' := []) B239_45_47 rfl ?_
          refine r_goto (tgt := 6) D239_47 rfl ?_
          refine r_loc (lv' := [(0, vR 77), (1, vI live), (2, vI 0)]) ⟨rfl, rfl, rfl, trivial⟩ rfl rfl ?_
          have g47 : gi M36 77 40 = t44 := ht45.symm
          have g48 : gi M36 77 41 = e := (f38.g rfl).trans ((f21.g rfl).trans (i2))
          exact ih 0 t44 M36 H37 f43 (by omega) (by omega) (by omega) (by omega) (by omega) (by omega) (by omega)
        · refine s_blx (lv' := [(3, vI v35), (0, vR 77), (1, vI live), (2, vI x2)]) (st' := [vI v35]) B239_37_38 rfl ?_
          refine r_ifc (tgt := 45) (pc' := 41) D239_38 rfl rfl (by unfold inR; omega) (fun (c49 : v35 = 0) => ?_) (fun (c49 : ¬ (v35 = 0)) => ?_)
          · refine s_blx (lv' := [(2, vI 0), (3, vI v35), (0, vR 77), (1, vI live)]) (st' := []) B239_45_47 rfl ?_
            refine r_goto (tgt := 6) D239_47 rfl ?_
            refine r_loc (lv' := [(0, vR 77), (1, vI live), (2, vI 0)]) ⟨rfl, rfl, rfl, trivial⟩ rfl rfl ?_
            have g50 : gi M36 77 40 = t44 := ht45.symm
            have g51 : gi M36 77 41 = e := (f38.g rfl).trans ((f21.g rfl).trans (i2))
            exact ih 0 t44 M36 H37 f43 (by omega) (by omega) (by omega) (by omega) (by omega) (by omega) (by omega)
          · refine s_blx (lv' := [(3, vI v35), (0, vR 77), (1, vI live), (2, vI x2)]) (st' := [vI 1]) B239_41_42 rfl ?_
            refine r_goto (tgt := 46) D239_42 rfl ?_
            refine s_blx (lv' := [(2, vI 1), (3, vI v35), (0, vR 77), (1, vI live)]) (st' := []) B239_46_47 rfl ?_
            refine r_goto (tgt := 6) D239_47 rfl ?_
            refine r_loc (lv' := [(0, vR 77), (1, vI live), (2, vI 1)]) ⟨rfl, rfl, rfl, trivial⟩ rfl rfl ?_
            have g52 : gi M36 77 40 = t44 := ht45.symm
            have g53 : gi M36 77 41 = e := (f38.g rfl).trans ((f21.g rfl).trans (i2))
            exact ih 1 t44 M36 H37 f43 (by omega) (by omega) (by omega) (by omega) (by omega) (by omega) (by omega)
      · refine s_blx (lv' := [(0, vR 77), (1, vI live), (2, vI x2)]) (st' := [vI x2, vR 77]) B239_20_21 rfl ?_
        refine r_ifc (tgt := 28) (pc' := 24) D239_21 rfl rfl (by unfold inR; omega) (fun (c54 : x2 = 0) => ?_) (fun (c54 : ¬ (x2 = 0)) => ?_)
        · refine s_blx (lv' := [(0, vR 77), (1, vI live), (2, vI x2)]) (st' := [vI 0, vR 77]) B239_28_29 rfl ?_
          have g55 : gi M19 77 41 = e := (f21.g rfl).trans (i2)
          have g56 : gi M19 77 40 = t28 := ht29.symm
          refine r_vI (c := 77) (args := [vI 0]) (rest := []) (pc' := 32) D239_29 rfl ck_11_virtual_412 TE240 rfl (Nat.le_of_ble_eq_true rfl) ⟨Nat.le_of_ble_eq_true rfl, Nat.le_of_ble_eq_true rfl⟩ sc_77 ⟨rfl, by decide⟩ H20.1 (by omega) (k240x E ihr (by omega) H20 0 p a e t28 F C (by omega) ((h1.fr f27 rfl)) (h2) (by omega) (by omega) (by omega) (by omega) (by omega) (by omega) (by omega) (by omega)) ?_
          intro v57 M58 q64
          obtain ⟨H59, f60, q61, q62, q63⟩ := q64
          have f65 := f27.tr (f60.up rfl)
          obtain ⟨t66, ht67⟩ : ∃ q, q = gi M58 77 40 := ⟨_, rfl⟩
          rw [← ht67] at q62
          rw [← ht67] at q63
          refine s_blx (lv' := [(3, vI v57), (0, vR 77), (1, vI live), (2, vI x2)]) (st' := [vI x2]) B239_32_34 rfl ?_
          refine r_ifc (tgt := 45) (pc' := 37) D239_34 rfl rfl (by unfold inR; omega) (fun (c68 : x2 = 0) => ?_) (fun (c68 : ¬ (x2 = 0)) => ?_)
          · refine s_blx (lv' := [(2, vI 0), (3, vI v57), (0, vR 77), (1, vI live)]) (st' := []) B239_45_47 rfl ?_
            refine r_goto (tgt := 6) D239_47 rfl ?_
            refine r_loc (lv' := [(0, vR 77), (1, vI live), (2, vI 0)]) ⟨rfl, rfl, rfl, trivial⟩ rfl rfl ?_
            have g69 : gi M58 77 40 = t66 := ht67.symm
            have g70 : gi M58 77 41 = e := (f60.g rfl).trans ((f21.g rfl).trans (i2))
            exact ih 0 t66 M58 H59 f65 (by omega) (by omega) (by omega) (by omega) (by omega) (by omega) (by omega)
          · exfalso; omega
        · refine s_blx (lv' := [(0, vR 77), (1, vI live), (2, vI x2)]) (st' := [vI 1, vR 77]) B239_24_25 rfl ?_
          refine r_goto (tgt := 29) D239_25 rfl ?_
          have g71 : gi M19 77 41 = e := (f21.g rfl).trans (i2)
          have g72 : gi M19 77 40 = t28 := ht29.symm
          refine r_vI (c := 77) (args := [vI 1]) (rest := []) (pc' := 32) D239_29 rfl ck_11_virtual_412 TE240 rfl (Nat.le_of_ble_eq_true rfl) ⟨Nat.le_of_ble_eq_true rfl, Nat.le_of_ble_eq_true rfl⟩ sc_77 ⟨rfl, by decide⟩ H20.1 (by omega) (k240x E ihr (by omega) H20 1 p a e t28 F C (by omega) ((h1.fr f27 rfl)) (h2) (by omega) (by omega) (by omega) (by omega) (by omega) (by omega) (by omega) (by omega)) ?_
          intro v73 M74 q80
          obtain ⟨H75, f76, q77, q78, q79⟩ := q80
          have f81 := f27.tr (f76.up rfl)
          obtain ⟨t82, ht83⟩ : ∃ q, q = gi M74 77 40 := ⟨_, rfl⟩
          rw [← ht83] at q78
          rw [← ht83] at q79
          refine s_blx (lv' := [(3, vI v73), (0, vR 77), (1, vI live), (2, vI x2)]) (st' := [vI x2]) B239_32_34 rfl ?_
          refine r_ifc (tgt := 45) (pc' := 37) D239_34 rfl rfl (by unfold inR; omega) (fun (c84 : x2 = 0) => ?_) (fun (c84 : ¬ (x2 = 0)) => ?_)
          · exfalso; omega
          · refine s_blx (lv' := [(3, vI v73), (0, vR 77), (1, vI live), (2, vI x2)]) (st' := [vI v73]) B239_37_38 rfl ?_
            refine r_ifc (tgt := 45) (pc' := 41) D239_38 rfl rfl (by unfold inR; omega) (fun (c85 : v73 = 0) => ?_) (fun (c85 : ¬ (v73 = 0)) => ?_)
            · refine s_blx (lv' := [(2, vI 0), (3, vI v73), (0, vR 77), (1, vI live)]) (st' := []) B239_45_47 rfl ?_
              refine r_goto (tgt := 6) D239_47 rfl ?_
              refine r_loc (lv' := [(0, vR 77), (1, vI live), (2, vI 0)]) ⟨rfl, rfl, rfl, trivial⟩ rfl rfl ?_
              have g86 : gi M74 77 40 = t82 := ht83.symm
              have g87 : gi M74 77 41 = e := (f76.g rfl).trans ((f21.g rfl).trans (i2))
              exact ih 0 t82 M74 H75 f81 (by omega) (by omega) (by omega) (by omega) (by omega) (by omega) (by omega)
            · refine s_blx (lv' := [(3, vI v73), (0, vR 77), (1, vI live), (2, vI x2)]) (st' := [vI 1]) B239_41_42 rfl ?_
              refine r_goto (tgt := 46) D239_42 rfl ?_
              refine s_blx (lv' := [(2, vI 1), (3, vI v73), (0, vR 77), (1, vI live)]) (st' := []) B239_46_47 rfl ?_
              refine r_goto (tgt := 6) D239_47 rfl ?_
              refine r_loc (lv' := [(0, vR 77), (1, vI live), (2, vI 1)]) ⟨rfl, rfl, rfl, trivial⟩ rfl rfl ?_
              have g88 : gi M74 77 40 = t82 := ht83.symm
              have g89 : gi M74 77 41 = e := (f76.g rfl).trans ((f21.g rfl).trans (i2))
              exact ih 1 t82 M74 H75 f81 (by omega) (by omega) (by omega) (by omega) (by omega) (by omega) (by omega)
set_option maxRecDepth 4000 in
theorem k239x {base : Nat} {X : Nat → Option mC} {G : Nat → Value} (E : EnvOK base X G) {rr : Nat} (ihr : ∀ {d : Nat} (_ : 31 + 4 * rr ≤ d) {M : mH} (_ : HI base M) (live : Int) (p : Int) (a : Int) (e : Int) (gg : Int) (F : Int → Int) (C : Int → Int), ((live = 0 ∨ live = 1)) → (KC C M) → (∀ j : Int, a ≤ j → j < e → F (j + 1) = dl (F j) (C j) ∧ F (j + 1) ≠ 0) → (F e = 2 ∨ F e = 20 ∨ F e = 2001) → (gi M 77 41 = e) → (0 ≤ a ∧ e ≤ 3200) → (gi M 77 40 = gg) → (a ≤ gg ∧ gg ≤ e) → (F gg = 10 + p) → (0 ≤ p ∧ p ≤ 8) → 8 - p < ((rr : Nat) : Int) → sOk base X G d T238 [vR 77, vI live] M (pI (fun v M' => HI base M' ∧ Fr [(77, 41), (77, 43)] M M' ∧ (v = 0 ∨ v = 1) ∧ (gg < gi M' 77 40 ∧ gi M' 77 40 ≤ e) ∧ (F (gi M' 77 40) = 20 + p ∨ (F (gi M' 77 40) = 2001 + 100 * p ∧ ((gi M' 77 40) < e → C (gi M' 77 40) ≠ 142 ∧ C (gi M' 77 40) ≠ 143 ∧ C (gi M' 77 40) ≠ 145 ∧ C (gi M' 77 40) ≠ 147))) ∧ ((gi M' 77 40) < e → C (gi M' 77 40) ≠ 8 ∧ C (gi M' 77 40) ≠ 9)))) {d : Nat} (hd : 34 + 4 * rr ≤ d) {M : mH} (H : HI base M) (live : Int) (p : Int) (a : Int) (e : Int) (gg : Int) (F : Int → Int) (C : Int → Int) (h0 : (live = 0 ∨ live = 1)) (h1 : KC C M) (h2 : ∀ j : Int, a ≤ j → j < e → F (j + 1) = dl (F j) (C j) ∧ F (j + 1) ≠ 0) (h3 : F e = 2 ∨ F e = 20 ∨ F e = 2001) (h4 : gi M 77 41 = e) (h5 : 0 ≤ a ∧ e ≤ 3200) (h6 : gi M 77 40 = gg) (h7 : a ≤ gg ∧ gg ≤ e) (h8 : F gg = 10 + p) (h9 : 0 ≤ p ∧ p ≤ 8) (h10 : 8 - p < (rr : Int) + 1) : sOk base X G d T239 [vR 77, vI live] M (pI (fun v M' => HI base M' ∧ Fr [(77, 41), (77, 43)] M M' ∧ (v = 0 ∨ v = 1) ∧ (gg < gi M' 77 40 ∧ gi M' 77 40 ≤ e) ∧ (F (gi M' 77 40) = 20 + p ∨ (F (gi M' 77 40) = 2001 + 100 * p ∧ ((gi M' 77 40) < e → C (gi M' 77 40) ≠ 142 ∧ C (gi M' 77 40) ≠ 143 ∧ C (gi M' 77 40) ≠ 145 ∧ C (gi M' 77 40) ≠ 147))) ∧ ((gi M' 77 40) < e → C (gi M' 77 40) ≠ 9))) := by
  have f0 : Fr [(77, 41), (77, 43)] M M := Fr.rf
  refine sOk.of (show sRn base X G d T239 0 [(0, vR 77), (1, vI live)] [] M _ from ?_)
  refine s_blx (lv' := [(0, vR 77), (1, vI live)]) (st' := [vI live, vR 77]) B239_0_2 rfl ?_
  have g1 : gi M 77 41 = e := h4
  have g2 : gi M 77 40 = gg := h6
  refine r_vI (c := 77) (args := [vI live]) (rest := []) (pc' := 5) D239_2 rfl ck_11_virtual_412 TE240 rfl (Nat.le_of_ble_eq_true rfl) ⟨Nat.le_of_ble_eq_true rfl, Nat.le_of_ble_eq_true rfl⟩ sc_77 ⟨rfl, by decide⟩ H.1 (by omega) (k240x E ihr (by omega) H live p a e gg F C (by omega) (h1) (h2) (by omega) (by omega) (by omega) (by omega) (by omega) (by omega) (by omega) (by omega)) ?_
  intro v3 M4 q10
  obtain ⟨H5, f6, q7, q8, q9⟩ := q10
  have f11 := f0.tr (f6.up rfl)
  obtain ⟨t12, ht13⟩ : ∃ q, q = gi M4 77 40 := ⟨_, rfl⟩
  rw [← ht13] at q8
  rw [← ht13] at q9
  refine s_blx (lv' := [(2, vI v3), (0, vR 77), (1, vI live)]) (st' := []) B239_5_6 rfl ?_
  refine r_loc (lv' := [(0, vR 77), (1, vI live), (2, vI v3)]) ⟨rfl, rfl, rfl, trivial⟩ rfl rfl ?_
  have g14 : gi M4 77 40 = t12 := ht13.symm
  have g15 : gi M4 77 41 = e := (f6.g rfl).trans (h4)
  exact (L_k239x E ihr hd H live p a e gg F C h0 h1 h2 h3 h4 h5 h6 h7 h8 h9 h10 (((3200 - t12) * 1 + 0 : Int) + 1).toNat) v3 t12 M4 H5 f11 (by omega) (by omega) (by omega) (by omega) (by omega) (by omega) (by omega)
set_option maxRecDepth 4000 in
theorem L_k238x {base : Nat} {X : Nat → Option mC} {G : Nat → Value} (E : EnvOK base X G) {rr : Nat} (ihr : ∀ {d : Nat} (_ : 31 + 4 * rr ≤ d) {M : mH} (_ : HI base M) (live : Int) (p : Int) (a : Int) (e : Int) (gg : Int) (F : Int → Int) (C : Int → Int), ((live = 0 ∨ live = 1)) → (KC C M) → (∀ j : Int, a ≤ j → j < e → F (j + 1) = dl (F j) (C j) ∧ F (j + 1) ≠ 0) → (F e = 2 ∨ F e = 20 ∨ F e = 2001) → (gi M 77 41 = e) → (0 ≤ a ∧ e ≤ 3200) → (gi M 77 40 = gg) → (a ≤ gg ∧ gg ≤ e) → (F gg = 10 + p) → (0 ≤ p ∧ p ≤ 8) → 8 - p < ((rr : Nat) : Int) → sOk base X G d T238 [vR 77, vI live] M (pI (fun v M' => HI base M' ∧ Fr [(77, 41), (77, 43)] M M' ∧ (v = 0 ∨ v = 1) ∧ (gg < gi M' 77 40 ∧ gi M' 77 40 ≤ e) ∧ (F (gi M' 77 40) = 20 + p ∨ (F (gi M' 77 40) = 2001 + 100 * p ∧ ((gi M' 77 40) < e → C (gi M' 77 40) ≠ 142 ∧ C (gi M' 77 40) ≠ 143 ∧ C (gi M' 77 40) ≠ 145 ∧ C (gi M' 77 40) ≠ 147))) ∧ ((gi M' 77 40) < e → C (gi M' 77 40) ≠ 8 ∧ C (gi M' 77 40) ≠ 9)))) {d : Nat} (hd : 31 + 4 * (rr + 1) ≤ d) {M : mH} (H : HI base M) (live : Int) (p : Int) (a : Int) (e : Int) (gg : Int) (F : Int → Int) (C : Int → Int) (h0 : (live = 0 ∨ live = 1)) (h1 : KC C M) (h2 : ∀ j : Int, a ≤ j → j < e → F (j + 1) = dl (F j) (C j) ∧ F (j + 1) ≠ 0) (h3 : F e = 2 ∨ F e = 20 ∨ F e = 2001) (h4 : gi M 77 41 = e) (h5 : 0 ≤ a ∧ e ≤ 3200) (h6 : gi M 77 40 = gg) (h7 : a ≤ gg ∧ gg ≤ e) (h8 : F gg = 10 + p) (h9 : 0 ≤ p ∧ p ≤ 8) (hrr : 8 - p < ((rr + 1 : Nat) : Int)) : ∀ mz : Nat, (∀ (x2 t0 : Int) (N : mH), HI base N → Fr [(77, 41), (77, 43)] M N → (gi N 77 40 = t0) → (gg < t0 ∧ t0 ≤ e) → (gi N 77 41 = e) → (F t0 = 20 + p ∨ (F t0 = 2001 + 100 * p ∧ (t0 < e → C t0 ≠ 142 ∧ C t0 ≠ 143 ∧ C t0 ≠ 145 ∧ C t0 ≠ 147))) → (t0 < e → C t0 ≠ 9) → (0 ≤ x2) → (x2 ≤ 1) → (3200 - t0) * 1 + 0 < (mz : Int) → sRn base X G d T238 6 [(0, vR 77), (1, vI live), (2, vI x2)] [] N (s_Q base (pI (fun v M' => HI base M' ∧ Fr [(77, 41), (77, 43)] M M' ∧ (v = 0 ∨ v = 1) ∧ (gg < gi M' 77 40 ∧ gi M' 77 40 ≤ e) ∧ (F (gi M' 77 40) = 20 + p ∨ (F (gi M' 77 40) = 2001 + 100 * p ∧ ((gi M' 77 40) < e → C (gi M' 77 40) ≠ 142 ∧ C (gi M' 77 40) ≠ 143 ∧ C (gi M' 77 40) ≠ 145 ∧ C (gi M' 77 40) ≠ 147))) ∧ ((gi M' 77 40) < e → C (gi M' 77 40) ≠ 8 ∧ C (gi M' 77 40) ≠ 9))))) := by
  have f0 : Fr [(77, 41), (77, 43)] M M := Fr.rf
  intro mz
  induction mz with
  | zero => exact fun x2 t0 N _ _ z0 z1 z2 z3 z4 z5 z6 z7 => by omega
  | succ mz ih =>
    intro x2 t0 N HN fN i0 i1 i2 i3 i4 i5 i6 hmu
    refine s_blx (lv' := [(0, vR 77), (1, vI live), (2, vI x2)]) (st' := [vI 8, vR 77]) B238_6_9 rfl ?_
    have k1 := d_or (x := F t0) (p := p) 8 (by decide)
    have g17 : gi N 77 41 = e := i2
    have g18 : gi N 77 40 = t0 := i0
    refine r_vI (c := 77) (args := [vI 8]) (rest := []) (pc' := 12) D238_9 rfl ck_11_virtual_402 TE233 rfl (Nat.le_of_ble_eq_true rfl) ⟨Nat.le_of_ble_eq_true rfl, Nat.le_of_ble_eq_true rfl⟩ sc_77 ⟨rfl, by decide⟩ HN.1 (by omega) (k233x E (by omega) HN 8 a e t0 F C ((h1.fr fN rfl)) (h2) (by omega) (by omega) (by omega) (by omega) (by omega) (by omega) (by omega)) ?_
    intro v19 M20 q27
    obtain ⟨H21, f22, q23, q24, q25, q26⟩ := q27
    have f28 := fN.tr (f22.up rfl)
    obtain ⟨t29, ht30⟩ : ∃ q, q = gi M20 77 40 := ⟨_, rfl⟩
    rw [← ht30] at q24
    rw [← ht30] at q25
    rw [← ht30] at q26
    refine r_ifc (tgt := 50) (pc' := 15) D238_12 rfl rfl (by unfold inR; omega) (fun (c31 : v19 = 0) => ?_) (fun (c31 : ¬ (v19 = 0)) => ?_)
    · refine s_blx (lv' := [(0, vR 77), (1, vI live), (2, vI x2)]) (st' := [vI x2]) B238_50_51 rfl ?_
      have g32 : gi M20 77 40 = t29 := ht30.symm
      exact r_zretI D238_51 rfl (by omega) (⟨H21, f28, by omega, by rw [g32]; omega, by rw [g32]; omega, by rw [g32]; omega⟩)
    · refine s_blx (lv' := [(0, vR 77), (1, vI live), (2, vI x2)]) (st' := [vI live, vR 77]) B238_15_17 rfl ?_
      refine r_ifc (tgt := 28) (pc' := 20) D238_17 rfl rfl (by unfold inR; omega) (fun (c33 : live = 0) => ?_) (fun (c33 : ¬ (live = 0)) => ?_)
      · refine s_blx (lv' := [(0, vR 77), (1, vI live), (2, vI x2)]) (st' := [vI 0, vR 77]) B238_28_29 rfl ?_
        have g34 : gi M20 77 41 = e := (f22.g rfl).trans (i2)
        have g35 : gi M20 77 40 = t29 := ht30.symm
        refine r_vI (c := 77) (args := [vI 0]) (rest := []) (pc' := 32) D238_29 rfl ck_11_virtual_408 TE239 rfl (Nat.le_of_ble_eq_true rfl) ⟨Nat.le_of_ble_eq_true rfl, Nat.le_of_ble_eq_true rfl⟩ sc_77 ⟨rfl, by decide⟩ H21.1 (by omega) (k239x E ihr (by omega) H21 0 p a e t29 F C (by omega) ((h1.fr f28 rfl)) (h2) (by omega) (by omega) (by omega) (by omega) (by omega) (by omega) (by omega) (by omega)) ?_
        intro v36 M37 q44
        obtain ⟨H38, f39, q40, q41, q42, q43⟩ := q44
        have f45 := f28.tr (f39.up rfl)
        obtain ⟨t46, ht47⟩ : ∃ q, q = gi M37 77 40 := ⟨_, rfl⟩
        rw [← ht47] at q41
        rw [← ht47] at q42
        rw [← ht47] at q43
        refine s_blx (lv' := [(3, vI v36), (0, vR 77), (1, vI live), (2, vI x2)]) (st' := [vI x2]) B238_32_34 rfl ?_
        refine r_ifc (tgt := 41) (pc' := 37) D238_34 rfl rfl (by unfold inR; omega) (fun (c48 : x2 ≠ 0) => ?_) (fun (c48 : ¬ (x2 ≠ 0)) => ?_)
        · refine s_blx (lv' := [(3, vI v36), (0, vR 77), (1, vI live), (2, vI x2)]) (st' := [vI 1]) B238_41_42 rfl ?_
          refine r_goto (tgt := 46) D238_42 rfl ?_
          refine s_blx (lv' := [(2, vI 1), (3, vI v36), (0, vR 77), (1, vI live)]) (st' := []) B238_46_47 rfl ?_
          refine r_goto (tgt := 6) D238_47 rfl ?_
          refine r_loc (lv' := [(0, vR 77), (1, vI live), (2, vI 1)]) ⟨rfl, rfl, rfl, trivial⟩ rfl rfl ?_
          have g49 : gi M37 77 40 = t46 := ht47.symm
          have g50 : gi M37 77 41 = e := (f39.g rfl).trans ((f22.g rfl).trans (i2))
          exact ih 1 t46 M37 H38 f45 (by omega) (by omega) (by omega) (by omega) (by omega) (by omega) (by omega) (by omega)
        · refine s_blx (lv' := [(3, vI v36), (0, vR 77), (1, vI live), (2, vI x2)]) (st' := [vI v36]) B238_37_38 rfl ?_
          refine r_ifc (tgt := 45) (pc' := 41) D238_38 rfl rfl (by unfold inR; omega) (fun (c51 : v36 = 0) => ?_) (fun (c51 : ¬ (v36 = 0)) => ?_)
          · refine s_blx (lv' := [(2, vI 0), (3, vI v36), (0, vR 77), (1, vI live)]) (st' := []) B238_45_47 rfl ?_
            refine r_goto (tgt := 6) D238_47 rfl ?_
            refine r_loc (lv' := [(0, vR 77), (1, vI live), (2, vI 0)]) ⟨rfl, rfl, rfl, trivial⟩ rfl rfl ?_
            have g52 : gi M37 77 40 = t46 := ht47.symm
            have g53 : gi M37 77 41 = e := (f39.g rfl).trans ((f22.g rfl).trans (i2))
            exact ih 0 t46 M37 H38 f45 (by omega) (by omega) (by omega) (by omega) (by omega) (by omega) (by omega) (by omega)
          · refine s_blx (lv' := [(3, vI v36), (0, vR 77), (1, vI live), (2, vI x2)]) (st' := [vI 1]) B238_41_42 rfl ?_
            refine r_goto (tgt := 46) D238_42 rfl ?_
            refine s_blx (lv' := [(2, vI 1), (3, vI v36), (0, vR 77), (1, vI live)]) (st' := []) B238_46_47 rfl ?_
            refine r_goto (tgt := 6) D238_47 rfl ?_
            refine r_loc (lv' := [(0, vR 77), (1, vI live), (2, vI 1)]) ⟨rfl, rfl, rfl, trivial⟩ rfl rfl ?_
            have g54 : gi M37 77 40 = t46 := ht47.symm
            have g55 : gi M37 77 41 = e := (f39.g rfl).trans ((f22.g rfl).trans (i2))
            exact ih 1 t46 M37 H38 f45 (by omega) (by omega) (by omega) (by omega) (by omega) (by omega) (by omega) (by omega)
      · refine s_blx (lv' := [(0, vR 77), (1, vI live), (2, vI x2)]) (st' := [vI x2, vR 77]) B238_20_21 rfl ?_
        refine r_ifc (tgt := 28) (pc' := 24) D238_21 rfl rfl (by unfold inR; omega) (fun (c56 : x2 ≠ 0) => ?_) (fun (c56 : ¬ (x2 ≠ 0)) => ?_)
        · refine s_blx (lv' := [(0, vR 77), (1, vI live), (2, vI x2)]) (st' := [vI 0, vR 77]) B238_28_29 rfl ?_
          have g57 : gi M20 77 41 = e := (f22.g rfl).trans (i2)
          have g58 : gi M20 77 40 = t29 := ht30.symm
          refine r_vI (c := 77) (args := [vI 0]) (rest := []) (pc' := 32) D238_29 rfl ck_11_virtual_408 TE239 rfl (Nat.le_of_ble_eq_true rfl) ⟨Nat.le_of_ble_eq_true rfl, Nat.le_of_ble_eq_true rfl⟩ sc_77 ⟨rfl, by decide⟩ H21.1 (by omega) (k239x E ihr (by omega) H21 0 p a e t29 F C (by omega) ((h1.fr f28 rfl)) (h2) (by omega) (by omega) (by omega) (by omega) (by omega) (by omega) (by omega) (by omega)) ?_
          intro v59 M60 q67
          obtain ⟨H61, f62, q63, q64, q65, q66⟩ := q67
          have f68 := f28.tr (f62.up rfl)
          obtain ⟨t69, ht70⟩ : ∃ q, q = gi M60 77 40 := ⟨_, rfl⟩
          rw [← ht70] at q64
          rw [← ht70] at q65
          rw [← ht70] at q66
          refine s_blx (lv' := [(3, vI v59), (0, vR 77), (1, vI live), (2, vI x2)]) (st' := [vI x2]) B238_32_34 rfl ?_
          refine r_ifc (tgt := 41) (pc' := 37) D238_34 rfl rfl (by unfold inR; omega) (fun (c71 : x2 ≠ 0) => ?_) (fun (c71 : ¬ (x2 ≠ 0)) => ?_)
          · refine s_blx (lv' := [(3, vI v59), (0, vR 77), (1, vI live), (2, vI x2)]) (st' := [vI 1]) B238_41_42 rfl ?_
            refine r_goto (tgt := 46) D238_42 rfl ?_
            refine s_blx (lv' := [(2, vI 1), (3, vI v59), (0, vR 77), (1, vI live)]) (st' := []) B238_46_47 rfl ?_
            refine r_goto (tgt := 6) D238_47 rfl ?_
            refine r_loc (lv' := [(0, vR 77), (1, vI live), (2, vI 1)]) ⟨rfl, rfl, rfl, trivial⟩ rfl rfl ?_
            have g72 : gi M60 77 40 = t69 := ht70.symm
            have g73 : gi M60 77 41 = e := (f62.g rfl).trans ((f22.g rfl).trans (i2))
            exact ih 1 t69 M60 H61 f68 (by omega) (by omega) (by omega) (by omega) (by omega) (by omega) (by omega) (by omega)
          · exfalso; omega
        · refine s_blx (lv' := [(0, vR 77), (1, vI live), (2, vI x2)]) (st' := [vI 1, vR 77]) B238_24_25 rfl ?_
          refine r_goto (tgt := 29) D238_25 rfl ?_
          have g74 : gi M20 77 41 = e := (f22.g rfl).trans (i2)
          have g75 : gi M20 77 40 = t29 := ht30.symm
          refine r_vI (c := 77) (args := [vI 1]) (rest := []) (pc' := 32) D238_29 rfl ck_11_virtual_408 TE239 rfl (Nat.le_of_ble_eq_true rfl) ⟨Nat.le_of_ble_eq_true rfl, Nat.le_of_ble_eq_true rfl⟩ sc_77 ⟨rfl, by decide⟩ H21.1 (by omega) (k239x E ihr (by omega) H21 1 p a e t29 F C (by omega) ((h1.fr f28 rfl)) (h2) (by omega) (by omega) (by omega) (by omega) (by omega) (by omega) (by omega) (by omega)) ?_
          intro v76 M77 q84
          obtain ⟨H78, f79, q80, q81, q82, q83⟩ := q84
          have f85 := f28.tr (f79.up rfl)
          obtain ⟨t86, ht87⟩ : ∃ q, q = gi M77 77 40 := ⟨_, rfl⟩
          rw [← ht87] at q81
          rw [← ht87] at q82
          rw [← ht87] at q83
          refine s_blx (lv' := [(3, vI v76), (0, vR 77), (1, vI live), (2, vI x2)]) (st' := [vI x2]) B238_32_34 rfl ?_
          refine r_ifc (tgt := 41) (pc' := 37) D238_34 rfl rfl (by unfold inR; omega) (fun (c88 : x2 ≠ 0) => ?_) (fun (c88 : ¬ (x2 ≠ 0)) => ?_)
          · exfalso; omega
          · refine s_blx (lv' := [(3, vI v76), (0, vR 77), (1, vI live), (2, vI x2)]) (st' := [vI v76]) B238_37_38 rfl ?_
            refine r_ifc (tgt := 45) (pc' := 41) D238_38 rfl rfl (by unfold inR; omega) (fun (c89 : v76 = 0) => ?_) (fun (c89 : ¬ (v76 = 0)) => ?_)
            · refine s_blx (lv' := [(2, vI 0), (3, vI v76), (0, vR 77), (1, vI live)]) (st' := []) B238_45_47 rfl ?_
              refine r_goto (tgt := 6) D238_47 rfl ?_
              refine r_loc (lv' := [(0, vR 77), (1, vI live), (2, vI 0)]) ⟨rfl, rfl, rfl, trivial⟩ rfl rfl ?_
              have g90 : gi M77 77 40 = t86 := ht87.symm
              have g91 : gi M77 77 41 = e := (f79.g rfl).trans ((f22.g rfl).trans (i2))
              exact ih 0 t86 M77 H78 f85 (by omega) (by omega) (by omega) (by omega) (by omega) (by omega) (by omega) (by omega)
            · refine s_blx (lv' := [(3, vI v76), (0, vR 77), (1, vI live), (2, vI x2)]) (st' := [vI 1]) B238_41_42 rfl ?_
              refine r_goto (tgt := 46) D238_42 rfl ?_
              refine s_blx (lv' := [(2, vI 1), (3, vI v76), (0, vR 77), (1, vI live)]) (st' := []) B238_46_47 rfl ?_
              refine r_goto (tgt := 6) D238_47 rfl ?_
              refine r_loc (lv' := [(0, vR 77), (1, vI live), (2, vI 1)]) ⟨rfl, rfl, rfl, trivial⟩ rfl rfl ?_
              have g92 : gi M77 77 40 = t86 := ht87.symm
              have g93 : gi M77 77 41 = e := (f79.g rfl).trans ((f22.g rfl).trans (i2))
              exact ih 1 t86 M77 H78 f85 (by omega) (by omega) (by omega) (by omega) (by omega) (by omega) (by omega) (by omega)
set_option maxRecDepth 4000 in
theorem k238xr {base : Nat} {X : Nat → Option mC} {G : Nat → Value} (E : EnvOK base X G) : ∀ rr : Nat, ∀ {d : Nat} (_ : 31 + 4 * rr ≤ d) {M : mH} (_ : HI base M) (live : Int) (p : Int) (a : Int) (e : Int) (gg : Int) (F : Int → Int) (C : Int → Int), ((live = 0 ∨ live = 1)) → (KC C M) → (∀ j : Int, a ≤ j → j < e → F (j + 1) = dl (F j) (C j) ∧ F (j + 1) ≠ 0) → (F e = 2 ∨ F e = 20 ∨ F e = 2001) → (gi M 77 41 = e) → (0 ≤ a ∧ e ≤ 3200) → (gi M 77 40 = gg) → (a ≤ gg ∧ gg ≤ e) → (F gg = 10 + p) → (0 ≤ p ∧ p ≤ 8) → 8 - p < ((rr : Nat) : Int) → sOk base X G d T238 [vR 77, vI live] M (pI (fun v M' => HI base M' ∧ Fr [(77, 41), (77, 43)] M M' ∧ (v = 0 ∨ v = 1) ∧ (gg < gi M' 77 40 ∧ gi M' 77 40 ≤ e) ∧ (F (gi M' 77 40) = 20 + p ∨ (F (gi M' 77 40) = 2001 + 100 * p ∧ ((gi M' 77 40) < e → C (gi M' 77 40) ≠ 142 ∧ C (gi M' 77 40) ≠ 143 ∧ C (gi M' 77 40) ≠ 145 ∧ C (gi M' 77 40) ≠ 147))) ∧ ((gi M' 77 40) < e → C (gi M' 77 40) ≠ 8 ∧ C (gi M' 77 40) ≠ 9))) := by
  intro rr
  induction rr with
  | zero => intro d hd M H live p a e gg F C h0 h1 h2 h3 h4 h5 h6 h7 h8 h9 hrr; exfalso; omega
  | succ rr ihr =>
  intro d hd M H live p a e gg F C h0 h1 h2 h3 h4 h5 h6 h7 h8 h9 hrr
  have f0 : Fr [(77, 41), (77, 43)] M M := Fr.rf
  refine sOk.of (show sRn base X G d T238 0 [(0, vR 77), (1, vI live)] [] M _ from ?_)
  refine s_blx (lv' := [(0, vR 77), (1, vI live)]) (st' := [vI live, vR 77]) B238_0_2 rfl ?_
  have g1 : gi M 77 41 = e := h4
  have g2 : gi M 77 40 = gg := h6
  refine r_vI (c := 77) (args := [vI live]) (rest := []) (pc' := 5) D238_2 rfl ck_11_virtual_408 TE239 rfl (Nat.le_of_ble_eq_true rfl) ⟨Nat.le_of_ble_eq_true rfl, Nat.le_of_ble_eq_true rfl⟩ sc_77 ⟨rfl, by decide⟩ H.1 (by omega) (k239x E ihr (by omega) H live p a e gg F C (by omega) (h1) (h2) (by omega) (by omega) (by omega) (by omega) (by omega) (by omega) (by omega) (by omega)) ?_
  intro v3 M4 q11
  obtain ⟨H5, f6, q7, q8, q9, q10⟩ := q11
  have f12 := f0.tr (f6.up rfl)
  obtain ⟨t13, ht14⟩ : ∃ q, q = gi M4 77 40 := ⟨_, rfl⟩
  rw [← ht14] at q8
  rw [← ht14] at q9
  rw [← ht14] at q10
  refine s_blx (lv' := [(2, vI v3), (0, vR 77), (1, vI live)]) (st' := []) B238_5_6 rfl ?_
  refine r_loc (lv' := [(0, vR 77), (1, vI live), (2, vI v3)]) ⟨rfl, rfl, rfl, trivial⟩ rfl rfl ?_
  have g15 : gi M4 77 40 = t13 := ht14.symm
  have g16 : gi M4 77 41 = e := (f6.g rfl).trans (h4)
  exact (L_k238x E ihr hd H live p a e gg F C h0 h1 h2 h3 h4 h5 h6 h7 h8 h9 hrr (((3200 - t13) * 1 + 0 : Int) + 1).toNat) v3 t13 M4 H5 f12 (by omega) (by omega) (by omega) (by omega) (by omega) (by omega) (by omega) (by omega)
theorem k238x {base : Nat} {X : Nat → Option mC} {G : Nat → Value} (E : EnvOK base X G) {d : Nat} (hd : 67 ≤ d) {M : mH} (H : HI base M) (live : Int) (p : Int) (a : Int) (e : Int) (gg : Int) (F : Int → Int) (C : Int → Int) (h0 : (live = 0 ∨ live = 1)) (h1 : KC C M) (h2 : ∀ j : Int, a ≤ j → j < e → F (j + 1) = dl (F j) (C j) ∧ F (j + 1) ≠ 0) (h3 : F e = 2 ∨ F e = 20 ∨ F e = 2001) (h4 : gi M 77 41 = e) (h5 : 0 ≤ a ∧ e ≤ 3200) (h6 : gi M 77 40 = gg) (h7 : a ≤ gg ∧ gg ≤ e) (h8 : F gg = 10 + p) (h9 : 0 ≤ p ∧ p ≤ 8) : sOk base X G d T238 [vR 77, vI live] M (pI (fun v M' => HI base M' ∧ Fr [(77, 41), (77, 43)] M M' ∧ (v = 0 ∨ v = 1) ∧ (gg < gi M' 77 40 ∧ gi M' 77 40 ≤ e) ∧ (F (gi M' 77 40) = 20 + p ∨ (F (gi M' 77 40) = 2001 + 100 * p ∧ ((gi M' 77 40) < e → C (gi M' 77 40) ≠ 142 ∧ C (gi M' 77 40) ≠ 143 ∧ C (gi M' 77 40) ≠ 145 ∧ C (gi M' 77 40) ≠ 147))) ∧ ((gi M' 77 40) < e → C (gi M' 77 40) ≠ 8 ∧ C (gi M' 77 40) ≠ 9))) := k238xr E 9 (by omega) H live p a e gg F C h0 h1 h2 h3 h4 h5 h6 h7 h8 h9 (by omega)
