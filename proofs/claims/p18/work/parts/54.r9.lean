/-! The reference's words end in a blank. -/
noncomputable def WD (M : mH) : Prop := gi M 94 103 = 32
theorem WD.fr {L : List (Nat × Nat)} {M M' : mH} (h : WD M) (f : Fr L M M') (hc : s_al L (fun c => c != 94) = true) : WD M' := by
  unfold WD
  rw [f.g (s_al_ok hc (by simp))]
  exact h
noncomputable def T214 : mT := (11, yX11_wordOf, cX11_wordOf, 8, (some .int))
set_option maxRecDepth 10000 in
theorem TE214 : sy_m[214]? = some T214 := rfl
theorem B214_0_5 : s_dk T214.2.2.1 0 [.iconst 1, .istore_n 3, .iconst 0, .istore 4] 5 = true := by decide +kernel
theorem B214_5_8 : s_dk T214.2.2.1 5 [.iload 4, .aload_n 0] 8 = true := by decide +kernel
theorem gf_11_65_77 : s_gf 11 65 77 = some (28, 97) := by decide +kernel
theorem D214_8 : decode T214.2.2.1 8 = .ok (.getfield 65, 3) := by decide +kernel
theorem D214_11 : decode T214.2.2.1 11 = .ok (.arraylength, 1) := by decide +kernel
theorem D214_12 : decode T214.2.2.1 12 = .ok (.if_icmp .ge 114, 3) := by decide +kernel
theorem B214_15_18 : s_dk T214.2.2.1 15 [.iconst 0, .istore 5] 18 = true := by decide +kernel
theorem B214_18_19 : s_dk T214.2.2.1 18 [.aload_n 0] 19 = true := by decide +kernel
theorem D214_19 : decode T214.2.2.1 19 = .ok (.getfield 65, 3) := by decide +kernel
theorem B214_22_27 : s_dk T214.2.2.1 22 [.iload 4, .iload 5, .iadd] 27 = true := by decide +kernel
theorem D214_27 : decode T214.2.2.1 27 = .ok (.baload, 1) := by decide +kernel
theorem B214_28_30 : s_dk T214.2.2.1 28 [.bipush 32] 30 = true := by decide +kernel
theorem D214_30 : decode T214.2.2.1 30 = .ok (.if_icmp .eq 9, 3) := by decide +kernel
theorem B214_39_44 : s_dk T214.2.2.1 39 [.iload 5, .iload_n 2, .iload_n 1, .isub] 44 = true := by decide +kernel
theorem D214_44 : decode T214.2.2.1 44 = .ok (.if_icmp .ne 7, 3) := by decide +kernel
theorem B214_51_57 : s_dk T214.2.2.1 51 [.iconst 0, .istore 6, .iconst 0, .istore 7] 57 = true := by decide +kernel
theorem B214_47_48 : s_dk T214.2.2.1 47 [.iconst 1] 48 = true := by decide +kernel
theorem D214_48 : decode T214.2.2.1 48 = .ok (.goto 4, 3) := by decide +kernel
theorem B214_52_57 : s_dk T214.2.2.1 52 [.istore 6, .iconst 0, .istore 7] 57 = true := by decide +kernel
theorem B214_33_36 : s_dk T214.2.2.1 33 [.iinc 5 1] 36 = true := by decide +kernel
theorem D214_36 : decode T214.2.2.1 36 = .ok (.goto (-18), 3) := by decide +kernel
theorem B214_57_61 : s_dk T214.2.2.1 57 [.iload 7, .iload 5] 61 = true := by decide +kernel
theorem D214_61 : decode T214.2.2.1 61 = .ok (.if_icmp .ge 43, 3) := by decide +kernel
theorem B214_104_106 : s_dk T214.2.2.1 104 [.iload 6] 106 = true := by decide +kernel
theorem D214_106 : decode T214.2.2.1 106 = .ok (.ifCond .eq 5, 3) := by decide +kernel
theorem B214_111_123 : s_dk T214.2.2.1 111 [.iload 4, .iload 5, .iconst 1, .iadd, .iadd, .istore 4, .iinc 3 1] 123 = true := by decide +kernel
theorem D214_123 : decode T214.2.2.1 123 = .ok (.goto (-118), 3) := by decide +kernel
theorem B214_109_110 : s_dk T214.2.2.1 109 [.iload_n 3] 110 = true := by decide +kernel
theorem D214_110 : decode T214.2.2.1 110 = .ok (.ireturn, 1) := by decide +kernel
theorem B214_64_66 : s_dk T214.2.2.1 64 [.iload 6] 66 = true := by decide +kernel
theorem D214_66 : decode T214.2.2.1 66 = .ok (.ifCond .eq 38, 3) := by decide +kernel
theorem B214_69_70 : s_dk T214.2.2.1 69 [.aload_n 0] 70 = true := by decide +kernel
theorem D214_70 : decode T214.2.2.1 70 = .ok (.getfield 65, 3) := by decide +kernel
theorem B214_73_78 : s_dk T214.2.2.1 73 [.iload 4, .iload 7, .iadd] 78 = true := by decide +kernel
theorem D214_78 : decode T214.2.2.1 78 = .ok (.baload, 1) := by decide +kernel
theorem B214_79_80 : s_dk T214.2.2.1 79 [.aload_n 0] 80 = true := by decide +kernel
theorem D214_80 : decode T214.2.2.1 80 = .ok (.getfield 69, 3) := by decide +kernel
theorem B214_83_87 : s_dk T214.2.2.1 83 [.iload_n 1, .iload 7, .iadd] 87 = true := by decide +kernel
theorem D214_87 : decode T214.2.2.1 87 = .ok (.baload, 1) := by decide +kernel
theorem D214_88 : decode T214.2.2.1 88 = .ok (.if_icmp .ne 7, 3) := by decide +kernel
theorem B214_95_101 : s_dk T214.2.2.1 95 [.iconst 0, .istore 6, .iinc 7 1] 101 = true := by decide +kernel
theorem D214_101 : decode T214.2.2.1 101 = .ok (.goto (-44), 3) := by decide +kernel
theorem B214_91_92 : s_dk T214.2.2.1 91 [.iconst 1] 92 = true := by decide +kernel
theorem D214_92 : decode T214.2.2.1 92 = .ok (.goto 4, 3) := by decide +kernel
theorem B214_96_101 : s_dk T214.2.2.1 96 [.istore 6, .iinc 7 1] 101 = true := by decide +kernel
theorem B214_126_127 : s_dk T214.2.2.1 126 [.iconst 0] 127 = true := by decide +kernel
theorem D214_127 : decode T214.2.2.1 127 = .ok (.ireturn, 1) := by decide +kernel
noncomputable def T215 : mT := (11, yX11_cuts, cX11_cuts, 6, none)
set_option maxRecDepth 10000 in
theorem TE215 : sy_m[215]? = some T215 := rfl
theorem B215_0_2 : s_dk T215.2.2.1 0 [.aload_n 0, .iconst 0] 2 = true := by decide +kernel
theorem pf_11_305_77 : s_pf 11 305 77 = some (36, 1) := by decide +kernel
theorem D215_2 : decode T215.2.2.1 2 = .ok (.putfield 305, 3) := by decide +kernel
theorem B215_5_7 : s_dk T215.2.2.1 5 [.iconst 0, .istore_n 2] 7 = true := by decide +kernel
theorem B215_7_9 : s_dk T215.2.2.1 7 [.iload_n 2, .iload_n 1] 9 = true := by decide +kernel
theorem D215_9 : decode T215.2.2.1 9 = .ok (.if_icmp .ge 255, 3) := by decide +kernel
theorem B215_264_265 : s_dk T215.2.2.1 264 [.aload_n 0] 265 = true := by decide +kernel
theorem D215_265 : decode T215.2.2.1 265 = .ok (.getfield 84, 3) := by decide +kernel
theorem B215_268_269 : s_dk T215.2.2.1 268 [.aload_n 0] 269 = true := by decide +kernel
theorem gf_11_305_77 : s_gf 11 305 77 = some (36, 1) := by decide +kernel
theorem D215_269 : decode T215.2.2.1 269 = .ok (.getfield 305, 3) := by decide +kernel
theorem B215_272_273 : s_dk T215.2.2.1 272 [.iload_n 1] 273 = true := by decide +kernel
theorem D215_273 : decode T215.2.2.1 273 = .ok (.iastore, 1) := by decide +kernel
theorem B215_274_275 : s_dk T215.2.2.1 274 [.aload_n 0] 275 = true := by decide +kernel
theorem gf_11_78_77 : s_gf 11 78 77 = some (33, 100) := by decide +kernel
theorem D215_275 : decode T215.2.2.1 275 = .ok (.getfield 78, 3) := by decide +kernel
theorem B215_278_279 : s_dk T215.2.2.1 278 [.aload_n 0] 279 = true := by decide +kernel
theorem D215_279 : decode T215.2.2.1 279 = .ok (.getfield 305, 3) := by decide +kernel
theorem B215_282_283 : s_dk T215.2.2.1 282 [.iconst 0] 283 = true := by decide +kernel
theorem D215_283 : decode T215.2.2.1 283 = .ok (.iastore, 1) := by decide +kernel
theorem B215_284_285 : s_dk T215.2.2.1 284 [.aload_n 0] 285 = true := by decide +kernel
theorem gf_11_81_77 : s_gf 11 81 77 = some (34, 101) := by decide +kernel
theorem D215_285 : decode T215.2.2.1 285 = .ok (.getfield 81, 3) := by decide +kernel
theorem B215_288_289 : s_dk T215.2.2.1 288 [.aload_n 0] 289 = true := by decide +kernel
theorem D215_289 : decode T215.2.2.1 289 = .ok (.getfield 305, 3) := by decide +kernel
theorem B215_292_293 : s_dk T215.2.2.1 292 [.iconst 0] 293 = true := by decide +kernel
theorem D215_293 : decode T215.2.2.1 293 = .ok (.iastore, 1) := by decide +kernel
theorem D215_294 : decode T215.2.2.1 294 = .ok (.return_, 1) := by decide +kernel
theorem B215_12_13 : s_dk T215.2.2.1 12 [.aload_n 0] 13 = true := by decide +kernel
theorem D215_13 : decode T215.2.2.1 13 = .ok (.getfield 69, 3) := by decide +kernel
theorem B215_16_17 : s_dk T215.2.2.1 16 [.iload_n 2] 17 = true := by decide +kernel
theorem D215_17 : decode T215.2.2.1 17 = .ok (.baload, 1) := by decide +kernel
theorem B215_18_22 : s_dk T215.2.2.1 18 [.istore_n 3, .iload_n 3, .bipush 32] 22 = true := by decide +kernel
theorem D215_22 : decode T215.2.2.1 22 = .ok (.if_icmp .ne 9, 3) := by decide +kernel
theorem B215_31_37 : s_dk T215.2.2.1 31 [.iload_n 2, .iconst 1, .iadd, .istore 4, .iload_n 3] 37 = true := by decide +kernel
theorem D215_37 : decode T215.2.2.1 37 = .ok (.invokestatic 308, 3) := by decide +kernel
theorem ck_11_static_308 : m_call 11 (.invokestatic 308) = some (1, 212, 1) := by decide +kernel
theorem D215_40 : decode T215.2.2.1 40 = .ok (.ifCond .eq 28, 3) := by decide +kernel
theorem B215_68_69 : s_dk T215.2.2.1 68 [.iload_n 3] 69 = true := by decide +kernel
theorem D215_69 : decode T215.2.2.1 69 = .ok (.invokestatic 311, 3) := by decide +kernel
theorem ck_11_static_311 : m_call 11 (.invokestatic 311) = some (1, 213, 1) := by decide +kernel
theorem D215_72 : decode T215.2.2.1 72 = .ok (.ifCond .eq 28, 3) := by decide +kernel
theorem B215_100_101 : s_dk T215.2.2.1 100 [.aload_n 0] 101 = true := by decide +kernel
theorem D215_101 : decode T215.2.2.1 101 = .ok (.getfield 84, 3) := by decide +kernel
theorem B215_104_105 : s_dk T215.2.2.1 104 [.aload_n 0] 105 = true := by decide +kernel
theorem D215_105 : decode T215.2.2.1 105 = .ok (.getfield 305, 3) := by decide +kernel
theorem B215_108_109 : s_dk T215.2.2.1 108 [.iload_n 2] 109 = true := by decide +kernel
theorem D215_109 : decode T215.2.2.1 109 = .ok (.iastore, 1) := by decide +kernel
theorem B215_110_111 : s_dk T215.2.2.1 110 [.aload_n 0] 111 = true := by decide +kernel
theorem D215_111 : decode T215.2.2.1 111 = .ok (.getfield 81, 3) := by decide +kernel
theorem B215_114_115 : s_dk T215.2.2.1 114 [.aload_n 0] 115 = true := by decide +kernel
theorem D215_115 : decode T215.2.2.1 115 = .ok (.getfield 305, 3) := by decide +kernel
theorem B215_118_119 : s_dk T215.2.2.1 118 [.iconst 0] 119 = true := by decide +kernel
theorem D215_119 : decode T215.2.2.1 119 = .ok (.iastore, 1) := by decide +kernel
theorem B215_120_121 : s_dk T215.2.2.1 120 [.aload_n 0] 121 = true := by decide +kernel
theorem D215_121 : decode T215.2.2.1 121 = .ok (.getfield 78, 3) := by decide +kernel
theorem B215_124_125 : s_dk T215.2.2.1 124 [.aload_n 0] 125 = true := by decide +kernel
theorem D215_125 : decode T215.2.2.1 125 = .ok (.getfield 305, 3) := by decide +kernel
theorem B215_128_129 : s_dk T215.2.2.1 128 [.iload_n 3] 129 = true := by decide +kernel
theorem D215_129 : decode T215.2.2.1 129 = .ok (.invokestatic 308, 3) := by decide +kernel
theorem D215_132 : decode T215.2.2.1 132 = .ok (.ifCond .eq 13, 3) := by decide +kernel
theorem B215_145_146 : s_dk T215.2.2.1 145 [.iload_n 3] 146 = true := by decide +kernel
theorem D215_146 : decode T215.2.2.1 146 = .ok (.invokestatic 311, 3) := by decide +kernel
theorem D215_149 : decode T215.2.2.1 149 = .ok (.ifCond .eq 8, 3) := by decide +kernel
theorem B215_157_163 : s_dk T215.2.2.1 157 [.bipush 100, .iload_n 3, .sipush 255] 163 = true := by decide +kernel
theorem D215_163 : decode T215.2.2.1 163 = .ok (.iand, 1) := by decide +kernel
theorem B215_164_165 : s_dk T215.2.2.1 164 [.iadd] 165 = true := by decide +kernel
theorem D215_165 : decode T215.2.2.1 165 = .ok (.iastore, 1) := by decide +kernel
theorem B215_166_169 : s_dk T215.2.2.1 166 [.iload_n 2, .istore 5] 169 = true := by decide +kernel
theorem B215_152_154 : s_dk T215.2.2.1 152 [.bipush 50] 154 = true := by decide +kernel
theorem D215_154 : decode T215.2.2.1 154 = .ok (.goto 11, 3) := by decide +kernel
theorem B215_135_139 : s_dk T215.2.2.1 135 [.aload_n 0, .iload_n 2, .iload 4] 139 = true := by decide +kernel
theorem D215_139 : decode T215.2.2.1 139 = .ok (.invokevirtual 314, 3) := by decide +kernel
theorem ck_11_virtual_314 : m_call 11 (.invokevirtual 314) = some (0, 214, 2) := by decide +kernel
theorem D215_142 : decode T215.2.2.1 142 = .ok (.goto 23, 3) := by decide +kernel
theorem B215_25_28 : s_dk T215.2.2.1 25 [.iinc 2 1] 28 = true := by decide +kernel
theorem D215_28 : decode T215.2.2.1 28 = .ok (.goto (-21), 3) := by decide +kernel
theorem B215_169_173 : s_dk T215.2.2.1 169 [.iload 5, .iload 4] 173 = true := by decide +kernel
theorem D215_173 : decode T215.2.2.1 173 = .ok (.if_icmp .ge 75, 3) := by decide +kernel
theorem B215_176_177 : s_dk T215.2.2.1 176 [.iload_n 3] 177 = true := by decide +kernel
theorem D215_177 : decode T215.2.2.1 177 = .ok (.invokestatic 311, 3) := by decide +kernel
theorem D215_180 : decode T215.2.2.1 180 = .ok (.ifCond .eq 68, 3) := by decide +kernel
theorem B215_248_250 : s_dk T215.2.2.1 248 [.aload_n 0, .dup] 250 = true := by decide +kernel
theorem D215_250 : decode T215.2.2.1 250 = .ok (.getfield 305, 3) := by decide +kernel
theorem B215_253_255 : s_dk T215.2.2.1 253 [.iconst 1, .iadd] 255 = true := by decide +kernel
theorem D215_255 : decode T215.2.2.1 255 = .ok (.putfield 305, 3) := by decide +kernel
theorem B215_258_261 : s_dk T215.2.2.1 258 [.iload 4, .istore_n 2] 261 = true := by decide +kernel
theorem D215_261 : decode T215.2.2.1 261 = .ok (.goto (-254), 3) := by decide +kernel
theorem B215_183_184 : s_dk T215.2.2.1 183 [.aload_n 0] 184 = true := by decide +kernel
theorem D215_184 : decode T215.2.2.1 184 = .ok (.getfield 81, 3) := by decide +kernel
theorem B215_187_188 : s_dk T215.2.2.1 187 [.aload_n 0] 188 = true := by decide +kernel
theorem D215_188 : decode T215.2.2.1 188 = .ok (.getfield 305, 3) := by decide +kernel
theorem B215_191_192 : s_dk T215.2.2.1 191 [.aload_n 0] 192 = true := by decide +kernel
theorem D215_192 : decode T215.2.2.1 192 = .ok (.getfield 81, 3) := by decide +kernel
theorem B215_195_196 : s_dk T215.2.2.1 195 [.aload_n 0] 196 = true := by decide +kernel
theorem D215_196 : decode T215.2.2.1 196 = .ok (.getfield 305, 3) := by decide +kernel
theorem D215_199 : decode T215.2.2.1 199 = .ok (.iaload, 1) := by decide +kernel
theorem D215_200 : decode T215.2.2.1 200 = .ok (.ldc_w 317, 3) := by decide +kernel
theorem D215_203 : decode T215.2.2.1 203 = .ok (.if_icmp .le 15, 3) := by decide +kernel
theorem B215_218_221 : s_dk T215.2.2.1 218 [.bipush 10, .aload_n 0] 221 = true := by decide +kernel
theorem D215_221 : decode T215.2.2.1 221 = .ok (.getfield 81, 3) := by decide +kernel
theorem B215_224_225 : s_dk T215.2.2.1 224 [.aload_n 0] 225 = true := by decide +kernel
theorem D215_225 : decode T215.2.2.1 225 = .ok (.getfield 305, 3) := by decide +kernel
theorem D215_228 : decode T215.2.2.1 228 = .ok (.iaload, 1) := by decide +kernel
theorem B215_229_231 : s_dk T215.2.2.1 229 [.imul, .aload_n 0] 231 = true := by decide +kernel
theorem D215_231 : decode T215.2.2.1 231 = .ok (.getfield 69, 3) := by decide +kernel
theorem B215_234_236 : s_dk T215.2.2.1 234 [.iload 5] 236 = true := by decide +kernel
theorem D215_236 : decode T215.2.2.1 236 = .ok (.baload, 1) := by decide +kernel
theorem B215_237_241 : s_dk T215.2.2.1 237 [.iadd, .bipush 48, .isub] 241 = true := by decide +kernel
theorem D215_241 : decode T215.2.2.1 241 = .ok (.iastore, 1) := by decide +kernel
theorem B215_242_245 : s_dk T215.2.2.1 242 [.iinc 5 1] 245 = true := by decide +kernel
theorem D215_245 : decode T215.2.2.1 245 = .ok (.goto (-76), 3) := by decide +kernel
theorem B215_206_207 : s_dk T215.2.2.1 206 [.aload_n 0] 207 = true := by decide +kernel
theorem D215_207 : decode T215.2.2.1 207 = .ok (.getfield 81, 3) := by decide +kernel
theorem B215_210_211 : s_dk T215.2.2.1 210 [.aload_n 0] 211 = true := by decide +kernel
theorem D215_211 : decode T215.2.2.1 211 = .ok (.getfield 305, 3) := by decide +kernel
theorem D215_214 : decode T215.2.2.1 214 = .ok (.iaload, 1) := by decide +kernel
theorem D215_215 : decode T215.2.2.1 215 = .ok (.goto 26, 3) := by decide +kernel
theorem B215_75_78 : s_dk T215.2.2.1 75 [.iload 4, .iload_n 1] 78 = true := by decide +kernel
theorem D215_78 : decode T215.2.2.1 78 = .ok (.if_icmp .ge 22, 3) := by decide +kernel
theorem B215_81_82 : s_dk T215.2.2.1 81 [.aload_n 0] 82 = true := by decide +kernel
theorem D215_82 : decode T215.2.2.1 82 = .ok (.getfield 69, 3) := by decide +kernel
theorem B215_85_87 : s_dk T215.2.2.1 85 [.iload 4] 87 = true := by decide +kernel
theorem D215_87 : decode T215.2.2.1 87 = .ok (.baload, 1) := by decide +kernel
theorem D215_88 : decode T215.2.2.1 88 = .ok (.invokestatic 311, 3) := by decide +kernel
theorem D215_91 : decode T215.2.2.1 91 = .ok (.ifCond .eq 9, 3) := by decide +kernel
theorem B215_94_97 : s_dk T215.2.2.1 94 [.iinc 4 1] 97 = true := by decide +kernel
theorem D215_97 : decode T215.2.2.1 97 = .ok (.goto (-22), 3) := by decide +kernel
theorem B215_43_46 : s_dk T215.2.2.1 43 [.iload 4, .iload_n 1] 46 = true := by decide +kernel
theorem D215_46 : decode T215.2.2.1 46 = .ok (.if_icmp .ge 22, 3) := by decide +kernel
theorem B215_49_50 : s_dk T215.2.2.1 49 [.aload_n 0] 50 = true := by decide +kernel
theorem D215_50 : decode T215.2.2.1 50 = .ok (.getfield 69, 3) := by decide +kernel
theorem B215_53_55 : s_dk T215.2.2.1 53 [.iload 4] 55 = true := by decide +kernel
theorem D215_55 : decode T215.2.2.1 55 = .ok (.baload, 1) := by decide +kernel
theorem D215_56 : decode T215.2.2.1 56 = .ok (.invokestatic 308, 3) := by decide +kernel
theorem D215_59 : decode T215.2.2.1 59 = .ok (.ifCond .eq 9, 3) := by decide +kernel
theorem B215_62_65 : s_dk T215.2.2.1 62 [.iinc 4 1] 65 = true := by decide +kernel
theorem D215_65 : decode T215.2.2.1 65 = .ok (.goto (-22), 3) := by decide +kernel
set_option maxRecDepth 4000 in
theorem L_k214x {base : Nat} {X : Nat → Option mC} {G : Nat → Value} (E : EnvOK base X G) {d : Nat} (hd : 0 ≤ d) {M : mH} (H : HI base M) (from_ : Int) (to_ : Int) (h0 : WD M) (h1 : 0 ≤ from_ ∧ from_ ≤ 399) (h2 : from_ < to_ ∧ to_ ≤ 400) : ∀ mz : Nat, (∀ (x3 x4 : Int), (0 ≤ x4 ∧ x4 ≤ 104) → (1 ≤ x3 ∧ x3 ≤ x4 + 1) → (1 ≤ x3) → (x3 ≤ 105) → (0 ≤ x4) → (x4 ≤ 207) → (104 - x4) * 209 + 208 < (mz : Int) → sRn base X G d T214 5 [(0, vR 77), (1, vI from_), (2, vI to_), (3, vI x3), (4, vI x4)] [] M (s_Q base (pI (fun v M' => M' = M ∧ (0 ≤ v ∧ v ≤ 105))))) ∧ (∀ (x3 x4 x5 : Int), (0 ≤ x4 ∧ x4 ≤ 103) → (1 ≤ x3 ∧ x3 ≤ x4 + 1) → (0 ≤ x5 ∧ x4 + x5 ≤ 103) → (1 ≤ x3) → (x3 ≤ 105) → (0 ≤ x4) → (x4 ≤ 103) → (0 ≤ x5) → (x5 ≤ 104) → (104 - x4) * 209 + 0 + (103 - x5) * 1 + 104 < (mz : Int) → sRn base X G d T214 18 [(0, vR 77), (1, vI from_), (2, vI to_), (3, vI x3), (4, vI x4), (5, vI x5)] [] M (s_Q base (pI (fun v M' => M' = M ∧ (0 ≤ v ∧ v ≤ 105))))) ∧ (∀ (x3 x4 x5 x6 x7 : Int), (0 ≤ x4 ∧ x4 ≤ 103) → (1 ≤ x3 ∧ x3 ≤ x4 + 1) → (0 ≤ x5 ∧ x4 + x5 ≤ 103) → (x6 = 1 → x5 = to_ - from_ ∨ x7 > 0) → (x6 = 1 → x5 = to_ - from_) → (0 ≤ x7 ∧ x7 ≤ x5) → (1 ≤ x3) → (x3 ≤ 104) → (0 ≤ x4) → (x4 ≤ 103) → (0 ≤ x5) → (x5 ≤ 103) → (0 ≤ x6) → (x6 ≤ 1) → (0 ≤ x7) → (x7 ≤ 103) → (104 - x4) * 209 + 0 + (103 - x7) * 1 + 0 < (mz : Int) → sRn base X G d T214 57 [(0, vR 77), (1, vI from_), (2, vI to_), (3, vI x3), (4, vI x4), (5, vI x5), (6, vI x6), (7, vI x7)] [] M (s_Q base (pI (fun v M' => M' = M ∧ (0 ≤ v ∧ v ≤ 105))))) := by
  intro mz
  induction mz with
  | zero => exact ⟨fun x3 x4 z0 z1 z2 z3 z4 z5 z6 => by omega, fun x3 x4 x5 z0 z1 z2 z3 z4 z5 z6 z7 z8 z9 => by omega, fun x3 x4 x5 x6 x7 z0 z1 z2 z3 z4 z5 z6 z7 z8 z9 z10 z11 z12 z13 z14 z15 z16 => by omega⟩
  | succ mz ih =>
    refine ⟨?_, ?_, ?_⟩
    · intro x3 x4 i0 i1 i2 i3 i4 i5 hmu
      refine s_blx (lv' := [(0, vR 77), (1, vI from_), (2, vI to_), (3, vI x3), (4, vI x4)]) (st' := [vR 77, vI x4]) B214_5_8 rfl ?_
      refine r_gfix (r := 94) (pc' := 11) D214_8 rfl gf_11_65_77 H.1 ?_
      refine r_len (ni := 104) (pc' := 12) D214_11 rfl sc_94 (by decide) rfl H.1 ?_
      refine r_icmp (tgt := 126) (pc' := 15) D214_12 rfl rfl (by unfold inR; omega) (fun (c1 : 104 ≤ x4) => ?_) (fun (c1 : ¬ (104 ≤ x4)) => ?_)
      · refine s_blx (lv' := [(0, vR 77), (1, vI from_), (2, vI to_), (3, vI x3), (4, vI x4)]) (st' := [vI 0]) B214_126_127 rfl ?_
        exact r_iretI D214_127 rfl (⟨rfl, by omega⟩)
      · refine s_blx (lv' := [(5, vI 0), (0, vR 77), (1, vI from_), (2, vI to_), (3, vI x3), (4, vI x4)]) (st' := []) B214_15_18 rfl ?_
        refine r_loc (lv' := [(0, vR 77), (1, vI from_), (2, vI to_), (3, vI x3), (4, vI x4), (5, vI 0)]) ⟨rfl, rfl, rfl, rfl, rfl, rfl, trivial⟩ rfl rfl ?_
        exact ih.2.1 x3 x4 0 (by omega) (by omega) (by omega) (by omega) (by omega) (by omega) (by omega) (by omega) (by omega) (by omega)
    · intro x3 x4 x5 i0 i1 i2 i3 i4 i5 i6 i7 i8 hmu
      refine s_blx (lv' := [(0, vR 77), (1, vI from_), (2, vI to_), (3, vI x3), (4, vI x4), (5, vI x5)]) (st' := [vR 77]) B214_18_19 rfl ?_
      refine r_gfix (r := 94) (pc' := 22) D214_19 rfl gf_11_65_77 H.1 ?_
      refine s_blx (lv' := [(0, vR 77), (1, vI from_), (2, vI to_), (3, vI x3), (4, vI x4), (5, vI x5)]) (st' := [vI (x4 + x5), vR 94]) B214_22_27 rfl ?_
      refine r_bald (pc' := 28) D214_27 rfl sc_94 (by decide) H.1 (by omega) ?_
      intro w2 e3 r4
      have b_w2 := H.2 94 (x4 + x5) (-128) 127 rfl
      rw [← e3] at b_w2; clear r4
      have kk : x4 + x5 = 103 → w2 = 32 := fun h => by rw [e3, h]; exact h0
      refine s_blx (lv' := [(0, vR 77), (1, vI from_), (2, vI to_), (3, vI x3), (4, vI x4), (5, vI x5)]) (st' := [vI 32, vI w2]) B214_28_30 rfl ?_
      refine r_icmp (tgt := 39) (pc' := 33) D214_30 rfl rfl (by unfold inR; omega) (fun (c5 : w2 = 32) => ?_) (fun (c5 : ¬ (w2 = 32)) => ?_)
      · refine s_blx (lv' := [(0, vR 77), (1, vI from_), (2, vI to_), (3, vI x3), (4, vI x4), (5, vI x5)]) (st' := [vI (to_ - from_), vI x5]) B214_39_44 rfl ?_
        refine r_icmp (tgt := 51) (pc' := 47) D214_44 rfl rfl (by unfold inR; omega) (fun (c6 : x5 ≠ (to_ - from_)) => ?_) (fun (c6 : ¬ (x5 ≠ (to_ - from_))) => ?_)
        · refine s_blx (lv' := [(7, vI 0), (6, vI 0), (0, vR 77), (1, vI from_), (2, vI to_), (3, vI x3), (4, vI x4), (5, vI x5)]) (st' := []) B214_51_57 rfl ?_
          refine r_loc (lv' := [(0, vR 77), (1, vI from_), (2, vI to_), (3, vI x3), (4, vI x4), (5, vI x5), (6, vI 0), (7, vI 0)]) ⟨rfl, rfl, rfl, rfl, rfl, rfl, rfl, rfl, trivial⟩ rfl rfl ?_
          exact ih.2.2 x3 x4 x5 0 0 (by omega) (by omega) (by omega) (by omega) (by omega) (by omega) (by omega) (by omega) (by omega) (by omega) (by omega) (by omega) (by omega) (by omega) (by omega) (by omega) (by omega)
        · refine s_blx (lv' := [(0, vR 77), (1, vI from_), (2, vI to_), (3, vI x3), (4, vI x4), (5, vI x5)]) (st' := [vI 1]) B214_47_48 rfl ?_
          refine r_goto (tgt := 52) D214_48 rfl ?_
          refine s_blx (lv' := [(7, vI 0), (6, vI 1), (0, vR 77), (1, vI from_), (2, vI to_), (3, vI x3), (4, vI x4), (5, vI x5)]) (st' := []) B214_52_57 rfl ?_
          refine r_loc (lv' := [(0, vR 77), (1, vI from_), (2, vI to_), (3, vI x3), (4, vI x4), (5, vI x5), (6, vI 1), (7, vI 0)]) ⟨rfl, rfl, rfl, rfl, rfl, rfl, rfl, rfl, trivial⟩ rfl rfl ?_
          exact ih.2.2 x3 x4 x5 1 0 (by omega) (by omega) (by omega) (by omega) (by omega) (by omega) (by omega) (by omega) (by omega) (by omega) (by omega) (by omega) (by omega) (by omega) (by omega) (by omega) (by omega)
      · refine s_blx (lv' := [(5, vI (x5 + 1)), (0, vR 77), (1, vI from_), (2, vI to_), (3, vI x3), (4, vI x4)]) (st' := []) B214_33_36 rfl ?_
        refine r_goto (tgt := 18) D214_36 rfl ?_
        refine r_loc (lv' := [(0, vR 77), (1, vI from_), (2, vI to_), (3, vI x3), (4, vI x4), (5, vI (x5 + 1))]) ⟨rfl, rfl, rfl, rfl, rfl, rfl, trivial⟩ rfl rfl ?_
        exact ih.2.1 x3 x4 (x5 + 1) (by omega) (by omega) (by omega) (by omega) (by omega) (by omega) (by omega) (by omega) (by omega) (by omega)
    · intro x3 x4 x5 x6 x7 i0 i1 i2 i3 i4 i5 i6 i7 i8 i9 i10 i11 i12 i13 i14 i15 hmu
      refine s_blx (lv' := [(0, vR 77), (1, vI from_), (2, vI to_), (3, vI x3), (4, vI x4), (5, vI x5), (6, vI x6), (7, vI x7)]) (st' := [vI x5, vI x7]) B214_57_61 rfl ?_
      refine r_icmp (tgt := 104) (pc' := 64) D214_61 rfl rfl (by unfold inR; omega) (fun (c7 : x5 ≤ x7) => ?_) (fun (c7 : ¬ (x5 ≤ x7)) => ?_)
      · refine s_blx (lv' := [(0, vR 77), (1, vI from_), (2, vI to_), (3, vI x3), (4, vI x4), (5, vI x5), (6, vI x6), (7, vI x7)]) (st' := [vI x6]) B214_104_106 rfl ?_
        refine r_ifc (tgt := 111) (pc' := 109) D214_106 rfl rfl (by unfold inR; omega) (fun (c8 : x6 = 0) => ?_) (fun (c8 : ¬ (x6 = 0)) => ?_)
        · refine s_blx (lv' := [(3, vI (x3 + 1)), (4, vI (x4 + (x5 + 1))), (0, vR 77), (1, vI from_), (2, vI to_), (5, vI x5), (6, vI x6), (7, vI x7)]) (st' := []) B214_111_123 rfl ?_
          refine r_goto (tgt := 5) D214_123 rfl ?_
          refine r_loc (lv' := [(0, vR 77), (1, vI from_), (2, vI to_), (3, vI (x3 + 1)), (4, vI (x4 + (x5 + 1)))]) ⟨rfl, rfl, rfl, rfl, rfl, trivial⟩ rfl rfl ?_
          exact ih.1 (x3 + 1) (x4 + (x5 + 1)) (by omega) (by omega) (by omega) (by omega) (by omega) (by omega) (by omega)
        · refine s_blx (lv' := [(0, vR 77), (1, vI from_), (2, vI to_), (3, vI x3), (4, vI x4), (5, vI x5), (6, vI x6), (7, vI x7)]) (st' := [vI x3]) B214_109_110 rfl ?_
          exact r_iretI D214_110 rfl (⟨rfl, by omega⟩)
      · refine s_blx (lv' := [(0, vR 77), (1, vI from_), (2, vI to_), (3, vI x3), (4, vI x4), (5, vI x5), (6, vI x6), (7, vI x7)]) (st' := [vI x6]) B214_64_66 rfl ?_
        refine r_ifc (tgt := 104) (pc' := 69) D214_66 rfl rfl (by unfold inR; omega) (fun (c9 : x6 = 0) => ?_) (fun (c9 : ¬ (x6 = 0)) => ?_)
        · refine s_blx (lv' := [(0, vR 77), (1, vI from_), (2, vI to_), (3, vI x3), (4, vI x4), (5, vI x5), (6, vI x6), (7, vI x7)]) (st' := [vI x6]) B214_104_106 rfl ?_
          refine r_ifc (tgt := 111) (pc' := 109) D214_106 rfl rfl (by unfold inR; omega) (fun (c10 : x6 = 0) => ?_) (fun (c10 : ¬ (x6 = 0)) => ?_)
          · refine s_blx (lv' := [(3, vI (x3 + 1)), (4, vI (x4 + (x5 + 1))), (0, vR 77), (1, vI from_), (2, vI to_), (5, vI x5), (6, vI x6), (7, vI x7)]) (st' := []) B214_111_123 rfl ?_
            refine r_goto (tgt := 5) D214_123 rfl ?_
            refine r_loc (lv' := [(0, vR 77), (1, vI from_), (2, vI to_), (3, vI (x3 + 1)), (4, vI (x4 + (x5 + 1)))]) ⟨rfl, rfl, rfl, rfl, rfl, trivial⟩ rfl rfl ?_
            exact ih.1 (x3 + 1) (x4 + (x5 + 1)) (by omega) (by omega) (by omega) (by omega) (by omega) (by omega) (by omega)
          · exfalso; omega
        · refine s_blx (lv' := [(0, vR 77), (1, vI from_), (2, vI to_), (3, vI x3), (4, vI x4), (5, vI x5), (6, vI x6), (7, vI x7)]) (st' := [vR 77]) B214_69_70 rfl ?_
          refine r_gfix (r := 94) (pc' := 73) D214_70 rfl gf_11_65_77 H.1 ?_
          refine s_blx (lv' := [(0, vR 77), (1, vI from_), (2, vI to_), (3, vI x3), (4, vI x4), (5, vI x5), (6, vI x6), (7, vI x7)]) (st' := [vI (x4 + x7), vR 94]) B214_73_78 rfl ?_
          refine r_bald (pc' := 79) D214_78 rfl sc_94 (by decide) H.1 (by omega) ?_
          intro w11 e12 r13
          have b_w11 := H.2 94 (x4 + x7) (-128) 127 rfl
          rw [← e12] at b_w11; clear r13
          refine s_blx (lv' := [(0, vR 77), (1, vI from_), (2, vI to_), (3, vI x3), (4, vI x4), (5, vI x5), (6, vI x6), (7, vI x7)]) (st' := [vR 77, vI w11]) B214_79_80 rfl ?_
          refine r_gfix (r := 95) (pc' := 83) D214_80 rfl gf_11_69_77 H.1 ?_
          refine s_blx (lv' := [(0, vR 77), (1, vI from_), (2, vI to_), (3, vI x3), (4, vI x4), (5, vI x5), (6, vI x6), (7, vI x7)]) (st' := [vI (from_ + x7), vR 95, vI w11]) B214_83_87 rfl ?_
          refine r_bald (pc' := 88) D214_87 rfl sc_95 (by decide) H.1 (by omega) ?_
          intro w14 e15 r16
          have b_w14 := H.2 95 (from_ + x7) (-128) 127 rfl
          rw [← e15] at b_w14; clear r16
          refine r_icmp (tgt := 95) (pc' := 91) D214_88 rfl rfl (by unfold inR; omega) (fun (c17 : w11 ≠ w14) => ?_) (fun (c17 : ¬ (w11 ≠ w14)) => ?_)
          · refine s_blx (lv' := [(7, vI (x7 + 1)), (6, vI 0), (0, vR 77), (1, vI from_), (2, vI to_), (3, vI x3), (4, vI x4), (5, vI x5)]) (st' := []) B214_95_101 rfl ?_
            refine r_goto (tgt := 57) D214_101 rfl ?_
            refine r_loc (lv' := [(0, vR 77), (1, vI from_), (2, vI to_), (3, vI x3), (4, vI x4), (5, vI x5), (6, vI 0), (7, vI (x7 + 1))]) ⟨rfl, rfl, rfl, rfl, rfl, rfl, rfl, rfl, trivial⟩ rfl rfl ?_
            exact ih.2.2 x3 x4 x5 0 (x7 + 1) (by omega) (by omega) (by omega) (by omega) (by omega) (by omega) (by omega) (by omega) (by omega) (by omega) (by omega) (by omega) (by omega) (by omega) (by omega) (by omega) (by omega)
          · refine s_blx (lv' := [(0, vR 77), (1, vI from_), (2, vI to_), (3, vI x3), (4, vI x4), (5, vI x5), (6, vI x6), (7, vI x7)]) (st' := [vI 1]) B214_91_92 rfl ?_
            refine r_goto (tgt := 96) D214_92 rfl ?_
            refine s_blx (lv' := [(7, vI (x7 + 1)), (6, vI 1), (0, vR 77), (1, vI from_), (2, vI to_), (3, vI x3), (4, vI x4), (5, vI x5)]) (st' := []) B214_96_101 rfl ?_
            refine r_goto (tgt := 57) D214_101 rfl ?_
            refine r_loc (lv' := [(0, vR 77), (1, vI from_), (2, vI to_), (3, vI x3), (4, vI x4), (5, vI x5), (6, vI 1), (7, vI (x7 + 1))]) ⟨rfl, rfl, rfl, rfl, rfl, rfl, rfl, rfl, trivial⟩ rfl rfl ?_
            exact ih.2.2 x3 x4 x5 1 (x7 + 1) (by omega) (by omega) (by omega) (by omega) (by omega) (by omega) (by omega) (by omega) (by omega) (by omega) (by omega) (by omega) (by omega) (by omega) (by omega) (by omega) (by omega)
set_option maxRecDepth 4000 in
theorem k214x {base : Nat} {X : Nat → Option mC} {G : Nat → Value} (E : EnvOK base X G) {d : Nat} (hd : 0 ≤ d) {M : mH} (H : HI base M) (from_ : Int) (to_ : Int) (h0 : WD M) (h1 : 0 ≤ from_ ∧ from_ ≤ 399) (h2 : from_ < to_ ∧ to_ ≤ 400) : sOk base X G d T214 [vR 77, vI from_, vI to_] M (pI (fun v M' => M' = M ∧ (0 ≤ v ∧ v ≤ 105))) := by
  refine sOk.of (show sRn base X G d T214 0 [(0, vR 77), (1, vI from_), (2, vI to_)] [] M _ from ?_)
  refine s_blx (lv' := [(4, vI 0), (3, vI 1), (0, vR 77), (1, vI from_), (2, vI to_)]) (st' := []) B214_0_5 rfl ?_
  refine r_loc (lv' := [(0, vR 77), (1, vI from_), (2, vI to_), (3, vI 1), (4, vI 0)]) ⟨rfl, rfl, rfl, rfl, rfl, trivial⟩ rfl rfl ?_
  exact (L_k214x E hd H from_ to_ h0 h1 h2 (((104 - 0) * 209 + 208 : Int) + 1).toNat).1 1 0 (by omega) (by omega) (by omega) (by omega) (by omega) (by omega) (by omega)
set_option maxRecDepth 4000 in
theorem L_k215x {base : Nat} {X : Nat → Option mC} {G : Nat → Value} (E : EnvOK base X G) {d : Nat} (hd : 1 ≤ d) {M : mH} (H : HI base M) (size : Int) (h0 : WD M) (h1 : 0 ≤ size ∧ size ≤ 400) : ∀ mz : Nat, (∀ (x2 : Int) (N : mH), HI base N → Fr [(77, 37), (97, 0), (98, 0), (99, 0)] M N → (0 ≤ x2 ∧ x2 ≤ size) → (gi N 77 36 ≤ x2) → (0 ≤ x2) → (x2 ≤ 400) → (400 - x2) * 1204 + 1203 < (mz : Int) → sRn base X G d T215 7 [(0, vR 77), (1, vI size), (2, vI x2)] [] N (s_Q base (pV (fun M' => HI base M' ∧ Fr [(77, 37), (97, 0), (98, 0), (99, 0)] M M' ∧ (gi M' 77 36 ≤ size) ∧ (gi M' 97 (gi M' 77 36) = 0))))) ∧ (∀ (x2 x3 x4 : Int) (N : mH), HI base N → Fr [(77, 37), (97, 0), (98, 0), (99, 0)] M N → (0 ≤ x2 ∧ x2 < size) → (x2 < x4 ∧ x4 ≤ size) → (gi N 77 36 ≤ x2) → (0 ≤ x2) → (x2 ≤ 399) → ((-128) ≤ x3) → (x3 ≤ 127) → (1 ≤ x4) → (x4 ≤ 400) → (400 - x2) * 1204 + 0 + (400 - x4) * 1 + 802 < (mz : Int) → sRn base X G d T215 43 [(0, vR 77), (1, vI size), (2, vI x2), (3, vI x3), (4, vI x4)] [] N (s_Q base (pV (fun M' => HI base M' ∧ Fr [(77, 37), (97, 0), (98, 0), (99, 0)] M M' ∧ (gi M' 77 36 ≤ size) ∧ (gi M' 97 (gi M' 77 36) = 0))))) ∧ (∀ (x2 x3 x4 : Int) (N : mH), HI base N → Fr [(77, 37), (97, 0), (98, 0), (99, 0)] M N → (0 ≤ x2 ∧ x2 < size) → (x2 < x4 ∧ x4 ≤ size) → (gi N 77 36 ≤ x2) → (0 ≤ x2) → (x2 ≤ 399) → ((-128) ≤ x3) → (x3 ≤ 127) → (1 ≤ x4) → (x4 ≤ 400) → (400 - x2) * 1204 + 0 + (400 - x4) * 1 + 401 < (mz : Int) → sRn base X G d T215 75 [(0, vR 77), (1, vI size), (2, vI x2), (3, vI x3), (4, vI x4)] [] N (s_Q base (pV (fun M' => HI base M' ∧ Fr [(77, 37), (97, 0), (98, 0), (99, 0)] M M' ∧ (gi M' 77 36 ≤ size) ∧ (gi M' 97 (gi M' 77 36) = 0))))) ∧ (∀ (x3 x4 x5 : Int) (N : mH), HI base N → Fr [(77, 37), (97, 0), (98, 0), (99, 0)] M N → (gi N 77 36 < x4) → (1 ≤ x4 ∧ x4 ≤ size) → (0 ≤ x5 ∧ x5 ≤ x4) → ((-128) ≤ x3) → (x3 ≤ 127) → (1 ≤ x4) → (x4 ≤ 400) → (0 ≤ x5) → (x5 ≤ 400) → (400 - x4) * 1204 + 1204 + (400 - x5) < (mz : Int) → sRn base X G d T215 169 [(0, vR 77), (1, vI size), (3, vI x3), (4, vI x4), (5, vI x5)] [] N (s_Q base (pV (fun M' => HI base M' ∧ Fr [(77, 37), (97, 0), (98, 0), (99, 0)] M M' ∧ (gi M' 77 36 ≤ size) ∧ (gi M' 97 (gi M' 77 36) = 0))))) := by
  have f0 : Fr [(77, 37), (97, 0), (98, 0), (99, 0)] M M := Fr.rf
  intro mz
  induction mz with
  | zero => exact ⟨fun x2 N _ _ z0 z1 z2 z3 z4 => by omega, fun x2 x3 x4 N _ _ z0 z1 z2 z3 z4 z5 z6 z7 z8 z9 => by omega, fun x2 x3 x4 N _ _ z0 z1 z2 z3 z4 z5 z6 z7 z8 z9 => by omega, fun x3 x4 x5 N _ _ z0 z1 z2 z3 z4 z5 z6 z7 z8 z9 => by omega⟩
  | succ mz ih =>
    refine ⟨?_, ?_, ?_, ?_⟩
    · intro x2 N HN fN i0 i1 i2 i3 hmu
      refine s_blx (lv' := [(0, vR 77), (1, vI size), (2, vI x2)]) (st' := [vI size, vI x2]) B215_7_9 rfl ?_
      refine r_icmp (tgt := 264) (pc' := 12) D215_9 rfl rfl (by unfold inR; omega) (fun (c7 : size ≤ x2) => ?_) (fun (c7 : ¬ (size ≤ x2)) => ?_)
      · refine s_blx (lv' := [(0, vR 77), (1, vI size), (2, vI x2)]) (st' := [vR 77]) B215_264_265 rfl ?_
        refine r_gfix (r := 99) (pc' := 268) D215_265 rfl gf_11_84_77 HN.1 ?_
        refine s_blx (lv' := [(0, vR 77), (1, vI size), (2, vI x2)]) (st' := [vR 77, vR 99]) B215_268_269 rfl ?_
        refine r_gint (ki := 36) (pc' := 272) D215_269 rfl gf_11_305_77 rfl HN.1 ?_
        intro w8 e9 r10
        have b_w8 := HN.2 77 (36) 0 400 rfl
        rw [← e9] at b_w8; clear r10
        have ktk := e9
        refine s_blx (lv' := [(0, vR 77), (1, vI size), (2, vI x2)]) (st' := [vI size, vI w8, vR 99]) B215_272_273 rfl ?_
        refine r_iast (pc' := 274) D215_273 rfl sc_99 HN (by omega) (by unfold inR; omega) (show 0 ≤ size ∧ size ≤ 400 by omega) ?_
        intro M11 u12 H13 p14
        have f15 := fN.wr u12 rfl
        refine s_blx (lv' := [(0, vR 77), (1, vI size), (2, vI x2)]) (st' := [vR 77]) B215_274_275 rfl ?_
        refine r_gfix (r := 97) (pc' := 278) D215_275 rfl gf_11_78_77 H13.1 ?_
        refine s_blx (lv' := [(0, vR 77), (1, vI size), (2, vI x2)]) (st' := [vR 77, vR 97]) B215_278_279 rfl ?_
        refine r_gint (ki := 36) (pc' := 282) D215_279 rfl gf_11_305_77 rfl H13.1 ?_
        intro w16 e17 r18
        have e19 : w8 = w16 := (e17.trans ((u12.gi_ne (by omega) (Or.inl (by decide))).trans (e9.symm))).symm
        subst e19
        refine s_blx (lv' := [(0, vR 77), (1, vI size), (2, vI x2)]) (st' := [vI 0, vI w8, vR 97]) B215_282_283 rfl ?_
        refine r_iast (pc' := 284) D215_283 rfl sc_97 H13 (by omega) (by unfold inR; omega) trivial ?_
        intro M20 u21 H22 p23
        have f24 := f15.wr u21 rfl
        have kp := p23
        refine s_blx (lv' := [(0, vR 77), (1, vI size), (2, vI x2)]) (st' := [vR 77]) B215_284_285 rfl ?_
        refine r_gfix (r := 98) (pc' := 288) D215_285 rfl gf_11_81_77 H22.1 ?_
        refine s_blx (lv' := [(0, vR 77), (1, vI size), (2, vI x2)]) (st' := [vR 77, vR 98]) B215_288_289 rfl ?_
        refine r_gint (ki := 36) (pc' := 292) D215_289 rfl gf_11_305_77 rfl H22.1 ?_
        intro w25 e26 r27
        have e28 : w8 = w25 := (e26.trans ((u21.gi_ne (by omega) (Or.inl (by decide))).trans ((u12.gi_ne (by omega) (Or.inl (by decide))).trans (e9.symm)))).symm
        subst e28
        refine s_blx (lv' := [(0, vR 77), (1, vI size), (2, vI x2)]) (st' := [vI 0, vI w8, vR 98]) B215_292_293 rfl ?_
        refine r_iast (pc' := 294) D215_293 rfl sc_98 H22 (by omega) (by unfold inR; omega) trivial ?_
        intro M29 u30 H31 p32
        have f33 := f24.wr u30 rfl
        have kn : gi M29 77 36 = gi N 77 36 := (((u30.gi_ne (by omega) (Or.inl (by decide))).trans ((u21.gi_ne (by omega) (Or.inl (by decide))).trans ((u12.gi_ne (by omega) (Or.inl (by decide))).trans (e9.symm))))).trans ktk
        have kz : gi M29 97 (gi M29 77 36) = 0 := by rw [kn, ← ktk]; exact (u30.gi_ne (by omega) (Or.inl (by decide))).trans kp
        have g34 : gi M29 77 36 = w8 := (u30.gi_ne (by omega) (Or.inl (by decide))).trans ((u21.gi_ne (by omega) (Or.inl (by decide))).trans ((u12.gi_ne (by omega) (Or.inl (by decide))).trans (e9.symm)))
        exact r_retV D215_294 rfl (⟨H31, f33, by omega, kz⟩)
      · refine s_blx (lv' := [(0, vR 77), (1, vI size), (2, vI x2)]) (st' := [vR 77]) B215_12_13 rfl ?_
        refine r_gfix (r := 95) (pc' := 16) D215_13 rfl gf_11_69_77 HN.1 ?_
        refine s_blx (lv' := [(0, vR 77), (1, vI size), (2, vI x2)]) (st' := [vI x2, vR 95]) B215_16_17 rfl ?_
        refine r_bald (pc' := 18) D215_17 rfl sc_95 (by decide) HN.1 (by omega) ?_
        intro w35 e36 r37
        have b_w35 := HN.2 95 (x2) (-128) 127 rfl
        rw [← e36] at b_w35; clear r37
        refine s_blx (lv' := [(3, vI w35), (0, vR 77), (1, vI size), (2, vI x2)]) (st' := [vI 32, vI w35]) B215_18_22 rfl ?_
        refine r_icmp (tgt := 31) (pc' := 25) D215_22 rfl rfl (by unfold inR; omega) (fun (c38 : w35 ≠ 32) => ?_) (fun (c38 : ¬ (w35 ≠ 32)) => ?_)
        · refine s_blx (lv' := [(4, vI (x2 + 1)), (3, vI w35), (0, vR 77), (1, vI size), (2, vI x2)]) (st' := [vI w35]) B215_31_37 rfl ?_
          refine r_sIp (args := [vI w35]) (rest := []) (pc' := 40) D215_37 rfl ck_11_static_308 TE212 rfl (Nat.le_of_ble_eq_true rfl) ⟨Nat.le_of_ble_eq_true rfl, Nat.le_of_ble_eq_true rfl⟩ (by decide) (dp_0 hd rfl) (k212 E (dp_n hd rfl) HN w35 (by omega)) ?_
          intro v39 q42
          have q41 := q42; clear q42
          refine r_ifc (tgt := 68) (pc' := 43) D215_40 rfl rfl (by unfold inR; omega) (fun (c43 : v39 = 0) => ?_) (fun (c43 : ¬ (v39 = 0)) => ?_)
          · refine s_blx (lv' := [(4, vI (x2 + 1)), (3, vI w35), (0, vR 77), (1, vI size), (2, vI x2)]) (st' := [vI w35]) B215_68_69 rfl ?_
            refine r_sIp (args := [vI w35]) (rest := []) (pc' := 72) D215_69 rfl ck_11_static_311 TE213 rfl (Nat.le_of_ble_eq_true rfl) ⟨Nat.le_of_ble_eq_true rfl, Nat.le_of_ble_eq_true rfl⟩ (by decide) (dp_0 hd rfl) (k213 E (dp_n hd rfl) HN w35 (by omega)) ?_
            intro v44 q47
            have q46 := q47; clear q47
            refine r_ifc (tgt := 100) (pc' := 75) D215_72 rfl rfl (by unfold inR; omega) (fun (c48 : v44 = 0) => ?_) (fun (c48 : ¬ (v44 = 0)) => ?_)
            · refine s_blx (lv' := [(4, vI (x2 + 1)), (3, vI w35), (0, vR 77), (1, vI size), (2, vI x2)]) (st' := [vR 77]) B215_100_101 rfl ?_
              refine r_gfix (r := 99) (pc' := 104) D215_101 rfl gf_11_84_77 HN.1 ?_
              refine s_blx (lv' := [(4, vI (x2 + 1)), (3, vI w35), (0, vR 77), (1, vI size), (2, vI x2)]) (st' := [vR 77, vR 99]) B215_104_105 rfl ?_
              refine r_gint (ki := 36) (pc' := 108) D215_105 rfl gf_11_305_77 rfl HN.1 ?_
              intro w49 e50 r51
              have b_w49 := HN.2 77 (36) 0 400 rfl
              rw [← e50] at b_w49; clear r51
              refine s_blx (lv' := [(4, vI (x2 + 1)), (3, vI w35), (0, vR 77), (1, vI size), (2, vI x2)]) (st' := [vI x2, vI w49, vR 99]) B215_108_109 rfl ?_
              refine r_iast (pc' := 110) D215_109 rfl sc_99 HN (by omega) (by unfold inR; omega) (show 0 ≤ x2 ∧ x2 ≤ 400 by omega) ?_
              intro M52 u53 H54 p55
              have f56 := fN.wr u53 rfl
              refine s_blx (lv' := [(4, vI (x2 + 1)), (3, vI w35), (0, vR 77), (1, vI size), (2, vI x2)]) (st' := [vR 77]) B215_110_111 rfl ?_
              refine r_gfix (r := 98) (pc' := 114) D215_111 rfl gf_11_81_77 H54.1 ?_
              refine s_blx (lv' := [(4, vI (x2 + 1)), (3, vI w35), (0, vR 77), (1, vI size), (2, vI x2)]) (st' := [vR 77, vR 98]) B215_114_115 rfl ?_
              refine r_gint (ki := 36) (pc' := 118) D215_115 rfl gf_11_305_77 rfl H54.1 ?_
              intro w57 e58 r59
              have e60 : w49 = w57 := (e58.trans ((u53.gi_ne (by omega) (Or.inl (by decide))).trans (e50.symm))).symm
              subst e60
              refine s_blx (lv' := [(4, vI (x2 + 1)), (3, vI w35), (0, vR 77), (1, vI size), (2, vI x2)]) (st' := [vI 0, vI w49, vR 98]) B215_118_119 rfl ?_
              refine r_iast (pc' := 120) D215_119 rfl sc_98 H54 (by omega) (by unfold inR; omega) trivial ?_
              intro M61 u62 H63 p64
              have f65 := f56.wr u62 rfl
              refine s_blx (lv' := [(4, vI (x2 + 1)), (3, vI w35), (0, vR 77), (1, vI size), (2, vI x2)]) (st' := [vR 77]) B215_120_121 rfl ?_
              refine r_gfix (r := 97) (pc' := 124) D215_121 rfl gf_11_78_77 H63.1 ?_
              refine s_blx (lv' := [(4, vI (x2 + 1)), (3, vI w35), (0, vR 77), (1, vI size), (2, vI x2)]) (st' := [vR 77, vR 97]) B215_124_125 rfl ?_
              refine r_gint (ki := 36) (pc' := 128) D215_125 rfl gf_11_305_77 rfl H63.1 ?_
              intro w66 e67 r68
              have e69 : w49 = w66 := (e67.trans ((u62.gi_ne (by omega) (Or.inl (by decide))).trans ((u53.gi_ne (by omega) (Or.inl (by decide))).trans (e50.symm)))).symm
              subst e69
              refine s_blx (lv' := [(4, vI (x2 + 1)), (3, vI w35), (0, vR 77), (1, vI size), (2, vI x2)]) (st' := [vI w35, vI w49, vR 97]) B215_128_129 rfl ?_
              refine r_sIp (args := [vI w35]) (rest := [vI w49, vR 97]) (pc' := 132) D215_129 rfl ck_11_static_308 TE212 rfl (Nat.le_of_ble_eq_true rfl) ⟨Nat.le_of_ble_eq_true rfl, Nat.le_of_ble_eq_true rfl⟩ (by decide) (dp_0 hd rfl) (k212 E (dp_n hd rfl) H63 w35 (by omega)) ?_
              intro v70 q73
              have q72 := q73; clear q73
              refine r_ifc (tgt := 145) (pc' := 135) D215_132 rfl rfl (by unfold inR; omega) (fun (c74 : v70 = 0) => ?_) (fun (c74 : ¬ (v70 = 0)) => ?_)
              · refine s_blx (lv' := [(4, vI (x2 + 1)), (3, vI w35), (0, vR 77), (1, vI size), (2, vI x2)]) (st' := [vI w35, vI w49, vR 97]) B215_145_146 rfl ?_
                refine r_sIp (args := [vI w35]) (rest := [vI w49, vR 97]) (pc' := 149) D215_146 rfl ck_11_static_311 TE213 rfl (Nat.le_of_ble_eq_true rfl) ⟨Nat.le_of_ble_eq_true rfl, Nat.le_of_ble_eq_true rfl⟩ (by decide) (dp_0 hd rfl) (k213 E (dp_n hd rfl) H63 w35 (by omega)) ?_
                intro v75 q78
                have q77 := q78; clear q78
                refine r_ifc (tgt := 157) (pc' := 152) D215_149 rfl rfl (by unfold inR; omega) (fun (c79 : v75 = 0) => ?_) (fun (c79 : ¬ (v75 = 0)) => ?_)
                · refine s_blx (lv' := [(4, vI (x2 + 1)), (3, vI w35), (0, vR 77), (1, vI size), (2, vI x2)]) (st' := [vI 255, vI w35, vI 100, vI w49, vR 97]) B215_157_163 rfl ?_
                  refine r_and255 (pc' := 164) D215_163 rfl ?_
                  refine s_blx (lv' := [(4, vI (x2 + 1)), (3, vI w35), (0, vR 77), (1, vI size), (2, vI x2)]) (st' := [vI (100 + (w35 % 256)), vI w49, vR 97]) B215_164_165 rfl ?_
                  refine r_iast (pc' := 166) D215_165 rfl sc_97 H63 (by omega) (by unfold inR; omega) trivial ?_
                  intro M80 u81 H82 p83
                  have f84 := f65.wr u81 rfl
                  refine s_blx (lv' := [(5, vI x2), (4, vI (x2 + 1)), (3, vI w35), (0, vR 77), (1, vI size), (2, vI x2)]) (st' := []) B215_166_169 rfl ?_
                  refine r_loc (lv' := [(0, vR 77), (1, vI size), (3, vI w35), (4, vI (x2 + 1)), (5, vI x2)]) ⟨rfl, rfl, rfl, rfl, rfl, trivial⟩ rfl rfl ?_
                  have g85 : gi M80 77 36 = w49 := (u81.gi_ne (by omega) (Or.inl (by decide))).trans ((u62.gi_ne (by omega) (Or.inl (by decide))).trans ((u53.gi_ne (by omega) (Or.inl (by decide))).trans (e50.symm)))
                  exact ih.2.2.2 w35 (x2 + 1) x2 M80 H82 f84 (by omega) (by omega) (by omega) (by omega) (by omega) (by omega) (by omega) (by omega) (by omega) (by omega)
                · refine s_blx (lv' := [(4, vI (x2 + 1)), (3, vI w35), (0, vR 77), (1, vI size), (2, vI x2)]) (st' := [vI 50, vI w49, vR 97]) B215_152_154 rfl ?_
                  refine r_goto (tgt := 165) D215_154 rfl ?_
                  refine r_iast (pc' := 166) D215_165 rfl sc_97 H63 (by omega) (by unfold inR; omega) trivial ?_
                  intro M86 u87 H88 p89
                  have f90 := f65.wr u87 rfl
                  refine s_blx (lv' := [(5, vI x2), (4, vI (x2 + 1)), (3, vI w35), (0, vR 77), (1, vI size), (2, vI x2)]) (st' := []) B215_166_169 rfl ?_
                  refine r_loc (lv' := [(0, vR 77), (1, vI size), (3, vI w35), (4, vI (x2 + 1)), (5, vI x2)]) ⟨rfl, rfl, rfl, rfl, rfl, trivial⟩ rfl rfl ?_
                  have g91 : gi M86 77 36 = w49 := (u87.gi_ne (by omega) (Or.inl (by decide))).trans ((u62.gi_ne (by omega) (Or.inl (by decide))).trans ((u53.gi_ne (by omega) (Or.inl (by decide))).trans (e50.symm)))
                  exact ih.2.2.2 w35 (x2 + 1) x2 M86 H88 f90 (by omega) (by omega) (by omega) (by omega) (by omega) (by omega) (by omega) (by omega) (by omega) (by omega)
              · refine s_blx (lv' := [(4, vI (x2 + 1)), (3, vI w35), (0, vR 77), (1, vI size), (2, vI x2)]) (st' := [vI (x2 + 1), vI x2, vR 77, vI w49, vR 97]) B215_135_139 rfl ?_
                refine r_vIp (c := 77) (args := [vI x2, vI (x2 + 1)]) (rest := [vI w49, vR 97]) (pc' := 142) D215_139 rfl ck_11_virtual_314 TE214 rfl (Nat.le_of_ble_eq_true rfl) ⟨Nat.le_of_ble_eq_true rfl, Nat.le_of_ble_eq_true rfl⟩ sc_77 ⟨rfl, by decide⟩ H63.1 (dp_0 hd rfl) (k214x E (dp_n hd rfl) H63 x2 (x2 + 1) ((h0.fr f65 rfl)) (by omega) (by omega)) ?_
                intro v92 q95
                have q94 := q95; clear q95
                refine r_goto (tgt := 165) D215_142 rfl ?_
                refine r_iast (pc' := 166) D215_165 rfl sc_97 H63 (by omega) (by unfold inR; omega) trivial ?_
                intro M96 u97 H98 p99
                have f100 := f65.wr u97 rfl
                refine s_blx (lv' := [(5, vI x2), (4, vI (x2 + 1)), (3, vI w35), (0, vR 77), (1, vI size), (2, vI x2)]) (st' := []) B215_166_169 rfl ?_
                refine r_loc (lv' := [(0, vR 77), (1, vI size), (3, vI w35), (4, vI (x2 + 1)), (5, vI x2)]) ⟨rfl, rfl, rfl, rfl, rfl, trivial⟩ rfl rfl ?_
                have g101 : gi M96 77 36 = w49 := (u97.gi_ne (by omega) (Or.inl (by decide))).trans ((u62.gi_ne (by omega) (Or.inl (by decide))).trans ((u53.gi_ne (by omega) (Or.inl (by decide))).trans (e50.symm)))
                exact ih.2.2.2 w35 (x2 + 1) x2 M96 H98 f100 (by omega) (by omega) (by omega) (by omega) (by omega) (by omega) (by omega) (by omega) (by omega) (by omega)
            · refine r_loc (lv' := [(0, vR 77), (1, vI size), (2, vI x2), (3, vI w35), (4, vI (x2 + 1))]) ⟨rfl, rfl, rfl, rfl, rfl, trivial⟩ rfl rfl ?_
              exact ih.2.2.1 x2 w35 (x2 + 1) N HN fN (by omega) (by omega) (by omega) (by omega) (by omega) (by omega) (by omega) (by omega) (by omega) (by omega)
          · refine r_loc (lv' := [(0, vR 77), (1, vI size), (2, vI x2), (3, vI w35), (4, vI (x2 + 1))]) ⟨rfl, rfl, rfl, rfl, rfl, trivial⟩ rfl rfl ?_
            exact ih.2.1 x2 w35 (x2 + 1) N HN fN (by omega) (by omega) (by omega) (by omega) (by omega) (by omega) (by omega) (by omega) (by omega) (by omega)
        · refine s_blx (lv' := [(2, vI (x2 + 1)), (3, vI w35), (0, vR 77), (1, vI size)]) (st' := []) B215_25_28 rfl ?_
          refine r_goto (tgt := 7) D215_28 rfl ?_
          refine r_loc (lv' := [(0, vR 77), (1, vI size), (2, vI (x2 + 1))]) ⟨rfl, rfl, rfl, trivial⟩ rfl rfl ?_
          exact ih.1 (x2 + 1) N HN fN (by omega) (by omega) (by omega) (by omega) (by omega)
    · intro x2 x3 x4 N HN fN i0 i1 i2 i3 i4 i5 i6 i7 i8 hmu
      refine s_blx (lv' := [(0, vR 77), (1, vI size), (2, vI x2), (3, vI x3), (4, vI x4)]) (st' := [vI size, vI x4]) B215_43_46 rfl ?_
      refine r_icmp (tgt := 68) (pc' := 49) D215_46 rfl rfl (by unfold inR; omega) (fun (c285 : size ≤ x4) => ?_) (fun (c285 : ¬ (size ≤ x4)) => ?_)
      · refine s_blx (lv' := [(0, vR 77), (1, vI size), (2, vI x2), (3, vI x3), (4, vI x4)]) (st' := [vI x3]) B215_68_69 rfl ?_
        refine r_sIp (args := [vI x3]) (rest := []) (pc' := 72) D215_69 rfl ck_11_static_311 TE213 rfl (Nat.le_of_ble_eq_true rfl) ⟨Nat.le_of_ble_eq_true rfl, Nat.le_of_ble_eq_true rfl⟩ (by decide) (dp_0 hd rfl) (k213 E (dp_n hd rfl) HN x3 (by omega)) ?_
        intro v286 q289
        have q288 := q289; clear q289
        refine r_ifc (tgt := 100) (pc' := 75) D215_72 rfl rfl (by unfold inR; omega) (fun (c290 : v286 = 0) => ?_) (fun (c290 : ¬ (v286 = 0)) => ?_)
        · refine s_blx (lv' := [(0, vR 77), (1, vI size), (2, vI x2), (3, vI x3), (4, vI x4)]) (st' := [vR 77]) B215_100_101 rfl ?_
          refine r_gfix (r := 99) (pc' := 104) D215_101 rfl gf_11_84_77 HN.1 ?_
          refine s_blx (lv' := [(0, vR 77), (1, vI size), (2, vI x2), (3, vI x3), (4, vI x4)]) (st' := [vR 77, vR 99]) B215_104_105 rfl ?_
          refine r_gint (ki := 36) (pc' := 108) D215_105 rfl gf_11_305_77 rfl HN.1 ?_
          intro w291 e292 r293
          have b_w291 := HN.2 77 (36) 0 400 rfl
          rw [← e292] at b_w291; clear r293
          refine s_blx (lv' := [(0, vR 77), (1, vI size), (2, vI x2), (3, vI x3), (4, vI x4)]) (st' := [vI x2, vI w291, vR 99]) B215_108_109 rfl ?_
          refine r_iast (pc' := 110) D215_109 rfl sc_99 HN (by omega) (by unfold inR; omega) (show 0 ≤ x2 ∧ x2 ≤ 400 by omega) ?_
          intro M294 u295 H296 p297
          have f298 := fN.wr u295 rfl
          refine s_blx (lv' := [(0, vR 77), (1, vI size), (2, vI x2), (3, vI x3), (4, vI x4)]) (st' := [vR 77]) B215_110_111 rfl ?_
          refine r_gfix (r := 98) (pc' := 114) D215_111 rfl gf_11_81_77 H296.1 ?_
          refine s_blx (lv' := [(0, vR 77), (1, vI size), (2, vI x2), (3, vI x3), (4, vI x4)]) (st' := [vR 77, vR 98]) B215_114_115 rfl ?_
          refine r_gint (ki := 36) (pc' := 118) D215_115 rfl gf_11_305_77 rfl H296.1 ?_
          intro w299 e300 r301
          have e302 : w291 = w299 := (e300.trans ((u295.gi_ne (by omega) (Or.inl (by decide))).trans (e292.symm))).symm
          subst e302
          refine s_blx (lv' := [(0, vR 77), (1, vI size), (2, vI x2), (3, vI x3), (4, vI x4)]) (st' := [vI 0, vI w291, vR 98]) B215_118_119 rfl ?_
          refine r_iast (pc' := 120) D215_119 rfl sc_98 H296 (by omega) (by unfold inR; omega) trivial ?_
          intro M303 u304 H305 p306
          have f307 := f298.wr u304 rfl
          refine s_blx (lv' := [(0, vR 77), (1, vI size), (2, vI x2), (3, vI x3), (4, vI x4)]) (st' := [vR 77]) B215_120_121 rfl ?_
          refine r_gfix (r := 97) (pc' := 124) D215_121 rfl gf_11_78_77 H305.1 ?_
          refine s_blx (lv' := [(0, vR 77), (1, vI size), (2, vI x2), (3, vI x3), (4, vI x4)]) (st' := [vR 77, vR 97]) B215_124_125 rfl ?_
          refine r_gint (ki := 36) (pc' := 128) D215_125 rfl gf_11_305_77 rfl H305.1 ?_
          intro w308 e309 r310
          have e311 : w291 = w308 := (e309.trans ((u304.gi_ne (by omega) (Or.inl (by decide))).trans ((u295.gi_ne (by omega) (Or.inl (by decide))).trans (e292.symm)))).symm
          subst e311
          refine s_blx (lv' := [(0, vR 77), (1, vI size), (2, vI x2), (3, vI x3), (4, vI x4)]) (st' := [vI x3, vI w291, vR 97]) B215_128_129 rfl ?_
          refine r_sIp (args := [vI x3]) (rest := [vI w291, vR 97]) (pc' := 132) D215_129 rfl ck_11_static_308 TE212 rfl (Nat.le_of_ble_eq_true rfl) ⟨Nat.le_of_ble_eq_true rfl, Nat.le_of_ble_eq_true rfl⟩ (by decide) (dp_0 hd rfl) (k212 E (dp_n hd rfl) H305 x3 (by omega)) ?_
          intro v312 q315
          have q314 := q315; clear q315
          refine r_ifc (tgt := 145) (pc' := 135) D215_132 rfl rfl (by unfold inR; omega) (fun (c316 : v312 = 0) => ?_) (fun (c316 : ¬ (v312 = 0)) => ?_)
          · refine s_blx (lv' := [(0, vR 77), (1, vI size), (2, vI x2), (3, vI x3), (4, vI x4)]) (st' := [vI x3, vI w291, vR 97]) B215_145_146 rfl ?_
            refine r_sIp (args := [vI x3]) (rest := [vI w291, vR 97]) (pc' := 149) D215_146 rfl ck_11_static_311 TE213 rfl (Nat.le_of_ble_eq_true rfl) ⟨Nat.le_of_ble_eq_true rfl, Nat.le_of_ble_eq_true rfl⟩ (by decide) (dp_0 hd rfl) (k213 E (dp_n hd rfl) H305 x3 (by omega)) ?_
            intro v317 q320
            have q319 := q320; clear q320
            refine r_ifc (tgt := 157) (pc' := 152) D215_149 rfl rfl (by unfold inR; omega) (fun (c321 : v317 = 0) => ?_) (fun (c321 : ¬ (v317 = 0)) => ?_)
            · refine s_blx (lv' := [(0, vR 77), (1, vI size), (2, vI x2), (3, vI x3), (4, vI x4)]) (st' := [vI 255, vI x3, vI 100, vI w291, vR 97]) B215_157_163 rfl ?_
              refine r_and255 (pc' := 164) D215_163 rfl ?_
              refine s_blx (lv' := [(0, vR 77), (1, vI size), (2, vI x2), (3, vI x3), (4, vI x4)]) (st' := [vI (100 + (x3 % 256)), vI w291, vR 97]) B215_164_165 rfl ?_
              refine r_iast (pc' := 166) D215_165 rfl sc_97 H305 (by omega) (by unfold inR; omega) trivial ?_
              intro M322 u323 H324 p325
              have f326 := f307.wr u323 rfl
              refine s_blx (lv' := [(5, vI x2), (0, vR 77), (1, vI size), (2, vI x2), (3, vI x3), (4, vI x4)]) (st' := []) B215_166_169 rfl ?_
              refine r_loc (lv' := [(0, vR 77), (1, vI size), (3, vI x3), (4, vI x4), (5, vI x2)]) ⟨rfl, rfl, rfl, rfl, rfl, trivial⟩ rfl rfl ?_
              have g327 : gi M322 77 36 = w291 := (u323.gi_ne (by omega) (Or.inl (by decide))).trans ((u304.gi_ne (by omega) (Or.inl (by decide))).trans ((u295.gi_ne (by omega) (Or.inl (by decide))).trans (e292.symm)))
              exact ih.2.2.2 x3 x4 x2 M322 H324 f326 (by omega) (by omega) (by omega) (by omega) (by omega) (by omega) (by omega) (by omega) (by omega) (by omega)
            · refine s_blx (lv' := [(0, vR 77), (1, vI size), (2, vI x2), (3, vI x3), (4, vI x4)]) (st' := [vI 50, vI w291, vR 97]) B215_152_154 rfl ?_
              refine r_goto (tgt := 165) D215_154 rfl ?_
              refine r_iast (pc' := 166) D215_165 rfl sc_97 H305 (by omega) (by unfold inR; omega) trivial ?_
              intro M328 u329 H330 p331
              have f332 := f307.wr u329 rfl
              refine s_blx (lv' := [(5, vI x2), (0, vR 77), (1, vI size), (2, vI x2), (3, vI x3), (4, vI x4)]) (st' := []) B215_166_169 rfl ?_
              refine r_loc (lv' := [(0, vR 77), (1, vI size), (3, vI x3), (4, vI x4), (5, vI x2)]) ⟨rfl, rfl, rfl, rfl, rfl, trivial⟩ rfl rfl ?_
              have g333 : gi M328 77 36 = w291 := (u329.gi_ne (by omega) (Or.inl (by decide))).trans ((u304.gi_ne (by omega) (Or.inl (by decide))).trans ((u295.gi_ne (by omega) (Or.inl (by decide))).trans (e292.symm)))
              exact ih.2.2.2 x3 x4 x2 M328 H330 f332 (by omega) (by omega) (by omega) (by omega) (by omega) (by omega) (by omega) (by omega) (by omega) (by omega)
          · refine s_blx (lv' := [(0, vR 77), (1, vI size), (2, vI x2), (3, vI x3), (4, vI x4)]) (st' := [vI x4, vI x2, vR 77, vI w291, vR 97]) B215_135_139 rfl ?_
            refine r_vIp (c := 77) (args := [vI x2, vI x4]) (rest := [vI w291, vR 97]) (pc' := 142) D215_139 rfl ck_11_virtual_314 TE214 rfl (Nat.le_of_ble_eq_true rfl) ⟨Nat.le_of_ble_eq_true rfl, Nat.le_of_ble_eq_true rfl⟩ sc_77 ⟨rfl, by decide⟩ H305.1 (dp_0 hd rfl) (k214x E (dp_n hd rfl) H305 x2 x4 ((h0.fr f307 rfl)) (by omega) (by omega)) ?_
            intro v334 q337
            have q336 := q337; clear q337
            refine r_goto (tgt := 165) D215_142 rfl ?_
            refine r_iast (pc' := 166) D215_165 rfl sc_97 H305 (by omega) (by unfold inR; omega) trivial ?_
            intro M338 u339 H340 p341
            have f342 := f307.wr u339 rfl
            refine s_blx (lv' := [(5, vI x2), (0, vR 77), (1, vI size), (2, vI x2), (3, vI x3), (4, vI x4)]) (st' := []) B215_166_169 rfl ?_
            refine r_loc (lv' := [(0, vR 77), (1, vI size), (3, vI x3), (4, vI x4), (5, vI x2)]) ⟨rfl, rfl, rfl, rfl, rfl, trivial⟩ rfl rfl ?_
            have g343 : gi M338 77 36 = w291 := (u339.gi_ne (by omega) (Or.inl (by decide))).trans ((u304.gi_ne (by omega) (Or.inl (by decide))).trans ((u295.gi_ne (by omega) (Or.inl (by decide))).trans (e292.symm)))
            exact ih.2.2.2 x3 x4 x2 M338 H340 f342 (by omega) (by omega) (by omega) (by omega) (by omega) (by omega) (by omega) (by omega) (by omega) (by omega)
        · refine r_loc (lv' := [(0, vR 77), (1, vI size), (2, vI x2), (3, vI x3), (4, vI x4)]) ⟨rfl, rfl, rfl, rfl, rfl, trivial⟩ rfl rfl ?_
          exact ih.2.2.1 x2 x3 x4 N HN fN (by omega) (by omega) (by omega) (by omega) (by omega) (by omega) (by omega) (by omega) (by omega) (by omega)
      · refine s_blx (lv' := [(0, vR 77), (1, vI size), (2, vI x2), (3, vI x3), (4, vI x4)]) (st' := [vR 77]) B215_49_50 rfl ?_
        refine r_gfix (r := 95) (pc' := 53) D215_50 rfl gf_11_69_77 HN.1 ?_
        refine s_blx (lv' := [(0, vR 77), (1, vI size), (2, vI x2), (3, vI x3), (4, vI x4)]) (st' := [vI x4, vR 95]) B215_53_55 rfl ?_
        refine r_bald (pc' := 56) D215_55 rfl sc_95 (by decide) HN.1 (by omega) ?_
        intro w344 e345 r346
        have b_w344 := HN.2 95 (x4) (-128) 127 rfl
        rw [← e345] at b_w344; clear r346
        refine r_sIp (args := [vI w344]) (rest := []) (pc' := 59) D215_56 rfl ck_11_static_308 TE212 rfl (Nat.le_of_ble_eq_true rfl) ⟨Nat.le_of_ble_eq_true rfl, Nat.le_of_ble_eq_true rfl⟩ (by decide) (dp_0 hd rfl) (k212 E (dp_n hd rfl) HN w344 (by omega)) ?_
        intro v347 q350
        have q349 := q350; clear q350
        refine r_ifc (tgt := 68) (pc' := 62) D215_59 rfl rfl (by unfold inR; omega) (fun (c351 : v347 = 0) => ?_) (fun (c351 : ¬ (v347 = 0)) => ?_)
        · refine s_blx (lv' := [(0, vR 77), (1, vI size), (2, vI x2), (3, vI x3), (4, vI x4)]) (st' := [vI x3]) B215_68_69 rfl ?_
          refine r_sIp (args := [vI x3]) (rest := []) (pc' := 72) D215_69 rfl ck_11_static_311 TE213 rfl (Nat.le_of_ble_eq_true rfl) ⟨Nat.le_of_ble_eq_true rfl, Nat.le_of_ble_eq_true rfl⟩ (by decide) (dp_0 hd rfl) (k213 E (dp_n hd rfl) HN x3 (by omega)) ?_
          intro v352 q355
          have q354 := q355; clear q355
          refine r_ifc (tgt := 100) (pc' := 75) D215_72 rfl rfl (by unfold inR; omega) (fun (c356 : v352 = 0) => ?_) (fun (c356 : ¬ (v352 = 0)) => ?_)
          · refine s_blx (lv' := [(0, vR 77), (1, vI size), (2, vI x2), (3, vI x3), (4, vI x4)]) (st' := [vR 77]) B215_100_101 rfl ?_
            refine r_gfix (r := 99) (pc' := 104) D215_101 rfl gf_11_84_77 HN.1 ?_
            refine s_blx (lv' := [(0, vR 77), (1, vI size), (2, vI x2), (3, vI x3), (4, vI x4)]) (st' := [vR 77, vR 99]) B215_104_105 rfl ?_
            refine r_gint (ki := 36) (pc' := 108) D215_105 rfl gf_11_305_77 rfl HN.1 ?_
            intro w357 e358 r359
            have b_w357 := HN.2 77 (36) 0 400 rfl
            rw [← e358] at b_w357; clear r359
            refine s_blx (lv' := [(0, vR 77), (1, vI size), (2, vI x2), (3, vI x3), (4, vI x4)]) (st' := [vI x2, vI w357, vR 99]) B215_108_109 rfl ?_
            refine r_iast (pc' := 110) D215_109 rfl sc_99 HN (by omega) (by unfold inR; omega) (show 0 ≤ x2 ∧ x2 ≤ 400 by omega) ?_
            intro M360 u361 H362 p363
            have f364 := fN.wr u361 rfl
            refine s_blx (lv' := [(0, vR 77), (1, vI size), (2, vI x2), (3, vI x3), (4, vI x4)]) (st' := [vR 77]) B215_110_111 rfl ?_
            refine r_gfix (r := 98) (pc' := 114) D215_111 rfl gf_11_81_77 H362.1 ?_
            refine s_blx (lv' := [(0, vR 77), (1, vI size), (2, vI x2), (3, vI x3), (4, vI x4)]) (st' := [vR 77, vR 98]) B215_114_115 rfl ?_
            refine r_gint (ki := 36) (pc' := 118) D215_115 rfl gf_11_305_77 rfl H362.1 ?_
            intro w365 e366 r367
            have e368 : w357 = w365 := (e366.trans ((u361.gi_ne (by omega) (Or.inl (by decide))).trans (e358.symm))).symm
            subst e368
            refine s_blx (lv' := [(0, vR 77), (1, vI size), (2, vI x2), (3, vI x3), (4, vI x4)]) (st' := [vI 0, vI w357, vR 98]) B215_118_119 rfl ?_
            refine r_iast (pc' := 120) D215_119 rfl sc_98 H362 (by omega) (by unfold inR; omega) trivial ?_
            intro M369 u370 H371 p372
            have f373 := f364.wr u370 rfl
            refine s_blx (lv' := [(0, vR 77), (1, vI size), (2, vI x2), (3, vI x3), (4, vI x4)]) (st' := [vR 77]) B215_120_121 rfl ?_
            refine r_gfix (r := 97) (pc' := 124) D215_121 rfl gf_11_78_77 H371.1 ?_
            refine s_blx (lv' := [(0, vR 77), (1, vI size), (2, vI x2), (3, vI x3), (4, vI x4)]) (st' := [vR 77, vR 97]) B215_124_125 rfl ?_
            refine r_gint (ki := 36) (pc' := 128) D215_125 rfl gf_11_305_77 rfl H371.1 ?_
            intro w374 e375 r376
            have e377 : w357 = w374 := (e375.trans ((u370.gi_ne (by omega) (Or.inl (by decide))).trans ((u361.gi_ne (by omega) (Or.inl (by decide))).trans (e358.symm)))).symm
            subst e377
            refine s_blx (lv' := [(0, vR 77), (1, vI size), (2, vI x2), (3, vI x3), (4, vI x4)]) (st' := [vI x3, vI w357, vR 97]) B215_128_129 rfl ?_
            refine r_sIp (args := [vI x3]) (rest := [vI w357, vR 97]) (pc' := 132) D215_129 rfl ck_11_static_308 TE212 rfl (Nat.le_of_ble_eq_true rfl) ⟨Nat.le_of_ble_eq_true rfl, Nat.le_of_ble_eq_true rfl⟩ (by decide) (dp_0 hd rfl) (k212 E (dp_n hd rfl) H371 x3 (by omega)) ?_
            intro v378 q381
            have q380 := q381; clear q381
            refine r_ifc (tgt := 145) (pc' := 135) D215_132 rfl rfl (by unfold inR; omega) (fun (c382 : v378 = 0) => ?_) (fun (c382 : ¬ (v378 = 0)) => ?_)
            · refine s_blx (lv' := [(0, vR 77), (1, vI size), (2, vI x2), (3, vI x3), (4, vI x4)]) (st' := [vI x3, vI w357, vR 97]) B215_145_146 rfl ?_
              refine r_sIp (args := [vI x3]) (rest := [vI w357, vR 97]) (pc' := 149) D215_146 rfl ck_11_static_311 TE213 rfl (Nat.le_of_ble_eq_true rfl) ⟨Nat.le_of_ble_eq_true rfl, Nat.le_of_ble_eq_true rfl⟩ (by decide) (dp_0 hd rfl) (k213 E (dp_n hd rfl) H371 x3 (by omega)) ?_
              intro v383 q386
              have q385 := q386; clear q386
              refine r_ifc (tgt := 157) (pc' := 152) D215_149 rfl rfl (by unfold inR; omega) (fun (c387 : v383 = 0) => ?_) (fun (c387 : ¬ (v383 = 0)) => ?_)
              · refine s_blx (lv' := [(0, vR 77), (1, vI size), (2, vI x2), (3, vI x3), (4, vI x4)]) (st' := [vI 255, vI x3, vI 100, vI w357, vR 97]) B215_157_163 rfl ?_
                refine r_and255 (pc' := 164) D215_163 rfl ?_
                refine s_blx (lv' := [(0, vR 77), (1, vI size), (2, vI x2), (3, vI x3), (4, vI x4)]) (st' := [vI (100 + (x3 % 256)), vI w357, vR 97]) B215_164_165 rfl ?_
                refine r_iast (pc' := 166) D215_165 rfl sc_97 H371 (by omega) (by unfold inR; omega) trivial ?_
                intro M388 u389 H390 p391
                have f392 := f373.wr u389 rfl
                refine s_blx (lv' := [(5, vI x2), (0, vR 77), (1, vI size), (2, vI x2), (3, vI x3), (4, vI x4)]) (st' := []) B215_166_169 rfl ?_
                refine r_loc (lv' := [(0, vR 77), (1, vI size), (3, vI x3), (4, vI x4), (5, vI x2)]) ⟨rfl, rfl, rfl, rfl, rfl, trivial⟩ rfl rfl ?_
                have g393 : gi M388 77 36 = w357 := (u389.gi_ne (by omega) (Or.inl (by decide))).trans ((u370.gi_ne (by omega) (Or.inl (by decide))).trans ((u361.gi_ne (by omega) (Or.inl (by decide))).trans (e358.symm)))
                exact ih.2.2.2 x3 x4 x2 M388 H390 f392 (by omega) (by omega) (by omega) (by omega) (by omega) (by omega) (by omega) (by omega) (by omega) (by omega)
              · refine s_blx (lv' := [(0, vR 77), (1, vI size), (2, vI x2), (3, vI x3), (4, vI x4)]) (st' := [vI 50, vI w357, vR 97]) B215_152_154 rfl ?_
                refine r_goto (tgt := 165) D215_154 rfl ?_
                refine r_iast (pc' := 166) D215_165 rfl sc_97 H371 (by omega) (by unfold inR; omega) trivial ?_
                intro M394 u395 H396 p397
                have f398 := f373.wr u395 rfl
                refine s_blx (lv' := [(5, vI x2), (0, vR 77), (1, vI size), (2, vI x2), (3, vI x3), (4, vI x4)]) (st' := []) B215_166_169 rfl ?_
                refine r_loc (lv' := [(0, vR 77), (1, vI size), (3, vI x3), (4, vI x4), (5, vI x2)]) ⟨rfl, rfl, rfl, rfl, rfl, trivial⟩ rfl rfl ?_
                have g399 : gi M394 77 36 = w357 := (u395.gi_ne (by omega) (Or.inl (by decide))).trans ((u370.gi_ne (by omega) (Or.inl (by decide))).trans ((u361.gi_ne (by omega) (Or.inl (by decide))).trans (e358.symm)))
                exact ih.2.2.2 x3 x4 x2 M394 H396 f398 (by omega) (by omega) (by omega) (by omega) (by omega) (by omega) (by omega) (by omega) (by omega) (by omega)
            · refine s_blx (lv' := [(0, vR 77), (1, vI size), (2, vI x2), (3, vI x3), (4, vI x4)]) (st' := [vI x4, vI x2, vR 77, vI w357, vR 97]) B215_135_139 rfl ?_
              refine r_vIp (c := 77) (args := [vI x2, vI x4]) (rest := [vI w357, vR 97]) (pc' := 142) D215_139 rfl ck_11_virtual_314 TE214 rfl (Nat.le_of_ble_eq_true rfl) ⟨Nat.le_of_ble_eq_true rfl, Nat.le_of_ble_eq_true rfl⟩ sc_77 ⟨rfl, by decide⟩ H371.1 (dp_0 hd rfl) (k214x E (dp_n hd rfl) H371 x2 x4 ((h0.fr f373 rfl)) (by omega) (by omega)) ?_
              intro v400 q403
              have q402 := q403; clear q403
              refine r_goto (tgt := 165) D215_142 rfl ?_
              refine r_iast (pc' := 166) D215_165 rfl sc_97 H371 (by omega) (by unfold inR; omega) trivial ?_
              intro M404 u405 H406 p407
              have f408 := f373.wr u405 rfl
              refine s_blx (lv' := [(5, vI x2), (0, vR 77), (1, vI size), (2, vI x2), (3, vI x3), (4, vI x4)]) (st' := []) B215_166_169 rfl ?_
              refine r_loc (lv' := [(0, vR 77), (1, vI size), (3, vI x3), (4, vI x4), (5, vI x2)]) ⟨rfl, rfl, rfl, rfl, rfl, trivial⟩ rfl rfl ?_
              have g409 : gi M404 77 36 = w357 := (u405.gi_ne (by omega) (Or.inl (by decide))).trans ((u370.gi_ne (by omega) (Or.inl (by decide))).trans ((u361.gi_ne (by omega) (Or.inl (by decide))).trans (e358.symm)))
              exact ih.2.2.2 x3 x4 x2 M404 H406 f408 (by omega) (by omega) (by omega) (by omega) (by omega) (by omega) (by omega) (by omega) (by omega) (by omega)
          · refine r_loc (lv' := [(0, vR 77), (1, vI size), (2, vI x2), (3, vI x3), (4, vI x4)]) ⟨rfl, rfl, rfl, rfl, rfl, trivial⟩ rfl rfl ?_
            exact ih.2.2.1 x2 x3 x4 N HN fN (by omega) (by omega) (by omega) (by omega) (by omega) (by omega) (by omega) (by omega) (by omega) (by omega)
        · refine s_blx (lv' := [(4, vI (x4 + 1)), (0, vR 77), (1, vI size), (2, vI x2), (3, vI x3)]) (st' := []) B215_62_65 rfl ?_
          refine r_goto (tgt := 43) D215_65 rfl ?_
          refine r_loc (lv' := [(0, vR 77), (1, vI size), (2, vI x2), (3, vI x3), (4, vI (x4 + 1))]) ⟨rfl, rfl, rfl, rfl, rfl, trivial⟩ rfl rfl ?_
          exact ih.2.1 x2 x3 (x4 + 1) N HN fN (by omega) (by omega) (by omega) (by omega) (by omega) (by omega) (by omega) (by omega) (by omega) (by omega)
    · intro x2 x3 x4 N HN fN i0 i1 i2 i3 i4 i5 i6 i7 i8 hmu
      refine s_blx (lv' := [(0, vR 77), (1, vI size), (2, vI x2), (3, vI x3), (4, vI x4)]) (st' := [vI size, vI x4]) B215_75_78 rfl ?_
      refine r_icmp (tgt := 100) (pc' := 81) D215_78 rfl rfl (by unfold inR; omega) (fun (c170 : size ≤ x4) => ?_) (fun (c170 : ¬ (size ≤ x4)) => ?_)
      · refine s_blx (lv' := [(0, vR 77), (1, vI size), (2, vI x2), (3, vI x3), (4, vI x4)]) (st' := [vR 77]) B215_100_101 rfl ?_
        refine r_gfix (r := 99) (pc' := 104) D215_101 rfl gf_11_84_77 HN.1 ?_
        refine s_blx (lv' := [(0, vR 77), (1, vI size), (2, vI x2), (3, vI x3), (4, vI x4)]) (st' := [vR 77, vR 99]) B215_104_105 rfl ?_
        refine r_gint (ki := 36) (pc' := 108) D215_105 rfl gf_11_305_77 rfl HN.1 ?_
        intro w171 e172 r173
        have b_w171 := HN.2 77 (36) 0 400 rfl
        rw [← e172] at b_w171; clear r173
        refine s_blx (lv' := [(0, vR 77), (1, vI size), (2, vI x2), (3, vI x3), (4, vI x4)]) (st' := [vI x2, vI w171, vR 99]) B215_108_109 rfl ?_
        refine r_iast (pc' := 110) D215_109 rfl sc_99 HN (by omega) (by unfold inR; omega) (show 0 ≤ x2 ∧ x2 ≤ 400 by omega) ?_
        intro M174 u175 H176 p177
        have f178 := fN.wr u175 rfl
        refine s_blx (lv' := [(0, vR 77), (1, vI size), (2, vI x2), (3, vI x3), (4, vI x4)]) (st' := [vR 77]) B215_110_111 rfl ?_
        refine r_gfix (r := 98) (pc' := 114) D215_111 rfl gf_11_81_77 H176.1 ?_
        refine s_blx (lv' := [(0, vR 77), (1, vI size), (2, vI x2), (3, vI x3), (4, vI x4)]) (st' := [vR 77, vR 98]) B215_114_115 rfl ?_
        refine r_gint (ki := 36) (pc' := 118) D215_115 rfl gf_11_305_77 rfl H176.1 ?_
        intro w179 e180 r181
        have e182 : w171 = w179 := (e180.trans ((u175.gi_ne (by omega) (Or.inl (by decide))).trans (e172.symm))).symm
        subst e182
        refine s_blx (lv' := [(0, vR 77), (1, vI size), (2, vI x2), (3, vI x3), (4, vI x4)]) (st' := [vI 0, vI w171, vR 98]) B215_118_119 rfl ?_
        refine r_iast (pc' := 120) D215_119 rfl sc_98 H176 (by omega) (by unfold inR; omega) trivial ?_
        intro M183 u184 H185 p186
        have f187 := f178.wr u184 rfl
        refine s_blx (lv' := [(0, vR 77), (1, vI size), (2, vI x2), (3, vI x3), (4, vI x4)]) (st' := [vR 77]) B215_120_121 rfl ?_
        refine r_gfix (r := 97) (pc' := 124) D215_121 rfl gf_11_78_77 H185.1 ?_
        refine s_blx (lv' := [(0, vR 77), (1, vI size), (2, vI x2), (3, vI x3), (4, vI x4)]) (st' := [vR 77, vR 97]) B215_124_125 rfl ?_
        refine r_gint (ki := 36) (pc' := 128) D215_125 rfl gf_11_305_77 rfl H185.1 ?_
        intro w188 e189 r190
        have e191 : w171 = w188 := (e189.trans ((u184.gi_ne (by omega) (Or.inl (by decide))).trans ((u175.gi_ne (by omega) (Or.inl (by decide))).trans (e172.symm)))).symm
        subst e191
        refine s_blx (lv' := [(0, vR 77), (1, vI size), (2, vI x2), (3, vI x3), (4, vI x4)]) (st' := [vI x3, vI w171, vR 97]) B215_128_129 rfl ?_
        refine r_sIp (args := [vI x3]) (rest := [vI w171, vR 97]) (pc' := 132) D215_129 rfl ck_11_static_308 TE212 rfl (Nat.le_of_ble_eq_true rfl) ⟨Nat.le_of_ble_eq_true rfl, Nat.le_of_ble_eq_true rfl⟩ (by decide) (dp_0 hd rfl) (k212 E (dp_n hd rfl) H185 x3 (by omega)) ?_
        intro v192 q195
        have q194 := q195; clear q195
        refine r_ifc (tgt := 145) (pc' := 135) D215_132 rfl rfl (by unfold inR; omega) (fun (c196 : v192 = 0) => ?_) (fun (c196 : ¬ (v192 = 0)) => ?_)
        · refine s_blx (lv' := [(0, vR 77), (1, vI size), (2, vI x2), (3, vI x3), (4, vI x4)]) (st' := [vI x3, vI w171, vR 97]) B215_145_146 rfl ?_
          refine r_sIp (args := [vI x3]) (rest := [vI w171, vR 97]) (pc' := 149) D215_146 rfl ck_11_static_311 TE213 rfl (Nat.le_of_ble_eq_true rfl) ⟨Nat.le_of_ble_eq_true rfl, Nat.le_of_ble_eq_true rfl⟩ (by decide) (dp_0 hd rfl) (k213 E (dp_n hd rfl) H185 x3 (by omega)) ?_
          intro v197 q200
          have q199 := q200; clear q200
          refine r_ifc (tgt := 157) (pc' := 152) D215_149 rfl rfl (by unfold inR; omega) (fun (c201 : v197 = 0) => ?_) (fun (c201 : ¬ (v197 = 0)) => ?_)
          · refine s_blx (lv' := [(0, vR 77), (1, vI size), (2, vI x2), (3, vI x3), (4, vI x4)]) (st' := [vI 255, vI x3, vI 100, vI w171, vR 97]) B215_157_163 rfl ?_
            refine r_and255 (pc' := 164) D215_163 rfl ?_
            refine s_blx (lv' := [(0, vR 77), (1, vI size), (2, vI x2), (3, vI x3), (4, vI x4)]) (st' := [vI (100 + (x3 % 256)), vI w171, vR 97]) B215_164_165 rfl ?_
            refine r_iast (pc' := 166) D215_165 rfl sc_97 H185 (by omega) (by unfold inR; omega) trivial ?_
            intro M202 u203 H204 p205
            have f206 := f187.wr u203 rfl
            refine s_blx (lv' := [(5, vI x2), (0, vR 77), (1, vI size), (2, vI x2), (3, vI x3), (4, vI x4)]) (st' := []) B215_166_169 rfl ?_
            refine r_loc (lv' := [(0, vR 77), (1, vI size), (3, vI x3), (4, vI x4), (5, vI x2)]) ⟨rfl, rfl, rfl, rfl, rfl, trivial⟩ rfl rfl ?_
            have g207 : gi M202 77 36 = w171 := (u203.gi_ne (by omega) (Or.inl (by decide))).trans ((u184.gi_ne (by omega) (Or.inl (by decide))).trans ((u175.gi_ne (by omega) (Or.inl (by decide))).trans (e172.symm)))
            exact ih.2.2.2 x3 x4 x2 M202 H204 f206 (by omega) (by omega) (by omega) (by omega) (by omega) (by omega) (by omega) (by omega) (by omega) (by omega)
          · refine s_blx (lv' := [(0, vR 77), (1, vI size), (2, vI x2), (3, vI x3), (4, vI x4)]) (st' := [vI 50, vI w171, vR 97]) B215_152_154 rfl ?_
            refine r_goto (tgt := 165) D215_154 rfl ?_
            refine r_iast (pc' := 166) D215_165 rfl sc_97 H185 (by omega) (by unfold inR; omega) trivial ?_
            intro M208 u209 H210 p211
            have f212 := f187.wr u209 rfl
            refine s_blx (lv' := [(5, vI x2), (0, vR 77), (1, vI size), (2, vI x2), (3, vI x3), (4, vI x4)]) (st' := []) B215_166_169 rfl ?_
            refine r_loc (lv' := [(0, vR 77), (1, vI size), (3, vI x3), (4, vI x4), (5, vI x2)]) ⟨rfl, rfl, rfl, rfl, rfl, trivial⟩ rfl rfl ?_
            have g213 : gi M208 77 36 = w171 := (u209.gi_ne (by omega) (Or.inl (by decide))).trans ((u184.gi_ne (by omega) (Or.inl (by decide))).trans ((u175.gi_ne (by omega) (Or.inl (by decide))).trans (e172.symm)))
            exact ih.2.2.2 x3 x4 x2 M208 H210 f212 (by omega) (by omega) (by omega) (by omega) (by omega) (by omega) (by omega) (by omega) (by omega) (by omega)
        · refine s_blx (lv' := [(0, vR 77), (1, vI size), (2, vI x2), (3, vI x3), (4, vI x4)]) (st' := [vI x4, vI x2, vR 77, vI w171, vR 97]) B215_135_139 rfl ?_
          refine r_vIp (c := 77) (args := [vI x2, vI x4]) (rest := [vI w171, vR 97]) (pc' := 142) D215_139 rfl ck_11_virtual_314 TE214 rfl (Nat.le_of_ble_eq_true rfl) ⟨Nat.le_of_ble_eq_true rfl, Nat.le_of_ble_eq_true rfl⟩ sc_77 ⟨rfl, by decide⟩ H185.1 (dp_0 hd rfl) (k214x E (dp_n hd rfl) H185 x2 x4 ((h0.fr f187 rfl)) (by omega) (by omega)) ?_
          intro v214 q217
          have q216 := q217; clear q217
          refine r_goto (tgt := 165) D215_142 rfl ?_
          refine r_iast (pc' := 166) D215_165 rfl sc_97 H185 (by omega) (by unfold inR; omega) trivial ?_
          intro M218 u219 H220 p221
          have f222 := f187.wr u219 rfl
          refine s_blx (lv' := [(5, vI x2), (0, vR 77), (1, vI size), (2, vI x2), (3, vI x3), (4, vI x4)]) (st' := []) B215_166_169 rfl ?_
          refine r_loc (lv' := [(0, vR 77), (1, vI size), (3, vI x3), (4, vI x4), (5, vI x2)]) ⟨rfl, rfl, rfl, rfl, rfl, trivial⟩ rfl rfl ?_
          have g223 : gi M218 77 36 = w171 := (u219.gi_ne (by omega) (Or.inl (by decide))).trans ((u184.gi_ne (by omega) (Or.inl (by decide))).trans ((u175.gi_ne (by omega) (Or.inl (by decide))).trans (e172.symm)))
          exact ih.2.2.2 x3 x4 x2 M218 H220 f222 (by omega) (by omega) (by omega) (by omega) (by omega) (by omega) (by omega) (by omega) (by omega) (by omega)
      · refine s_blx (lv' := [(0, vR 77), (1, vI size), (2, vI x2), (3, vI x3), (4, vI x4)]) (st' := [vR 77]) B215_81_82 rfl ?_
        refine r_gfix (r := 95) (pc' := 85) D215_82 rfl gf_11_69_77 HN.1 ?_
        refine s_blx (lv' := [(0, vR 77), (1, vI size), (2, vI x2), (3, vI x3), (4, vI x4)]) (st' := [vI x4, vR 95]) B215_85_87 rfl ?_
        refine r_bald (pc' := 88) D215_87 rfl sc_95 (by decide) HN.1 (by omega) ?_
        intro w224 e225 r226
        have b_w224 := HN.2 95 (x4) (-128) 127 rfl
        rw [← e225] at b_w224; clear r226
        refine r_sIp (args := [vI w224]) (rest := []) (pc' := 91) D215_88 rfl ck_11_static_311 TE213 rfl (Nat.le_of_ble_eq_true rfl) ⟨Nat.le_of_ble_eq_true rfl, Nat.le_of_ble_eq_true rfl⟩ (by decide) (dp_0 hd rfl) (k213 E (dp_n hd rfl) HN w224 (by omega)) ?_
        intro v227 q230
        have q229 := q230; clear q230
        refine r_ifc (tgt := 100) (pc' := 94) D215_91 rfl rfl (by unfold inR; omega) (fun (c231 : v227 = 0) => ?_) (fun (c231 : ¬ (v227 = 0)) => ?_)
        · refine s_blx (lv' := [(0, vR 77), (1, vI size), (2, vI x2), (3, vI x3), (4, vI x4)]) (st' := [vR 77]) B215_100_101 rfl ?_
          refine r_gfix (r := 99) (pc' := 104) D215_101 rfl gf_11_84_77 HN.1 ?_
          refine s_blx (lv' := [(0, vR 77), (1, vI size), (2, vI x2), (3, vI x3), (4, vI x4)]) (st' := [vR 77, vR 99]) B215_104_105 rfl ?_
          refine r_gint (ki := 36) (pc' := 108) D215_105 rfl gf_11_305_77 rfl HN.1 ?_
          intro w232 e233 r234
          have b_w232 := HN.2 77 (36) 0 400 rfl
          rw [← e233] at b_w232; clear r234
          refine s_blx (lv' := [(0, vR 77), (1, vI size), (2, vI x2), (3, vI x3), (4, vI x4)]) (st' := [vI x2, vI w232, vR 99]) B215_108_109 rfl ?_
          refine r_iast (pc' := 110) D215_109 rfl sc_99 HN (by omega) (by unfold inR; omega) (show 0 ≤ x2 ∧ x2 ≤ 400 by omega) ?_
          intro M235 u236 H237 p238
          have f239 := fN.wr u236 rfl
          refine s_blx (lv' := [(0, vR 77), (1, vI size), (2, vI x2), (3, vI x3), (4, vI x4)]) (st' := [vR 77]) B215_110_111 rfl ?_
          refine r_gfix (r := 98) (pc' := 114) D215_111 rfl gf_11_81_77 H237.1 ?_
          refine s_blx (lv' := [(0, vR 77), (1, vI size), (2, vI x2), (3, vI x3), (4, vI x4)]) (st' := [vR 77, vR 98]) B215_114_115 rfl ?_
          refine r_gint (ki := 36) (pc' := 118) D215_115 rfl gf_11_305_77 rfl H237.1 ?_
          intro w240 e241 r242
          have e243 : w232 = w240 := (e241.trans ((u236.gi_ne (by omega) (Or.inl (by decide))).trans (e233.symm))).symm
          subst e243
          refine s_blx (lv' := [(0, vR 77), (1, vI size), (2, vI x2), (3, vI x3), (4, vI x4)]) (st' := [vI 0, vI w232, vR 98]) B215_118_119 rfl ?_
          refine r_iast (pc' := 120) D215_119 rfl sc_98 H237 (by omega) (by unfold inR; omega) trivial ?_
          intro M244 u245 H246 p247
          have f248 := f239.wr u245 rfl
          refine s_blx (lv' := [(0, vR 77), (1, vI size), (2, vI x2), (3, vI x3), (4, vI x4)]) (st' := [vR 77]) B215_120_121 rfl ?_
          refine r_gfix (r := 97) (pc' := 124) D215_121 rfl gf_11_78_77 H246.1 ?_
          refine s_blx (lv' := [(0, vR 77), (1, vI size), (2, vI x2), (3, vI x3), (4, vI x4)]) (st' := [vR 77, vR 97]) B215_124_125 rfl ?_
          refine r_gint (ki := 36) (pc' := 128) D215_125 rfl gf_11_305_77 rfl H246.1 ?_
          intro w249 e250 r251
          have e252 : w232 = w249 := (e250.trans ((u245.gi_ne (by omega) (Or.inl (by decide))).trans ((u236.gi_ne (by omega) (Or.inl (by decide))).trans (e233.symm)))).symm
          subst e252
          refine s_blx (lv' := [(0, vR 77), (1, vI size), (2, vI x2), (3, vI x3), (4, vI x4)]) (st' := [vI x3, vI w232, vR 97]) B215_128_129 rfl ?_
          refine r_sIp (args := [vI x3]) (rest := [vI w232, vR 97]) (pc' := 132) D215_129 rfl ck_11_static_308 TE212 rfl (Nat.le_of_ble_eq_true rfl) ⟨Nat.le_of_ble_eq_true rfl, Nat.le_of_ble_eq_true rfl⟩ (by decide) (dp_0 hd rfl) (k212 E (dp_n hd rfl) H246 x3 (by omega)) ?_
          intro v253 q256
          have q255 := q256; clear q256
          refine r_ifc (tgt := 145) (pc' := 135) D215_132 rfl rfl (by unfold inR; omega) (fun (c257 : v253 = 0) => ?_) (fun (c257 : ¬ (v253 = 0)) => ?_)
          · refine s_blx (lv' := [(0, vR 77), (1, vI size), (2, vI x2), (3, vI x3), (4, vI x4)]) (st' := [vI x3, vI w232, vR 97]) B215_145_146 rfl ?_
            refine r_sIp (args := [vI x3]) (rest := [vI w232, vR 97]) (pc' := 149) D215_146 rfl ck_11_static_311 TE213 rfl (Nat.le_of_ble_eq_true rfl) ⟨Nat.le_of_ble_eq_true rfl, Nat.le_of_ble_eq_true rfl⟩ (by decide) (dp_0 hd rfl) (k213 E (dp_n hd rfl) H246 x3 (by omega)) ?_
            intro v258 q261
            have q260 := q261; clear q261
            refine r_ifc (tgt := 157) (pc' := 152) D215_149 rfl rfl (by unfold inR; omega) (fun (c262 : v258 = 0) => ?_) (fun (c262 : ¬ (v258 = 0)) => ?_)
            · refine s_blx (lv' := [(0, vR 77), (1, vI size), (2, vI x2), (3, vI x3), (4, vI x4)]) (st' := [vI 255, vI x3, vI 100, vI w232, vR 97]) B215_157_163 rfl ?_
              refine r_and255 (pc' := 164) D215_163 rfl ?_
              refine s_blx (lv' := [(0, vR 77), (1, vI size), (2, vI x2), (3, vI x3), (4, vI x4)]) (st' := [vI (100 + (x3 % 256)), vI w232, vR 97]) B215_164_165 rfl ?_
              refine r_iast (pc' := 166) D215_165 rfl sc_97 H246 (by omega) (by unfold inR; omega) trivial ?_
              intro M263 u264 H265 p266
              have f267 := f248.wr u264 rfl
              refine s_blx (lv' := [(5, vI x2), (0, vR 77), (1, vI size), (2, vI x2), (3, vI x3), (4, vI x4)]) (st' := []) B215_166_169 rfl ?_
              refine r_loc (lv' := [(0, vR 77), (1, vI size), (3, vI x3), (4, vI x4), (5, vI x2)]) ⟨rfl, rfl, rfl, rfl, rfl, trivial⟩ rfl rfl ?_
              have g268 : gi M263 77 36 = w232 := (u264.gi_ne (by omega) (Or.inl (by decide))).trans ((u245.gi_ne (by omega) (Or.inl (by decide))).trans ((u236.gi_ne (by omega) (Or.inl (by decide))).trans (e233.symm)))
              exact ih.2.2.2 x3 x4 x2 M263 H265 f267 (by omega) (by omega) (by omega) (by omega) (by omega) (by omega) (by omega) (by omega) (by omega) (by omega)
            · refine s_blx (lv' := [(0, vR 77), (1, vI size), (2, vI x2), (3, vI x3), (4, vI x4)]) (st' := [vI 50, vI w232, vR 97]) B215_152_154 rfl ?_
              refine r_goto (tgt := 165) D215_154 rfl ?_
              refine r_iast (pc' := 166) D215_165 rfl sc_97 H246 (by omega) (by unfold inR; omega) trivial ?_
              intro M269 u270 H271 p272
              have f273 := f248.wr u270 rfl
              refine s_blx (lv' := [(5, vI x2), (0, vR 77), (1, vI size), (2, vI x2), (3, vI x3), (4, vI x4)]) (st' := []) B215_166_169 rfl ?_
              refine r_loc (lv' := [(0, vR 77), (1, vI size), (3, vI x3), (4, vI x4), (5, vI x2)]) ⟨rfl, rfl, rfl, rfl, rfl, trivial⟩ rfl rfl ?_
              have g274 : gi M269 77 36 = w232 := (u270.gi_ne (by omega) (Or.inl (by decide))).trans ((u245.gi_ne (by omega) (Or.inl (by decide))).trans ((u236.gi_ne (by omega) (Or.inl (by decide))).trans (e233.symm)))
              exact ih.2.2.2 x3 x4 x2 M269 H271 f273 (by omega) (by omega) (by omega) (by omega) (by omega) (by omega) (by omega) (by omega) (by omega) (by omega)
          · refine s_blx (lv' := [(0, vR 77), (1, vI size), (2, vI x2), (3, vI x3), (4, vI x4)]) (st' := [vI x4, vI x2, vR 77, vI w232, vR 97]) B215_135_139 rfl ?_
            refine r_vIp (c := 77) (args := [vI x2, vI x4]) (rest := [vI w232, vR 97]) (pc' := 142) D215_139 rfl ck_11_virtual_314 TE214 rfl (Nat.le_of_ble_eq_true rfl) ⟨Nat.le_of_ble_eq_true rfl, Nat.le_of_ble_eq_true rfl⟩ sc_77 ⟨rfl, by decide⟩ H246.1 (dp_0 hd rfl) (k214x E (dp_n hd rfl) H246 x2 x4 ((h0.fr f248 rfl)) (by omega) (by omega)) ?_
            intro v275 q278
            have q277 := q278; clear q278
            refine r_goto (tgt := 165) D215_142 rfl ?_
            refine r_iast (pc' := 166) D215_165 rfl sc_97 H246 (by omega) (by unfold inR; omega) trivial ?_
            intro M279 u280 H281 p282
            have f283 := f248.wr u280 rfl
            refine s_blx (lv' := [(5, vI x2), (0, vR 77), (1, vI size), (2, vI x2), (3, vI x3), (4, vI x4)]) (st' := []) B215_166_169 rfl ?_
            refine r_loc (lv' := [(0, vR 77), (1, vI size), (3, vI x3), (4, vI x4), (5, vI x2)]) ⟨rfl, rfl, rfl, rfl, rfl, trivial⟩ rfl rfl ?_
            have g284 : gi M279 77 36 = w232 := (u280.gi_ne (by omega) (Or.inl (by decide))).trans ((u245.gi_ne (by omega) (Or.inl (by decide))).trans ((u236.gi_ne (by omega) (Or.inl (by decide))).trans (e233.symm)))
            exact ih.2.2.2 x3 x4 x2 M279 H281 f283 (by omega) (by omega) (by omega) (by omega) (by omega) (by omega) (by omega) (by omega) (by omega) (by omega)
        · refine s_blx (lv' := [(4, vI (x4 + 1)), (0, vR 77), (1, vI size), (2, vI x2), (3, vI x3)]) (st' := []) B215_94_97 rfl ?_
          refine r_goto (tgt := 75) D215_97 rfl ?_
          refine r_loc (lv' := [(0, vR 77), (1, vI size), (2, vI x2), (3, vI x3), (4, vI (x4 + 1))]) ⟨rfl, rfl, rfl, rfl, rfl, trivial⟩ rfl rfl ?_
          exact ih.2.2.1 x2 x3 (x4 + 1) N HN fN (by omega) (by omega) (by omega) (by omega) (by omega) (by omega) (by omega) (by omega) (by omega) (by omega)
    · intro x3 x4 x5 N HN fN i0 i1 i2 i3 i4 i5 i6 i7 i8 hmu
      refine s_blx (lv' := [(0, vR 77), (1, vI size), (3, vI x3), (4, vI x4), (5, vI x5)]) (st' := [vI x4, vI x5]) B215_169_173 rfl ?_
      refine r_icmp (tgt := 248) (pc' := 176) D215_173 rfl rfl (by unfold inR; omega) (fun (c102 : x4 ≤ x5) => ?_) (fun (c102 : ¬ (x4 ≤ x5)) => ?_)
      · refine s_blx (lv' := [(0, vR 77), (1, vI size), (3, vI x3), (4, vI x4), (5, vI x5)]) (st' := [vR 77, vR 77]) B215_248_250 rfl ?_
        refine r_gint (ki := 36) (pc' := 253) D215_250 rfl gf_11_305_77 rfl HN.1 ?_
        intro w103 e104 r105
        have b_w103 := HN.2 77 (36) 0 400 rfl
        rw [← e104] at b_w103; clear r105
        refine s_blx (lv' := [(0, vR 77), (1, vI size), (3, vI x3), (4, vI x4), (5, vI x5)]) (st' := [vI (w103 + 1), vR 77]) B215_253_255 rfl ?_
        refine r_pint (ki := 36) (pc' := 258) D215_255 rfl pf_11_305_77 rfl HN (by unfold inR; omega) (show 0 ≤ (w103 + 1) ∧ (w103 + 1) ≤ 400 by omega) ?_
        intro M106 u107 H108 p109
        have f110 := fN.wr u107 rfl
        refine s_blx (lv' := [(2, vI x4), (0, vR 77), (1, vI size), (3, vI x3), (4, vI x4), (5, vI x5)]) (st' := []) B215_258_261 rfl ?_
        refine r_goto (tgt := 7) D215_261 rfl ?_
        refine r_loc (lv' := [(0, vR 77), (1, vI size), (2, vI x4)]) ⟨rfl, rfl, rfl, trivial⟩ rfl rfl ?_
        have g111 : gi M106 77 36 = w103 + 1 := p109
        exact ih.1 x4 M106 H108 f110 (by omega) (by omega) (by omega) (by omega) (by omega)
      · refine s_blx (lv' := [(0, vR 77), (1, vI size), (3, vI x3), (4, vI x4), (5, vI x5)]) (st' := [vI x3]) B215_176_177 rfl ?_
        refine r_sIp (args := [vI x3]) (rest := []) (pc' := 180) D215_177 rfl ck_11_static_311 TE213 rfl (Nat.le_of_ble_eq_true rfl) ⟨Nat.le_of_ble_eq_true rfl, Nat.le_of_ble_eq_true rfl⟩ (by decide) (dp_0 hd rfl) (k213 E (dp_n hd rfl) HN x3 (by omega)) ?_
        intro v112 q115
        have q114 := q115; clear q115
        refine r_ifc (tgt := 248) (pc' := 183) D215_180 rfl rfl (by unfold inR; omega) (fun (c116 : v112 = 0) => ?_) (fun (c116 : ¬ (v112 = 0)) => ?_)
        · refine s_blx (lv' := [(0, vR 77), (1, vI size), (3, vI x3), (4, vI x4), (5, vI x5)]) (st' := [vR 77, vR 77]) B215_248_250 rfl ?_
          refine r_gint (ki := 36) (pc' := 253) D215_250 rfl gf_11_305_77 rfl HN.1 ?_
          intro w117 e118 r119
          have b_w117 := HN.2 77 (36) 0 400 rfl
          rw [← e118] at b_w117; clear r119
          refine s_blx (lv' := [(0, vR 77), (1, vI size), (3, vI x3), (4, vI x4), (5, vI x5)]) (st' := [vI (w117 + 1), vR 77]) B215_253_255 rfl ?_
          refine r_pint (ki := 36) (pc' := 258) D215_255 rfl pf_11_305_77 rfl HN (by unfold inR; omega) (show 0 ≤ (w117 + 1) ∧ (w117 + 1) ≤ 400 by omega) ?_
          intro M120 u121 H122 p123
          have f124 := fN.wr u121 rfl
          refine s_blx (lv' := [(2, vI x4), (0, vR 77), (1, vI size), (3, vI x3), (4, vI x4), (5, vI x5)]) (st' := []) B215_258_261 rfl ?_
          refine r_goto (tgt := 7) D215_261 rfl ?_
          refine r_loc (lv' := [(0, vR 77), (1, vI size), (2, vI x4)]) ⟨rfl, rfl, rfl, trivial⟩ rfl rfl ?_
          have g125 : gi M120 77 36 = w117 + 1 := p123
          exact ih.1 x4 M120 H122 f124 (by omega) (by omega) (by omega) (by omega) (by omega)
        · refine s_blx (lv' := [(0, vR 77), (1, vI size), (3, vI x3), (4, vI x4), (5, vI x5)]) (st' := [vR 77]) B215_183_184 rfl ?_
          refine r_gfix (r := 98) (pc' := 187) D215_184 rfl gf_11_81_77 HN.1 ?_
          refine s_blx (lv' := [(0, vR 77), (1, vI size), (3, vI x3), (4, vI x4), (5, vI x5)]) (st' := [vR 77, vR 98]) B215_187_188 rfl ?_
          refine r_gint (ki := 36) (pc' := 191) D215_188 rfl gf_11_305_77 rfl HN.1 ?_
          intro w126 e127 r128
          have b_w126 := HN.2 77 (36) 0 400 rfl
          rw [← e127] at b_w126; clear r128
          refine s_blx (lv' := [(0, vR 77), (1, vI size), (3, vI x3), (4, vI x4), (5, vI x5)]) (st' := [vR 77, vI w126, vR 98]) B215_191_192 rfl ?_
          refine r_gfix (r := 98) (pc' := 195) D215_192 rfl gf_11_81_77 HN.1 ?_
          refine s_blx (lv' := [(0, vR 77), (1, vI size), (3, vI x3), (4, vI x4), (5, vI x5)]) (st' := [vR 77, vR 98, vI w126, vR 98]) B215_195_196 rfl ?_
          refine r_gint (ki := 36) (pc' := 199) D215_196 rfl gf_11_305_77 rfl HN.1 ?_
          intro w129 e130 r131
          have e132 : w126 = w129 := (e130.trans (e127.symm)).symm
          subst e132
          refine r_iald (pc' := 200) D215_199 rfl sc_98 HN.1 (by omega) ?_
          intro w133 e134 r135
          unfold inR at r135
          refine r_ldcw (e := 1000000) (pc' := 203) D215_200 rfl ci_11_317 (by decide) ?_
          refine r_icmp (tgt := 218) (pc' := 206) D215_203 rfl rfl (by unfold inR; omega) (fun (c136 : w133 ≤ 1000000) => ?_) (fun (c136 : ¬ (w133 ≤ 1000000)) => ?_)
          · refine s_blx (lv' := [(0, vR 77), (1, vI size), (3, vI x3), (4, vI x4), (5, vI x5)]) (st' := [vR 77, vI 10, vI w126, vR 98]) B215_218_221 rfl ?_
            refine r_gfix (r := 98) (pc' := 224) D215_221 rfl gf_11_81_77 HN.1 ?_
            refine s_blx (lv' := [(0, vR 77), (1, vI size), (3, vI x3), (4, vI x4), (5, vI x5)]) (st' := [vR 77, vR 98, vI 10, vI w126, vR 98]) B215_224_225 rfl ?_
            refine r_gint (ki := 36) (pc' := 228) D215_225 rfl gf_11_305_77 rfl HN.1 ?_
            intro w137 e138 r139
            have e140 : w126 = w137 := (e138.trans (e127.symm)).symm
            subst e140
            refine r_iald (pc' := 229) D215_228 rfl sc_98 HN.1 (by omega) ?_
            intro w141 e142 r143
            have e144 : w133 = w141 := (e142.trans (e134.symm)).symm
            subst e144
            refine s_blx (lv' := [(0, vR 77), (1, vI size), (3, vI x3), (4, vI x4), (5, vI x5)]) (st' := [vR 77, vI (10 * w133), vI w126, vR 98]) B215_229_231 rfl ?_
            refine r_gfix (r := 95) (pc' := 234) D215_231 rfl gf_11_69_77 HN.1 ?_
            refine s_blx (lv' := [(0, vR 77), (1, vI size), (3, vI x3), (4, vI x4), (5, vI x5)]) (st' := [vI x5, vR 95, vI (10 * w133), vI w126, vR 98]) B215_234_236 rfl ?_
            refine r_bald (pc' := 237) D215_236 rfl sc_95 (by decide) HN.1 (by omega) ?_
            intro w145 e146 r147
            have b_w145 := HN.2 95 (x5) (-128) 127 rfl
            rw [← e146] at b_w145; clear r147
            refine s_blx (lv' := [(0, vR 77), (1, vI size), (3, vI x3), (4, vI x4), (5, vI x5)]) (st' := [vI (((10 * w133) + w145) - 48), vI w126, vR 98]) B215_237_241 rfl ?_
            refine r_norm ?_
            intro z148 r149 _; unfold inR at r149
            refine r_iast (pc' := 242) D215_241 rfl sc_98 HN (by omega) (by unfold inR; omega) trivial ?_
            intro M150 u151 H152 p153
            have f154 := fN.wr u151 rfl
            refine s_blx (lv' := [(5, vI (x5 + 1)), (0, vR 77), (1, vI size), (3, vI x3), (4, vI x4)]) (st' := []) B215_242_245 rfl ?_
            refine r_goto (tgt := 169) D215_245 rfl ?_
            refine r_loc (lv' := [(0, vR 77), (1, vI size), (3, vI x3), (4, vI x4), (5, vI (x5 + 1))]) ⟨rfl, rfl, rfl, rfl, rfl, trivial⟩ rfl rfl ?_
            have g155 : gi M150 77 36 = w126 := (u151.gi_ne (by omega) (Or.inl (by decide))).trans (e127.symm)
            exact ih.2.2.2 x3 x4 (x5 + 1) M150 H152 f154 (by omega) (by omega) (by omega) (by omega) (by omega) (by omega) (by omega) (by omega) (by omega) (by omega)
          · refine s_blx (lv' := [(0, vR 77), (1, vI size), (3, vI x3), (4, vI x4), (5, vI x5)]) (st' := [vR 77, vI w126, vR 98]) B215_206_207 rfl ?_
            refine r_gfix (r := 98) (pc' := 210) D215_207 rfl gf_11_81_77 HN.1 ?_
            refine s_blx (lv' := [(0, vR 77), (1, vI size), (3, vI x3), (4, vI x4), (5, vI x5)]) (st' := [vR 77, vR 98, vI w126, vR 98]) B215_210_211 rfl ?_
            refine r_gint (ki := 36) (pc' := 214) D215_211 rfl gf_11_305_77 rfl HN.1 ?_
            intro w156 e157 r158
            have e159 : w126 = w156 := (e157.trans (e127.symm)).symm
            subst e159
            refine r_iald (pc' := 215) D215_214 rfl sc_98 HN.1 (by omega) ?_
            intro w160 e161 r162
            have e163 : w133 = w160 := (e161.trans (e134.symm)).symm
            subst e163
            refine r_goto (tgt := 241) D215_215 rfl ?_
            refine r_iast (pc' := 242) D215_241 rfl sc_98 HN (by omega) (by unfold inR; omega) trivial ?_
            intro M164 u165 H166 p167
            have f168 := fN.wr u165 rfl
            refine s_blx (lv' := [(5, vI (x5 + 1)), (0, vR 77), (1, vI size), (3, vI x3), (4, vI x4)]) (st' := []) B215_242_245 rfl ?_
            refine r_goto (tgt := 169) D215_245 rfl ?_
            refine r_loc (lv' := [(0, vR 77), (1, vI size), (3, vI x3), (4, vI x4), (5, vI (x5 + 1))]) ⟨rfl, rfl, rfl, rfl, rfl, trivial⟩ rfl rfl ?_
            have g169 : gi M164 77 36 = w126 := (u165.gi_ne (by omega) (Or.inl (by decide))).trans (e127.symm)
            exact ih.2.2.2 x3 x4 (x5 + 1) M164 H166 f168 (by omega) (by omega) (by omega) (by omega) (by omega) (by omega) (by omega) (by omega) (by omega) (by omega)
set_option maxRecDepth 4000 in
theorem k215x {base : Nat} {X : Nat → Option mC} {G : Nat → Value} (E : EnvOK base X G) {d : Nat} (hd : 1 ≤ d) {M : mH} (H : HI base M) (size : Int) (h0 : WD M) (h1 : 0 ≤ size ∧ size ≤ 400) : sOk base X G d T215 [vR 77, vI size] M (pV (fun M' => HI base M' ∧ Fr [(77, 37), (97, 0), (98, 0), (99, 0)] M M' ∧ (gi M' 77 36 ≤ size) ∧ (gi M' 97 (gi M' 77 36) = 0))) := by
  have f0 : Fr [(77, 37), (97, 0), (98, 0), (99, 0)] M M := Fr.rf
  refine sOk.of (show sRn base X G d T215 0 [(0, vR 77), (1, vI size)] [] M _ from ?_)
  refine s_blx (lv' := [(0, vR 77), (1, vI size)]) (st' := [vI 0, vR 77]) B215_0_2 rfl ?_
  refine r_pint (ki := 36) (pc' := 5) D215_2 rfl pf_11_305_77 rfl H (by unfold inR; omega) (show 0 ≤ 0 ∧ 0 ≤ 400 by omega) ?_
  intro M1 u2 H3 p4
  have f5 := f0.wr u2 rfl
  refine s_blx (lv' := [(2, vI 0), (0, vR 77), (1, vI size)]) (st' := []) B215_5_7 rfl ?_
  refine r_loc (lv' := [(0, vR 77), (1, vI size), (2, vI 0)]) ⟨rfl, rfl, rfl, trivial⟩ rfl rfl ?_
  have g6 : gi M1 77 36 = 0 := p4
  exact (L_k215x E hd H size h0 h1 (((400 - 0) * 1204 + 1203 : Int) + 1).toNat).1 0 M1 H3 f5 (by omega) (by omega) (by omega) (by omega) (by omega)
