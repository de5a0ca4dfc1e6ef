noncomputable def T188 : mT := (11, yX11_does, cX11_does, 6, (some .boolean))
set_option maxRecDepth 10000 in
theorem TE188 : sy_m[188]? = some T188 := rfl
theorem B188_0_1 : s_dk T188.2.2.1 0 [.aload_n 0] 1 = true := by decide +kernel
theorem D188_1 : decode T188.2.2.1 1 = .ok (.getfield 24, 3) := by decide +kernel
theorem B188_4_5 : s_dk T188.2.2.1 4 [.iload_n 1] 5 = true := by decide +kernel
theorem D188_5 : decode T188.2.2.1 5 = .ok (.iaload, 1) := by decide +kernel
theorem B188_6_10 : s_dk T188.2.2.1 6 [.istore_n 3, .aload_n 0, .iload_n 3, .iconst 3] 10 = true := by decide +kernel
theorem D188_10 : decode T188.2.2.1 10 = .ok (.if_icmp .ge 11, 3) := by decide +kernel
theorem B188_21_22 : s_dk T188.2.2.1 21 [.iconst (-1)] 22 = true := by decide +kernel
theorem pf_11_212_77 : s_pf 11 212 77 = some (13, 1) := by decide +kernel
theorem D188_22 : decode T188.2.2.1 22 = .ok (.putfield 212, 3) := by decide +kernel
theorem B188_25_27 : s_dk T188.2.2.1 25 [.aload_n 0, .iload_n 1] 27 = true := by decide +kernel
theorem pf_11_215_77 : s_pf 11 215 77 = some (14, 1) := by decide +kernel
theorem D188_27 : decode T188.2.2.1 27 = .ok (.putfield 215, 3) := by decide +kernel
theorem B188_30_32 : s_dk T188.2.2.1 30 [.aload_n 0, .iconst 0] 32 = true := by decide +kernel
theorem pf_11_218_77 : s_pf 11 218 77 = some (15, 1) := by decide +kernel
theorem D188_32 : decode T188.2.2.1 32 = .ok (.putfield 218, 3) := by decide +kernel
theorem B188_35_36 : s_dk T188.2.2.1 35 [.iload_n 2] 36 = true := by decide +kernel
theorem D188_36 : decode T188.2.2.1 36 = .ok (.ifCond .ne 16, 3) := by decide +kernel
theorem B188_52_54 : s_dk T188.2.2.1 52 [.iload_n 2, .iconst 4] 54 = true := by decide +kernel
theorem D188_54 : decode T188.2.2.1 54 = .ok (.if_icmp .ne 21, 3) := by decide +kernel
theorem B188_75_78 : s_dk T188.2.2.1 75 [.iload_n 2, .bipush 20] 78 = true := by decide +kernel
theorem D188_78 : decode T188.2.2.1 78 = .ok (.if_icmp .lt 71, 3) := by decide +kernel
theorem B188_149_150 : s_dk T188.2.2.1 149 [.aload_n 0] 150 = true := by decide +kernel
theorem D188_150 : decode T188.2.2.1 150 = .ok (.getfield 212, 3) := by decide +kernel
theorem B188_153_154 : s_dk T188.2.2.1 153 [.iconst (-1)] 154 = true := by decide +kernel
theorem D188_154 : decode T188.2.2.1 154 = .ok (.if_icmp .ne 5, 3) := by decide +kernel
theorem B188_157_158 : s_dk T188.2.2.1 157 [.iconst 0] 158 = true := by decide +kernel
theorem D188_158 : decode T188.2.2.1 158 = .ok (.ireturn, 1) := by decide +kernel
theorem B188_81_91 : s_dk T188.2.2.1 81 [.iload_n 2, .bipush 20, .isub, .istore 4, .aload_n 0, .iload_n 1, .iload 4] 91 = true := by decide +kernel
theorem D188_91 : decode T188.2.2.1 91 = .ok (.invokevirtual 221, 3) := by decide +kernel
theorem D188_94 : decode T188.2.2.1 94 = .ok (.ifCond .ne 5, 3) := by decide +kernel
theorem B188_99_102 : s_dk T188.2.2.1 99 [.aload_n 0, .iload 4] 102 = true := by decide +kernel
theorem D188_102 : decode T188.2.2.1 102 = .ok (.invokevirtual 209, 3) := by decide +kernel
theorem B188_105_111 : s_dk T188.2.2.1 105 [.istore 5, .aload_n 0, .iload_n 3, .iload_n 1, .aload_n 0] 111 = true := by decide +kernel
theorem D188_111 : decode T188.2.2.1 111 = .ok (.getfield 33, 3) := by decide +kernel
theorem B188_114_116 : s_dk T188.2.2.1 114 [.iload 4] 116 = true := by decide +kernel
theorem D188_116 : decode T188.2.2.1 116 = .ok (.iaload, 1) := by decide +kernel
theorem B188_117_118 : s_dk T188.2.2.1 117 [.aload_n 0] 118 = true := by decide +kernel
theorem D188_118 : decode T188.2.2.1 118 = .ok (.getfield 27, 3) := by decide +kernel
theorem B188_121_127 : s_dk T188.2.2.1 121 [.iconst 3, .iload_n 1, .imul, .iload 5, .iadd] 127 = true := by decide +kernel
theorem D188_127 : decode T188.2.2.1 127 = .ok (.iaload, 1) := by decide +kernel
theorem B188_128_131 : s_dk T188.2.2.1 128 [.isub, .iload 5] 131 = true := by decide +kernel
theorem D188_131 : decode T188.2.2.1 131 = .ok (.invokestatic 224, 3) := by decide +kernel
theorem ck_11_static_224 : m_call 11 (.invokestatic 224) = some (1, 187, 4) := by decide +kernel
theorem D188_134 : decode T188.2.2.1 134 = .ok (.putfield 215, 3) := by decide +kernel
theorem B188_137_141 : s_dk T188.2.2.1 137 [.aload_n 0, .aload_n 0, .bipush 6] 141 = true := by decide +kernel
theorem D188_141 : decode T188.2.2.1 141 = .ok (.invokevirtual 141, 3) := by decide +kernel
theorem D188_144 : decode T188.2.2.1 144 = .ok (.putfield 218, 3) := by decide +kernel
theorem B188_147_148 : s_dk T188.2.2.1 147 [.iconst 1] 148 = true := by decide +kernel
theorem D188_148 : decode T188.2.2.1 148 = .ok (.ireturn, 1) := by decide +kernel
theorem B188_97_98 : s_dk T188.2.2.1 97 [.iconst 0] 98 = true := by decide +kernel
theorem D188_98 : decode T188.2.2.1 98 = .ok (.ireturn, 1) := by decide +kernel
theorem B188_57_58 : s_dk T188.2.2.1 57 [.aload_n 0] 58 = true := by decide +kernel
theorem D188_58 : decode T188.2.2.1 58 = .ok (.getfield 190, 3) := by decide +kernel
theorem D188_61 : decode T188.2.2.1 61 = .ok (.ifCond .eq 12, 3) := by decide +kernel
theorem B188_73_74 : s_dk T188.2.2.1 73 [.iconst 0] 74 = true := by decide +kernel
theorem D188_74 : decode T188.2.2.1 74 = .ok (.ireturn, 1) := by decide +kernel
theorem B188_64_66 : s_dk T188.2.2.1 64 [.iload_n 3, .iconst 3] 66 = true := by decide +kernel
theorem D188_66 : decode T188.2.2.1 66 = .ok (.if_icmp .ne 7, 3) := by decide +kernel
theorem B188_69_70 : s_dk T188.2.2.1 69 [.iconst 1] 70 = true := by decide +kernel
theorem D188_70 : decode T188.2.2.1 70 = .ok (.goto 4, 3) := by decide +kernel
theorem B188_39_40 : s_dk T188.2.2.1 39 [.aload_n 0] 40 = true := by decide +kernel
theorem D188_40 : decode T188.2.2.1 40 = .ok (.getfield 190, 3) := by decide +kernel
theorem D188_43 : decode T188.2.2.1 43 = .ok (.ifCond .ne 7, 3) := by decide +kernel
theorem B188_50_51 : s_dk T188.2.2.1 50 [.iconst 0] 51 = true := by decide +kernel
theorem D188_51 : decode T188.2.2.1 51 = .ok (.ireturn, 1) := by decide +kernel
theorem B188_46_47 : s_dk T188.2.2.1 46 [.iconst 1] 47 = true := by decide +kernel
theorem D188_47 : decode T188.2.2.1 47 = .ok (.goto 4, 3) := by decide +kernel
theorem B188_13_15 : s_dk T188.2.2.1 13 [.aload_n 0, .iload_n 3] 15 = true := by decide +kernel
theorem D188_15 : decode T188.2.2.1 15 = .ok (.invokevirtual 206, 3) := by decide +kernel
theorem D188_18 : decode T188.2.2.1 18 = .ok (.goto 4, 3) := by decide +kernel
theorem B188_159_161 : s_dk T188.2.2.1 159 [.iload_n 2, .iconst 3] 161 = true := by decide +kernel
theorem D188_161 : decode T188.2.2.1 161 = .ok (.if_icmp .ne 16, 3) := by decide +kernel
theorem B188_177_179 : s_dk T188.2.2.1 177 [.iload_n 2, .iconst 1] 179 = true := by decide +kernel
theorem D188_179 : decode T188.2.2.1 179 = .ok (.if_icmp .ne 38, 3) := by decide +kernel
theorem B188_217_218 : s_dk T188.2.2.1 217 [.aload_n 0] 218 = true := by decide +kernel
theorem D188_218 : decode T188.2.2.1 218 = .ok (.getfield 33, 3) := by decide +kernel
theorem B188_221_222 : s_dk T188.2.2.1 221 [.aload_n 0] 222 = true := by decide +kernel
theorem D188_222 : decode T188.2.2.1 222 = .ok (.getfield 212, 3) := by decide +kernel
theorem D188_225 : decode T188.2.2.1 225 = .ok (.iaload, 1) := by decide +kernel
theorem B188_226_227 : s_dk T188.2.2.1 226 [.iconst (-1)] 227 = true := by decide +kernel
theorem D188_227 : decode T188.2.2.1 227 = .ok (.if_icmp .eq 5, 3) := by decide +kernel
theorem B188_232_234 : s_dk T188.2.2.1 232 [.iload_n 2, .iconst 2] 234 = true := by decide +kernel
theorem D188_234 : decode T188.2.2.1 234 = .ok (.if_icmp .ne 63, 3) := by decide +kernel
theorem B188_297_298 : s_dk T188.2.2.1 297 [.aload_n 0] 298 = true := by decide +kernel
theorem D188_298 : decode T188.2.2.1 298 = .ok (.getfield 30, 3) := by decide +kernel
theorem B188_301_302 : s_dk T188.2.2.1 301 [.aload_n 0] 302 = true := by decide +kernel
theorem D188_302 : decode T188.2.2.1 302 = .ok (.getfield 212, 3) := by decide +kernel
theorem D188_305 : decode T188.2.2.1 305 = .ok (.iaload, 1) := by decide +kernel
theorem B188_306_310 : s_dk T188.2.2.1 306 [.iload_n 2, .bipush 10, .isub] 310 = true := by decide +kernel
theorem D188_310 : decode T188.2.2.1 310 = .ok (.ishr, 1) := by decide +kernel
theorem B188_311_312 : s_dk T188.2.2.1 311 [.iconst 1] 312 = true := by decide +kernel
theorem D188_312 : decode T188.2.2.1 312 = .ok (.iand, 1) := by decide +kernel
theorem D188_313 : decode T188.2.2.1 313 = .ok (.ifCond .ne 5, 3) := by decide +kernel
theorem B188_318_325 : s_dk T188.2.2.1 318 [.aload_n 0, .iload_n 3, .iload_n 1, .iload_n 2, .bipush 10, .isub] 325 = true := by decide +kernel
theorem D188_325 : decode T188.2.2.1 325 = .ok (.invokestatic 228, 3) := by decide +kernel
theorem ck_11_static_228 : m_call 11 (.invokestatic 228) = some (1, 184, 3) := by decide +kernel
theorem D188_328 : decode T188.2.2.1 328 = .ok (.putfield 215, 3) := by decide +kernel
theorem B188_331_332 : s_dk T188.2.2.1 331 [.iconst 1] 332 = true := by decide +kernel
theorem D188_332 : decode T188.2.2.1 332 = .ok (.ireturn, 1) := by decide +kernel
theorem B188_316_317 : s_dk T188.2.2.1 316 [.iconst 0] 317 = true := by decide +kernel
theorem D188_317 : decode T188.2.2.1 317 = .ok (.ireturn, 1) := by decide +kernel
theorem B188_237_238 : s_dk T188.2.2.1 237 [.aload_n 0] 238 = true := by decide +kernel
theorem D188_238 : decode T188.2.2.1 238 = .ok (.getfield 36, 3) := by decide +kernel
theorem B188_241_242 : s_dk T188.2.2.1 241 [.aload_n 0] 242 = true := by decide +kernel
theorem D188_242 : decode T188.2.2.1 242 = .ok (.getfield 212, 3) := by decide +kernel
theorem D188_245 : decode T188.2.2.1 245 = .ok (.iaload, 1) := by decide +kernel
theorem B188_246_247 : s_dk T188.2.2.1 246 [.iconst (-1)] 247 = true := by decide +kernel
theorem D188_247 : decode T188.2.2.1 247 = .ok (.if_icmp .ne 5, 3) := by decide +kernel
theorem B188_252_257 : s_dk T188.2.2.1 252 [.aload_n 0, .iload_n 3, .iload_n 1, .bipush 8] 257 = true := by decide +kernel
theorem D188_257 : decode T188.2.2.1 257 = .ok (.invokestatic 228, 3) := by decide +kernel
theorem D188_260 : decode T188.2.2.1 260 = .ok (.putfield 215, 3) := by decide +kernel
theorem B188_263_267 : s_dk T188.2.2.1 263 [.aload_n 0, .aload_n 0, .bipush 7] 267 = true := by decide +kernel
theorem D188_267 : decode T188.2.2.1 267 = .ok (.invokevirtual 141, 3) := by decide +kernel
theorem B188_270_271 : s_dk T188.2.2.1 270 [.aload_n 0] 271 = true := by decide +kernel
theorem D188_271 : decode T188.2.2.1 271 = .ok (.getfield 13, 3) := by decide +kernel
theorem B188_274_278 : s_dk T188.2.2.1 274 [.bipush 99, .iconst 3, .aload_n 0] 278 = true := by decide +kernel
theorem D188_278 : decode T188.2.2.1 278 = .ok (.getfield 36, 3) := by decide +kernel
theorem B188_281_282 : s_dk T188.2.2.1 281 [.aload_n 0] 282 = true := by decide +kernel
theorem D188_282 : decode T188.2.2.1 282 = .ok (.getfield 212, 3) := by decide +kernel
theorem D188_285 : decode T188.2.2.1 285 = .ok (.iaload, 1) := by decide +kernel
theorem B188_286_290 : s_dk T188.2.2.1 286 [.imul, .iadd, .iconst 2, .iadd] 290 = true := by decide +kernel
theorem D188_290 : decode T188.2.2.1 290 = .ok (.iaload, 1) := by decide +kernel
theorem B188_291_292 : s_dk T188.2.2.1 291 [.imul] 292 = true := by decide +kernel
theorem D188_292 : decode T188.2.2.1 292 = .ok (.putfield 218, 3) := by decide +kernel
theorem B188_295_296 : s_dk T188.2.2.1 295 [.iconst 1] 296 = true := by decide +kernel
theorem D188_296 : decode T188.2.2.1 296 = .ok (.ireturn, 1) := by decide +kernel
theorem B188_250_251 : s_dk T188.2.2.1 250 [.iconst 0] 251 = true := by decide +kernel
theorem D188_251 : decode T188.2.2.1 251 = .ok (.ireturn, 1) := by decide +kernel
theorem B188_230_231 : s_dk T188.2.2.1 230 [.iconst 0] 231 = true := by decide +kernel
theorem D188_231 : decode T188.2.2.1 231 = .ok (.ireturn, 1) := by decide +kernel
theorem B188_182_183 : s_dk T188.2.2.1 182 [.aload_n 0] 183 = true := by decide +kernel
theorem D188_183 : decode T188.2.2.1 183 = .ok (.getfield 33, 3) := by decide +kernel
theorem B188_186_187 : s_dk T188.2.2.1 186 [.aload_n 0] 187 = true := by decide +kernel
theorem D188_187 : decode T188.2.2.1 187 = .ok (.getfield 212, 3) := by decide +kernel
theorem D188_190 : decode T188.2.2.1 190 = .ok (.iaload, 1) := by decide +kernel
theorem B188_191_192 : s_dk T188.2.2.1 191 [.iconst (-1)] 192 = true := by decide +kernel
theorem D188_192 : decode T188.2.2.1 192 = .ok (.if_icmp .ne 5, 3) := by decide +kernel
theorem B188_197_201 : s_dk T188.2.2.1 197 [.aload_n 0, .iload_n 3, .iload_n 1, .aload_n 0] 201 = true := by decide +kernel
theorem D188_201 : decode T188.2.2.1 201 = .ok (.getfield 33, 3) := by decide +kernel
theorem B188_204_205 : s_dk T188.2.2.1 204 [.aload_n 0] 205 = true := by decide +kernel
theorem D188_205 : decode T188.2.2.1 205 = .ok (.getfield 212, 3) := by decide +kernel
theorem D188_208 : decode T188.2.2.1 208 = .ok (.iaload, 1) := by decide +kernel
theorem D188_209 : decode T188.2.2.1 209 = .ok (.invokestatic 228, 3) := by decide +kernel
theorem D188_212 : decode T188.2.2.1 212 = .ok (.putfield 215, 3) := by decide +kernel
theorem B188_215_216 : s_dk T188.2.2.1 215 [.iconst 1] 216 = true := by decide +kernel
theorem D188_216 : decode T188.2.2.1 216 = .ok (.ireturn, 1) := by decide +kernel
theorem B188_195_196 : s_dk T188.2.2.1 195 [.iconst 0] 196 = true := by decide +kernel
theorem D188_196 : decode T188.2.2.1 196 = .ok (.ireturn, 1) := by decide +kernel
theorem B188_164_169 : s_dk T188.2.2.1 164 [.aload_n 0, .iload_n 3, .iload_n 1, .bipush 9] 169 = true := by decide +kernel
theorem D188_169 : decode T188.2.2.1 169 = .ok (.invokestatic 228, 3) := by decide +kernel
theorem D188_172 : decode T188.2.2.1 172 = .ok (.putfield 215, 3) := by decide +kernel
theorem B188_175_176 : s_dk T188.2.2.1 175 [.iconst 1] 176 = true := by decide +kernel
theorem D188_176 : decode T188.2.2.1 176 = .ok (.ireturn, 1) := by decide +kernel
noncomputable def T193 : mT := (11, yX11_firstOf, cX11_firstOf, 4, (some .int))
set_option maxRecDepth 10000 in
theorem TE193 : sy_m[193]? = some T193 := rfl
theorem B193_0_2 : s_dk T193.2.2.1 0 [.iconst 0, .istore_n 3] 2 = true := by decide +kernel
theorem B193_2_4 : s_dk T193.2.2.1 2 [.aload_n 0, .iload_n 3] 4 = true := by decide +kernel
theorem D193_4 : decode T193.2.2.1 4 = .ok (.invokevirtual 138, 3) := by decide +kernel
theorem D193_7 : decode T193.2.2.1 7 = .ok (.ifCond .le 13, 3) := by decide +kernel
theorem B193_20_23 : s_dk T193.2.2.1 20 [.iinc 3 1] 23 = true := by decide +kernel
theorem D193_23 : decode T193.2.2.1 23 = .ok (.goto (-21), 3) := by decide +kernel
theorem B193_10_14 : s_dk T193.2.2.1 10 [.aload_n 0, .iload_n 3, .iload_n 1, .iload_n 2] 14 = true := by decide +kernel
theorem D193_14 : decode T193.2.2.1 14 = .ok (.invokevirtual 158, 3) := by decide +kernel
theorem D193_17 : decode T193.2.2.1 17 = .ok (.ifCond .ne 9, 3) := by decide +kernel
theorem B193_26_27 : s_dk T193.2.2.1 26 [.iload_n 3] 27 = true := by decide +kernel
theorem D193_27 : decode T193.2.2.1 27 = .ok (.ireturn, 1) := by decide +kernel
set_option maxRecDepth 4000 in
theorem k188x {base : Nat} {X : Nat → Option mC} {G : Nat → Value} (E : EnvOK base X G) {d : Nat} (hd : 3 ≤ d) {M : mH} (H : HI base M) (said : Int) (move : Int) (h0 : TB M) (h1 : 0 ≤ said ∧ said ≤ 1110) (h2 : 0 ≤ move ∧ move ≤ 22) (h3 : move ≤ 4 ∨ 10 ≤ move) (h4 : move ≤ 17 ∨ 20 ≤ move) : sOk base X G d T188 [vR 77, vI said, vI move] M (pI (fun v M' => HI base M' ∧ Fr [(77, 14), (77, 15), (77, 16)] M M' ∧ (v = 0 ∨ v = 1))) := by
  have f0 : Fr [(77, 14), (77, 15), (77, 16)] M M := Fr.rf
  refine sOk.of (show sRn base X G d T188 0 [(0, vR 77), (1, vI said), (2, vI move)] [] M _ from ?_)
  refine s_blx (lv' := [(0, vR 77), (1, vI said), (2, vI move)]) (st' := [vR 77]) B188_0_1 rfl ?_
  refine r_gfix (r := 81) (pc' := 4) D188_1 rfl gf_11_24_77 H.1 ?_
  refine s_blx (lv' := [(0, vR 77), (1, vI said), (2, vI move)]) (st' := [vI said, vR 81]) B188_4_5 rfl ?_
  refine r_iald (pc' := 6) D188_5 rfl sc_81 H.1 (by omega) ?_
  intro w1 e2 r3
  have b_w1 := H.2 81 (said) 0 3 rfl
  rw [← e2] at b_w1; clear r3
  have kt := h0.at (s := said) (by omega)
  refine s_blx (lv' := [(3, vI w1), (0, vR 77), (1, vI said), (2, vI move)]) (st' := [vI 3, vI w1, vR 77]) B188_6_10 rfl ?_
  refine r_icmp (tgt := 21) (pc' := 13) D188_10 rfl rfl (by unfold inR; omega) (fun (c4 : 3 ≤ w1) => ?_) (fun (c4 : ¬ (3 ≤ w1)) => ?_)
  · refine s_blx (lv' := [(3, vI w1), (0, vR 77), (1, vI said), (2, vI move)]) (st' := [vI (-1), vR 77]) B188_21_22 rfl ?_
    refine r_pint (ki := 13) (pc' := 25) D188_22 rfl pf_11_212_77 rfl H (by unfold inR; omega) (show (-1) ≤ (-1) ∧ (-1) ≤ 2 by omega) ?_
    intro M5 u6 H7 p8
    have f9 := f0.wr u6 rfl
    refine s_blx (lv' := [(3, vI w1), (0, vR 77), (1, vI said), (2, vI move)]) (st' := [vI said, vR 77]) B188_25_27 rfl ?_
    refine r_pint (ki := 14) (pc' := 30) D188_27 rfl pf_11_215_77 rfl H7 (by unfold inR; omega) (show 0 ≤ said ∧ said ≤ 1110 by omega) ?_
    intro M10 u11 H12 p13
    have f14 := f9.wr u11 rfl
    refine s_blx (lv' := [(3, vI w1), (0, vR 77), (1, vI said), (2, vI move)]) (st' := [vI 0, vR 77]) B188_30_32 rfl ?_
    refine r_pint (ki := 15) (pc' := 35) D188_32 rfl pf_11_218_77 rfl H12 (by unfold inR; omega) trivial ?_
    intro M15 u16 H17 p18
    have f19 := f14.wr u16 rfl
    refine s_blx (lv' := [(3, vI w1), (0, vR 77), (1, vI said), (2, vI move)]) (st' := [vI move]) B188_35_36 rfl ?_
    refine r_ifc (tgt := 52) (pc' := 39) D188_36 rfl rfl (by unfold inR; omega) (fun (c20 : move ≠ 0) => ?_) (fun (c20 : ¬ (move ≠ 0)) => ?_)
    · refine s_blx (lv' := [(3, vI w1), (0, vR 77), (1, vI said), (2, vI move)]) (st' := [vI 4, vI move]) B188_52_54 rfl ?_
      refine r_icmp (tgt := 75) (pc' := 57) D188_54 rfl rfl (by unfold inR; omega) (fun (c21 : move ≠ 4) => ?_) (fun (c21 : ¬ (move ≠ 4)) => ?_)
      · refine s_blx (lv' := [(3, vI w1), (0, vR 77), (1, vI said), (2, vI move)]) (st' := [vI 20, vI move]) B188_75_78 rfl ?_
        refine r_icmp (tgt := 149) (pc' := 81) D188_78 rfl rfl (by unfold inR; omega) (fun (c22 : move < 20) => ?_) (fun (c22 : ¬ (move < 20)) => ?_)
        · refine s_blx (lv' := [(3, vI w1), (0, vR 77), (1, vI said), (2, vI move)]) (st' := [vR 77]) B188_149_150 rfl ?_
          refine r_gint (ki := 13) (pc' := 153) D188_150 rfl gf_11_212_77 rfl H17.1 ?_
          intro w23 e24 r25
          have e26 : -1 = w23 := (e24.trans ((u16.gi_ne (by decide) (Or.inr (by decide))).trans ((u11.gi_ne (by decide) (Or.inr (by decide))).trans (p8)))).symm
          subst e26
          refine s_blx (lv' := [(3, vI w1), (0, vR 77), (1, vI said), (2, vI move)]) (st' := [vI (-1), vI (-1)]) B188_153_154 rfl ?_
          refine r_icmp (tgt := 159) (pc' := 157) D188_154 rfl rfl (by unfold inR; omega) (fun (c27 : (-1) ≠ (-1)) => ?_) (fun (c27 : ¬ ((-1) ≠ (-1))) => ?_)
          · exfalso; omega
          · refine s_blx (lv' := [(3, vI w1), (0, vR 77), (1, vI said), (2, vI move)]) (st' := [vI 0]) B188_157_158 rfl ?_
            exact r_zretI D188_158 rfl (by omega) (⟨H17, f19, by omega⟩)
        · refine s_blx (lv' := [(4, vI (move - 20)), (3, vI w1), (0, vR 77), (1, vI said), (2, vI move)]) (st' := [vI (move - 20), vI said, vR 77]) B188_81_91 rfl ?_
          refine r_vIp (c := 77) (args := [vI said, vI (move - 20)]) (rest := []) (pc' := 94) D188_91 rfl ck_11_virtual_221 TE186 rfl (Nat.le_of_ble_eq_true rfl) ⟨Nat.le_of_ble_eq_true rfl, Nat.le_of_ble_eq_true rfl⟩ sc_77 ⟨rfl, by decide⟩ H17.1 (dp_0 hd rfl) (k186x E (dp_n hd rfl) H17 said (move - 20) (by omega) (by omega)) ?_
          intro v28 q33
          obtain ⟨q30, q31, q32⟩ := q33
          have kd := q31; clear q31
          have kc := q32; clear q32
          refine r_ifc (tgt := 99) (pc' := 97) D188_94 rfl rfl (by unfold inR; omega) (fun (c34 : v28 ≠ 0) => ?_) (fun (c34 : ¬ (v28 ≠ 0)) => ?_)
          · refine s_blx (lv' := [(4, vI (move - 20)), (3, vI w1), (0, vR 77), (1, vI said), (2, vI move)]) (st' := [vI (move - 20), vR 77]) B188_99_102 rfl ?_
            refine r_vIp (c := 77) (args := [vI (move - 20)]) (rest := []) (pc' := 105) D188_102 rfl ck_11_virtual_209 TE185 rfl (Nat.le_of_ble_eq_true rfl) ⟨Nat.le_of_ble_eq_true rfl, Nat.le_of_ble_eq_true rfl⟩ sc_77 ⟨rfl, by decide⟩ H17.1 (dp_0 hd rfl) (k185x E (dp_n hd rfl) H17 (move - 20) (by omega)) ?_
            intro v35 q39
            obtain ⟨q37, q38⟩ := q39
            have kx := kc v35 (by omega) (by omega) q38 (by omega)
            have ks := kd (by omega)
            refine s_blx (lv' := [(5, vI v35), (4, vI (move - 20)), (3, vI w1), (0, vR 77), (1, vI said), (2, vI move)]) (st' := [vR 77, vI said, vI w1, vR 77]) B188_105_111 rfl ?_
            refine r_gfix (r := 84) (pc' := 114) D188_111 rfl gf_11_33_77 H17.1 ?_
            refine s_blx (lv' := [(5, vI v35), (4, vI (move - 20)), (3, vI w1), (0, vR 77), (1, vI said), (2, vI move)]) (st' := [vI (move - 20), vR 84, vI said, vI w1, vR 77]) B188_114_116 rfl ?_
            refine r_iald (pc' := 117) D188_116 rfl sc_84 H17.1 (by omega) ?_
            intro w40 e41 r42
            have b_w40 := H17.2 84 (move - 20) (-1) 7 rfl
            rw [← e41] at b_w40; clear r42
            refine s_blx (lv' := [(5, vI v35), (4, vI (move - 20)), (3, vI w1), (0, vR 77), (1, vI said), (2, vI move)]) (st' := [vR 77, vI w40, vI said, vI w1, vR 77]) B188_117_118 rfl ?_
            refine r_gfix (r := 82) (pc' := 121) D188_118 rfl gf_11_27_77 H17.1 ?_
            refine s_blx (lv' := [(5, vI v35), (4, vI (move - 20)), (3, vI w1), (0, vR 77), (1, vI said), (2, vI move)]) (st' := [vI ((3 * said) + v35), vR 82, vI w40, vI said, vI w1, vR 77]) B188_121_127 rfl ?_
            refine r_iald (pc' := 128) D188_127 rfl sc_82 H17.1 (by omega) ?_
            intro w43 e44 r45
            have b_w43 := H17.2 82 ((3 * said) + v35) 0 9 rfl
            rw [← e44] at b_w43; clear r45
            have kt3 := (h0.fr f19 rfl).at (s := said) (by omega)
            have j0 : v35 = 0 → w43 = gi M15 82 (3 * said) := fun h => by rw [e44, h, Int.add_zero]
            have j1 : v35 = 1 → w43 = gi M15 82 (3 * said + 1) := fun h => by rw [e44, h]
            have j2 : v35 = 2 → w43 = gi M15 82 (3 * said + 2) := fun h => by rw [e44, h]
            refine s_blx (lv' := [(5, vI v35), (4, vI (move - 20)), (3, vI w1), (0, vR 77), (1, vI said), (2, vI move)]) (st' := [vI v35, vI (w40 - w43), vI said, vI w1, vR 77]) B188_128_131 rfl ?_
            refine r_sIp (args := [vI w1, vI said, vI (w40 - w43), vI v35]) (rest := [vR 77]) (pc' := 134) D188_131 rfl ck_11_static_224 TE187 rfl (Nat.le_of_ble_eq_true rfl) ⟨Nat.le_of_ble_eq_true rfl, Nat.le_of_ble_eq_true rfl⟩ (by decide) (dp_0 hd rfl) (k187x E (dp_n hd rfl) H17 w1 said (w40 - w43) v35 (by omega) (by omega) (by omega) (by omega)) ?_
            intro v46 q52
            obtain ⟨q48, q49, q50, q51⟩ := q52
            refine r_pint (ki := 14) (pc' := 137) D188_134 rfl pf_11_215_77 rfl H17 (by unfold inR; omega) (show 0 ≤ v46 ∧ v46 ≤ 1110 by omega) ?_
            intro M53 u54 H55 p56
            have f57 := f19.wr u54 rfl
            refine s_blx (lv' := [(5, vI v35), (4, vI (move - 20)), (3, vI w1), (0, vR 77), (1, vI said), (2, vI move)]) (st' := [vI 6, vR 77, vR 77]) B188_137_141 rfl ?_
            refine r_vIp (c := 77) (args := [vI 6]) (rest := [vR 77]) (pc' := 144) D188_141 rfl ck_11_virtual_141 TE153 rfl (Nat.le_of_ble_eq_true rfl) ⟨Nat.le_of_ble_eq_true rfl, Nat.le_of_ble_eq_true rfl⟩ sc_77 ⟨rfl, by decide⟩ H55.1 (dp_0 hd rfl) (k153 E (dp_n hd rfl) H55 6 (by omega)) ?_
            intro v58 q61
            have q60 := q61; clear q61
            refine r_pint (ki := 15) (pc' := 147) D188_144 rfl pf_11_218_77 rfl H55 (by unfold inR; omega) trivial ?_
            intro M62 u63 H64 p65
            have f66 := f57.wr u63 rfl
            refine s_blx (lv' := [(5, vI v35), (4, vI (move - 20)), (3, vI w1), (0, vR 77), (1, vI said), (2, vI move)]) (st' := [vI 1]) B188_147_148 rfl ?_
            exact r_zretI D188_148 rfl (by omega) (⟨H64, f66, by omega⟩)
          · refine s_blx (lv' := [(4, vI (move - 20)), (3, vI w1), (0, vR 77), (1, vI said), (2, vI move)]) (st' := [vI 0]) B188_97_98 rfl ?_
            exact r_zretI D188_98 rfl (by omega) (⟨H17, f19, by omega⟩)
      · refine s_blx (lv' := [(3, vI w1), (0, vR 77), (1, vI said), (2, vI move)]) (st' := [vR 77]) B188_57_58 rfl ?_
        refine r_gint (ki := 9) (pc' := 61) D188_58 rfl gf_11_190_77 rfl H17.1 ?_
        intro w67 e68 r69
        have b_w67 := H17.2 77 (9) 0 1 rfl
        rw [← e68] at b_w67; clear r69
        refine r_ifc (tgt := 73) (pc' := 64) D188_61 rfl rfl (by unfold inR; omega) (fun (c70 : w67 = 0) => ?_) (fun (c70 : ¬ (w67 = 0)) => ?_)
        · refine s_blx (lv' := [(3, vI w1), (0, vR 77), (1, vI said), (2, vI move)]) (st' := [vI 0]) B188_73_74 rfl ?_
          exact r_zretI D188_74 rfl (by omega) (⟨H17, f19, by omega⟩)
        · refine s_blx (lv' := [(3, vI w1), (0, vR 77), (1, vI said), (2, vI move)]) (st' := [vI 3, vI w1]) B188_64_66 rfl ?_
          refine r_icmp (tgt := 73) (pc' := 69) D188_66 rfl rfl (by unfold inR; omega) (fun (c71 : w1 ≠ 3) => ?_) (fun (c71 : ¬ (w1 ≠ 3)) => ?_)
          · exfalso; omega
          · refine s_blx (lv' := [(3, vI w1), (0, vR 77), (1, vI said), (2, vI move)]) (st' := [vI 1]) B188_69_70 rfl ?_
            refine r_goto (tgt := 74) D188_70 rfl ?_
            exact r_zretI D188_74 rfl (by omega) (⟨H17, f19, by omega⟩)
    · refine s_blx (lv' := [(3, vI w1), (0, vR 77), (1, vI said), (2, vI move)]) (st' := [vR 77]) B188_39_40 rfl ?_
      refine r_gint (ki := 9) (pc' := 43) D188_40 rfl gf_11_190_77 rfl H17.1 ?_
      intro w72 e73 r74
      have b_w72 := H17.2 77 (9) 0 1 rfl
      rw [← e73] at b_w72; clear r74
      refine r_ifc (tgt := 50) (pc' := 46) D188_43 rfl rfl (by unfold inR; omega) (fun (c75 : w72 ≠ 0) => ?_) (fun (c75 : ¬ (w72 ≠ 0)) => ?_)
      · refine s_blx (lv' := [(3, vI w1), (0, vR 77), (1, vI said), (2, vI move)]) (st' := [vI 0]) B188_50_51 rfl ?_
        exact r_zretI D188_51 rfl (by omega) (⟨H17, f19, by omega⟩)
      · refine s_blx (lv' := [(3, vI w1), (0, vR 77), (1, vI said), (2, vI move)]) (st' := [vI 1]) B188_46_47 rfl ?_
        refine r_goto (tgt := 51) D188_47 rfl ?_
        exact r_zretI D188_51 rfl (by omega) (⟨H17, f19, by omega⟩)
  · refine s_blx (lv' := [(3, vI w1), (0, vR 77), (1, vI said), (2, vI move)]) (st' := [vI w1, vR 77, vR 77]) B188_13_15 rfl ?_
    refine r_vIp (c := 77) (args := [vI w1]) (rest := [vR 77]) (pc' := 18) D188_15 rfl ck_11_virtual_206 TE182 rfl (Nat.le_of_ble_eq_true rfl) ⟨Nat.le_of_ble_eq_true rfl, Nat.le_of_ble_eq_true rfl⟩ sc_77 ⟨rfl, by decide⟩ H.1 (dp_0 hd rfl) (k182x E (dp_n hd rfl) H w1 (by omega)) ?_
    intro v76 q80
    obtain ⟨q78, q79⟩ := q80
    refine r_goto (tgt := 22) D188_18 rfl ?_
    refine r_pint (ki := 13) (pc' := 25) D188_22 rfl pf_11_212_77 rfl H (by unfold inR; omega) (show (-1) ≤ v76 ∧ v76 ≤ 2 by omega) ?_
    intro M81 u82 H83 p84
    have f85 := f0.wr u82 rfl
    refine s_blx (lv' := [(3, vI w1), (0, vR 77), (1, vI said), (2, vI move)]) (st' := [vI said, vR 77]) B188_25_27 rfl ?_
    refine r_pint (ki := 14) (pc' := 30) D188_27 rfl pf_11_215_77 rfl H83 (by unfold inR; omega) (show 0 ≤ said ∧ said ≤ 1110 by omega) ?_
    intro M86 u87 H88 p89
    have f90 := f85.wr u87 rfl
    refine s_blx (lv' := [(3, vI w1), (0, vR 77), (1, vI said), (2, vI move)]) (st' := [vI 0, vR 77]) B188_30_32 rfl ?_
    refine r_pint (ki := 15) (pc' := 35) D188_32 rfl pf_11_218_77 rfl H88 (by unfold inR; omega) trivial ?_
    intro M91 u92 H93 p94
    have f95 := f90.wr u92 rfl
    refine s_blx (lv' := [(3, vI w1), (0, vR 77), (1, vI said), (2, vI move)]) (st' := [vI move]) B188_35_36 rfl ?_
    refine r_ifc (tgt := 52) (pc' := 39) D188_36 rfl rfl (by unfold inR; omega) (fun (c96 : move ≠ 0) => ?_) (fun (c96 : ¬ (move ≠ 0)) => ?_)
    · refine s_blx (lv' := [(3, vI w1), (0, vR 77), (1, vI said), (2, vI move)]) (st' := [vI 4, vI move]) B188_52_54 rfl ?_
      refine r_icmp (tgt := 75) (pc' := 57) D188_54 rfl rfl (by unfold inR; omega) (fun (c97 : move ≠ 4) => ?_) (fun (c97 : ¬ (move ≠ 4)) => ?_)
      · refine s_blx (lv' := [(3, vI w1), (0, vR 77), (1, vI said), (2, vI move)]) (st' := [vI 20, vI move]) B188_75_78 rfl ?_
        refine r_icmp (tgt := 149) (pc' := 81) D188_78 rfl rfl (by unfold inR; omega) (fun (c98 : move < 20) => ?_) (fun (c98 : ¬ (move < 20)) => ?_)
        · refine s_blx (lv' := [(3, vI w1), (0, vR 77), (1, vI said), (2, vI move)]) (st' := [vR 77]) B188_149_150 rfl ?_
          refine r_gint (ki := 13) (pc' := 153) D188_150 rfl gf_11_212_77 rfl H93.1 ?_
          intro w99 e100 r101
          have e102 : v76 = w99 := (e100.trans ((u92.gi_ne (by decide) (Or.inr (by decide))).trans ((u87.gi_ne (by decide) (Or.inr (by decide))).trans (p84)))).symm
          subst e102
          refine s_blx (lv' := [(3, vI w1), (0, vR 77), (1, vI said), (2, vI move)]) (st' := [vI (-1), vI v76]) B188_153_154 rfl ?_
          refine r_icmp (tgt := 159) (pc' := 157) D188_154 rfl rfl (by unfold inR; omega) (fun (c103 : v76 ≠ (-1)) => ?_) (fun (c103 : ¬ (v76 ≠ (-1))) => ?_)
          · refine s_blx (lv' := [(3, vI w1), (0, vR 77), (1, vI said), (2, vI move)]) (st' := [vI 3, vI move]) B188_159_161 rfl ?_
            refine r_icmp (tgt := 177) (pc' := 164) D188_161 rfl rfl (by unfold inR; omega) (fun (c104 : move ≠ 3) => ?_) (fun (c104 : ¬ (move ≠ 3)) => ?_)
            · refine s_blx (lv' := [(3, vI w1), (0, vR 77), (1, vI said), (2, vI move)]) (st' := [vI 1, vI move]) B188_177_179 rfl ?_
              refine r_icmp (tgt := 217) (pc' := 182) D188_179 rfl rfl (by unfold inR; omega) (fun (c105 : move ≠ 1) => ?_) (fun (c105 : ¬ (move ≠ 1)) => ?_)
              · refine s_blx (lv' := [(3, vI w1), (0, vR 77), (1, vI said), (2, vI move)]) (st' := [vR 77]) B188_217_218 rfl ?_
                refine r_gfix (r := 84) (pc' := 221) D188_218 rfl gf_11_33_77 H93.1 ?_
                refine s_blx (lv' := [(3, vI w1), (0, vR 77), (1, vI said), (2, vI move)]) (st' := [vR 77, vR 84]) B188_221_222 rfl ?_
                refine r_gint (ki := 13) (pc' := 225) D188_222 rfl gf_11_212_77 rfl H93.1 ?_
                intro w106 e107 r108
                have e109 : v76 = w106 := (e107.trans ((u92.gi_ne (by decide) (Or.inr (by decide))).trans ((u87.gi_ne (by decide) (Or.inr (by decide))).trans (p84)))).symm
                subst e109
                refine r_iald (pc' := 226) D188_225 rfl sc_84 H93.1 (by omega) ?_
                intro w110 e111 r112
                have b_w110 := H93.2 84 (v76) (-1) 7 rfl
                rw [← e111] at b_w110; clear r112
                refine s_blx (lv' := [(3, vI w1), (0, vR 77), (1, vI said), (2, vI move)]) (st' := [vI (-1), vI w110]) B188_226_227 rfl ?_
                refine r_icmp (tgt := 232) (pc' := 230) D188_227 rfl rfl (by unfold inR; omega) (fun (c113 : w110 = (-1)) => ?_) (fun (c113 : ¬ (w110 = (-1))) => ?_)
                · refine s_blx (lv' := [(3, vI w1), (0, vR 77), (1, vI said), (2, vI move)]) (st' := [vI 2, vI move]) B188_232_234 rfl ?_
                  refine r_icmp (tgt := 297) (pc' := 237) D188_234 rfl rfl (by unfold inR; omega) (fun (c114 : move ≠ 2) => ?_) (fun (c114 : ¬ (move ≠ 2)) => ?_)
                  · refine s_blx (lv' := [(3, vI w1), (0, vR 77), (1, vI said), (2, vI move)]) (st' := [vR 77]) B188_297_298 rfl ?_
                    refine r_gfix (r := 83) (pc' := 301) D188_298 rfl gf_11_30_77 H93.1 ?_
                    refine s_blx (lv' := [(3, vI w1), (0, vR 77), (1, vI said), (2, vI move)]) (st' := [vR 77, vR 83]) B188_301_302 rfl ?_
                    refine r_gint (ki := 13) (pc' := 305) D188_302 rfl gf_11_212_77 rfl H93.1 ?_
                    intro w115 e116 r117
                    have e118 : v76 = w115 := (e116.trans ((u92.gi_ne (by decide) (Or.inr (by decide))).trans ((u87.gi_ne (by decide) (Or.inr (by decide))).trans (p84)))).symm
                    subst e118
                    refine r_iald (pc' := 306) D188_305 rfl sc_83 H93.1 (by omega) ?_
                    intro w119 e120 r121
                    unfold inR at r121
                    refine s_blx (lv' := [(3, vI w1), (0, vR 77), (1, vI said), (2, vI move)]) (st' := [vI (move - 10), vI w119]) B188_306_310 rfl ?_
                    refine r_bin (pc' := 311) D188_310 rfl rfl ?_
                    intro z122 r123 _; unfold inR at r123
                    refine s_blx (lv' := [(3, vI w1), (0, vR 77), (1, vI said), (2, vI move)]) (st' := [vI 1, vI z122]) B188_311_312 rfl ?_
                    refine r_and1 (pc' := 313) D188_312 rfl ?_
                    refine r_ifc (tgt := 318) (pc' := 316) D188_313 rfl rfl (by unfold inR; omega) (fun (c124 : (z122 % 2) ≠ 0) => ?_) (fun (c124 : ¬ ((z122 % 2) ≠ 0)) => ?_)
                    · refine s_blx (lv' := [(3, vI w1), (0, vR 77), (1, vI said), (2, vI move)]) (st' := [vI (move - 10), vI said, vI w1, vR 77]) B188_318_325 rfl ?_
                      refine r_sIp (args := [vI w1, vI said, vI (move - 10)]) (rest := [vR 77]) (pc' := 328) D188_325 rfl ck_11_static_228 TE184 rfl (Nat.le_of_ble_eq_true rfl) ⟨Nat.le_of_ble_eq_true rfl, Nat.le_of_ble_eq_true rfl⟩ (by decide) (dp_0 hd rfl) (k184x E (dp_n hd rfl) H93 w1 said (move - 10) (by omega) (by omega) (by omega)) ?_
                      intro v125 q131
                      obtain ⟨q127, q128, q129, q130⟩ := q131
                      refine r_pint (ki := 14) (pc' := 331) D188_328 rfl pf_11_215_77 rfl H93 (by unfold inR; omega) (show 0 ≤ v125 ∧ v125 ≤ 1110 by omega) ?_
                      intro M132 u133 H134 p135
                      have f136 := f95.wr u133 rfl
                      refine s_blx (lv' := [(3, vI w1), (0, vR 77), (1, vI said), (2, vI move)]) (st' := [vI 1]) B188_331_332 rfl ?_
                      exact r_zretI D188_332 rfl (by omega) (⟨H134, f136, by omega⟩)
                    · refine s_blx (lv' := [(3, vI w1), (0, vR 77), (1, vI said), (2, vI move)]) (st' := [vI 0]) B188_316_317 rfl ?_
                      exact r_zretI D188_317 rfl (by omega) (⟨H93, f95, by omega⟩)
                  · refine s_blx (lv' := [(3, vI w1), (0, vR 77), (1, vI said), (2, vI move)]) (st' := [vR 77]) B188_237_238 rfl ?_
                    refine r_gfix (r := 85) (pc' := 241) D188_238 rfl gf_11_36_77 H93.1 ?_
                    refine s_blx (lv' := [(3, vI w1), (0, vR 77), (1, vI said), (2, vI move)]) (st' := [vR 77, vR 85]) B188_241_242 rfl ?_
                    refine r_gint (ki := 13) (pc' := 245) D188_242 rfl gf_11_212_77 rfl H93.1 ?_
                    intro w137 e138 r139
                    have e140 : v76 = w137 := (e138.trans ((u92.gi_ne (by decide) (Or.inr (by decide))).trans ((u87.gi_ne (by decide) (Or.inr (by decide))).trans (p84)))).symm
                    subst e140
                    refine r_iald (pc' := 246) D188_245 rfl sc_85 H93.1 (by omega) ?_
                    intro w141 e142 r143
                    have b_w141 := H93.2 85 (v76) (-1) 11 rfl
                    rw [← e142] at b_w141; clear r143
                    refine s_blx (lv' := [(3, vI w1), (0, vR 77), (1, vI said), (2, vI move)]) (st' := [vI (-1), vI w141]) B188_246_247 rfl ?_
                    refine r_icmp (tgt := 252) (pc' := 250) D188_247 rfl rfl (by unfold inR; omega) (fun (c144 : w141 ≠ (-1)) => ?_) (fun (c144 : ¬ (w141 ≠ (-1))) => ?_)
                    · refine s_blx (lv' := [(3, vI w1), (0, vR 77), (1, vI said), (2, vI move)]) (st' := [vI 8, vI said, vI w1, vR 77]) B188_252_257 rfl ?_
                      refine r_sIp (args := [vI w1, vI said, vI 8]) (rest := [vR 77]) (pc' := 260) D188_257 rfl ck_11_static_228 TE184 rfl (Nat.le_of_ble_eq_true rfl) ⟨Nat.le_of_ble_eq_true rfl, Nat.le_of_ble_eq_true rfl⟩ (by decide) (dp_0 hd rfl) (k184x E (dp_n hd rfl) H93 w1 said 8 (by omega) (by omega) (by omega)) ?_
                      intro v145 q151
                      obtain ⟨q147, q148, q149, q150⟩ := q151
                      refine r_pint (ki := 14) (pc' := 263) D188_260 rfl pf_11_215_77 rfl H93 (by unfold inR; omega) (show 0 ≤ v145 ∧ v145 ≤ 1110 by omega) ?_
                      intro M152 u153 H154 p155
                      have f156 := f95.wr u153 rfl
                      refine s_blx (lv' := [(3, vI w1), (0, vR 77), (1, vI said), (2, vI move)]) (st' := [vI 7, vR 77, vR 77]) B188_263_267 rfl ?_
                      refine r_vIp (c := 77) (args := [vI 7]) (rest := [vR 77]) (pc' := 270) D188_267 rfl ck_11_virtual_141 TE153 rfl (Nat.le_of_ble_eq_true rfl) ⟨Nat.le_of_ble_eq_true rfl, Nat.le_of_ble_eq_true rfl⟩ sc_77 ⟨rfl, by decide⟩ H154.1 (dp_0 hd rfl) (k153 E (dp_n hd rfl) H154 7 (by omega)) ?_
                      intro v157 q160
                      have q159 := q160; clear q160
                      refine s_blx (lv' := [(3, vI w1), (0, vR 77), (1, vI said), (2, vI move)]) (st' := [vR 77, vI v157, vR 77]) B188_270_271 rfl ?_
                      refine r_gfix (r := 78) (pc' := 274) D188_271 rfl gf_11_13_77 H154.1 ?_
                      refine s_blx (lv' := [(3, vI w1), (0, vR 77), (1, vI said), (2, vI move)]) (st' := [vR 77, vI 3, vI 99, vR 78, vI v157, vR 77]) B188_274_278 rfl ?_
                      refine r_gfix (r := 85) (pc' := 281) D188_278 rfl gf_11_36_77 H154.1 ?_
                      refine s_blx (lv' := [(3, vI w1), (0, vR 77), (1, vI said), (2, vI move)]) (st' := [vR 77, vR 85, vI 3, vI 99, vR 78, vI v157, vR 77]) B188_281_282 rfl ?_
                      refine r_gint (ki := 13) (pc' := 285) D188_282 rfl gf_11_212_77 rfl H154.1 ?_
                      intro w161 e162 r163
                      have e164 : v76 = w161 := (e162.trans ((u153.gi_ne (by decide) (Or.inr (by decide))).trans ((u92.gi_ne (by decide) (Or.inr (by decide))).trans ((u87.gi_ne (by decide) (Or.inr (by decide))).trans (p84))))).symm
                      subst e164
                      refine r_iald (pc' := 286) D188_285 rfl sc_85 H154.1 (by omega) ?_
                      intro w165 e166 r167
                      have e168 : w141 = w165 := (e166.trans ((u153.gi_ne (by decide) (Or.inl (by decide))).trans (e142.symm))).symm
                      subst e168
                      refine s_blx (lv' := [(3, vI w1), (0, vR 77), (1, vI said), (2, vI move)]) (st' := [vI ((99 + (3 * w141)) + 2), vR 78, vI v157, vR 77]) B188_286_290 rfl ?_
                      refine r_iald (pc' := 291) D188_290 rfl sc_78 H154.1 (by omega) ?_
                      intro w169 e170 r171
                      have b_w169 := H154.2 78 ((99 + (3 * w141)) + 2) 0 255 (rk_opening (by omega))
                      rw [← e170] at b_w169; clear r171
                      refine s_blx (lv' := [(3, vI w1), (0, vR 77), (1, vI said), (2, vI move)]) (st' := [vI (v157 * w169), vR 77]) B188_291_292 rfl ?_
                      refine r_norm ?_
                      intro z172 r173 _; unfold inR at r173
                      refine r_pint (ki := 15) (pc' := 295) D188_292 rfl pf_11_218_77 rfl H154 (by unfold inR; omega) trivial ?_
                      intro M174 u175 H176 p177
                      have f178 := f156.wr u175 rfl
                      refine s_blx (lv' := [(3, vI w1), (0, vR 77), (1, vI said), (2, vI move)]) (st' := [vI 1]) B188_295_296 rfl ?_
                      exact r_zretI D188_296 rfl (by omega) (⟨H176, f178, by omega⟩)
                    · refine s_blx (lv' := [(3, vI w1), (0, vR 77), (1, vI said), (2, vI move)]) (st' := [vI 0]) B188_250_251 rfl ?_
                      exact r_zretI D188_251 rfl (by omega) (⟨H93, f95, by omega⟩)
                · refine s_blx (lv' := [(3, vI w1), (0, vR 77), (1, vI said), (2, vI move)]) (st' := [vI 0]) B188_230_231 rfl ?_
                  exact r_zretI D188_231 rfl (by omega) (⟨H93, f95, by omega⟩)
              · refine s_blx (lv' := [(3, vI w1), (0, vR 77), (1, vI said), (2, vI move)]) (st' := [vR 77]) B188_182_183 rfl ?_
                refine r_gfix (r := 84) (pc' := 186) D188_183 rfl gf_11_33_77 H93.1 ?_
                refine s_blx (lv' := [(3, vI w1), (0, vR 77), (1, vI said), (2, vI move)]) (st' := [vR 77, vR 84]) B188_186_187 rfl ?_
                refine r_gint (ki := 13) (pc' := 190) D188_187 rfl gf_11_212_77 rfl H93.1 ?_
                intro w179 e180 r181
                have e182 : v76 = w179 := (e180.trans ((u92.gi_ne (by decide) (Or.inr (by decide))).trans ((u87.gi_ne (by decide) (Or.inr (by decide))).trans (p84)))).symm
                subst e182
                refine r_iald (pc' := 191) D188_190 rfl sc_84 H93.1 (by omega) ?_
                intro w183 e184 r185
                have b_w183 := H93.2 84 (v76) (-1) 7 rfl
                rw [← e184] at b_w183; clear r185
                refine s_blx (lv' := [(3, vI w1), (0, vR 77), (1, vI said), (2, vI move)]) (st' := [vI (-1), vI w183]) B188_191_192 rfl ?_
                refine r_icmp (tgt := 197) (pc' := 195) D188_192 rfl rfl (by unfold inR; omega) (fun (c186 : w183 ≠ (-1)) => ?_) (fun (c186 : ¬ (w183 ≠ (-1))) => ?_)
                · refine s_blx (lv' := [(3, vI w1), (0, vR 77), (1, vI said), (2, vI move)]) (st' := [vR 77, vI said, vI w1, vR 77]) B188_197_201 rfl ?_
                  refine r_gfix (r := 84) (pc' := 204) D188_201 rfl gf_11_33_77 H93.1 ?_
                  refine s_blx (lv' := [(3, vI w1), (0, vR 77), (1, vI said), (2, vI move)]) (st' := [vR 77, vR 84, vI said, vI w1, vR 77]) B188_204_205 rfl ?_
                  refine r_gint (ki := 13) (pc' := 208) D188_205 rfl gf_11_212_77 rfl H93.1 ?_
                  intro w187 e188 r189
                  have e190 : v76 = w187 := (e188.trans ((u92.gi_ne (by decide) (Or.inr (by decide))).trans ((u87.gi_ne (by decide) (Or.inr (by decide))).trans (p84)))).symm
                  subst e190
                  refine r_iald (pc' := 209) D188_208 rfl sc_84 H93.1 (by omega) ?_
                  intro w191 e192 r193
                  have e194 : w183 = w191 := (e192.trans (e184.symm)).symm
                  subst e194
                  refine r_sIp (args := [vI w1, vI said, vI w183]) (rest := [vR 77]) (pc' := 212) D188_209 rfl ck_11_static_228 TE184 rfl (Nat.le_of_ble_eq_true rfl) ⟨Nat.le_of_ble_eq_true rfl, Nat.le_of_ble_eq_true rfl⟩ (by decide) (dp_0 hd rfl) (k184x E (dp_n hd rfl) H93 w1 said w183 (by omega) (by omega) (by omega)) ?_
                  intro v195 q201
                  obtain ⟨q197, q198, q199, q200⟩ := q201
                  refine r_pint (ki := 14) (pc' := 215) D188_212 rfl pf_11_215_77 rfl H93 (by unfold inR; omega) (show 0 ≤ v195 ∧ v195 ≤ 1110 by omega) ?_
                  intro M202 u203 H204 p205
                  have f206 := f95.wr u203 rfl
                  refine s_blx (lv' := [(3, vI w1), (0, vR 77), (1, vI said), (2, vI move)]) (st' := [vI 1]) B188_215_216 rfl ?_
                  exact r_zretI D188_216 rfl (by omega) (⟨H204, f206, by omega⟩)
                · refine s_blx (lv' := [(3, vI w1), (0, vR 77), (1, vI said), (2, vI move)]) (st' := [vI 0]) B188_195_196 rfl ?_
                  exact r_zretI D188_196 rfl (by omega) (⟨H93, f95, by omega⟩)
            · refine s_blx (lv' := [(3, vI w1), (0, vR 77), (1, vI said), (2, vI move)]) (st' := [vI 9, vI said, vI w1, vR 77]) B188_164_169 rfl ?_
              refine r_sIp (args := [vI w1, vI said, vI 9]) (rest := [vR 77]) (pc' := 172) D188_169 rfl ck_11_static_228 TE184 rfl (Nat.le_of_ble_eq_true rfl) ⟨Nat.le_of_ble_eq_true rfl, Nat.le_of_ble_eq_true rfl⟩ (by decide) (dp_0 hd rfl) (k184x E (dp_n hd rfl) H93 w1 said 9 (by omega) (by omega) (by omega)) ?_
              intro v207 q213
              obtain ⟨q209, q210, q211, q212⟩ := q213
              refine r_pint (ki := 14) (pc' := 175) D188_172 rfl pf_11_215_77 rfl H93 (by unfold inR; omega) (show 0 ≤ v207 ∧ v207 ≤ 1110 by omega) ?_
              intro M214 u215 H216 p217
              have f218 := f95.wr u215 rfl
              refine s_blx (lv' := [(3, vI w1), (0, vR 77), (1, vI said), (2, vI move)]) (st' := [vI 1]) B188_175_176 rfl ?_
              exact r_zretI D188_176 rfl (by omega) (⟨H216, f218, by omega⟩)
          · exfalso; omega
        · refine s_blx (lv' := [(4, vI (move - 20)), (3, vI w1), (0, vR 77), (1, vI said), (2, vI move)]) (st' := [vI (move - 20), vI said, vR 77]) B188_81_91 rfl ?_
          refine r_vIp (c := 77) (args := [vI said, vI (move - 20)]) (rest := []) (pc' := 94) D188_91 rfl ck_11_virtual_221 TE186 rfl (Nat.le_of_ble_eq_true rfl) ⟨Nat.le_of_ble_eq_true rfl, Nat.le_of_ble_eq_true rfl⟩ sc_77 ⟨rfl, by decide⟩ H93.1 (dp_0 hd rfl) (k186x E (dp_n hd rfl) H93 said (move - 20) (by omega) (by omega)) ?_
          intro v219 q224
          obtain ⟨q221, q222, q223⟩ := q224
          have kd := q222; clear q222
          have kc := q223; clear q223
          refine r_ifc (tgt := 99) (pc' := 97) D188_94 rfl rfl (by unfold inR; omega) (fun (c225 : v219 ≠ 0) => ?_) (fun (c225 : ¬ (v219 ≠ 0)) => ?_)
          · refine s_blx (lv' := [(4, vI (move - 20)), (3, vI w1), (0, vR 77), (1, vI said), (2, vI move)]) (st' := [vI (move - 20), vR 77]) B188_99_102 rfl ?_
            refine r_vIp (c := 77) (args := [vI (move - 20)]) (rest := []) (pc' := 105) D188_102 rfl ck_11_virtual_209 TE185 rfl (Nat.le_of_ble_eq_true rfl) ⟨Nat.le_of_ble_eq_true rfl, Nat.le_of_ble_eq_true rfl⟩ sc_77 ⟨rfl, by decide⟩ H93.1 (dp_0 hd rfl) (k185x E (dp_n hd rfl) H93 (move - 20) (by omega)) ?_
            intro v226 q230
            obtain ⟨q228, q229⟩ := q230
            have kx := kc v226 (by omega) (by omega) q229 (by omega)
            have ks := kd (by omega)
            refine s_blx (lv' := [(5, vI v226), (4, vI (move - 20)), (3, vI w1), (0, vR 77), (1, vI said), (2, vI move)]) (st' := [vR 77, vI said, vI w1, vR 77]) B188_105_111 rfl ?_
            refine r_gfix (r := 84) (pc' := 114) D188_111 rfl gf_11_33_77 H93.1 ?_
            refine s_blx (lv' := [(5, vI v226), (4, vI (move - 20)), (3, vI w1), (0, vR 77), (1, vI said), (2, vI move)]) (st' := [vI (move - 20), vR 84, vI said, vI w1, vR 77]) B188_114_116 rfl ?_
            refine r_iald (pc' := 117) D188_116 rfl sc_84 H93.1 (by omega) ?_
            intro w231 e232 r233
            have b_w231 := H93.2 84 (move - 20) (-1) 7 rfl
            rw [← e232] at b_w231; clear r233
            refine s_blx (lv' := [(5, vI v226), (4, vI (move - 20)), (3, vI w1), (0, vR 77), (1, vI said), (2, vI move)]) (st' := [vR 77, vI w231, vI said, vI w1, vR 77]) B188_117_118 rfl ?_
            refine r_gfix (r := 82) (pc' := 121) D188_118 rfl gf_11_27_77 H93.1 ?_
            refine s_blx (lv' := [(5, vI v226), (4, vI (move - 20)), (3, vI w1), (0, vR 77), (1, vI said), (2, vI move)]) (st' := [vI ((3 * said) + v226), vR 82, vI w231, vI said, vI w1, vR 77]) B188_121_127 rfl ?_
            refine r_iald (pc' := 128) D188_127 rfl sc_82 H93.1 (by omega) ?_
            intro w234 e235 r236
            have b_w234 := H93.2 82 ((3 * said) + v226) 0 9 rfl
            rw [← e235] at b_w234; clear r236
            have kt3 := (h0.fr f95 rfl).at (s := said) (by omega)
            have j0 : v226 = 0 → w234 = gi M91 82 (3 * said) := fun h => by rw [e235, h, Int.add_zero]
            have j1 : v226 = 1 → w234 = gi M91 82 (3 * said + 1) := fun h => by rw [e235, h]
            have j2 : v226 = 2 → w234 = gi M91 82 (3 * said + 2) := fun h => by rw [e235, h]
            refine s_blx (lv' := [(5, vI v226), (4, vI (move - 20)), (3, vI w1), (0, vR 77), (1, vI said), (2, vI move)]) (st' := [vI v226, vI (w231 - w234), vI said, vI w1, vR 77]) B188_128_131 rfl ?_
            refine r_sIp (args := [vI w1, vI said, vI (w231 - w234), vI v226]) (rest := [vR 77]) (pc' := 134) D188_131 rfl ck_11_static_224 TE187 rfl (Nat.le_of_ble_eq_true rfl) ⟨Nat.le_of_ble_eq_true rfl, Nat.le_of_ble_eq_true rfl⟩ (by decide) (dp_0 hd rfl) (k187x E (dp_n hd rfl) H93 w1 said (w231 - w234) v226 (by omega) (by omega) (by omega) (by omega)) ?_
            intro v237 q243
            obtain ⟨q239, q240, q241, q242⟩ := q243
            refine r_pint (ki := 14) (pc' := 137) D188_134 rfl pf_11_215_77 rfl H93 (by unfold inR; omega) (show 0 ≤ v237 ∧ v237 ≤ 1110 by omega) ?_
            intro M244 u245 H246 p247
            have f248 := f95.wr u245 rfl
            refine s_blx (lv' := [(5, vI v226), (4, vI (move - 20)), (3, vI w1), (0, vR 77), (1, vI said), (2, vI move)]) (st' := [vI 6, vR 77, vR 77]) B188_137_141 rfl ?_
            refine r_vIp (c := 77) (args := [vI 6]) (rest := [vR 77]) (pc' := 144) D188_141 rfl ck_11_virtual_141 TE153 rfl (Nat.le_of_ble_eq_true rfl) ⟨Nat.le_of_ble_eq_true rfl, Nat.le_of_ble_eq_true rfl⟩ sc_77 ⟨rfl, by decide⟩ H246.1 (dp_0 hd rfl) (k153 E (dp_n hd rfl) H246 6 (by omega)) ?_
            intro v249 q252
            have q251 := q252; clear q252
            refine r_pint (ki := 15) (pc' := 147) D188_144 rfl pf_11_218_77 rfl H246 (by unfold inR; omega) trivial ?_
            intro M253 u254 H255 p256
            have f257 := f248.wr u254 rfl
            refine s_blx (lv' := [(5, vI v226), (4, vI (move - 20)), (3, vI w1), (0, vR 77), (1, vI said), (2, vI move)]) (st' := [vI 1]) B188_147_148 rfl ?_
            exact r_zretI D188_148 rfl (by omega) (⟨H255, f257, by omega⟩)
          · refine s_blx (lv' := [(4, vI (move - 20)), (3, vI w1), (0, vR 77), (1, vI said), (2, vI move)]) (st' := [vI 0]) B188_97_98 rfl ?_
            exact r_zretI D188_98 rfl (by omega) (⟨H93, f95, by omega⟩)
      · refine s_blx (lv' := [(3, vI w1), (0, vR 77), (1, vI said), (2, vI move)]) (st' := [vR 77]) B188_57_58 rfl ?_
        refine r_gint (ki := 9) (pc' := 61) D188_58 rfl gf_11_190_77 rfl H93.1 ?_
        intro w258 e259 r260
        have b_w258 := H93.2 77 (9) 0 1 rfl
        rw [← e259] at b_w258; clear r260
        refine r_ifc (tgt := 73) (pc' := 64) D188_61 rfl rfl (by unfold inR; omega) (fun (c261 : w258 = 0) => ?_) (fun (c261 : ¬ (w258 = 0)) => ?_)
        · refine s_blx (lv' := [(3, vI w1), (0, vR 77), (1, vI said), (2, vI move)]) (st' := [vI 0]) B188_73_74 rfl ?_
          exact r_zretI D188_74 rfl (by omega) (⟨H93, f95, by omega⟩)
        · refine s_blx (lv' := [(3, vI w1), (0, vR 77), (1, vI said), (2, vI move)]) (st' := [vI 3, vI w1]) B188_64_66 rfl ?_
          refine r_icmp (tgt := 73) (pc' := 69) D188_66 rfl rfl (by unfold inR; omega) (fun (c262 : w1 ≠ 3) => ?_) (fun (c262 : ¬ (w1 ≠ 3)) => ?_)
          · refine s_blx (lv' := [(3, vI w1), (0, vR 77), (1, vI said), (2, vI move)]) (st' := [vI 0]) B188_73_74 rfl ?_
            exact r_zretI D188_74 rfl (by omega) (⟨H93, f95, by omega⟩)
          · exfalso; omega
    · refine s_blx (lv' := [(3, vI w1), (0, vR 77), (1, vI said), (2, vI move)]) (st' := [vR 77]) B188_39_40 rfl ?_
      refine r_gint (ki := 9) (pc' := 43) D188_40 rfl gf_11_190_77 rfl H93.1 ?_
      intro w263 e264 r265
      have b_w263 := H93.2 77 (9) 0 1 rfl
      rw [← e264] at b_w263; clear r265
      refine r_ifc (tgt := 50) (pc' := 46) D188_43 rfl rfl (by unfold inR; omega) (fun (c266 : w263 ≠ 0) => ?_) (fun (c266 : ¬ (w263 ≠ 0)) => ?_)
      · refine s_blx (lv' := [(3, vI w1), (0, vR 77), (1, vI said), (2, vI move)]) (st' := [vI 0]) B188_50_51 rfl ?_
        exact r_zretI D188_51 rfl (by omega) (⟨H93, f95, by omega⟩)
      · refine s_blx (lv' := [(3, vI w1), (0, vR 77), (1, vI said), (2, vI move)]) (st' := [vI 1]) B188_46_47 rfl ?_
        refine r_goto (tgt := 51) D188_47 rfl ?_
        exact r_zretI D188_51 rfl (by omega) (⟨H93, f95, by omega⟩)
set_option maxRecDepth 4000 in
theorem k157x {base : Nat} {X : Nat → Option mC} {G : Nat → Value} (E : EnvOK base X G) {d : Nat} (hd : 0 ≤ d) {M : mH} (H : HI base M) (s : Int) (i : Int) (h0 : 0 ≤ s ∧ s ≤ 15) (h1 : 0 ≤ i ∧ i ≤ 7) : sOk base X G d T157 [vR 77, vI s, vI i] M (pI (fun v M' => M' = M ∧ (0 ≤ v ∧ v ≤ 29) ∧ v = gi M 78 (135 + 16 * s + 1 + i))) := by
  refine sOk.of (show sRn base X G d T157 0 [(0, vR 77), (1, vI s), (2, vI i)] [] M _ from ?_)
  refine s_blx (lv' := [(0, vR 77), (1, vI s), (2, vI i)]) (st' := [vR 77]) B157_0_1 rfl ?_
  refine r_gfix (r := 78) (pc' := 4) D157_1 rfl gf_11_13_77 H.1 ?_
  refine s_blx (lv' := [(0, vR 77), (1, vI s), (2, vI i)]) (st' := [vI (((135 + (16 * s)) + 1) + i), vR 78]) B157_4_16 rfl ?_
  refine r_iald (pc' := 17) D157_16 rfl sc_78 H.1 (by omega) ?_
  intro w1 e2 r3
  have b_w1 := H.2 78 (((135 + (16 * s)) + 1) + i) 0 29 (rk_word (by omega))
  rw [← e2] at b_w1; clear r3
  exact r_iretI D157_17 rfl (⟨rfl, by omega, by omega⟩)
set_option maxRecDepth 4000 in
theorem k156x {base : Nat} {X : Nat → Option mC} {G : Nat → Value} (E : EnvOK base X G) {d : Nat} (hd : 0 ≤ d) {M : mH} (H : HI base M) (s : Int) (h0 : 0 ≤ s ∧ s ≤ 15) : sOk base X G d T156 [vR 77, vI s] M (pI (fun v M' => M' = M ∧ (0 ≤ v ∧ v ≤ 8) ∧ v = gi M 78 (135 + 16 * s))) := by
  refine sOk.of (show sRn base X G d T156 0 [(0, vR 77), (1, vI s)] [] M _ from ?_)
  refine s_blx (lv' := [(0, vR 77), (1, vI s)]) (st' := [vR 77]) B156_0_1 rfl ?_
  refine r_gfix (r := 78) (pc' := 4) D156_1 rfl gf_11_13_77 H.1 ?_
  refine s_blx (lv' := [(0, vR 77), (1, vI s)]) (st' := [vI (135 + (16 * s)), vR 78]) B156_4_12 rfl ?_
  refine r_iald (pc' := 13) D156_12 rfl sc_78 H.1 (by omega) ?_
  intro w1 e2 r3
  have b_w1 := H.2 78 (135 + (16 * s)) 0 8 (rk_len (by omega))
  rw [← e2] at b_w1; clear r3
  exact r_iretI D156_13 rfl (⟨rfl, by omega, by omega⟩)
set_option maxRecDepth 4000 in
theorem L_k170x {base : Nat} {X : Nat → Option mC} {G : Nat → Value} (E : EnvOK base X G) {d : Nat} (hd : 1 ≤ d) {M : mH} (H : HI base M) (s : Int) (like : Int) (n : Int) (h0 : 0 ≤ s ∧ s ≤ 15) (h1 : 0 ≤ like ∧ like ≤ 15) (h2 : 0 ≤ n ∧ n ≤ 8) : ∀ mz : Nat, (∀ (x4 x5 : Int), (like = s → n ≤ gi M 78 (135 + 16 * s) → x4 = 1) → (x4 = 1 → n ≤ gi M 78 (135 + 16 * s)) → (0 ≤ x4) → (x4 ≤ 1) → (0 ≤ x5) → (x5 ≤ 8) → (8 - x5) * 1 + 0 < (mz : Int) → sRn base X G d T170 19 [(0, vR 77), (1, vI s), (2, vI like), (3, vI n), (4, vI x4), (5, vI x5)] [] M (s_Q base (pI (fun v M' => M' = M ∧ (v = 0 ∨ v = 1) ∧ (like = s → n ≤ gi M 78 (135 + 16 * s) → v = 1) ∧ (v = 1 → n ≤ gi M 78 (135 + 16 * s)))))) := by
  intro mz
  induction mz with
  | zero => exact fun x4 x5 z0 z1 z2 z3 z4 z5 z6 => by omega
  | succ mz ih =>
    intro x4 x5 i0 i1 i2 i3 i4 i5 hmu
    refine s_blx (lv' := [(0, vR 77), (1, vI s), (2, vI like), (3, vI n), (4, vI x4), (5, vI x5)]) (st' := [vI n, vI x5]) B170_19_22 rfl ?_
    refine r_icmp (tgt := 60) (pc' := 25) D170_22 rfl rfl (by unfold inR; omega) (fun (c7 : n ≤ x5) => ?_) (fun (c7 : ¬ (n ≤ x5)) => ?_)
    · refine s_blx (lv' := [(0, vR 77), (1, vI s), (2, vI like), (3, vI n), (4, vI x4), (5, vI x5)]) (st' := [vI x4]) B170_60_62 rfl ?_
      exact r_zretI D170_62 rfl (by omega) (⟨rfl, by omega, by omega, by omega⟩)
    · refine s_blx (lv' := [(0, vR 77), (1, vI s), (2, vI like), (3, vI n), (4, vI x4), (5, vI x5)]) (st' := [vI x4]) B170_25_27 rfl ?_
      refine r_ifc (tgt := 60) (pc' := 30) D170_27 rfl rfl (by unfold inR; omega) (fun (c8 : x4 = 0) => ?_) (fun (c8 : ¬ (x4 = 0)) => ?_)
      · refine s_blx (lv' := [(0, vR 77), (1, vI s), (2, vI like), (3, vI n), (4, vI x4), (5, vI x5)]) (st' := [vI x4]) B170_60_62 rfl ?_
        exact r_zretI D170_62 rfl (by omega) (⟨rfl, by omega, by omega, by omega⟩)
      · refine s_blx (lv' := [(0, vR 77), (1, vI s), (2, vI like), (3, vI n), (4, vI x4), (5, vI x5)]) (st' := [vI x5, vI s, vR 77]) B170_30_34 rfl ?_
        refine r_vIp (c := 77) (args := [vI s, vI x5]) (rest := []) (pc' := 37) D170_34 rfl ck_11_virtual_147 TE157 rfl (Nat.le_of_ble_eq_true rfl) ⟨Nat.le_of_ble_eq_true rfl, Nat.le_of_ble_eq_true rfl⟩ sc_77 ⟨rfl, by decide⟩ H.1 (dp_0 hd rfl) (k157x E (dp_n hd rfl) H s x5 (by omega) (by omega)) ?_
        intro v9 q13
        obtain ⟨q11, q12⟩ := q13
        have kw1 := q12; clear q12
        refine s_blx (lv' := [(0, vR 77), (1, vI s), (2, vI like), (3, vI n), (4, vI x4), (5, vI x5)]) (st' := [vI x5, vI like, vR 77, vI v9]) B170_37_41 rfl ?_
        refine r_vIp (c := 77) (args := [vI like, vI x5]) (rest := [vI v9]) (pc' := 44) D170_41 rfl ck_11_virtual_147 TE157 rfl (Nat.le_of_ble_eq_true rfl) ⟨Nat.le_of_ble_eq_true rfl, Nat.le_of_ble_eq_true rfl⟩ sc_77 ⟨rfl, by decide⟩ H.1 (dp_0 hd rfl) (k157x E (dp_n hd rfl) H like x5 (by omega) (by omega)) ?_
        intro v14 q18
        obtain ⟨q16, q17⟩ := q18
        have kw2 : like = s → v14 = gi M 78 (135 + 16 * s + 1 + x5) := fun h => by rw [q17, h]
        refine r_icmp (tgt := 51) (pc' := 47) D170_44 rfl rfl (by unfold inR; omega) (fun (c19 : v9 ≠ v14) => ?_) (fun (c19 : ¬ (v9 ≠ v14)) => ?_)
        · refine s_blx (lv' := [(5, vI (x5 + 1)), (4, vI 0), (0, vR 77), (1, vI s), (2, vI like), (3, vI n)]) (st' := []) B170_51_57 rfl ?_
          refine r_goto (tgt := 19) D170_57 rfl ?_
          refine r_loc (lv' := [(0, vR 77), (1, vI s), (2, vI like), (3, vI n), (4, vI 0), (5, vI (x5 + 1))]) ⟨rfl, rfl, rfl, rfl, rfl, rfl, trivial⟩ rfl rfl ?_
          exact ih 0 (x5 + 1) (by omega) (by omega) (by omega) (by omega) (by omega) (by omega) (by omega)
        · refine s_blx (lv' := [(0, vR 77), (1, vI s), (2, vI like), (3, vI n), (4, vI x4), (5, vI x5)]) (st' := [vI 1]) B170_47_48 rfl ?_
          refine r_goto (tgt := 52) D170_48 rfl ?_
          refine s_blx (lv' := [(5, vI (x5 + 1)), (4, vI 1), (0, vR 77), (1, vI s), (2, vI like), (3, vI n)]) (st' := []) B170_52_57 rfl ?_
          refine r_goto (tgt := 19) D170_57 rfl ?_
          refine r_loc (lv' := [(0, vR 77), (1, vI s), (2, vI like), (3, vI n), (4, vI 1), (5, vI (x5 + 1))]) ⟨rfl, rfl, rfl, rfl, rfl, rfl, trivial⟩ rfl rfl ?_
          exact ih 1 (x5 + 1) (by omega) (by omega) (by omega) (by omega) (by omega) (by omega) (by omega)
set_option maxRecDepth 4000 in
theorem k170x {base : Nat} {X : Nat → Option mC} {G : Nat → Value} (E : EnvOK base X G) {d : Nat} (hd : 1 ≤ d) {M : mH} (H : HI base M) (s : Int) (like : Int) (n : Int) (h0 : 0 ≤ s ∧ s ≤ 15) (h1 : 0 ≤ like ∧ like ≤ 15) (h2 : 0 ≤ n ∧ n ≤ 8) : sOk base X G d T170 [vR 77, vI s, vI like, vI n] M (pI (fun v M' => M' = M ∧ (v = 0 ∨ v = 1) ∧ (like = s → n ≤ gi M 78 (135 + 16 * s) → v = 1) ∧ (v = 1 → n ≤ gi M 78 (135 + 16 * s)))) := by
  refine sOk.of (show sRn base X G d T170 0 [(0, vR 77), (1, vI s), (2, vI like), (3, vI n)] [] M _ from ?_)
  refine s_blx (lv' := [(0, vR 77), (1, vI s), (2, vI like), (3, vI n)]) (st' := [vI s, vR 77]) B170_0_2 rfl ?_
  refine r_vIp (c := 77) (args := [vI s]) (rest := []) (pc' := 5) D170_2 rfl ck_11_virtual_144 TE156 rfl (Nat.le_of_ble_eq_true rfl) ⟨Nat.le_of_ble_eq_true rfl, Nat.le_of_ble_eq_true rfl⟩ sc_77 ⟨rfl, by decide⟩ H.1 (dp_0 hd rfl) (k156x E (dp_n hd rfl) H s (by omega)) ?_
  intro v1 q5
  obtain ⟨q3, q4⟩ := q5
  refine s_blx (lv' := [(0, vR 77), (1, vI s), (2, vI like), (3, vI n)]) (st' := [vI n, vI v1]) B170_5_6 rfl ?_
  refine r_icmp (tgt := 13) (pc' := 9) D170_6 rfl rfl (by unfold inR; omega) (fun (c6 : v1 < n) => ?_) (fun (c6 : ¬ (v1 < n)) => ?_)
  · refine s_blx (lv' := [(5, vI 0), (4, vI 0), (0, vR 77), (1, vI s), (2, vI like), (3, vI n)]) (st' := []) B170_13_19 rfl ?_
    refine r_loc (lv' := [(0, vR 77), (1, vI s), (2, vI like), (3, vI n), (4, vI 0), (5, vI 0)]) ⟨rfl, rfl, rfl, rfl, rfl, rfl, trivial⟩ rfl rfl ?_
    exact (L_k170x E hd H s like n h0 h1 h2 (((8 - 0) * 1 + 0 : Int) + 1).toNat) 0 0 (by omega) (by omega) (by omega) (by omega) (by omega) (by omega) (by omega)
  · refine s_blx (lv' := [(0, vR 77), (1, vI s), (2, vI like), (3, vI n)]) (st' := [vI 1]) B170_9_10 rfl ?_
    refine r_goto (tgt := 14) D170_10 rfl ?_
    refine s_blx (lv' := [(5, vI 0), (4, vI 1), (0, vR 77), (1, vI s), (2, vI like), (3, vI n)]) (st' := []) B170_14_19 rfl ?_
    refine r_loc (lv' := [(0, vR 77), (1, vI s), (2, vI like), (3, vI n), (4, vI 1), (5, vI 0)]) ⟨rfl, rfl, rfl, rfl, rfl, rfl, trivial⟩ rfl rfl ?_
    exact (L_k170x E hd H s like n h0 h1 h2 (((8 - 0) * 1 + 0 : Int) + 1).toNat) 1 0 (by omega) (by omega) (by omega) (by omega) (by omega) (by omega) (by omega)
set_option maxRecDepth 4000 in
theorem k159x {base : Nat} {X : Nat → Option mC} {G : Nat → Value} (E : EnvOK base X G) {d : Nat} (hd : 0 ≤ d) {M : mH} (H : HI base M) (s : Int) (h0 : 0 ≤ s ∧ s ≤ 15) : sOk base X G d T159 [vR 77, vI s] M (pI (fun v M' => M' = M ∧ (0 ≤ v ∧ v ≤ 100) ∧ v = gi M 78 (135 + 16 * s + 12 + gi M 78 474))) := by
  refine sOk.of (show sRn base X G d T159 0 [(0, vR 77), (1, vI s)] [] M _ from ?_)
  refine s_blx (lv' := [(0, vR 77), (1, vI s)]) (st' := [vR 77]) B159_0_1 rfl ?_
  refine r_gfix (r := 78) (pc' := 4) D159_1 rfl gf_11_13_77 H.1 ?_
  refine s_blx (lv' := [(0, vR 77), (1, vI s)]) (st' := [vR 77, vI ((135 + (16 * s)) + 12), vR 78]) B159_4_16 rfl ?_
  refine r_gfix (r := 78) (pc' := 19) D159_16 rfl gf_11_13_77 H.1 ?_
  refine s_blx (lv' := [(0, vR 77), (1, vI s)]) (st' := [vI 474, vR 78, vI ((135 + (16 * s)) + 12), vR 78]) B159_19_22 rfl ?_
  refine r_iald (pc' := 23) D159_22 rfl sc_78 H.1 (by omega) ?_
  intro w1 e2 r3
  have b_w1 := H.2 78 (474) 0 3 (rk_who (by omega))
  rw [← e2] at b_w1; clear r3
  refine s_blx (lv' := [(0, vR 77), (1, vI s)]) (st' := [vI (((135 + (16 * s)) + 12) + w1), vR 78]) B159_23_24 rfl ?_
  refine r_iald (pc' := 25) D159_24 rfl sc_78 H.1 (by omega) ?_
  intro w4 e5 r6
  have b_w4 := H.2 78 (((135 + (16 * s)) + 12) + w1) 0 100 (rk_wgt (by omega))
  rw [← e5] at b_w4; clear r6
  exact r_iretI D159_25 rfl (⟨rfl, by omega, by subst_vars; rfl⟩)
set_option maxRecDepth 4000 in
theorem L_k193x {base : Nat} {X : Nat → Option mC} {G : Nat → Value} (E : EnvOK base X G) {d : Nat} (hd : 2 ≤ d) {M : mH} (H : HI base M) (s : Int) (n : Int) (h0 : 0 ≤ s ∧ s ≤ 15) (h1 : 0 ≤ n ∧ n ≤ 8) (h2 : 1 ≤ gi M 78 (135 + 16 * s + 12 + gi M 78 474)) (h3 : n ≤ gi M 78 (135 + 16 * s)) : ∀ mz : Nat, (∀ (x3 : Int), (0 ≤ x3 ∧ x3 ≤ s) → (0 ≤ x3) → (x3 ≤ 16) → (s - x3) * 1 + 0 < (mz : Int) → sRn base X G d T193 2 [(0, vR 77), (1, vI s), (2, vI n), (3, vI x3)] [] M (s_Q base (pI (fun v M' => M' = M ∧ (0 ≤ v ∧ v ≤ s))))) := by
  intro mz
  induction mz with
  | zero => exact fun x3 z0 z1 z2 z3 => by omega
  | succ mz ih =>
    intro x3 i0 i1 i2 hmu
    refine s_blx (lv' := [(0, vR 77), (1, vI s), (2, vI n), (3, vI x3)]) (st' := [vI x3, vR 77]) B193_2_4 rfl ?_
    refine r_vIp (c := 77) (args := [vI x3]) (rest := []) (pc' := 7) D193_4 rfl ck_11_virtual_138 TE159 rfl (Nat.le_of_ble_eq_true rfl) ⟨Nat.le_of_ble_eq_true rfl, Nat.le_of_ble_eq_true rfl⟩ sc_77 ⟨rfl, by decide⟩ H.1 (dp_0 hd rfl) (k159x E (dp_n hd rfl) H x3 (by omega)) ?_
    intro v1 q5
    obtain ⟨q3, q4⟩ := q5
    have ku := q4; clear q4
    have kv : x3 = s → v1 = gi M 78 (135 + 16 * s + 12 + gi M 78 474) := fun h => by rw [ku, h]
    have kl : x3 = s → gi M 78 (135 + 16 * x3) = gi M 78 (135 + 16 * s) := fun h => by rw [h]
    refine r_ifc (tgt := 20) (pc' := 10) D193_7 rfl rfl (by unfold inR; omega) (fun (c6 : v1 ≤ 0) => ?_) (fun (c6 : ¬ (v1 ≤ 0)) => ?_)
    · refine s_blx (lv' := [(3, vI (x3 + 1)), (0, vR 77), (1, vI s), (2, vI n)]) (st' := []) B193_20_23 rfl ?_
      refine r_goto (tgt := 2) D193_23 rfl ?_
      refine r_loc (lv' := [(0, vR 77), (1, vI s), (2, vI n), (3, vI (x3 + 1))]) ⟨rfl, rfl, rfl, rfl, trivial⟩ rfl rfl ?_
      exact ih (x3 + 1) (by omega) (by omega) (by omega) (by omega)
    · refine s_blx (lv' := [(0, vR 77), (1, vI s), (2, vI n), (3, vI x3)]) (st' := [vI n, vI s, vI x3, vR 77]) B193_10_14 rfl ?_
      refine r_vIp (c := 77) (args := [vI x3, vI s, vI n]) (rest := []) (pc' := 17) D193_14 rfl ck_11_virtual_158 TE170 rfl (Nat.le_of_ble_eq_true rfl) ⟨Nat.le_of_ble_eq_true rfl, Nat.le_of_ble_eq_true rfl⟩ sc_77 ⟨rfl, by decide⟩ H.1 (dp_0 hd rfl) (k170x E (dp_n hd rfl) H x3 s n (by omega) (by omega) (by omega)) ?_
      intro v7 q12
      obtain ⟨q9, q10, q11⟩ := q12
      refine r_ifc (tgt := 26) (pc' := 20) D193_17 rfl rfl (by unfold inR; omega) (fun (c13 : v7 ≠ 0) => ?_) (fun (c13 : ¬ (v7 ≠ 0)) => ?_)
      · refine s_blx (lv' := [(0, vR 77), (1, vI s), (2, vI n), (3, vI x3)]) (st' := [vI x3]) B193_26_27 rfl ?_
        exact r_iretI D193_27 rfl (⟨rfl, by omega⟩)
      · refine s_blx (lv' := [(3, vI (x3 + 1)), (0, vR 77), (1, vI s), (2, vI n)]) (st' := []) B193_20_23 rfl ?_
        refine r_goto (tgt := 2) D193_23 rfl ?_
        refine r_loc (lv' := [(0, vR 77), (1, vI s), (2, vI n), (3, vI (x3 + 1))]) ⟨rfl, rfl, rfl, rfl, trivial⟩ rfl rfl ?_
        exact ih (x3 + 1) (by omega) (by omega) (by omega) (by omega)
set_option maxRecDepth 4000 in
theorem k193x {base : Nat} {X : Nat → Option mC} {G : Nat → Value} (E : EnvOK base X G) {d : Nat} (hd : 2 ≤ d) {M : mH} (H : HI base M) (s : Int) (n : Int) (h0 : 0 ≤ s ∧ s ≤ 15) (h1 : 0 ≤ n ∧ n ≤ 8) (h2 : 1 ≤ gi M 78 (135 + 16 * s + 12 + gi M 78 474)) (h3 : n ≤ gi M 78 (135 + 16 * s)) : sOk base X G d T193 [vR 77, vI s, vI n] M (pI (fun v M' => M' = M ∧ (0 ≤ v ∧ v ≤ s))) := by
  refine sOk.of (show sRn base X G d T193 0 [(0, vR 77), (1, vI s), (2, vI n)] [] M _ from ?_)
  refine s_blx (lv' := [(3, vI 0), (0, vR 77), (1, vI s), (2, vI n)]) (st' := []) B193_0_2 rfl ?_
  refine r_loc (lv' := [(0, vR 77), (1, vI s), (2, vI n), (3, vI 0)]) ⟨rfl, rfl, rfl, rfl, trivial⟩ rfl rfl ?_
  exact (L_k193x E hd H s n h0 h1 h2 h3 (((s - 0) * 1 + 0 : Int) + 1).toNat) 0 (by omega) (by omega) (by omega) (by omega)
