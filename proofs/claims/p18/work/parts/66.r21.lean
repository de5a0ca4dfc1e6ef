/-! The reference takes a sentence, and a text. -/
/-- the tape holds words -/
noncomputable def TA (n : Int) (M : mH) : Prop := ∀ j : Int, 0 ≤ j → j < n → 0 ≤ gi M 95 j ∧ gi M 95 j ≤ 29
theorem TA.of {n : Int} {M M' : mH} (h : TA n M) (e : ∀ j : Int, gi M' 95 j = gi M 95 j) : TA n M' := by
  intro j h1 h2; rw [e]; exact h j h1 h2
theorem TA.fr {n : Int} {L : List (Nat × Nat)} {M M' : mH} (h : TA n M) (f : Fr L M M') (hc : s_al L (fun c => c != 95) = true) : TA n M' := h.of (fun _ => f.g (s_al_ok hc (by simp)))
theorem TA.wr {n : Int} {M M' : mH} {c i : Nat} {v : Value} (h : TA n M) (u : Wr M c i v M') (hc : c ≠ 95) : TA n M' := h.of (fun j => by unfold gi; rw [u.ne (Or.inl (Ne.symm hc))])
theorem TA.zero {M : mH} : TA 0 M := fun j h1 h2 => by omega
theorem TA.next {k : Int} {M : mH} (h : TA k M) (hk : 0 ≤ gi M 95 k ∧ gi M 95 k ≤ 29) : TA (k + 1) M := by
  intro j h1 h2
  by_cases e : j = k
  · rw [e]; exact hk
  · exact h j h1 (by omega)
theorem TA.mono {k n : Int} {M : mH} (h : TA k M) (hn : n ≤ k) : TA n M := fun j h1 h2 => h j h1 (by omega)
/-- so many sentences have a word -/
noncomputable def LM (m : Int) (M : mH) : Prop := ∀ s : Int, 0 ≤ s → s < m → 1 ≤ gi M 78 (135 + 16 * s)
theorem LM.of {m : Int} {M M' : mH} (h : LM m M) (e : ∀ s : Int, 0 ≤ s → s < m → gi M' 78 (135 + 16 * s) = gi M 78 (135 + 16 * s)) : LM m M' := by
  intro s h1 h2; rw [e s h1 h2]; exact h s h1 h2
theorem LM.fr {m : Int} {L : List (Nat × Nat)} {M M' : mH} (h : LM m M) (f : Fr L M M') (hc : s_al L (fun c => c != 78) = true) : LM m M' := h.of (fun _ _ _ => f.g (s_al_ok hc (by simp)))
theorem LM.wr {m : Int} {M M' : mH} {c i : Nat} {v : Value} (h : LM m M) (u : Wr M c i v M') (hc : c ≠ 78) : LM m M' := h.of (fun j _ _ => by unfold gi; rw [u.ne (Or.inl (Ne.symm hc))])
theorem LM.w {m : Int} {M M' : mH} {i : Int} {v : Value} (h : LM m M) (u : Wr M 78 i.toNat v M') (hi : 0 ≤ i ∧ (i < 135 ∨ (i - 135) % 16 ≠ 0 ∨ 135 + 16 * m ≤ i)) {base : Nat} (_ : HI base M) : LM m M' :=
  h.of (fun s _ _ => u.gi_ne hi.1 (Or.inr (by omega)))
theorem LN.grow {m x : Int} {M M' : mH} {v : Value} (h : LN M) (hm : gi M 78 469 = m) (h0 : 0 ≤ m) (u : Wr M 78 (135 + 16 * m).toNat v M') (hp : gi M' 78 (135 + 16 * m) = x) (hx : 1 ≤ x) : LM (m + 1) M' := by
  intro s h1 h2
  by_cases e : s = m
  · rw [e, hp]; exact hx
  · rw [u.gi_ne (by omega) (Or.inr (by omega))]; exact h s h1 (by omega)
theorem LM.ln {m : Int} {M : mH} (h : LM m M) (e : gi M 78 469 = m) : LN M := fun s h1 h2 => h s h1 (by omega)
/-- so many texts are texts -/
noncomputable def GM (m : Int) (M : mH) : Prop := ∀ t : Int, 0 ≤ t → t < m → AC 78 (483 + 400 * t) (gi M 78 (475 + t)) M
theorem GM.of {m : Int} {M M' : mH} (h : GM m M) (e : ∀ i : Int, gi M' 78 i = gi M 78 i) : GM m M' := by
  intro t h1 h2
  rw [e]
  exact (h t h1 h2).of (fun j _ _ => e _)
theorem GM.fr {m : Int} {L : List (Nat × Nat)} {M M' : mH} (h : GM m M) (f : Fr L M M') (hc : s_al L (fun c => c != 78) = true) : GM m M' := h.of (fun _ => f.g (s_al_ok hc (by simp)))
theorem GM.wr {m : Int} {M M' : mH} {c i : Nat} {v : Value} (h : GM m M) (u : Wr M c i v M') (hc : c ≠ 78) : GM m M' := h.of (fun j => by unfold gi; rw [u.ne (Or.inl (Ne.symm hc))])
theorem GM.w {m : Int} {M M' : mH} {i : Int} {v : Value} (h : GM m M) (u : Wr M 78 i.toNat v M') (hi : 0 ≤ i ∧ 0 ≤ m ∧ m ≤ 8 ∧ (i < 475 ∨ (475 + m ≤ i ∧ i < 483) ∨ 483 + 400 * m ≤ i)) {base : Nat} (H : HI base M) : GM m M' := by
  intro t h1 h2
  have q := H.2 78 (475 + t) 0 400 (rk_sizes (by omega))
  rw [u.gi_ne hi.1 (Or.inr (by omega))]
  exact (h t h1 h2).of (fun j _ _ => u.gi_ne hi.1 (Or.inr (by omega)))
theorem GK.gm {m : Int} {M : mH} (h : GK M) (e : gi M 78 471 = m) : GM m M := fun t h1 h2 => h t h1 (by omega)
theorem GM.gk {m : Int} {M : mH} (h : GM m M) (e : gi M 78 471 = m) : GK M := fun t h1 h2 => h t h1 (by omega)
theorem GM.done {m n : Int} {M : mH} (h : GM m M) (hn : gi M 78 (475 + m) = n) (ha : AC 97 0 n M) (hc : ∀ j : Int, 0 ≤ j → j < n → gi M 78 (483 + 400 * m + j) = gi M 97 j) : GM (m + 1) M := by
  intro t h1 h2
  by_cases e : t = m
  · subst e
    obtain ⟨F, f0, f1, f2⟩ := ha
    rw [hn]
    exact ⟨F, f0, fun j a b => by rw [hc j a b, f1 j a b, Int.zero_add], f2⟩
  · exact h t h1 (by omega)
theorem AC.fr {c : Nat} {o n : Int} {L : List (Nat × Nat)} {M M' : mH} (h : AC c o n M) (f : Fr L M M') (hc : s_al L (fun x => x != c) = true) : AC c o n M' := h.of (fun _ _ _ => f.g (s_al_ok hc (by simp)))
theorem AC.wr {c : Nat} {o n : Int} {M M' : mH} {c' i : Nat} {v : Value} (h : AC c o n M) (u : Wr M c' i v M') (hc : c' ≠ c) : AC c o n M' := h.of (fun j _ _ => by unfold gi; rw [u.ne (Or.inl (Ne.symm hc))])
noncomputable def T167 : mT := (11, yX11_sentence, cX11_sentence, 9, (some .int))
set_option maxRecDepth 10000 in
theorem TE167 : sy_m[167]? = some T167 := rfl
theorem B167_0_1 : s_dk T167.2.2.1 0 [.aload_n 0] 1 = true := by decide +kernel
theorem D167_1 : decode T167.2.2.1 1 = .ok (.getfield 151, 3) := by decide +kernel
theorem B167_4_8 : s_dk T167.2.2.1 4 [.istore 4, .aload_n 0, .iconst 0] 8 = true := by decide +kernel
theorem D167_8 : decode T167.2.2.1 8 = .ok (.putfield 151, 3) := by decide +kernel
theorem B167_11_15 : s_dk T167.2.2.1 11 [.iload_n 1, .iconst 0, .bipush 7] 15 = true := by decide +kernel
theorem D167_15 : decode T167.2.2.1 15 = .ok (.invokestatic 123, 3) := by decide +kernel
theorem D167_18 : decode T167.2.2.1 18 = .ok (.ifCond .eq 23, 3) := by decide +kernel
theorem B167_41_43 : s_dk T167.2.2.1 41 [.aload_n 0, .iconst (-1)] 43 = true := by decide +kernel
theorem D167_43 : decode T167.2.2.1 43 = .ok (.invokevirtual 127, 3) := by decide +kernel
theorem D167_46 : decode T167.2.2.1 46 = .ok (.ireturn, 1) := by decide +kernel
theorem B167_21_25 : s_dk T167.2.2.1 21 [.iload_n 2, .iconst 0, .bipush 7] 25 = true := by decide +kernel
theorem D167_25 : decode T167.2.2.1 25 = .ok (.invokestatic 123, 3) := by decide +kernel
theorem D167_28 : decode T167.2.2.1 28 = .ok (.ifCond .eq 13, 3) := by decide +kernel
theorem B167_31_35 : s_dk T167.2.2.1 31 [.iload_n 3, .iconst 0, .bipush 7] 35 = true := by decide +kernel
theorem D167_35 : decode T167.2.2.1 35 = .ok (.invokestatic 123, 3) := by decide +kernel
theorem D167_38 : decode T167.2.2.1 38 = .ok (.ifCond .ne 9, 3) := by decide +kernel
theorem B167_47_52 : s_dk T167.2.2.1 47 [.iload 4, .iconst 1, .bipush 8] 52 = true := by decide +kernel
theorem D167_52 : decode T167.2.2.1 52 = .ok (.invokestatic 123, 3) := by decide +kernel
theorem B167_55_60 : s_dk T167.2.2.1 55 [.istore 5, .iconst 0, .istore 6] 60 = true := by decide +kernel
theorem B167_60_64 : s_dk T167.2.2.1 60 [.iload 6, .iload 4] 64 = true := by decide +kernel
theorem D167_64 : decode T167.2.2.1 64 = .ok (.if_icmp .ge 29, 3) := by decide +kernel
theorem B167_93_95 : s_dk T167.2.2.1 93 [.iload 5] 95 = true := by decide +kernel
theorem D167_95 : decode T167.2.2.1 95 = .ok (.ifCond .ne 10, 3) := by decide +kernel
theorem B167_105_106 : s_dk T167.2.2.1 105 [.aload_n 0] 106 = true := by decide +kernel
theorem D167_106 : decode T167.2.2.1 106 = .ok (.getfield 13, 3) := by decide +kernel
theorem B167_109_112 : s_dk T167.2.2.1 109 [.sipush 469] 112 = true := by decide +kernel
theorem D167_112 : decode T167.2.2.1 112 = .ok (.iaload, 1) := by decide +kernel
theorem B167_113_118 : s_dk T167.2.2.1 113 [.istore 6, .iconst 0, .istore 7] 118 = true := by decide +kernel
theorem B167_98_101 : s_dk T167.2.2.1 98 [.aload_n 0, .bipush (-6)] 101 = true := by decide +kernel
theorem D167_101 : decode T167.2.2.1 101 = .ok (.invokevirtual 127, 3) := by decide +kernel
theorem D167_104 : decode T167.2.2.1 104 = .ok (.ireturn, 1) := by decide +kernel
theorem B167_67_69 : s_dk T167.2.2.1 67 [.iload 5] 69 = true := by decide +kernel
theorem D167_69 : decode T167.2.2.1 69 = .ok (.ifCond .eq 24, 3) := by decide +kernel
theorem B167_72_73 : s_dk T167.2.2.1 72 [.aload_n 0] 73 = true := by decide +kernel
theorem D167_73 : decode T167.2.2.1 73 = .ok (.getfield 69, 3) := by decide +kernel
theorem B167_76_78 : s_dk T167.2.2.1 76 [.iload 6] 78 = true := by decide +kernel
theorem D167_78 : decode T167.2.2.1 78 = .ok (.baload, 1) := by decide +kernel
theorem B167_79_82 : s_dk T167.2.2.1 79 [.iconst 0, .bipush 29] 82 = true := by decide +kernel
theorem D167_82 : decode T167.2.2.1 82 = .ok (.invokestatic 123, 3) := by decide +kernel
theorem B167_85_90 : s_dk T167.2.2.1 85 [.istore 5, .iinc 6 1] 90 = true := by decide +kernel
theorem D167_90 : decode T167.2.2.1 90 = .ok (.goto (-30), 3) := by decide +kernel
theorem B167_118_122 : s_dk T167.2.2.1 118 [.iload 7, .iload 6] 122 = true := by decide +kernel
theorem D167_122 : decode T167.2.2.1 122 = .ok (.if_icmp .ge 27, 3) := by decide +kernel
theorem B167_149_153 : s_dk T167.2.2.1 149 [.iload 6, .bipush 16] 153 = true := by decide +kernel
theorem D167_153 : decode T167.2.2.1 153 = .ok (.if_icmp .ne 10, 3) := by decide +kernel
theorem B167_163_175 : s_dk T167.2.2.1 163 [.sipush 135, .bipush 16, .iload 6, .imul, .iadd, .istore 7, .aload_n 0] 175 = true := by decide +kernel
theorem D167_175 : decode T167.2.2.1 175 = .ok (.getfield 13, 3) := by decide +kernel
theorem B167_178_182 : s_dk T167.2.2.1 178 [.iload 7, .iload 4] 182 = true := by decide +kernel
theorem D167_182 : decode T167.2.2.1 182 = .ok (.iastore, 1) := by decide +kernel
theorem B167_183_186 : s_dk T167.2.2.1 183 [.iconst 0, .istore 8] 186 = true := by decide +kernel
theorem B167_125_130 : s_dk T167.2.2.1 125 [.aload_n 0, .iload 7, .iload 4] 130 = true := by decide +kernel
theorem D167_130 : decode T167.2.2.1 130 = .ok (.invokevirtual 154, 3) := by decide +kernel
theorem ck_11_virtual_154 : m_call 11 (.invokevirtual 154) = some (0, 166, 2) := by decide +kernel
theorem D167_133 : decode T167.2.2.1 133 = .ok (.ifCond .eq 10, 3) := by decide +kernel
theorem B167_143_146 : s_dk T167.2.2.1 143 [.iinc 7 1] 146 = true := by decide +kernel
theorem D167_146 : decode T167.2.2.1 146 = .ok (.goto (-28), 3) := by decide +kernel
theorem B167_136_139 : s_dk T167.2.2.1 136 [.aload_n 0, .bipush (-4)] 139 = true := by decide +kernel
theorem D167_139 : decode T167.2.2.1 139 = .ok (.invokevirtual 127, 3) := by decide +kernel
theorem D167_142 : decode T167.2.2.1 142 = .ok (.ireturn, 1) := by decide +kernel
theorem B167_186_190 : s_dk T167.2.2.1 186 [.iload 8, .bipush 8] 190 = true := by decide +kernel
theorem D167_190 : decode T167.2.2.1 190 = .ok (.if_icmp .ge 39, 3) := by decide +kernel
theorem B167_193_194 : s_dk T167.2.2.1 193 [.aload_n 0] 194 = true := by decide +kernel
theorem D167_194 : decode T167.2.2.1 194 = .ok (.getfield 13, 3) := by decide +kernel
theorem B167_197_208 : s_dk T167.2.2.1 197 [.iload 7, .iconst 1, .iadd, .iload 8, .iadd, .iload 8, .iload 4] 208 = true := by decide +kernel
theorem D167_208 : decode T167.2.2.1 208 = .ok (.if_icmp .ge 13, 3) := by decide +kernel
theorem B167_211_212 : s_dk T167.2.2.1 211 [.aload_n 0] 212 = true := by decide +kernel
theorem D167_212 : decode T167.2.2.1 212 = .ok (.getfield 69, 3) := by decide +kernel
theorem B167_215_217 : s_dk T167.2.2.1 215 [.iload 8] 217 = true := by decide +kernel
theorem D167_217 : decode T167.2.2.1 217 = .ok (.baload, 1) := by decide +kernel
theorem D167_218 : decode T167.2.2.1 218 = .ok (.goto 4, 3) := by decide +kernel
theorem D167_222 : decode T167.2.2.1 222 = .ok (.iastore, 1) := by decide +kernel
theorem B167_223_226 : s_dk T167.2.2.1 223 [.iinc 8 1] 226 = true := by decide +kernel
theorem D167_226 : decode T167.2.2.1 226 = .ok (.goto (-40), 3) := by decide +kernel
theorem B167_221_222 : s_dk T167.2.2.1 221 [.iconst 0] 222 = true := by decide +kernel
theorem B167_229_230 : s_dk T167.2.2.1 229 [.aload_n 0] 230 = true := by decide +kernel
theorem D167_230 : decode T167.2.2.1 230 = .ok (.getfield 13, 3) := by decide +kernel
theorem B167_233_239 : s_dk T167.2.2.1 233 [.iload 7, .bipush 9, .iadd, .iload_n 1] 239 = true := by decide +kernel
theorem D167_239 : decode T167.2.2.1 239 = .ok (.iastore, 1) := by decide +kernel
theorem B167_240_241 : s_dk T167.2.2.1 240 [.aload_n 0] 241 = true := by decide +kernel
theorem D167_241 : decode T167.2.2.1 241 = .ok (.getfield 13, 3) := by decide +kernel
theorem B167_244_250 : s_dk T167.2.2.1 244 [.iload 7, .bipush 10, .iadd, .iload_n 2] 250 = true := by decide +kernel
theorem D167_250 : decode T167.2.2.1 250 = .ok (.iastore, 1) := by decide +kernel
theorem B167_251_252 : s_dk T167.2.2.1 251 [.aload_n 0] 252 = true := by decide +kernel
theorem D167_252 : decode T167.2.2.1 252 = .ok (.getfield 13, 3) := by decide +kernel
theorem B167_255_261 : s_dk T167.2.2.1 255 [.iload 7, .bipush 11, .iadd, .iload_n 3] 261 = true := by decide +kernel
theorem D167_261 : decode T167.2.2.1 261 = .ok (.iastore, 1) := by decide +kernel
theorem B167_262_265 : s_dk T167.2.2.1 262 [.iconst 0, .istore 8] 265 = true := by decide +kernel
theorem B167_265_268 : s_dk T167.2.2.1 265 [.iload 8, .iconst 4] 268 = true := by decide +kernel
theorem D167_268 : decode T167.2.2.1 268 = .ok (.if_icmp .ge 23, 3) := by decide +kernel
theorem B167_271_272 : s_dk T167.2.2.1 271 [.aload_n 0] 272 = true := by decide +kernel
theorem D167_272 : decode T167.2.2.1 272 = .ok (.getfield 13, 3) := by decide +kernel
theorem B167_275_284 : s_dk T167.2.2.1 275 [.iload 7, .bipush 12, .iadd, .iload 8, .iadd, .iconst 1] 284 = true := by decide +kernel
theorem D167_284 : decode T167.2.2.1 284 = .ok (.iastore, 1) := by decide +kernel
theorem B167_285_288 : s_dk T167.2.2.1 285 [.iinc 8 1] 288 = true := by decide +kernel
theorem D167_288 : decode T167.2.2.1 288 = .ok (.goto (-23), 3) := by decide +kernel
theorem B167_156_159 : s_dk T167.2.2.1 156 [.aload_n 0, .bipush (-5)] 159 = true := by decide +kernel
theorem D167_159 : decode T167.2.2.1 159 = .ok (.invokevirtual 127, 3) := by decide +kernel
theorem D167_162 : decode T167.2.2.1 162 = .ok (.ireturn, 1) := by decide +kernel
theorem B167_291_292 : s_dk T167.2.2.1 291 [.aload_n 0] 292 = true := by decide +kernel
theorem D167_292 : decode T167.2.2.1 292 = .ok (.getfield 13, 3) := by decide +kernel
theorem B167_295_299 : s_dk T167.2.2.1 295 [.sipush 469, .dup2] 299 = true := by decide +kernel
theorem D167_299 : decode T167.2.2.1 299 = .ok (.iaload, 1) := by decide +kernel
theorem B167_300_302 : s_dk T167.2.2.1 300 [.iconst 1, .iadd] 302 = true := by decide +kernel
theorem D167_302 : decode T167.2.2.1 302 = .ok (.iastore, 1) := by decide +kernel
theorem B167_303_306 : s_dk T167.2.2.1 303 [.aload_n 0, .iload 6] 306 = true := by decide +kernel
theorem D167_306 : decode T167.2.2.1 306 = .ok (.invokevirtual 131, 3) := by decide +kernel
theorem D167_309 : decode T167.2.2.1 309 = .ok (.ireturn, 1) := by decide +kernel
noncomputable def T230 : mT := (11, yX11_habit, cX11_habit, 3, (some .int))
set_option maxRecDepth 10000 in
theorem TE230 : sy_m[230]? = some T230 := rfl
theorem B230_0_1 : s_dk T230.2.2.1 0 [.aload_n 0] 1 = true := by decide +kernel
theorem D230_1 : decode T230.2.2.1 1 = .ok (.getfield 13, 3) := by decide +kernel
theorem B230_4_7 : s_dk T230.2.2.1 4 [.sipush 471] 7 = true := by decide +kernel
theorem D230_7 : decode T230.2.2.1 7 = .ok (.iaload, 1) := by decide +kernel
theorem B230_8_10 : s_dk T230.2.2.1 8 [.bipush 8] 10 = true := by decide +kernel
theorem D230_10 : decode T230.2.2.1 10 = .ok (.if_icmp .ne 15, 3) := by decide +kernel
theorem B230_25_26 : s_dk T230.2.2.1 25 [.aload_n 0] 26 = true := by decide +kernel
theorem D230_26 : decode T230.2.2.1 26 = .ok (.invokevirtual 372, 3) := by decide +kernel
theorem ck_11_virtual_372 : m_call 11 (.invokevirtual 372) = some (0, 229, 0) := by decide +kernel
theorem D230_29 : decode T230.2.2.1 29 = .ok (.ifCond .ne 10, 3) := by decide +kernel
theorem B230_39_40 : s_dk T230.2.2.1 39 [.aload_n 0] 40 = true := by decide +kernel
theorem D230_40 : decode T230.2.2.1 40 = .ok (.getfield 13, 3) := by decide +kernel
theorem B230_43_46 : s_dk T230.2.2.1 43 [.sipush 471] 46 = true := by decide +kernel
theorem D230_46 : decode T230.2.2.1 46 = .ok (.iaload, 1) := by decide +kernel
theorem B230_47_49 : s_dk T230.2.2.1 47 [.istore_n 1, .aload_n 0] 49 = true := by decide +kernel
theorem D230_49 : decode T230.2.2.1 49 = .ok (.getfield 13, 3) := by decide +kernel
theorem B230_52_58 : s_dk T230.2.2.1 52 [.sipush 475, .iload_n 1, .iadd, .aload_n 0] 58 = true := by decide +kernel
theorem D230_58 : decode T230.2.2.1 58 = .ok (.getfield 305, 3) := by decide +kernel
theorem D230_61 : decode T230.2.2.1 61 = .ok (.iastore, 1) := by decide +kernel
theorem B230_62_64 : s_dk T230.2.2.1 62 [.iconst 0, .istore_n 2] 64 = true := by decide +kernel
theorem B230_32_35 : s_dk T230.2.2.1 32 [.aload_n 0, .bipush (-6)] 35 = true := by decide +kernel
theorem D230_35 : decode T230.2.2.1 35 = .ok (.invokevirtual 127, 3) := by decide +kernel
theorem D230_38 : decode T230.2.2.1 38 = .ok (.ireturn, 1) := by decide +kernel
theorem B230_13_15 : s_dk T230.2.2.1 13 [.aload_n 0, .iconst 0] 15 = true := by decide +kernel
theorem D230_15 : decode T230.2.2.1 15 = .ok (.putfield 151, 3) := by decide +kernel
theorem B230_18_21 : s_dk T230.2.2.1 18 [.aload_n 0, .bipush (-5)] 21 = true := by decide +kernel
theorem D230_21 : decode T230.2.2.1 21 = .ok (.invokevirtual 127, 3) := by decide +kernel
theorem D230_24 : decode T230.2.2.1 24 = .ok (.ireturn, 1) := by decide +kernel
theorem B230_64_66 : s_dk T230.2.2.1 64 [.iload_n 2, .aload_n 0] 66 = true := by decide +kernel
theorem D230_66 : decode T230.2.2.1 66 = .ok (.getfield 305, 3) := by decide +kernel
theorem D230_69 : decode T230.2.2.1 69 = .ok (.if_icmp .ge 53, 3) := by decide +kernel
theorem B230_122_123 : s_dk T230.2.2.1 122 [.aload_n 0] 123 = true := by decide +kernel
theorem D230_123 : decode T230.2.2.1 123 = .ok (.getfield 13, 3) := by decide +kernel
theorem B230_126_130 : s_dk T230.2.2.1 126 [.sipush 471, .dup2] 130 = true := by decide +kernel
theorem D230_130 : decode T230.2.2.1 130 = .ok (.iaload, 1) := by decide +kernel
theorem B230_131_133 : s_dk T230.2.2.1 131 [.iconst 1, .iadd] 133 = true := by decide +kernel
theorem D230_133 : decode T230.2.2.1 133 = .ok (.iastore, 1) := by decide +kernel
theorem B230_134_136 : s_dk T230.2.2.1 134 [.aload_n 0, .iload_n 1] 136 = true := by decide +kernel
theorem D230_136 : decode T230.2.2.1 136 = .ok (.invokevirtual 131, 3) := by decide +kernel
theorem D230_139 : decode T230.2.2.1 139 = .ok (.ireturn, 1) := by decide +kernel
theorem B230_72_73 : s_dk T230.2.2.1 72 [.aload_n 0] 73 = true := by decide +kernel
theorem D230_73 : decode T230.2.2.1 73 = .ok (.getfield 13, 3) := by decide +kernel
theorem B230_76_88 : s_dk T230.2.2.1 76 [.sipush 483, .sipush 400, .iload_n 1, .imul, .iadd, .iload_n 2, .iadd, .aload_n 0] 88 = true := by decide +kernel
theorem D230_88 : decode T230.2.2.1 88 = .ok (.getfield 78, 3) := by decide +kernel
theorem B230_91_92 : s_dk T230.2.2.1 91 [.iload_n 2] 92 = true := by decide +kernel
theorem D230_92 : decode T230.2.2.1 92 = .ok (.iaload, 1) := by decide +kernel
theorem D230_93 : decode T230.2.2.1 93 = .ok (.iastore, 1) := by decide +kernel
theorem B230_94_95 : s_dk T230.2.2.1 94 [.aload_n 0] 95 = true := by decide +kernel
theorem D230_95 : decode T230.2.2.1 95 = .ok (.getfield 13, 3) := by decide +kernel
theorem B230_98_110 : s_dk T230.2.2.1 98 [.sipush 3683, .sipush 400, .iload_n 1, .imul, .iadd, .iload_n 2, .iadd, .aload_n 0] 110 = true := by decide +kernel
theorem D230_110 : decode T230.2.2.1 110 = .ok (.getfield 81, 3) := by decide +kernel
theorem B230_113_114 : s_dk T230.2.2.1 113 [.iload_n 2] 114 = true := by decide +kernel
theorem D230_114 : decode T230.2.2.1 114 = .ok (.iaload, 1) := by decide +kernel
theorem D230_115 : decode T230.2.2.1 115 = .ok (.iastore, 1) := by decide +kernel
theorem B230_116_119 : s_dk T230.2.2.1 116 [.iinc 2 1] 119 = true := by decide +kernel
theorem D230_119 : decode T230.2.2.1 119 = .ok (.goto (-55), 3) := by decide +kernel
set_option maxRecDepth 4000 in
set_option maxHeartbeats 4000000 in
theorem k206k {base : Nat} {X : Nat → Option mC} {G : Nat → Value} (E : EnvOK base X G) {d : Nat} (hd : 7 ≤ d) {M : mH} (H : HI base M) (h0 : TB M) (h1 : LN M) (h2 : VT M) : sOk base X G d T206 [vR 77] M (pL (fun v M' => HI base M' ∧ Fr [(77, 7), (77, 8), (77, 9), (77, 10), (77, 14), (77, 15), (77, 16), (77, 26), (77, 28), (83, 0), (84, 0), (85, 0), (86, 0), (87, 0), (93, 0)] M M' ∧ (VT M'))) := by
  have f0 : Fr [(77, 7), (77, 8), (77, 9), (77, 10), (77, 14), (77, 15), (77, 16), (77, 26), (77, 28), (83, 0), (84, 0), (85, 0), (86, 0), (87, 0), (93, 0)] M M := Fr.rf
  refine sOk.of (show sRn base X G d T206 0 [(0, vR 77)] [] M _ from ?_)
  refine s_blx (lv' := [(0, vR 77)]) (st' := [vR 77]) B206_0_1 rfl ?_
  obtain ⟨t1, ht2⟩ : ∃ q, q = gi M 77 24 := ⟨_, rfl⟩
  have b_t1 := H.2 77 24 0 1 rfl
  rw [← ht2] at b_t1
  have g3 : gi M 77 24 = t1 := ht2.symm
  refine r_vL (c := 77) (args := []) (rest := []) (pc' := 4) D206_1 rfl ck_11_virtual_283 TE200 rfl (Nat.le_of_ble_eq_true rfl) ⟨Nat.le_of_ble_eq_true rfl, Nat.le_of_ble_eq_true rfl⟩ sc_77 ⟨rfl, by decide⟩ H.1 (dp_0 hd rfl) (k200k E (dp_n hd rfl) H (gi M 78) t1 (h0) (h1) (fun _ => rfl) (h2) (by omega) (by omega)) ?_
  intro v4 M5 q10
  obtain ⟨H6, f7, q8, q9⟩ := q10
  have f11 := f0.tr (f7.up rfl)
  refine s_blx (lv' := [(1, vL v4), (0, vR 77)]) (st' := [vI 1, vR 77]) B206_4_7 rfl ?_
  refine r_pbool (ki := 25) (pc' := 10) D206_7 rfl pf_11_273_77 rfl H6 (by omega) (show 0 ≤ 1 ∧ 1 ≤ 1 by omega) ?_
  intro M12 u13 H14 p15
  have f16 := f11.wr u13 rfl
  have hp17 := q9.wr u13 (by decide)
  refine s_blx (lv' := [(1, vL v4), (0, vR 77)]) (st' := [vR 77]) B206_10_11 rfl ?_
  have g18 : gi M12 77 24 = t1 := (u13.gi_ne (by decide) (Or.inr (by decide))).trans ((f7.g rfl).trans (ht2.symm))
  refine r_vL (c := 77) (args := []) (rest := []) (pc' := 14) D206_11 rfl ck_11_virtual_283 TE200 rfl (Nat.le_of_ble_eq_true rfl) ⟨Nat.le_of_ble_eq_true rfl, Nat.le_of_ble_eq_true rfl⟩ sc_77 ⟨rfl, by decide⟩ H14.1 (dp_0 hd rfl) (k200k E (dp_n hd rfl) H14 (gi M12 78) t1 ((h0.fr f16 rfl)) ((h1.fr f16 rfl)) (fun _ => rfl) (hp17) (by omega) (by omega)) ?_
  intro v19 M20 q25
  obtain ⟨H21, f22, q23, q24⟩ := q25
  have f26 := f16.tr (f22.up rfl)
  refine s_blx (lv' := [(3, vL v19), (1, vL v4), (0, vR 77)]) (st' := [vI 0, vR 77]) B206_14_17 rfl ?_
  refine r_pbool (ki := 25) (pc' := 20) D206_17 rfl pf_11_273_77 rfl H21 (by omega) (show 0 ≤ 0 ∧ 0 ≤ 1 by omega) ?_
  intro M27 u28 H29 p30
  have f31 := f26.wr u28 rfl
  have hp32 := q24.wr u28 (by decide)
  refine s_blx (lv' := [(3, vL v19), (1, vL v4), (0, vR 77)]) (st' := [vL (v19 - v4)]) B206_20_23 rfl ?_
  exact r_lretL D206_23 rfl (⟨H29, f31, hp32⟩)
set_option maxRecDepth 4000 in
set_option maxHeartbeats 4000000 in
theorem k207k {base : Nat} {X : Nat → Option mC} {G : Nat → Value} (E : EnvOK base X G) {d : Nat} (hd : 7 ≤ d) {M : mH} (H : HI base M) (w : Int) (now : Int) (h0 : TB M) (h1 : LN M) (h2 : VT M) (h3 : GK M) (h4 : 0 ≤ w ∧ w ≤ 29) : sOk base X G d T207 [vR 77, vI w, vL now] M (pL (fun v M' => HI base M' ∧ Fr [(77, 7), (77, 8), (77, 9), (77, 10), (77, 14), (77, 15), (77, 16), (77, 28), (78, 0), (83, 0), (84, 0), (85, 0), (86, 0), (87, 0), (93, 0)] M M' ∧ (LN M') ∧ (VT M') ∧ (GK M'))) := by
  have f0 : Fr [(77, 7), (77, 8), (77, 9), (77, 10), (77, 14), (77, 15), (77, 16), (77, 28), (78, 0), (83, 0), (84, 0), (85, 0), (86, 0), (87, 0), (93, 0)] M M := Fr.rf
  refine sOk.of (show sRn base X G d T207 0 [(0, vR 77), (1, vI w), (2, vL now)] [] M _ from ?_)
  refine s_blx (lv' := [(0, vR 77), (1, vI w), (2, vL now)]) (st' := [vR 77]) B207_0_1 rfl ?_
  refine r_gfix (r := 78) (pc' := 4) D207_1 rfl gf_11_13_77 H.1 ?_
  refine s_blx (lv' := [(0, vR 77), (1, vI w), (2, vL now)]) (st' := [vI (0 + w), vR 78]) B207_4_7 rfl ?_
  refine r_iald (pc' := 8) D207_7 rfl sc_78 H.1 (by omega) ?_
  intro w1 e2 r3
  have b_w1 := H.2 78 (0 + w) 0 9 (rk_load (by omega))
  rw [← e2] at b_w1; clear r3
  refine s_blx (lv' := [(4, vI w1), (0, vR 77), (1, vI w), (2, vL now)]) (st' := [vR 77]) B207_8_11 rfl ?_
  refine r_gfix (r := 78) (pc' := 14) D207_11 rfl gf_11_13_77 H.1 ?_
  refine s_blx (lv' := [(4, vI w1), (0, vR 77), (1, vI w), (2, vL now)]) (st' := [vI 0, vI (0 + w), vR 78]) B207_14_18 rfl ?_
  refine r_iast (pc' := 19) D207_18 rfl sc_78 H (by omega) (by unfold inR; omega) (by show s_in (rgK _) _; rw [rk_load (by omega)]; show 0 ≤ 0 ∧ 0 ≤ 9; omega) ?_
  intro M4 u5 H6 p7
  have f8 := f0.wr u5 rfl
  have hp9 := h1.w u5 (by omega) H
  have hp10 := h2.wr u5 (by decide)
  have hp11 := h3.w u5 (by omega) H
  refine s_blx (lv' := [(4, vI w1), (0, vR 77), (1, vI w), (2, vL now)]) (st' := [vR 77, vL now]) B207_19_21 rfl ?_
  obtain ⟨t12, ht13⟩ : ∃ q, q = gi M4 77 24 := ⟨_, rfl⟩
  have b_t12 := H6.2 77 24 0 1 rfl
  rw [← ht13] at b_t12
  have g14 : gi M4 77 24 = t12 := ht13.symm
  refine r_vL (c := 77) (args := []) (rest := [vL now]) (pc' := 24) D207_21 rfl ck_11_virtual_283 TE200 rfl (Nat.le_of_ble_eq_true rfl) ⟨Nat.le_of_ble_eq_true rfl, Nat.le_of_ble_eq_true rfl⟩ sc_77 ⟨rfl, by decide⟩ H6.1 (dp_0 hd rfl) (k200k E (dp_n hd rfl) H6 (gi M4 78) t12 ((h0.fr f8 rfl)) (hp9) (fun _ => rfl) (hp10) (by omega) (by omega)) ?_
  intro v15 M16 q21
  obtain ⟨H17, f18, q19, q20⟩ := q21
  have f22 := f8.tr (f18.up rfl)
  have hp23 := hp9.fr f18 (by decide)
  have hp24 := hp11.fr f18 (by decide)
  refine s_blx (lv' := [(5, vL (now - v15)), (4, vI w1), (0, vR 77), (1, vI w), (2, vL now)]) (st' := [vR 77]) B207_24_28 rfl ?_
  refine r_gfix (r := 78) (pc' := 31) D207_28 rfl gf_11_13_77 H17.1 ?_
  refine s_blx (lv' := [(5, vL (now - v15)), (4, vI w1), (0, vR 77), (1, vI w), (2, vL now)]) (st' := [vI w1, vI (0 + w), vR 78]) B207_31_36 rfl ?_
  refine r_iast (pc' := 37) D207_36 rfl sc_78 H17 (by omega) (by unfold inR; omega) (by show s_in (rgK _) _; rw [rk_load (by omega)]; show 0 ≤ w1 ∧ w1 ≤ 9; omega) ?_
  intro M25 u26 H27 p28
  have f29 := f22.wr u26 rfl
  have hp30 := hp23.w u26 (by omega) H17
  have hp31 := q20.wr u26 (by decide)
  have hp32 := hp24.w u26 (by omega) H17
  refine s_blx (lv' := [(5, vL (now - v15)), (4, vI w1), (0, vR 77), (1, vI w), (2, vL now)]) (st' := [vL (now - v15)]) B207_37_39 rfl ?_
  exact r_lretL D207_39 rfl (⟨H27, f29, hp30, hp31, hp32⟩)
set_option maxRecDepth 4000 in
set_option maxHeartbeats 4000000 in
theorem L_k209k {base : Nat} {X : Nat → Option mC} {G : Nat → Value} (E : EnvOK base X G) {d : Nat} (hd : 8 ≤ d) {M : mH} (H : HI base M) (w : Int) (h0 : TB M) (h1 : LN M) (h2 : VT M) (h3 : GK M) (h4 : -2147483648 ≤ w ∧ w ≤ 2147483647) : ∀ mz : Nat, (∀ (x2 x4 x5 x7 : Int) (N : mH), HI base N → Fr [(77, 7), (77, 8), (77, 9), (77, 10), (77, 14), (77, 15), (77, 16), (77, 28), (78, 0), (83, 0), (84, 0), (85, 0), (86, 0), (87, 0), (93, 0)] M N → (LN N) → (VT N) → (GK N) → ((-1) ≤ x4) → (x4 ≤ 29) → (0 ≤ x7) → (x7 ≤ 30) → ((-1) ≤ w) → (w ≤ (-1)) → (30 - x7) * 1 + 0 < (mz : Int) → sRn base X G d T209 40 [(0, vR 77), (2, vL x2), (4, vI x4), (5, vL x5), (7, vI x7)] [] N (s_Q base (pL (fun v M' => HI base M' ∧ Fr [(77, 7), (77, 8), (77, 9), (77, 10), (77, 14), (77, 15), (77, 16), (77, 28), (78, 0), (83, 0), (84, 0), (85, 0), (86, 0), (87, 0), (93, 0)] M M' ∧ (LN M') ∧ (VT M') ∧ (GK M'))))) := by
  have f0 : Fr [(77, 7), (77, 8), (77, 9), (77, 10), (77, 14), (77, 15), (77, 16), (77, 28), (78, 0), (83, 0), (84, 0), (85, 0), (86, 0), (87, 0), (93, 0)] M M := Fr.rf
  intro mz
  induction mz with
  | zero => exact fun x2 x4 x5 x7 N _ _ z0 z1 z2 z3 z4 z5 z6 z7 z8 z9 => by omega
  | succ mz ih =>
    intro x2 x4 x5 x7 N HN fN i0 i1 i2 i3 i4 i5 i6 i7 i8 hmu
    refine s_blx (lv' := [(0, vR 77), (2, vL x2), (4, vI x4), (5, vL x5), (7, vI x7)]) (st' := [vI 30, vI x7]) B209_40_44 rfl ?_
    refine r_icmp (tgt := 105) (pc' := 47) D209_44 rfl rfl (by unfold inR; omega) (fun (c31 : 30 ≤ x7) => ?_) (fun (c31 : ¬ (30 ≤ x7)) => ?_)
    · refine s_blx (lv' := [(0, vR 77), (2, vL x2), (4, vI x4), (5, vL x5), (7, vI x7)]) (st' := [vI x4]) B209_105_107 rfl ?_
      refine r_i2l (pc' := 108) D209_107 rfl (by unfold inR; omega) ?_
      exact r_lretL D209_108 rfl (⟨HN, fN, i0, i1, i2⟩)
    · refine s_blx (lv' := [(0, vR 77), (2, vL x2), (4, vI x4), (5, vL x5), (7, vI x7)]) (st' := [vI x7, vR 77]) B209_47_50 rfl ?_
      refine r_vIp (c := 77) (args := [vI x7]) (rest := []) (pc' := 53) D209_50 rfl ck_11_virtual_302 TE208 rfl (Nat.le_of_ble_eq_true rfl) ⟨Nat.le_of_ble_eq_true rfl, Nat.le_of_ble_eq_true rfl⟩ sc_77 ⟨rfl, by decide⟩ HN.1 (dp_0 hd rfl) (k208 E (dp_n hd rfl) HN x7 (by omega)) ?_
      intro v32 q35
      have q34 := q35; clear q35
      refine r_ifc (tgt := 99) (pc' := 56) D209_53 rfl rfl (by unfold inR; omega) (fun (c36 : v32 = 0) => ?_) (fun (c36 : ¬ (v32 = 0)) => ?_)
      · refine s_blx (lv' := [(7, vI (x7 + 1)), (0, vR 77), (2, vL x2), (4, vI x4), (5, vL x5)]) (st' := []) B209_99_102 rfl ?_
        refine r_goto (tgt := 40) D209_102 rfl ?_
        refine r_loc (lv' := [(0, vR 77), (2, vL x2), (4, vI x4), (5, vL x5), (7, vI (x7 + 1))]) ⟨rfl, rfl, rfl, rfl, rfl, trivial⟩ rfl rfl ?_
        exact ih x2 x4 x5 (x7 + 1) N HN fN (i0) (i1) (i2) (by omega) (by omega) (by omega) (by omega) (by omega) (by omega) (by omega)
      · refine s_blx (lv' := [(0, vR 77), (2, vL x2), (4, vI x4), (5, vL x5), (7, vI x7)]) (st' := [vR 77]) B209_56_57 rfl ?_
        refine r_gfix (r := 78) (pc' := 60) D209_57 rfl gf_11_13_77 HN.1 ?_
        refine s_blx (lv' := [(0, vR 77), (2, vL x2), (4, vI x4), (5, vL x5), (7, vI x7)]) (st' := [vI (0 + x7), vR 78]) B209_60_64 rfl ?_
        refine r_iald (pc' := 65) D209_64 rfl sc_78 HN.1 (by omega) ?_
        intro w37 e38 r39
        have b_w37 := HN.2 78 (0 + x7) 0 9 (rk_load (by omega))
        rw [← e38] at b_w37; clear r39
        refine r_ifc (tgt := 71) (pc' := 68) D209_65 rfl rfl (by unfold inR; omega) (fun (c40 : w37 ≠ 0) => ?_) (fun (c40 : ¬ (w37 ≠ 0)) => ?_)
        · refine s_blx (lv' := [(0, vR 77), (2, vL x2), (4, vI x4), (5, vL x5), (7, vI x7)]) (st' := [vL x2, vI x7, vR 77]) B209_71_75 rfl ?_
          refine r_vL (c := 77) (args := [vI x7, vL x2]) (rest := []) (pc' := 78) D209_75 rfl ck_11_virtual_298 TE207 rfl (Nat.le_of_ble_eq_true rfl) ⟨Nat.le_of_ble_eq_true rfl, Nat.le_of_ble_eq_true rfl⟩ sc_77 ⟨rfl, by decide⟩ HN.1 (dp_0 hd rfl) (k207k E (dp_n hd rfl) HN x7 x2 ((h0.fr fN rfl)) (i0) (i1) (i2) (by omega)) ?_
          intro v41 M42 q48
          obtain ⟨H43, f44, q45, q46, q47⟩ := q48
          have f49 := fN.tr (f44.up rfl)
          refine s_blx (lv' := [(8, vL v41), (0, vR 77), (2, vL x2), (4, vI x4), (5, vL x5), (7, vI x7)]) (st' := [vL x5, vL v41]) B209_78_84 rfl ?_
          refine r_lcmp (pc' := 85) D209_84 rfl ?_
          intro z50 r51 r52
          refine r_ifc (tgt := 91) (pc' := 88) D209_85 rfl rfl (by unfold inR; omega) (fun (c53 : 0 < z50) => ?_) (fun (c53 : ¬ (0 < z50)) => ?_)
          · refine s_blx (lv' := [(7, vI (x7 + 1)), (4, vI x7), (5, vL v41), (8, vL v41), (0, vR 77), (2, vL x2)]) (st' := []) B209_91_102 rfl ?_
            refine r_goto (tgt := 40) D209_102 rfl ?_
            refine r_loc (lv' := [(0, vR 77), (2, vL x2), (4, vI x7), (5, vL v41), (7, vI (x7 + 1))]) ⟨rfl, rfl, rfl, rfl, rfl, trivial⟩ rfl rfl ?_
            exact ih x2 x7 v41 (x7 + 1) M42 H43 f49 (q45) (q46) (q47) (by omega) (by omega) (by omega) (by omega) (by omega) (by omega) (by omega)
          · refine r_goto (tgt := 99) D209_88 rfl ?_
            refine s_blx (lv' := [(7, vI (x7 + 1)), (8, vL v41), (0, vR 77), (2, vL x2), (4, vI x4), (5, vL x5)]) (st' := []) B209_99_102 rfl ?_
            refine r_goto (tgt := 40) D209_102 rfl ?_
            refine r_loc (lv' := [(0, vR 77), (2, vL x2), (4, vI x4), (5, vL x5), (7, vI (x7 + 1))]) ⟨rfl, rfl, rfl, rfl, rfl, trivial⟩ rfl rfl ?_
            exact ih x2 x4 x5 (x7 + 1) M42 H43 f49 (q45) (q46) (q47) (by omega) (by omega) (by omega) (by omega) (by omega) (by omega) (by omega)
        · refine r_goto (tgt := 99) D209_68 rfl ?_
          refine s_blx (lv' := [(7, vI (x7 + 1)), (0, vR 77), (2, vL x2), (4, vI x4), (5, vL x5)]) (st' := []) B209_99_102 rfl ?_
          refine r_goto (tgt := 40) D209_102 rfl ?_
          refine r_loc (lv' := [(0, vR 77), (2, vL x2), (4, vI x4), (5, vL x5), (7, vI (x7 + 1))]) ⟨rfl, rfl, rfl, rfl, rfl, trivial⟩ rfl rfl ?_
          exact ih x2 x4 x5 (x7 + 1) N HN fN (i0) (i1) (i2) (by omega) (by omega) (by omega) (by omega) (by omega) (by omega) (by omega)
set_option maxRecDepth 4000 in
set_option maxHeartbeats 4000000 in
theorem k209k {base : Nat} {X : Nat → Option mC} {G : Nat → Value} (E : EnvOK base X G) {d : Nat} (hd : 8 ≤ d) {M : mH} (H : HI base M) (w : Int) (h0 : TB M) (h1 : LN M) (h2 : VT M) (h3 : GK M) (h4 : -2147483648 ≤ w ∧ w ≤ 2147483647) : sOk base X G d T209 [vR 77, vI w] M (pL (fun v M' => HI base M' ∧ Fr [(77, 7), (77, 8), (77, 9), (77, 10), (77, 14), (77, 15), (77, 16), (77, 28), (78, 0), (83, 0), (84, 0), (85, 0), (86, 0), (87, 0), (93, 0)] M M' ∧ (LN M') ∧ (VT M') ∧ (GK M'))) := by
  have f0 : Fr [(77, 7), (77, 8), (77, 9), (77, 10), (77, 14), (77, 15), (77, 16), (77, 28), (78, 0), (83, 0), (84, 0), (85, 0), (86, 0), (87, 0), (93, 0)] M M := Fr.rf
  refine sOk.of (show sRn base X G d T209 0 [(0, vR 77), (1, vI w)] [] M _ from ?_)
  refine s_blx (lv' := [(0, vR 77), (1, vI w)]) (st' := [vI 29, vI (-1), vI w]) B209_0_4 rfl ?_
  refine r_sIp (args := [vI w, vI (-1), vI 29]) (rest := []) (pc' := 7) D209_4 rfl ck_11_static_123 TE147 rfl (Nat.le_of_ble_eq_true rfl) ⟨Nat.le_of_ble_eq_true rfl, Nat.le_of_ble_eq_true rfl⟩ (by decide) (dp_0 hd rfl) (k147 E (dp_n hd rfl) H w (-1) 29 (by omega) (by omega) (by omega)) ?_
  intro v1 q6
  obtain ⟨q3, q4, q5⟩ := q6
  refine r_ifc (tgt := 14) (pc' := 10) D209_7 rfl rfl (by unfold inR; omega) (fun (c7 : v1 ≠ 0) => ?_) (fun (c7 : ¬ (v1 ≠ 0)) => ?_)
  · refine s_blx (lv' := [(0, vR 77), (1, vI w)]) (st' := [vR 77]) B209_14_15 rfl ?_
    obtain ⟨t8, ht9⟩ : ∃ q, q = gi M 77 24 := ⟨_, rfl⟩
    have b_t8 := H.2 77 24 0 1 rfl
    rw [← ht9] at b_t8
    have g10 : gi M 77 24 = t8 := ht9.symm
    refine r_vL (c := 77) (args := []) (rest := []) (pc' := 18) D209_15 rfl ck_11_virtual_283 TE200 rfl (Nat.le_of_ble_eq_true rfl) ⟨Nat.le_of_ble_eq_true rfl, Nat.le_of_ble_eq_true rfl⟩ sc_77 ⟨rfl, by decide⟩ H.1 (dp_0 hd rfl) (k200k E (dp_n hd rfl) H (gi M 78) t8 (h0) (h1) (fun _ => rfl) (h2) (by omega) (by omega)) ?_
    intro v11 M12 q17
    obtain ⟨H13, f14, q15, q16⟩ := q17
    have f18 := f0.tr (f14.up rfl)
    have hp19 := h1.fr f14 (by decide)
    have hp20 := h3.fr f14 (by decide)
    refine s_blx (lv' := [(2, vL v11), (0, vR 77), (1, vI w)]) (st' := [vI (-1), vI w]) B209_18_21 rfl ?_
    refine r_icmp (tgt := 31) (pc' := 24) D209_21 rfl rfl (by unfold inR; omega) (fun (c21 : w = (-1)) => ?_) (fun (c21 : ¬ (w = (-1))) => ?_)
    · refine s_blx (lv' := [(7, vI 0), (5, vL 0), (4, vI (-1)), (2, vL v11), (0, vR 77), (1, vI w)]) (st' := []) B209_31_40 rfl ?_
      refine r_loc (lv' := [(0, vR 77), (2, vL v11), (4, vI (-1)), (5, vL 0), (7, vI 0)]) ⟨rfl, rfl, rfl, rfl, rfl, trivial⟩ rfl rfl ?_
      exact (L_k209k E hd H w h0 h1 h2 h3 h4 (((30 - 0) * 1 + 0 : Int) + 1).toNat) v11 (-1) 0 0 M12 H13 f18 (hp19) (q16) (hp20) (by omega) (by omega) (by omega) (by omega) (by omega) (by omega) (by omega)
    · refine s_blx (lv' := [(2, vL v11), (0, vR 77), (1, vI w)]) (st' := [vL v11, vI w, vR 77]) B209_24_27 rfl ?_
      refine r_vL (c := 77) (args := [vI w, vL v11]) (rest := []) (pc' := 30) D209_27 rfl ck_11_virtual_298 TE207 rfl (Nat.le_of_ble_eq_true rfl) ⟨Nat.le_of_ble_eq_true rfl, Nat.le_of_ble_eq_true rfl⟩ sc_77 ⟨rfl, by decide⟩ H13.1 (dp_0 hd rfl) (k207k E (dp_n hd rfl) H13 w v11 ((h0.fr f18 rfl)) (hp19) (q16) (hp20) (by omega)) ?_
      intro v22 M23 q29
      obtain ⟨H24, f25, q26, q27, q28⟩ := q29
      have f30 := f18.tr (f25.up rfl)
      exact r_lretL D209_30 rfl (⟨H24, f30, q26, q27, q28⟩)
  · refine r_ldc2 (e := (-1)) (pc' := 13) D209_10 rfl cl_11_296 (by decide) ?_
    exact r_lretL D209_13 rfl (⟨H, f0, h1, h2, h3⟩)
set_option maxRecDepth 4000 in
set_option maxHeartbeats 4000000 in
theorem L_k167k {base : Nat} {X : Nat → Option mC} {G : Nat → Value} (E : EnvOK base X G) {d : Nat} (hd : 2 ≤ d) {M : mH} (H : HI base M) (a : Int) (b : Int) (c : Int) (h0 : LN M) (h1 : GK M) (h2 : -2147483648 ≤ a ∧ a ≤ 2147483647) (h3 : -2147483648 ≤ b ∧ b ≤ 2147483647) (h4 : -2147483648 ≤ c ∧ c ≤ 2147483647) : ∀ mz : Nat, (∀ (x4 x5 x6 : Int) (N : mH), HI base N → Fr [(77, 1), (77, 32), (78, 0)] M N → (x5 = 1 → TA x6 N) → (x5 = 1 → 1 ≤ x4 ∧ x4 ≤ 8) → (0 ≤ x4 ∧ x4 ≤ 400) → (0 ≤ x5 ∧ x5 ≤ 1) → (0 ≤ x6 ∧ x6 ≤ 400) → (LN N) → (GK N) → (0 ≤ a ∧ a ≤ 7) → (0 ≤ b ∧ b ≤ 7) → (0 ≤ c ∧ c ≤ 7) → (0 ≤ x4) → (x4 ≤ 400) → (0 ≤ x5) → (x5 ≤ 1) → (0 ≤ x6) → (x6 ≤ 400) → (0 ≤ a) → (a ≤ 7) → (0 ≤ b) → (b ≤ 7) → (0 ≤ c) → (c ≤ 7) → (400 - x6) * 1 + 31 < (mz : Int) → sRn base X G d T167 60 [(0, vR 77), (1, vI a), (2, vI b), (3, vI c), (4, vI x4), (5, vI x5), (6, vI x6)] [] N (s_Q base (pI (fun v M' => HI base M' ∧ Fr [(77, 1), (77, 32), (78, 0)] M M' ∧ (LN M') ∧ (GK M'))))) ∧ (∀ (x4 x6 x7 : Int) (N : mH), HI base N → Fr [(77, 1), (77, 32), (78, 0)] M N → (TA x4 N) → (1 ≤ x4 ∧ x4 ≤ 8) → (LN N) → (GK N) → (gi N 78 469 = x6) → (0 ≤ x6 ∧ x6 ≤ 16) → (0 ≤ x7 ∧ x7 ≤ x6) → (0 ≤ a ∧ a ≤ 7) → (0 ≤ b ∧ b ≤ 7) → (0 ≤ c ∧ c ≤ 7) → (0 ≤ x4) → (x4 ≤ 400) → (0 ≤ x6) → (x6 ≤ 16) → (0 ≤ x7) → (x7 ≤ 16) → (0 ≤ a) → (a ≤ 7) → (0 ≤ b) → (b ≤ 7) → (0 ≤ c) → (c ≤ 7) → (16 - x7) * 1 + 14 < (mz : Int) → sRn base X G d T167 118 [(0, vR 77), (1, vI a), (2, vI b), (3, vI c), (4, vI x4), (6, vI x6), (7, vI x7)] [] N (s_Q base (pI (fun v M' => HI base M' ∧ Fr [(77, 1), (77, 32), (78, 0)] M M' ∧ (LN M') ∧ (GK M'))))) ∧ (∀ (x4 x6 x7 x8 : Int) (N : mH), HI base N → Fr [(77, 1), (77, 32), (78, 0)] M N → (TA x4 N) → (1 ≤ x4 ∧ x4 ≤ 8) → (LM (x6 + 1) N) → (GK N) → (gi N 78 469 = x6) → (0 ≤ x6 ∧ x6 ≤ 15) → (x7 = 135 + 16 * x6) → (0 ≤ x8 ∧ x8 ≤ 8) → (0 ≤ a ∧ a ≤ 7) → (0 ≤ b ∧ b ≤ 7) → (0 ≤ c ∧ c ≤ 7) → (1 ≤ x4) → (x4 ≤ 8) → (0 ≤ x6) → (x6 ≤ 15) → (135 ≤ x7) → (x7 ≤ 375) → (0 ≤ x8) → (x8 ≤ 8) → (0 ≤ a) → (a ≤ 7) → (0 ≤ b) → (b ≤ 7) → (0 ≤ c) → (c ≤ 7) → (8 - x8) * 1 + 5 < (mz : Int) → sRn base X G d T167 186 [(0, vR 77), (1, vI a), (2, vI b), (3, vI c), (4, vI x4), (6, vI x6), (7, vI x7), (8, vI x8)] [] N (s_Q base (pI (fun v M' => HI base M' ∧ Fr [(77, 1), (77, 32), (78, 0)] M M' ∧ (LN M') ∧ (GK M'))))) ∧ (∀ (x6 x7 x8 : Int) (N : mH), HI base N → Fr [(77, 1), (77, 32), (78, 0)] M N → (LM (x6 + 1) N) → (GK N) → (gi N 78 469 = x6) → (0 ≤ x6 ∧ x6 ≤ 15) → (x7 = 135 + 16 * x6) → (0 ≤ x8 ∧ x8 ≤ 4) → (0 ≤ x6) → (x6 ≤ 15) → (135 ≤ x7) → (x7 ≤ 375) → (0 ≤ x8) → (x8 ≤ 4) → (0 ≤ a) → (a ≤ 7) → (0 ≤ b) → (b ≤ 7) → (0 ≤ c) → (c ≤ 7) → (4 - x8) * 1 + 0 < (mz : Int) → sRn base X G d T167 265 [(0, vR 77), (6, vI x6), (7, vI x7), (8, vI x8)] [] N (s_Q base (pI (fun v M' => HI base M' ∧ Fr [(77, 1), (77, 32), (78, 0)] M M' ∧ (LN M') ∧ (GK M'))))) := by
  have f0 : Fr [(77, 1), (77, 32), (78, 0)] M M := Fr.rf
  intro mz
  induction mz with
  | zero => exact ⟨fun x4 x5 x6 N _ _ z0 z1 z2 z3 z4 z5 z6 z7 z8 z9 z10 z11 z12 z13 z14 z15 z16 z17 z18 z19 z20 z21 z22 => by omega, fun x4 x6 x7 N _ _ z0 z1 z2 z3 z4 z5 z6 z7 z8 z9 z10 z11 z12 z13 z14 z15 z16 z17 z18 z19 z20 z21 z22 => by omega, fun x4 x6 x7 x8 N _ _ z0 z1 z2 z3 z4 z5 z6 z7 z8 z9 z10 z11 z12 z13 z14 z15 z16 z17 z18 z19 z20 z21 z22 z23 z24 z25 => by omega, fun x6 x7 x8 N _ _ z0 z1 z2 z3 z4 z5 z6 z7 z8 z9 z10 z11 z12 z13 z14 z15 z16 z17 z18 => by omega⟩
  | succ mz ih =>
    refine ⟨?_, ?_, ?_, ?_⟩
    · intro x4 x5 x6 N HN fN i0 i1 i2 i3 i4 i5 i6 i7 i8 i9 i10 i11 i12 i13 i14 i15 i16 i17 i18 i19 i20 i21 hmu
      refine s_blx (lv' := [(0, vR 77), (1, vI a), (2, vI b), (3, vI c), (4, vI x4), (5, vI x5), (6, vI x6)]) (st' := [vI x4, vI x6]) B167_60_64 rfl ?_
      refine r_icmp (tgt := 93) (pc' := 67) D167_64 rfl rfl (by unfold inR; omega) (fun (c65 : x4 ≤ x6) => ?_) (fun (c65 : ¬ (x4 ≤ x6)) => ?_)
      · refine s_blx (lv' := [(0, vR 77), (1, vI a), (2, vI b), (3, vI c), (4, vI x4), (5, vI x5), (6, vI x6)]) (st' := [vI x5]) B167_93_95 rfl ?_
        refine r_ifc (tgt := 105) (pc' := 98) D167_95 rfl rfl (by unfold inR; omega) (fun (c66 : x5 ≠ 0) => ?_) (fun (c66 : ¬ (x5 ≠ 0)) => ?_)
        · refine s_blx (lv' := [(0, vR 77), (1, vI a), (2, vI b), (3, vI c), (4, vI x4), (5, vI x5), (6, vI x6)]) (st' := [vR 77]) B167_105_106 rfl ?_
          refine r_gfix (r := 78) (pc' := 109) D167_106 rfl gf_11_13_77 HN.1 ?_
          refine s_blx (lv' := [(0, vR 77), (1, vI a), (2, vI b), (3, vI c), (4, vI x4), (5, vI x5), (6, vI x6)]) (st' := [vI 469, vR 78]) B167_109_112 rfl ?_
          refine r_iald (pc' := 113) D167_112 rfl sc_78 HN.1 (by omega) ?_
          intro w67 e68 r69
          have b_w67 := HN.2 78 (469) 0 16 (rk_many (by omega))
          rw [← e68] at b_w67; clear r69
          refine s_blx (lv' := [(7, vI 0), (6, vI w67), (0, vR 77), (1, vI a), (2, vI b), (3, vI c), (4, vI x4), (5, vI x5)]) (st' := []) B167_113_118 rfl ?_
          refine r_loc (lv' := [(0, vR 77), (1, vI a), (2, vI b), (3, vI c), (4, vI x4), (6, vI w67), (7, vI 0)]) ⟨rfl, rfl, rfl, rfl, rfl, rfl, rfl, trivial⟩ rfl rfl ?_
          exact ih.2.1 x4 w67 0 N HN fN ((i0 (by omega)).mono (by omega)) (by omega) (i5) (i6) (by omega) (by omega) (by omega) (by omega) (by omega) (by omega) (by omega) (by omega) (by omega) (by omega) (by omega) (by omega) (by omega) (by omega) (by omega) (by omega) (by omega) (by omega) (by omega)
        · refine s_blx (lv' := [(0, vR 77), (1, vI a), (2, vI b), (3, vI c), (4, vI x4), (5, vI x5), (6, vI x6)]) (st' := [vI (-6), vR 77]) B167_98_101 rfl ?_
          refine r_vI (c := 77) (args := [vI (-6)]) (rest := []) (pc' := 104) D167_101 rfl ck_11_virtual_127 TE148 rfl (Nat.le_of_ble_eq_true rfl) ⟨Nat.le_of_ble_eq_true rfl, Nat.le_of_ble_eq_true rfl⟩ sc_77 ⟨rfl, by decide⟩ HN.1 (dp_0 hd rfl) (k148 E (dp_n hd rfl) HN (-6) (by omega)) ?_
          intro v70 M71 q75
          obtain ⟨H72, f73, q74⟩ := q75
          have f76 := fN.tr (f73.up rfl)
          have hp77 := i5.fr f73 (by decide)
          have hp78 := i6.fr f73 (by decide)
          exact r_iretI D167_104 rfl (⟨H72, f76, hp77, hp78⟩)
      · refine s_blx (lv' := [(0, vR 77), (1, vI a), (2, vI b), (3, vI c), (4, vI x4), (5, vI x5), (6, vI x6)]) (st' := [vI x5]) B167_67_69 rfl ?_
        refine r_ifc (tgt := 93) (pc' := 72) D167_69 rfl rfl (by unfold inR; omega) (fun (c79 : x5 = 0) => ?_) (fun (c79 : ¬ (x5 = 0)) => ?_)
        · refine s_blx (lv' := [(0, vR 77), (1, vI a), (2, vI b), (3, vI c), (4, vI x4), (5, vI x5), (6, vI x6)]) (st' := [vI x5]) B167_93_95 rfl ?_
          refine r_ifc (tgt := 105) (pc' := 98) D167_95 rfl rfl (by unfold inR; omega) (fun (c80 : x5 ≠ 0) => ?_) (fun (c80 : ¬ (x5 ≠ 0)) => ?_)
          · exfalso; omega
          · refine s_blx (lv' := [(0, vR 77), (1, vI a), (2, vI b), (3, vI c), (4, vI x4), (5, vI x5), (6, vI x6)]) (st' := [vI (-6), vR 77]) B167_98_101 rfl ?_
            refine r_vI (c := 77) (args := [vI (-6)]) (rest := []) (pc' := 104) D167_101 rfl ck_11_virtual_127 TE148 rfl (Nat.le_of_ble_eq_true rfl) ⟨Nat.le_of_ble_eq_true rfl, Nat.le_of_ble_eq_true rfl⟩ sc_77 ⟨rfl, by decide⟩ HN.1 (dp_0 hd rfl) (k148 E (dp_n hd rfl) HN (-6) (by omega)) ?_
            intro v81 M82 q86
            obtain ⟨H83, f84, q85⟩ := q86
            have f87 := fN.tr (f84.up rfl)
            have hp88 := i5.fr f84 (by decide)
            have hp89 := i6.fr f84 (by decide)
            exact r_iretI D167_104 rfl (⟨H83, f87, hp88, hp89⟩)
        · refine s_blx (lv' := [(0, vR 77), (1, vI a), (2, vI b), (3, vI c), (4, vI x4), (5, vI x5), (6, vI x6)]) (st' := [vR 77]) B167_72_73 rfl ?_
          refine r_gfix (r := 95) (pc' := 76) D167_73 rfl gf_11_69_77 HN.1 ?_
          refine s_blx (lv' := [(0, vR 77), (1, vI a), (2, vI b), (3, vI c), (4, vI x4), (5, vI x5), (6, vI x6)]) (st' := [vI x6, vR 95]) B167_76_78 rfl ?_
          refine r_bald (pc' := 79) D167_78 rfl sc_95 (by decide) HN.1 (by omega) ?_
          intro w90 e91 r92
          have b_w90 := HN.2 95 (x6) (-128) 127 rfl
          rw [← e91] at b_w90; clear r92
          have ke := e91
          refine s_blx (lv' := [(0, vR 77), (1, vI a), (2, vI b), (3, vI c), (4, vI x4), (5, vI x5), (6, vI x6)]) (st' := [vI 29, vI 0, vI w90]) B167_79_82 rfl ?_
          refine r_sIp (args := [vI w90, vI 0, vI 29]) (rest := []) (pc' := 85) D167_82 rfl ck_11_static_123 TE147 rfl (Nat.le_of_ble_eq_true rfl) ⟨Nat.le_of_ble_eq_true rfl, Nat.le_of_ble_eq_true rfl⟩ (by decide) (dp_0 hd rfl) (k147 E (dp_n hd rfl) HN w90 0 29 (by omega) (by omega) (by omega)) ?_
          intro v93 q98
          obtain ⟨q95, q96, q97⟩ := q98
          have kiv : v93 = 1 → 0 ≤ gi N 95 x6 ∧ gi N 95 x6 ≤ 29 := fun h => by rw [← ke]; exact q96 h
          refine s_blx (lv' := [(6, vI (x6 + 1)), (5, vI v93), (0, vR 77), (1, vI a), (2, vI b), (3, vI c), (4, vI x4)]) (st' := []) B167_85_90 rfl ?_
          refine r_goto (tgt := 60) D167_90 rfl ?_
          refine r_loc (lv' := [(0, vR 77), (1, vI a), (2, vI b), (3, vI c), (4, vI x4), (5, vI v93), (6, vI (x6 + 1))]) ⟨rfl, rfl, rfl, rfl, rfl, rfl, rfl, trivial⟩ rfl rfl ?_
          exact ih.1 x4 v93 (x6 + 1) N HN fN (fun h => (i0 (by omega)).next (by have kin := kiv h; omega)) (by omega) (by omega) (by omega) (by omega) (i5) (i6) (by omega) (by omega) (by omega) (by omega) (by omega) (by omega) (by omega) (by omega) (by omega) (by omega) (by omega) (by omega) (by omega) (by omega) (by omega) (by omega)
    · intro x4 x6 x7 N HN fN i0 i1 i2 i3 i4 i5 i6 i7 i8 i9 i10 i11 i12 i13 i14 i15 i16 i17 i18 i19 i20 i21 hmu
      refine s_blx (lv' := [(0, vR 77), (1, vI a), (2, vI b), (3, vI c), (4, vI x4), (6, vI x6), (7, vI x7)]) (st' := [vI x6, vI x7]) B167_118_122 rfl ?_
      refine r_icmp (tgt := 149) (pc' := 125) D167_122 rfl rfl (by unfold inR; omega) (fun (c99 : x6 ≤ x7) => ?_) (fun (c99 : ¬ (x6 ≤ x7)) => ?_)
      · refine s_blx (lv' := [(0, vR 77), (1, vI a), (2, vI b), (3, vI c), (4, vI x4), (6, vI x6), (7, vI x7)]) (st' := [vI 16, vI x6]) B167_149_153 rfl ?_
        refine r_icmp (tgt := 163) (pc' := 156) D167_153 rfl rfl (by unfold inR; omega) (fun (c100 : x6 ≠ 16) => ?_) (fun (c100 : ¬ (x6 ≠ 16)) => ?_)
        · refine s_blx (lv' := [(7, vI (135 + (16 * x6))), (0, vR 77), (1, vI a), (2, vI b), (3, vI c), (4, vI x4), (6, vI x6)]) (st' := [vR 77]) B167_163_175 rfl ?_
          refine r_gfix (r := 78) (pc' := 178) D167_175 rfl gf_11_13_77 HN.1 ?_
          refine s_blx (lv' := [(7, vI (135 + (16 * x6))), (0, vR 77), (1, vI a), (2, vI b), (3, vI c), (4, vI x4), (6, vI x6)]) (st' := [vI x4, vI (135 + (16 * x6)), vR 78]) B167_178_182 rfl ?_
          refine r_iast (pc' := 183) D167_182 rfl sc_78 HN (by omega) (by unfold inR; omega) (by show s_in (rgK _) _; rw [rk_len (by omega)]; show 0 ≤ x4 ∧ x4 ≤ 8; omega) ?_
          intro M101 u102 H103 p104
          have f105 := fN.wr u102 rfl
          have hp106 := i0.wr u102 (by decide)
          have hp107 := i3.w u102 (by omega) HN
          have klm := i2.grow i4 (by omega) u102 p104 (by omega)
          refine s_blx (lv' := [(8, vI 0), (7, vI (135 + (16 * x6))), (0, vR 77), (1, vI a), (2, vI b), (3, vI c), (4, vI x4), (6, vI x6)]) (st' := []) B167_183_186 rfl ?_
          refine r_loc (lv' := [(0, vR 77), (1, vI a), (2, vI b), (3, vI c), (4, vI x4), (6, vI x6), (7, vI (135 + (16 * x6))), (8, vI 0)]) ⟨rfl, rfl, rfl, rfl, rfl, rfl, rfl, rfl, trivial⟩ rfl rfl ?_
          have g108 : gi M101 78 469 = gi N 78 469 := (u102.gi_ne (by omega) (Or.inr (by omega))).trans (rfl)
          exact ih.2.2.1 x4 x6 (135 + (16 * x6)) 0 M101 H103 f105 (hp106) (by omega) (klm) (hp107) (by omega) (by omega) (by omega) (by omega) (by omega) (by omega) (by omega) (by omega) (by omega) (by omega) (by omega) (by omega) (by omega) (by omega) (by omega) (by omega) (by omega) (by omega) (by omega) (by omega) (by omega) (by omega)
        · refine s_blx (lv' := [(0, vR 77), (1, vI a), (2, vI b), (3, vI c), (4, vI x4), (6, vI x6), (7, vI x7)]) (st' := [vI (-5), vR 77]) B167_156_159 rfl ?_
          refine r_vI (c := 77) (args := [vI (-5)]) (rest := []) (pc' := 162) D167_159 rfl ck_11_virtual_127 TE148 rfl (Nat.le_of_ble_eq_true rfl) ⟨Nat.le_of_ble_eq_true rfl, Nat.le_of_ble_eq_true rfl⟩ sc_77 ⟨rfl, by decide⟩ HN.1 (dp_0 hd rfl) (k148 E (dp_n hd rfl) HN (-5) (by omega)) ?_
          intro v109 M110 q114
          obtain ⟨H111, f112, q113⟩ := q114
          have f115 := fN.tr (f112.up rfl)
          have hp116 := i0.fr f112 (by decide)
          have hp117 := i2.fr f112 (by decide)
          have hp118 := i3.fr f112 (by decide)
          exact r_iretI D167_162 rfl (⟨H111, f115, hp117, hp118⟩)
      · refine s_blx (lv' := [(0, vR 77), (1, vI a), (2, vI b), (3, vI c), (4, vI x4), (6, vI x6), (7, vI x7)]) (st' := [vI x4, vI x7, vR 77]) B167_125_130 rfl ?_
        refine r_vIp (c := 77) (args := [vI x7, vI x4]) (rest := []) (pc' := 133) D167_130 rfl ck_11_virtual_154 TE166 rfl (Nat.le_of_ble_eq_true rfl) ⟨Nat.le_of_ble_eq_true rfl, Nat.le_of_ble_eq_true rfl⟩ sc_77 ⟨rfl, by decide⟩ HN.1 (dp_0 hd rfl) (k166 E (dp_n hd rfl) HN x7 x4 (by omega) (by omega)) ?_
        intro v119 q122
        have q121 := q122; clear q122
        refine r_ifc (tgt := 143) (pc' := 136) D167_133 rfl rfl (by unfold inR; omega) (fun (c123 : v119 = 0) => ?_) (fun (c123 : ¬ (v119 = 0)) => ?_)
        · refine s_blx (lv' := [(7, vI (x7 + 1)), (0, vR 77), (1, vI a), (2, vI b), (3, vI c), (4, vI x4), (6, vI x6)]) (st' := []) B167_143_146 rfl ?_
          refine r_goto (tgt := 118) D167_146 rfl ?_
          refine r_loc (lv' := [(0, vR 77), (1, vI a), (2, vI b), (3, vI c), (4, vI x4), (6, vI x6), (7, vI (x7 + 1))]) ⟨rfl, rfl, rfl, rfl, rfl, rfl, rfl, trivial⟩ rfl rfl ?_
          exact ih.2.1 x4 x6 (x7 + 1) N HN fN (i0) (by omega) (i2) (i3) (by omega) (by omega) (by omega) (by omega) (by omega) (by omega) (by omega) (by omega) (by omega) (by omega) (by omega) (by omega) (by omega) (by omega) (by omega) (by omega) (by omega) (by omega) (by omega)
        · refine s_blx (lv' := [(0, vR 77), (1, vI a), (2, vI b), (3, vI c), (4, vI x4), (6, vI x6), (7, vI x7)]) (st' := [vI (-4), vR 77]) B167_136_139 rfl ?_
          refine r_vI (c := 77) (args := [vI (-4)]) (rest := []) (pc' := 142) D167_139 rfl ck_11_virtual_127 TE148 rfl (Nat.le_of_ble_eq_true rfl) ⟨Nat.le_of_ble_eq_true rfl, Nat.le_of_ble_eq_true rfl⟩ sc_77 ⟨rfl, by decide⟩ HN.1 (dp_0 hd rfl) (k148 E (dp_n hd rfl) HN (-4) (by omega)) ?_
          intro v124 M125 q129
          obtain ⟨H126, f127, q128⟩ := q129
          have f130 := fN.tr (f127.up rfl)
          have hp131 := i0.fr f127 (by decide)
          have hp132 := i2.fr f127 (by decide)
          have hp133 := i3.fr f127 (by decide)
          exact r_iretI D167_142 rfl (⟨H126, f130, hp132, hp133⟩)
    · intro x4 x6 x7 x8 N HN fN i0 i1 i2 i3 i4 i5 i6 i7 i8 i9 i10 i11 i12 i13 i14 i15 i16 i17 i18 i19 i20 i21 i22 i23 i24 hmu
      refine s_blx (lv' := [(0, vR 77), (1, vI a), (2, vI b), (3, vI c), (4, vI x4), (6, vI x6), (7, vI x7), (8, vI x8)]) (st' := [vI 8, vI x8]) B167_186_190 rfl ?_
      refine r_icmp (tgt := 229) (pc' := 193) D167_190 rfl rfl (by unfold inR; omega) (fun (c134 : 8 ≤ x8) => ?_) (fun (c134 : ¬ (8 ≤ x8)) => ?_)
      · refine s_blx (lv' := [(0, vR 77), (1, vI a), (2, vI b), (3, vI c), (4, vI x4), (6, vI x6), (7, vI x7), (8, vI x8)]) (st' := [vR 77]) B167_229_230 rfl ?_
        refine r_gfix (r := 78) (pc' := 233) D167_230 rfl gf_11_13_77 HN.1 ?_
        refine s_blx (lv' := [(0, vR 77), (1, vI a), (2, vI b), (3, vI c), (4, vI x4), (6, vI x6), (7, vI x7), (8, vI x8)]) (st' := [vI a, vI (x7 + 9), vR 78]) B167_233_239 rfl ?_
        refine r_iast (pc' := 240) D167_239 rfl sc_78 HN (by omega) (by unfold inR; omega) (by show s_in (rgK _) _; rw [rk_val (by omega)]; show 0 ≤ a ∧ a ≤ 7; omega) ?_
        intro M135 u136 H137 p138
        have f139 := fN.wr u136 rfl
        have hp140 := i0.wr u136 (by decide)
        have hp141 := i2.w u136 (by omega) HN
        have hp142 := i3.w u136 (by omega) HN
        refine s_blx (lv' := [(0, vR 77), (1, vI a), (2, vI b), (3, vI c), (4, vI x4), (6, vI x6), (7, vI x7), (8, vI x8)]) (st' := [vR 77]) B167_240_241 rfl ?_
        refine r_gfix (r := 78) (pc' := 244) D167_241 rfl gf_11_13_77 H137.1 ?_
        refine s_blx (lv' := [(0, vR 77), (1, vI a), (2, vI b), (3, vI c), (4, vI x4), (6, vI x6), (7, vI x7), (8, vI x8)]) (st' := [vI b, vI (x7 + 10), vR 78]) B167_244_250 rfl ?_
        refine r_iast (pc' := 251) D167_250 rfl sc_78 H137 (by omega) (by unfold inR; omega) (by show s_in (rgK _) _; rw [rk_val (by omega)]; show 0 ≤ b ∧ b ≤ 7; omega) ?_
        intro M143 u144 H145 p146
        have f147 := f139.wr u144 rfl
        have hp148 := hp140.wr u144 (by decide)
        have hp149 := hp141.w u144 (by omega) H137
        have hp150 := hp142.w u144 (by omega) H137
        refine s_blx (lv' := [(0, vR 77), (1, vI a), (2, vI b), (3, vI c), (4, vI x4), (6, vI x6), (7, vI x7), (8, vI x8)]) (st' := [vR 77]) B167_251_252 rfl ?_
        refine r_gfix (r := 78) (pc' := 255) D167_252 rfl gf_11_13_77 H145.1 ?_
        refine s_blx (lv' := [(0, vR 77), (1, vI a), (2, vI b), (3, vI c), (4, vI x4), (6, vI x6), (7, vI x7), (8, vI x8)]) (st' := [vI c, vI (x7 + 11), vR 78]) B167_255_261 rfl ?_
        refine r_iast (pc' := 262) D167_261 rfl sc_78 H145 (by omega) (by unfold inR; omega) (by show s_in (rgK _) _; rw [rk_val (by omega)]; show 0 ≤ c ∧ c ≤ 7; omega) ?_
        intro M151 u152 H153 p154
        have f155 := f147.wr u152 rfl
        have hp156 := hp148.wr u152 (by decide)
        have hp157 := hp149.w u152 (by omega) H145
        have hp158 := hp150.w u152 (by omega) H145
        refine s_blx (lv' := [(8, vI 0), (0, vR 77), (1, vI a), (2, vI b), (3, vI c), (4, vI x4), (6, vI x6), (7, vI x7)]) (st' := []) B167_262_265 rfl ?_
        refine r_loc (lv' := [(0, vR 77), (6, vI x6), (7, vI x7), (8, vI 0)]) ⟨rfl, rfl, rfl, rfl, trivial⟩ rfl rfl ?_
        have g159 : gi M151 78 469 = gi N 78 469 := (u152.gi_ne (by omega) (Or.inr (by omega))).trans ((u144.gi_ne (by omega) (Or.inr (by omega))).trans ((u136.gi_ne (by omega) (Or.inr (by omega))).trans (rfl)))
        exact ih.2.2.2 x6 x7 0 M151 H153 f155 (hp157) (hp158) (by omega) (by omega) (by omega) (by omega) (by omega) (by omega) (by omega) (by omega) (by omega) (by omega) (by omega) (by omega) (by omega) (by omega) (by omega) (by omega) (by omega)
      · refine s_blx (lv' := [(0, vR 77), (1, vI a), (2, vI b), (3, vI c), (4, vI x4), (6, vI x6), (7, vI x7), (8, vI x8)]) (st' := [vR 77]) B167_193_194 rfl ?_
        refine r_gfix (r := 78) (pc' := 197) D167_194 rfl gf_11_13_77 HN.1 ?_
        refine s_blx (lv' := [(0, vR 77), (1, vI a), (2, vI b), (3, vI c), (4, vI x4), (6, vI x6), (7, vI x7), (8, vI x8)]) (st' := [vI x4, vI x8, vI ((x7 + 1) + x8), vR 78]) B167_197_208 rfl ?_
        refine r_icmp (tgt := 221) (pc' := 211) D167_208 rfl rfl (by unfold inR; omega) (fun (c160 : x4 ≤ x8) => ?_) (fun (c160 : ¬ (x4 ≤ x8)) => ?_)
        · refine s_blx (lv' := [(0, vR 77), (1, vI a), (2, vI b), (3, vI c), (4, vI x4), (6, vI x6), (7, vI x7), (8, vI x8)]) (st' := [vI 0, vI ((x7 + 1) + x8), vR 78]) B167_221_222 rfl ?_
          refine r_iast (pc' := 223) D167_222 rfl sc_78 HN (by omega) (by unfold inR; omega) (by show s_in (rgK _) _; rw [rk_word (by omega)]; show 0 ≤ 0 ∧ 0 ≤ 29; omega) ?_
          intro M161 u162 H163 p164
          have f165 := fN.wr u162 rfl
          have hp166 := i0.wr u162 (by decide)
          have hp167 := i2.w u162 (by omega) HN
          have hp168 := i3.w u162 (by omega) HN
          refine s_blx (lv' := [(8, vI (x8 + 1)), (0, vR 77), (1, vI a), (2, vI b), (3, vI c), (4, vI x4), (6, vI x6), (7, vI x7)]) (st' := []) B167_223_226 rfl ?_
          refine r_goto (tgt := 186) D167_226 rfl ?_
          refine r_loc (lv' := [(0, vR 77), (1, vI a), (2, vI b), (3, vI c), (4, vI x4), (6, vI x6), (7, vI x7), (8, vI (x8 + 1))]) ⟨rfl, rfl, rfl, rfl, rfl, rfl, rfl, rfl, trivial⟩ rfl rfl ?_
          have g169 : gi M161 78 469 = gi N 78 469 := (u162.gi_ne (by omega) (Or.inr (by omega))).trans (rfl)
          exact ih.2.2.1 x4 x6 x7 (x8 + 1) M161 H163 f165 (hp166) (by omega) (hp167) (hp168) (by omega) (by omega) (by omega) (by omega) (by omega) (by omega) (by omega) (by omega) (by omega) (by omega) (by omega) (by omega) (by omega) (by omega) (by omega) (by omega) (by omega) (by omega) (by omega) (by omega) (by omega) (by omega)
        · refine s_blx (lv' := [(0, vR 77), (1, vI a), (2, vI b), (3, vI c), (4, vI x4), (6, vI x6), (7, vI x7), (8, vI x8)]) (st' := [vR 77, vI ((x7 + 1) + x8), vR 78]) B167_211_212 rfl ?_
          refine r_gfix (r := 95) (pc' := 215) D167_212 rfl gf_11_69_77 HN.1 ?_
          refine s_blx (lv' := [(0, vR 77), (1, vI a), (2, vI b), (3, vI c), (4, vI x4), (6, vI x6), (7, vI x7), (8, vI x8)]) (st' := [vI x8, vR 95, vI ((x7 + 1) + x8), vR 78]) B167_215_217 rfl ?_
          refine r_bald (pc' := 218) D167_217 rfl sc_95 (by decide) HN.1 (by omega) ?_
          intro w170 e171 r172
          have b_w170 := HN.2 95 (x8) (-128) 127 rfl
          rw [← e171] at b_w170; clear r172
          have kta := i0 x8 (by omega) (by omega)
          rw [← e171] at kta
          refine r_goto (tgt := 222) D167_218 rfl ?_
          refine r_iast (pc' := 223) D167_222 rfl sc_78 HN (by omega) (by unfold inR; omega) (by show s_in (rgK _) _; rw [rk_word (by omega)]; show 0 ≤ w170 ∧ w170 ≤ 29; omega) ?_
          intro M173 u174 H175 p176
          have f177 := fN.wr u174 rfl
          have hp178 := i0.wr u174 (by decide)
          have hp179 := i2.w u174 (by omega) HN
          have hp180 := i3.w u174 (by omega) HN
          refine s_blx (lv' := [(8, vI (x8 + 1)), (0, vR 77), (1, vI a), (2, vI b), (3, vI c), (4, vI x4), (6, vI x6), (7, vI x7)]) (st' := []) B167_223_226 rfl ?_
          refine r_goto (tgt := 186) D167_226 rfl ?_
          refine r_loc (lv' := [(0, vR 77), (1, vI a), (2, vI b), (3, vI c), (4, vI x4), (6, vI x6), (7, vI x7), (8, vI (x8 + 1))]) ⟨rfl, rfl, rfl, rfl, rfl, rfl, rfl, rfl, trivial⟩ rfl rfl ?_
          have g181 : gi M173 78 469 = gi N 78 469 := (u174.gi_ne (by omega) (Or.inr (by omega))).trans (rfl)
          exact ih.2.2.1 x4 x6 x7 (x8 + 1) M173 H175 f177 (hp178) (by omega) (hp179) (hp180) (by omega) (by omega) (by omega) (by omega) (by omega) (by omega) (by omega) (by omega) (by omega) (by omega) (by omega) (by omega) (by omega) (by omega) (by omega) (by omega) (by omega) (by omega) (by omega) (by omega) (by omega) (by omega)
    · intro x6 x7 x8 N HN fN i0 i1 i2 i3 i4 i5 i6 i7 i8 i9 i10 i11 i12 i13 i14 i15 i16 i17 hmu
      refine s_blx (lv' := [(0, vR 77), (6, vI x6), (7, vI x7), (8, vI x8)]) (st' := [vI 4, vI x8]) B167_265_268 rfl ?_
      refine r_icmp (tgt := 291) (pc' := 271) D167_268 rfl rfl (by unfold inR; omega) (fun (c182 : 4 ≤ x8) => ?_) (fun (c182 : ¬ (4 ≤ x8)) => ?_)
      · refine s_blx (lv' := [(0, vR 77), (6, vI x6), (7, vI x7), (8, vI x8)]) (st' := [vR 77]) B167_291_292 rfl ?_
        refine r_gfix (r := 78) (pc' := 295) D167_292 rfl gf_11_13_77 HN.1 ?_
        refine s_blx (lv' := [(0, vR 77), (6, vI x6), (7, vI x7), (8, vI x8)]) (st' := [vI 469, vR 78, vI 469, vR 78]) B167_295_299 rfl ?_
        refine r_iald (pc' := 300) D167_299 rfl sc_78 HN.1 (by omega) ?_
        intro w183 e184 r185
        have b_w183 := HN.2 78 (469) 0 16 (rk_many (by omega))
        rw [← e184] at b_w183; clear r185
        refine s_blx (lv' := [(0, vR 77), (6, vI x6), (7, vI x7), (8, vI x8)]) (st' := [vI (w183 + 1), vI 469, vR 78]) B167_300_302 rfl ?_
        refine r_iast (pc' := 303) D167_302 rfl sc_78 HN (by omega) (by unfold inR; omega) (by show s_in (rgK _) _; rw [rk_many (by omega)]; show 0 ≤ (w183 + 1) ∧ (w183 + 1) ≤ 16; omega) ?_
        intro M186 u187 H188 p189
        have f190 := fN.wr u187 rfl
        have hp191 := i0.w u187 (by omega) HN
        have hp192 := i1.w u187 (by omega) HN
        have kln : LN M186 := hp191.ln (by rw [p189]; omega)
        refine s_blx (lv' := [(0, vR 77), (6, vI x6), (7, vI x7), (8, vI x8)]) (st' := [vI x6, vR 77]) B167_303_306 rfl ?_
        refine r_vI (c := 77) (args := [vI x6]) (rest := []) (pc' := 309) D167_306 rfl ck_11_virtual_131 TE149 rfl (Nat.le_of_ble_eq_true rfl) ⟨Nat.le_of_ble_eq_true rfl, Nat.le_of_ble_eq_true rfl⟩ sc_77 ⟨rfl, by decide⟩ H188.1 (dp_0 hd rfl) (k149 E (dp_n hd rfl) H188 x6 (by omega)) ?_
        intro v193 M194 q198
        obtain ⟨H195, f196, q197⟩ := q198
        have f199 := f190.tr (f196.up rfl)
        have hp200 := hp191.fr f196 (by decide)
        have hp201 := hp192.fr f196 (by decide)
        have hp202 := kln.fr f196 (by decide)
        exact r_iretI D167_309 rfl (⟨H195, f199, hp202, hp201⟩)
      · refine s_blx (lv' := [(0, vR 77), (6, vI x6), (7, vI x7), (8, vI x8)]) (st' := [vR 77]) B167_271_272 rfl ?_
        refine r_gfix (r := 78) (pc' := 275) D167_272 rfl gf_11_13_77 HN.1 ?_
        refine s_blx (lv' := [(0, vR 77), (6, vI x6), (7, vI x7), (8, vI x8)]) (st' := [vI 1, vI ((x7 + 12) + x8), vR 78]) B167_275_284 rfl ?_
        refine r_iast (pc' := 285) D167_284 rfl sc_78 HN (by omega) (by unfold inR; omega) (by show s_in (rgK _) _; rw [rk_wgt (by omega)]; show 0 ≤ 1 ∧ 1 ≤ 100; omega) ?_
        intro M203 u204 H205 p206
        have f207 := fN.wr u204 rfl
        have hp208 := i0.w u204 (by omega) HN
        have hp209 := i1.w u204 (by omega) HN
        refine s_blx (lv' := [(8, vI (x8 + 1)), (0, vR 77), (6, vI x6), (7, vI x7)]) (st' := []) B167_285_288 rfl ?_
        refine r_goto (tgt := 265) D167_288 rfl ?_
        refine r_loc (lv' := [(0, vR 77), (6, vI x6), (7, vI x7), (8, vI (x8 + 1))]) ⟨rfl, rfl, rfl, rfl, trivial⟩ rfl rfl ?_
        have g210 : gi M203 78 469 = gi N 78 469 := (u204.gi_ne (by omega) (Or.inr (by omega))).trans (rfl)
        exact ih.2.2.2 x6 x7 (x8 + 1) M203 H205 f207 (hp208) (hp209) (by omega) (by omega) (by omega) (by omega) (by omega) (by omega) (by omega) (by omega) (by omega) (by omega) (by omega) (by omega) (by omega) (by omega) (by omega) (by omega) (by omega)
set_option maxRecDepth 4000 in
set_option maxHeartbeats 4000000 in
theorem k167k {base : Nat} {X : Nat → Option mC} {G : Nat → Value} (E : EnvOK base X G) {d : Nat} (hd : 2 ≤ d) {M : mH} (H : HI base M) (a : Int) (b : Int) (c : Int) (h0 : LN M) (h1 : GK M) (h2 : -2147483648 ≤ a ∧ a ≤ 2147483647) (h3 : -2147483648 ≤ b ∧ b ≤ 2147483647) (h4 : -2147483648 ≤ c ∧ c ≤ 2147483647) : sOk base X G d T167 [vR 77, vI a, vI b, vI c] M (pI (fun v M' => HI base M' ∧ Fr [(77, 1), (77, 32), (78, 0)] M M' ∧ (LN M') ∧ (GK M'))) := by
  have f0 : Fr [(77, 1), (77, 32), (78, 0)] M M := Fr.rf
  refine sOk.of (show sRn base X G d T167 0 [(0, vR 77), (1, vI a), (2, vI b), (3, vI c)] [] M _ from ?_)
  refine s_blx (lv' := [(0, vR 77), (1, vI a), (2, vI b), (3, vI c)]) (st' := [vR 77]) B167_0_1 rfl ?_
  refine r_gint (ki := 31) (pc' := 4) D167_1 rfl gf_11_151_77 rfl H.1 ?_
  intro w1 e2 r3
  have b_w1 := H.2 77 (31) 0 400 rfl
  rw [← e2] at b_w1; clear r3
  refine s_blx (lv' := [(4, vI w1), (0, vR 77), (1, vI a), (2, vI b), (3, vI c)]) (st' := [vI 0, vR 77]) B167_4_8 rfl ?_
  refine r_pint (ki := 31) (pc' := 11) D167_8 rfl pf_11_151_77 rfl H (by unfold inR; omega) (show 0 ≤ 0 ∧ 0 ≤ 400 by omega) ?_
  intro M4 u5 H6 p7
  have f8 := f0.wr u5 rfl
  have hp9 := h0.wr u5 (by decide)
  have hp10 := h1.wr u5 (by decide)
  refine s_blx (lv' := [(4, vI w1), (0, vR 77), (1, vI a), (2, vI b), (3, vI c)]) (st' := [vI 7, vI 0, vI a]) B167_11_15 rfl ?_
  refine r_sIp (args := [vI a, vI 0, vI 7]) (rest := []) (pc' := 18) D167_15 rfl ck_11_static_123 TE147 rfl (Nat.le_of_ble_eq_true rfl) ⟨Nat.le_of_ble_eq_true rfl, Nat.le_of_ble_eq_true rfl⟩ (by decide) (dp_0 hd rfl) (k147 E (dp_n hd rfl) H6 a 0 7 (by omega) (by omega) (by omega)) ?_
  intro v11 q16
  obtain ⟨q13, q14, q15⟩ := q16
  refine r_ifc (tgt := 41) (pc' := 21) D167_18 rfl rfl (by unfold inR; omega) (fun (c17 : v11 = 0) => ?_) (fun (c17 : ¬ (v11 = 0)) => ?_)
  · refine s_blx (lv' := [(4, vI w1), (0, vR 77), (1, vI a), (2, vI b), (3, vI c)]) (st' := [vI (-1), vR 77]) B167_41_43 rfl ?_
    refine r_vI (c := 77) (args := [vI (-1)]) (rest := []) (pc' := 46) D167_43 rfl ck_11_virtual_127 TE148 rfl (Nat.le_of_ble_eq_true rfl) ⟨Nat.le_of_ble_eq_true rfl, Nat.le_of_ble_eq_true rfl⟩ sc_77 ⟨rfl, by decide⟩ H6.1 (dp_0 hd rfl) (k148 E (dp_n hd rfl) H6 (-1) (by omega)) ?_
    intro v18 M19 q23
    obtain ⟨H20, f21, q22⟩ := q23
    have f24 := f8.tr (f21.up rfl)
    have hp25 := hp9.fr f21 (by decide)
    have hp26 := hp10.fr f21 (by decide)
    exact r_iretI D167_46 rfl (⟨H20, f24, hp25, hp26⟩)
  · refine s_blx (lv' := [(4, vI w1), (0, vR 77), (1, vI a), (2, vI b), (3, vI c)]) (st' := [vI 7, vI 0, vI b]) B167_21_25 rfl ?_
    refine r_sIp (args := [vI b, vI 0, vI 7]) (rest := []) (pc' := 28) D167_25 rfl ck_11_static_123 TE147 rfl (Nat.le_of_ble_eq_true rfl) ⟨Nat.le_of_ble_eq_true rfl, Nat.le_of_ble_eq_true rfl⟩ (by decide) (dp_0 hd rfl) (k147 E (dp_n hd rfl) H6 b 0 7 (by omega) (by omega) (by omega)) ?_
    intro v27 q32
    obtain ⟨q29, q30, q31⟩ := q32
    refine r_ifc (tgt := 41) (pc' := 31) D167_28 rfl rfl (by unfold inR; omega) (fun (c33 : v27 = 0) => ?_) (fun (c33 : ¬ (v27 = 0)) => ?_)
    · refine s_blx (lv' := [(4, vI w1), (0, vR 77), (1, vI a), (2, vI b), (3, vI c)]) (st' := [vI (-1), vR 77]) B167_41_43 rfl ?_
      refine r_vI (c := 77) (args := [vI (-1)]) (rest := []) (pc' := 46) D167_43 rfl ck_11_virtual_127 TE148 rfl (Nat.le_of_ble_eq_true rfl) ⟨Nat.le_of_ble_eq_true rfl, Nat.le_of_ble_eq_true rfl⟩ sc_77 ⟨rfl, by decide⟩ H6.1 (dp_0 hd rfl) (k148 E (dp_n hd rfl) H6 (-1) (by omega)) ?_
      intro v34 M35 q39
      obtain ⟨H36, f37, q38⟩ := q39
      have f40 := f8.tr (f37.up rfl)
      have hp41 := hp9.fr f37 (by decide)
      have hp42 := hp10.fr f37 (by decide)
      exact r_iretI D167_46 rfl (⟨H36, f40, hp41, hp42⟩)
    · refine s_blx (lv' := [(4, vI w1), (0, vR 77), (1, vI a), (2, vI b), (3, vI c)]) (st' := [vI 7, vI 0, vI c]) B167_31_35 rfl ?_
      refine r_sIp (args := [vI c, vI 0, vI 7]) (rest := []) (pc' := 38) D167_35 rfl ck_11_static_123 TE147 rfl (Nat.le_of_ble_eq_true rfl) ⟨Nat.le_of_ble_eq_true rfl, Nat.le_of_ble_eq_true rfl⟩ (by decide) (dp_0 hd rfl) (k147 E (dp_n hd rfl) H6 c 0 7 (by omega) (by omega) (by omega)) ?_
      intro v43 q48
      obtain ⟨q45, q46, q47⟩ := q48
      refine r_ifc (tgt := 47) (pc' := 41) D167_38 rfl rfl (by unfold inR; omega) (fun (c49 : v43 ≠ 0) => ?_) (fun (c49 : ¬ (v43 ≠ 0)) => ?_)
      · refine s_blx (lv' := [(4, vI w1), (0, vR 77), (1, vI a), (2, vI b), (3, vI c)]) (st' := [vI 8, vI 1, vI w1]) B167_47_52 rfl ?_
        refine r_sIp (args := [vI w1, vI 1, vI 8]) (rest := []) (pc' := 55) D167_52 rfl ck_11_static_123 TE147 rfl (Nat.le_of_ble_eq_true rfl) ⟨Nat.le_of_ble_eq_true rfl, Nat.le_of_ble_eq_true rfl⟩ (by decide) (dp_0 hd rfl) (k147 E (dp_n hd rfl) H6 w1 1 8 (by omega) (by omega) (by omega)) ?_
        intro v50 q55
        obtain ⟨q52, q53, q54⟩ := q55
        refine s_blx (lv' := [(6, vI 0), (5, vI v50), (4, vI w1), (0, vR 77), (1, vI a), (2, vI b), (3, vI c)]) (st' := []) B167_55_60 rfl ?_
        refine r_loc (lv' := [(0, vR 77), (1, vI a), (2, vI b), (3, vI c), (4, vI w1), (5, vI v50), (6, vI 0)]) ⟨rfl, rfl, rfl, rfl, rfl, rfl, rfl, trivial⟩ rfl rfl ?_
        exact (L_k167k E hd H a b c h0 h1 h2 h3 h4 (((400 - 0) * 1 + 31 : Int) + 1).toNat).1 w1 v50 0 M4 H6 f8 (fun _ => TA.zero) (by omega) (by omega) (by omega) (by omega) (hp9) (hp10) (by omega) (by omega) (by omega) (by omega) (by omega) (by omega) (by omega) (by omega) (by omega) (by omega) (by omega) (by omega) (by omega) (by omega) (by omega) (by omega)
      · refine s_blx (lv' := [(4, vI w1), (0, vR 77), (1, vI a), (2, vI b), (3, vI c)]) (st' := [vI (-1), vR 77]) B167_41_43 rfl ?_
        refine r_vI (c := 77) (args := [vI (-1)]) (rest := []) (pc' := 46) D167_43 rfl ck_11_virtual_127 TE148 rfl (Nat.le_of_ble_eq_true rfl) ⟨Nat.le_of_ble_eq_true rfl, Nat.le_of_ble_eq_true rfl⟩ sc_77 ⟨rfl, by decide⟩ H6.1 (dp_0 hd rfl) (k148 E (dp_n hd rfl) H6 (-1) (by omega)) ?_
        intro v56 M57 q61
        obtain ⟨H58, f59, q60⟩ := q61
        have f62 := f8.tr (f59.up rfl)
        have hp63 := hp9.fr f59 (by decide)
        have hp64 := hp10.fr f59 (by decide)
        exact r_iretI D167_46 rfl (⟨H58, f62, hp63, hp64⟩)
set_option maxRecDepth 4000 in
set_option maxHeartbeats 4000000 in
theorem L_k230k {base : Nat} {X : Nat → Option mC} {G : Nat → Value} (E : EnvOK base X G) {d : Nat} (hd : 60 ≤ d) {M : mH} (H : HI base M) (h0 : WD M) (h1 : LN M) (h2 : GK M) : ∀ mz : Nat, (∀ (x1 x2 tk : Int) (N : mH), HI base N → Fr [(77, 1), (77, 32), (77, 33), (77, 37), (77, 38), (77, 39), (77, 40), (78, 0), (97, 0), (98, 0), (99, 0)] M N → (AC 97 0 tk N) → (gi N 77 36 = tk) → (GM x1 N) → (LN N) → (gi N 78 (475 + x1) = tk) → (gi N 78 471 = x1) → (∀ j : Int, 0 ≤ j → j < x2 → gi N 78 (483 + 400 * x1 + j) = gi N 97 j) → (0 ≤ x1 ∧ x1 ≤ 7) → (0 ≤ x2 ∧ x2 ≤ 400) → (0 ≤ tk ∧ tk ≤ 400) → (x2 ≤ tk) → (0 ≤ x1) → (x1 ≤ 7) → (0 ≤ x2) → (x2 ≤ 400) → (400 - x2) * 1 + 0 < (mz : Int) → sRn base X G d T230 64 [(0, vR 77), (1, vI x1), (2, vI x2)] [] N (s_Q base (pI (fun v M' => HI base M' ∧ Fr [(77, 1), (77, 32), (77, 33), (77, 37), (77, 38), (77, 39), (77, 40), (78, 0), (97, 0), (98, 0), (99, 0)] M M' ∧ (LN M') ∧ (GK M'))))) := by
  have f0 : Fr [(77, 1), (77, 32), (77, 33), (77, 37), (77, 38), (77, 39), (77, 40), (78, 0), (97, 0), (98, 0), (99, 0)] M M := Fr.rf
  intro mz
  induction mz with
  | zero => exact fun x1 x2 tk N _ _ z0 z1 z2 z3 z4 z5 z6 z7 z8 z9 z10 z11 z12 z13 z14 z15 => by omega
  | succ mz ih =>
    intro x1 x2 tk N HN fN i0 i1 i2 i3 i4 i5 i6 i7 i8 i9 i10 i11 i12 i13 i14 hmu
    refine s_blx (lv' := [(0, vR 77), (1, vI x1), (2, vI x2)]) (st' := [vR 77, vI x2]) B230_64_66 rfl ?_
    refine r_gint (ki := 36) (pc' := 69) D230_66 rfl gf_11_305_77 rfl HN.1 ?_
    intro w61 e62 r63
    have e64 : tk = w61 := (e62.trans (i1)).symm
    subst e64
    refine r_icmp (tgt := 122) (pc' := 72) D230_69 rfl rfl (by unfold inR; omega) (fun (c65 : tk ≤ x2) => ?_) (fun (c65 : ¬ (tk ≤ x2)) => ?_)
    · refine s_blx (lv' := [(0, vR 77), (1, vI x1), (2, vI x2)]) (st' := [vR 77]) B230_122_123 rfl ?_
      refine r_gfix (r := 78) (pc' := 126) D230_123 rfl gf_11_13_77 HN.1 ?_
      refine s_blx (lv' := [(0, vR 77), (1, vI x1), (2, vI x2)]) (st' := [vI 471, vR 78, vI 471, vR 78]) B230_126_130 rfl ?_
      refine r_iald (pc' := 131) D230_130 rfl sc_78 HN.1 (by omega) ?_
      intro w66 e67 r68
      have e69 : x1 = w66 := (e67.trans (i5)).symm
      subst e69
      refine s_blx (lv' := [(0, vR 77), (1, vI x1), (2, vI x2)]) (st' := [vI (x1 + 1), vI 471, vR 78]) B230_131_133 rfl ?_
      refine r_iast (pc' := 134) D230_133 rfl sc_78 HN (by omega) (by unfold inR; omega) (by show s_in (rgK _) _; rw [rk_told (by omega)]; show 0 ≤ (x1 + 1) ∧ (x1 + 1) ≤ 8; omega) ?_
      intro M70 u71 H72 p73
      have f74 := fN.wr u71 rfl
      have hp75 := i0.wr u71 (by decide)
      have hp76 := i3.w u71 (by omega) HN
      have kgd := ((i2.done i4 i0 (fun j a b => i6 j a (by omega))).w u71 (by omega) HN).gk p73
      refine s_blx (lv' := [(0, vR 77), (1, vI x1), (2, vI x2)]) (st' := [vI x1, vR 77]) B230_134_136 rfl ?_
      refine r_vI (c := 77) (args := [vI x1]) (rest := []) (pc' := 139) D230_136 rfl ck_11_virtual_131 TE149 rfl (Nat.le_of_ble_eq_true rfl) ⟨Nat.le_of_ble_eq_true rfl, Nat.le_of_ble_eq_true rfl⟩ sc_77 ⟨rfl, by decide⟩ H72.1 (dp_0 hd rfl) (k149 E (dp_n hd rfl) H72 x1 (by omega)) ?_
      intro v77 M78 q82
      obtain ⟨H79, f80, q81⟩ := q82
      have f83 := f74.tr (f80.up rfl)
      have hp84 := hp75.fr f80 (by decide)
      have hp85 := hp76.fr f80 (by decide)
      have hp86 := kgd.fr f80 (by decide)
      exact r_iretI D230_139 rfl (⟨H79, f83, hp85, hp86⟩)
    · refine s_blx (lv' := [(0, vR 77), (1, vI x1), (2, vI x2)]) (st' := [vR 77]) B230_72_73 rfl ?_
      refine r_gfix (r := 78) (pc' := 76) D230_73 rfl gf_11_13_77 HN.1 ?_
      refine s_blx (lv' := [(0, vR 77), (1, vI x1), (2, vI x2)]) (st' := [vR 77, vI ((483 + (400 * x1)) + x2), vR 78]) B230_76_88 rfl ?_
      refine r_gfix (r := 97) (pc' := 91) D230_88 rfl gf_11_78_77 HN.1 ?_
      refine s_blx (lv' := [(0, vR 77), (1, vI x1), (2, vI x2)]) (st' := [vI x2, vR 97, vI ((483 + (400 * x1)) + x2), vR 78]) B230_91_92 rfl ?_
      refine r_iald (pc' := 93) D230_92 rfl sc_97 HN.1 (by omega) ?_
      intro w87 e88 r89
      unfold inR at r89
      have ke := e88
      refine r_iast (pc' := 94) D230_93 rfl sc_78 HN (by omega) (by unfold inR; omega) (by show s_in (rgK _) _; rw [rk_no (by omega)]; trivial) ?_
      intro M90 u91 H92 p93
      have f94 := fN.wr u91 rfl
      have hp95 := i0.wr u91 (by decide)
      have hp96 := i2.w u91 (by omega) HN
      have hp97 := i3.w u91 (by omega) HN
      have ku1 := u91
      have kp1 := p93
      refine s_blx (lv' := [(0, vR 77), (1, vI x1), (2, vI x2)]) (st' := [vR 77]) B230_94_95 rfl ?_
      refine r_gfix (r := 78) (pc' := 98) D230_95 rfl gf_11_13_77 H92.1 ?_
      refine s_blx (lv' := [(0, vR 77), (1, vI x1), (2, vI x2)]) (st' := [vR 77, vI ((3683 + (400 * x1)) + x2), vR 78]) B230_98_110 rfl ?_
      refine r_gfix (r := 98) (pc' := 113) D230_110 rfl gf_11_81_77 H92.1 ?_
      refine s_blx (lv' := [(0, vR 77), (1, vI x1), (2, vI x2)]) (st' := [vI x2, vR 98, vI ((3683 + (400 * x1)) + x2), vR 78]) B230_113_114 rfl ?_
      refine r_iald (pc' := 115) D230_114 rfl sc_98 H92.1 (by omega) ?_
      intro w98 e99 r100
      unfold inR at r100
      refine r_iast (pc' := 116) D230_115 rfl sc_78 H92 (by omega) (by unfold inR; omega) (by show s_in (rgK _) _; rw [rk_no (by omega)]; trivial) ?_
      intro M101 u102 H103 p104
      have f105 := f94.wr u102 rfl
      have hp106 := hp95.wr u102 (by decide)
      have hp107 := hp96.w u102 (by omega) H92
      have hp108 := hp97.w u102 (by omega) H92
      have ku2 := u102
      have k475 : gi M101 78 (475 + x1) = tk := by rw [ku2.gi_ne (by omega) (Or.inr (by omega)), ku1.gi_ne (by omega) (Or.inr (by omega))]; exact i4
      have kA : gi M101 78 (483 + 400 * x1 + x2) = gi M101 97 x2 := by rw [ku2.gi_ne (by omega) (Or.inr (by omega)), kp1, ke, ku2.gi_ne (by omega) (Or.inl (by decide)), ku1.gi_ne (by omega) (Or.inl (by decide))]
      have kR : ∀ j : Int, 0 ≤ j → j < x2 → gi M101 78 (483 + 400 * x1 + j) = gi M101 97 j := fun j h1 h2 => by rw [ku2.gi_ne (by omega) (Or.inr (by omega)), ku1.gi_ne (by omega) (Or.inr (by omega)), i6 j h1 h2, ku2.gi_ne (by omega) (Or.inl (by decide)), ku1.gi_ne (by omega) (Or.inl (by decide))]
      refine s_blx (lv' := [(2, vI (x2 + 1)), (0, vR 77), (1, vI x1)]) (st' := []) B230_116_119 rfl ?_
      refine r_goto (tgt := 64) D230_119 rfl ?_
      refine r_loc (lv' := [(0, vR 77), (1, vI x1), (2, vI (x2 + 1))]) ⟨rfl, rfl, rfl, trivial⟩ rfl rfl ?_
      have g109 : gi M101 77 36 = tk := (u102.gi_ne (by omega) (Or.inl (by decide))).trans ((u91.gi_ne (by omega) (Or.inl (by decide))).trans (i1))
      have g110 : gi M101 78 471 = x1 := (u102.gi_ne (by omega) (Or.inr (by omega))).trans ((u91.gi_ne (by omega) (Or.inr (by omega))).trans (i5))
      exact ih x1 (x2 + 1) tk M101 H103 f105 (hp106) (by omega) (hp107) (hp108) (by omega) (by omega) (fun j h1 h2 => if e : j = x2 then (by rw [e]; exact kA) else (kR j h1 (by omega))) (by omega) (by omega) (by omega) (by omega) (by omega) (by omega) (by omega) (by omega) (by omega)
set_option maxRecDepth 4000 in
set_option maxHeartbeats 4000000 in
theorem k230k {base : Nat} {X : Nat → Option mC} {G : Nat → Value} (E : EnvOK base X G) {d : Nat} (hd : 60 ≤ d) {M : mH} (H : HI base M) (h0 : WD M) (h1 : LN M) (h2 : GK M) : sOk base X G d T230 [vR 77] M (pI (fun v M' => HI base M' ∧ Fr [(77, 1), (77, 32), (77, 33), (77, 37), (77, 38), (77, 39), (77, 40), (78, 0), (97, 0), (98, 0), (99, 0)] M M' ∧ (LN M') ∧ (GK M'))) := by
  have f0 : Fr [(77, 1), (77, 32), (77, 33), (77, 37), (77, 38), (77, 39), (77, 40), (78, 0), (97, 0), (98, 0), (99, 0)] M M := Fr.rf
  refine sOk.of (show sRn base X G d T230 0 [(0, vR 77)] [] M _ from ?_)
  refine s_blx (lv' := [(0, vR 77)]) (st' := [vR 77]) B230_0_1 rfl ?_
  refine r_gfix (r := 78) (pc' := 4) D230_1 rfl gf_11_13_77 H.1 ?_
  refine s_blx (lv' := [(0, vR 77)]) (st' := [vI 471, vR 78]) B230_4_7 rfl ?_
  refine r_iald (pc' := 8) D230_7 rfl sc_78 H.1 (by omega) ?_
  intro w1 e2 r3
  have b_w1 := H.2 78 (471) 0 8 (rk_told (by omega))
  rw [← e2] at b_w1; clear r3
  refine s_blx (lv' := [(0, vR 77)]) (st' := [vI 8, vI w1]) B230_8_10 rfl ?_
  refine r_icmp (tgt := 25) (pc' := 13) D230_10 rfl rfl (by unfold inR; omega) (fun (c4 : w1 ≠ 8) => ?_) (fun (c4 : ¬ (w1 ≠ 8)) => ?_)
  · refine s_blx (lv' := [(0, vR 77)]) (st' := [vR 77]) B230_25_26 rfl ?_
    refine r_vI (c := 77) (args := []) (rest := []) (pc' := 29) D230_26 rfl ck_11_virtual_372 TE229 rfl (Nat.le_of_ble_eq_true rfl) ⟨Nat.le_of_ble_eq_true rfl, Nat.le_of_ble_eq_true rfl⟩ sc_77 ⟨rfl, by decide⟩ H.1 (dp_0 hd rfl) (k229x E (dp_n hd rfl) H (h0)) ?_
    intro v5 M6 q12
    obtain ⟨H7, f8, q9, q10, q11⟩ := q12
    have f13 := f0.tr (f8.up rfl)
    have hp14 := h1.fr f8 (by decide)
    have hp15 := h2.fr f8 (by decide)
    obtain ⟨t16, ht17⟩ : ∃ q, q = gi M6 77 36 := ⟨_, rfl⟩
    have b_t16 := H7.2 77 36 0 400 rfl
    rw [← ht17] at b_t16
    rw [← ht17] at q10
    rw [← ht17] at q11
    have kac := q10; clear q10
    refine r_ifc (tgt := 39) (pc' := 32) D230_29 rfl rfl (by unfold inR; omega) (fun (c18 : v5 ≠ 0) => ?_) (fun (c18 : ¬ (v5 ≠ 0)) => ?_)
    · refine s_blx (lv' := [(0, vR 77)]) (st' := [vR 77]) B230_39_40 rfl ?_
      refine r_gfix (r := 78) (pc' := 43) D230_40 rfl gf_11_13_77 H7.1 ?_
      refine s_blx (lv' := [(0, vR 77)]) (st' := [vI 471, vR 78]) B230_43_46 rfl ?_
      refine r_iald (pc' := 47) D230_46 rfl sc_78 H7.1 (by omega) ?_
      intro w19 e20 r21
      have e22 : w1 = w19 := (e20.trans ((f8.g rfl).trans (e2.symm))).symm
      subst e22
      have kac2 := kac (by omega)
      have k471 := e20.symm
      refine s_blx (lv' := [(1, vI w1), (0, vR 77)]) (st' := [vR 77]) B230_47_49 rfl ?_
      refine r_gfix (r := 78) (pc' := 52) D230_49 rfl gf_11_13_77 H7.1 ?_
      refine s_blx (lv' := [(1, vI w1), (0, vR 77)]) (st' := [vR 77, vI (475 + w1), vR 78]) B230_52_58 rfl ?_
      refine r_gint (ki := 36) (pc' := 61) D230_58 rfl gf_11_305_77 rfl H7.1 ?_
      intro w23 e24 r25
      have e26 : t16 = w23 := (e24.trans (ht17.symm)).symm
      subst e26
      refine r_iast (pc' := 62) D230_61 rfl sc_78 H7 (by omega) (by unfold inR; omega) (by show s_in (rgK _) _; rw [rk_sizes (by omega)]; show 0 ≤ t16 ∧ t16 ≤ 400; omega) ?_
      intro M27 u28 H29 p30
      have f31 := f13.wr u28 rfl
      have hp32 := hp14.w u28 (by omega) H7
      have hp33 := kac2.wr u28 (by decide)
      have kgm := (hp15.gm k471).w u28 (by omega) H7
      refine s_blx (lv' := [(2, vI 0), (1, vI w1), (0, vR 77)]) (st' := []) B230_62_64 rfl ?_
      refine r_loc (lv' := [(0, vR 77), (1, vI w1), (2, vI 0)]) ⟨rfl, rfl, rfl, trivial⟩ rfl rfl ?_
      have g34 : gi M27 77 36 = t16 := (u28.gi_ne (by omega) (Or.inl (by decide))).trans (ht17.symm)
      have g35 : gi M27 78 471 = w1 := (u28.gi_ne (by omega) (Or.inr (by omega))).trans ((f8.g rfl).trans (e2.symm))
      exact (L_k230k E hd H h0 h1 h2 (((400 - 0) * 1 + 0 : Int) + 1).toNat) w1 0 t16 M27 H29 f31 (hp33) (by omega) (kgm) (hp32) (by omega) (by omega) (fun j h1 h2 => by omega) (by omega) (by omega) (by omega) (by omega) (by omega) (by omega) (by omega) (by omega) (by omega)
    · refine s_blx (lv' := [(0, vR 77)]) (st' := [vI (-6), vR 77]) B230_32_35 rfl ?_
      refine r_vI (c := 77) (args := [vI (-6)]) (rest := []) (pc' := 38) D230_35 rfl ck_11_virtual_127 TE148 rfl (Nat.le_of_ble_eq_true rfl) ⟨Nat.le_of_ble_eq_true rfl, Nat.le_of_ble_eq_true rfl⟩ sc_77 ⟨rfl, by decide⟩ H7.1 (dp_0 hd rfl) (k148 E (dp_n hd rfl) H7 (-6) (by omega)) ?_
      intro v36 M37 q41
      obtain ⟨H38, f39, q40⟩ := q41
      have f42 := f13.tr (f39.up rfl)
      have hp43 := hp14.fr f39 (by decide)
      have hp44 := hp15.fr f39 (by decide)
      exact r_iretI D230_38 rfl (⟨H38, f42, hp43, hp44⟩)
  · refine s_blx (lv' := [(0, vR 77)]) (st' := [vI 0, vR 77]) B230_13_15 rfl ?_
    refine r_pint (ki := 31) (pc' := 18) D230_15 rfl pf_11_151_77 rfl H (by unfold inR; omega) (show 0 ≤ 0 ∧ 0 ≤ 400 by omega) ?_
    intro M45 u46 H47 p48
    have f49 := f0.wr u46 rfl
    have hp50 := h1.wr u46 (by decide)
    have hp51 := h2.wr u46 (by decide)
    refine s_blx (lv' := [(0, vR 77)]) (st' := [vI (-5), vR 77]) B230_18_21 rfl ?_
    refine r_vI (c := 77) (args := [vI (-5)]) (rest := []) (pc' := 24) D230_21 rfl ck_11_virtual_127 TE148 rfl (Nat.le_of_ble_eq_true rfl) ⟨Nat.le_of_ble_eq_true rfl, Nat.le_of_ble_eq_true rfl⟩ sc_77 ⟨rfl, by decide⟩ H47.1 (dp_0 hd rfl) (k148 E (dp_n hd rfl) H47 (-5) (by omega)) ?_
    intro v52 M53 q57
    obtain ⟨H54, f55, q56⟩ := q57
    have f58 := f49.tr (f55.up rfl)
    have hp59 := hp50.fr f55 (by decide)
    have hp60 := hp51.fr f55 (by decide)
    exact r_iretI D230_24 rfl (⟨H54, f58, hp59, hp60⟩)
