/-! The reference takes a sentence, and a text. -/
/-- the tape holds words -/
noncomputable def TA (n : Int) (M : mH) : Prop := ∀ j : Int, 0 ≤ j → j < n → 0 ≤ gi M 95 j ∧ gi M 95 j ≤ 29
theorem TA.of {n : Int} {M M' : mH} (h : TA n M) (e : ∀ j : Int, gi M' 95 j = gi M 95 j) : TA n M' := by
  intro j h1 h2; rw [e]; exact h j h1 h2
theorem TA.fr {n : Int} {L : List (Nat × Nat)} {M M' : mH} (h : TA n M) (f : Fr L M M') (hc : s_al L (fun c => c != 95) = true) : TA n M' := h.of (fun _ => f.g (s_al_ok hc (by simp)))
theorem TA.wr {n : Int} {M M' : mH} {c i : Nat} {v : Value} (h : TA n M) (u : Wr M c i v M') (hc : c ≠ 95) : TA n M' := h.of (fun j => by unfold gi; rw [u.ne (Or.inl (Ne.symm hc))])
theorem TA.zero {M : mH} : TA 0 M := fun j h1 h2 => by omega
theorem TA.next {k : Int} {M : mH} (h : TA k M) (hk : 0 ≤ gi M 95 k ∧ gi M 95 k ≤ 29) : TA (k + 1) M := by
  intro j h1 h2
  by_cases e : j = k
  · rw [e]; exact hk
  · exact h j h1 (by omega)
theorem TA.mono {k n : Int} {M : mH} (h : TA k M) (hn : n ≤ k) : TA n M := fun j h1 h2 => h j h1 (by omega)
/-- so many sentences have a word -/
noncomputable def LM (m : Int) (M : mH) : Prop := ∀ s : Int, 0 ≤ s → s < m → 1 ≤ gi M 78 (135 + 16 * s)
theorem LM.of {m : Int} {M M' : mH} (h : LM m M) (e : ∀ s : Int, 0 ≤ s → s < m → gi M' 78 (135 + 16 * s) = gi M 78 (135 + 16 * s)) : LM m M' := by
  intro s h1 h2; rw [e s h1 h2]; exact h s h1 h2
theorem LM.fr {m : Int} {L : List (Nat × Nat)} {M M' : mH} (h : LM m M) (f : Fr L M M') (hc : s_al L (fun c => c != 78) = true) : LM m M' := h.of (fun _ _ _ => f.g (s_al_ok hc (by simp)))
theorem LM.wr {m : Int} {M M' : mH} {c i : Nat} {v : Value} (h : LM m M) (u : Wr M c i v M') (hc : c ≠ 78) : LM m M' := h.of (fun j _ _ => by unfold gi; rw [u.ne (Or.inl (Ne.symm hc))])
theorem LM.w {m : Int} {M M' : mH} {i : Int} {v : Value} (h : LM m M) (u : Wr M 78 i.toNat v M') (hi : 0 ≤ i ∧ (i < 135 ∨ (i - 135) % 16 ≠ 0 ∨ 135 + 16 * m ≤ i)) {base : Nat} (_ : HI base M) : LM m M' :=
  h.of (fun s _ _ => u.gi_ne hi.1 (Or.inr (by omega)))
theorem LN.grow {m x : Int} {M M' : mH} {v : Value} (h : LN M) (hm : gi M 78 469 = m) (h0 : 0 ≤ m) (u : Wr M 78 (135 + 16 * m).toNat v M') (hp : gi M' 78 (135 + 16 * m) = x) (hx : 1 ≤ x) : LM (m + 1) M' := by
  intro s h1 h2
  by_cases e : s = m
  · rw [e, hp]; exact hx
  · rw [u.gi_ne (by omega) (Or.inr (by omega))]; exact h s h1 (by omega)
theorem LM.ln {m : Int} {M : mH} (h : LM m M) (e : gi M 78 469 = m) : LN M := fun s h1 h2 => h s h1 (by omega)
/-- so many texts are texts -/
noncomputable def GM (m : Int) (M : mH) : Prop := ∀ t : Int, 0 ≤ t → t < m → AC 78 (483 + 400 * t) (gi M 78 (475 + t)) M
theorem GM.of {m : Int} {M M' : mH} (h : GM m M) (e : ∀ i : Int, gi M' 78 i = gi M 78 i) : GM m M' := by
  intro t h1 h2
  rw [e]
  exact (h t h1 h2).of (fun j _ _ => e _)
theorem GM.fr {m : Int} {L : List (Nat × Nat)} {M M' : mH} (h : GM m M) (f : Fr L M M') (hc : s_al L (fun c => c != 78) = true) : GM m M' := h.of (fun _ => f.g (s_al_ok hc (by simp)))
theorem GM.wr {m : Int} {M M' : mH} {c i : Nat} {v : Value} (h : GM m M) (u : Wr M c i v M') (hc : c ≠ 78) : GM m M' := h.of (fun j => by unfold gi; rw [u.ne (Or.inl (Ne.symm hc))])
theorem GM.w {m : Int} {M M' : mH} {i : Int} {v : Value} (h : GM m M) (u : Wr M 78 i.toNat v M') (hi : 0 ≤ i ∧ 0 ≤ m ∧ m ≤ 8 ∧ (i < 475 ∨ (475 + m ≤ i ∧ i < 483) ∨ 483 + 400 * m ≤ i)) {base : Nat} (H : HI base M) : GM m M' := by
  intro t h1 h2
  have q := H.2 78 (475 + t) 0 400 (rk_sizes (by omega))
  rw [u.gi_ne hi.1 (Or.inr (by omega))]
  exact (h t h1 h2).of (fun j _ _ => u.gi_ne hi.1 (Or.inr (by omega)))
theorem GK.gm {m : Int} {M : mH} (h : GK M) (e : gi M 78 471 = m) : GM m M := fun t h1 h2 => h t h1 (by omega)
theorem GM.gk {m : Int} {M : mH} (h : GM m M) (e : gi M 78 471 = m) : GK M := fun t h1 h2 => h t h1 (by omega)
theorem GM.done {m n : Int} {M : mH} (h : GM m M) (hn : gi M 78 (475 + m) = n) (ha : AC 97 0 n M) (hc : ∀ j : Int, 0 ≤ j → j < n → gi M 78 (483 + 400 * m + j) = gi M 97 j) : GM (m + 1) M := by
  intro t h1 h2
  by_cases e : t = m
  · subst e
    obtain ⟨F, f0, f1, f2⟩ := ha
    rw [hn]
    exact ⟨F, f0, fun j a b => by rw [hc j a b, f1 j a b, Int.zero_add], f2⟩
  · exact h t h1 (by omega)
theorem AC.fr {c : Nat} {o n : Int} {L : List (Nat × Nat)} {M M' : mH} (h : AC c o n M) (f : Fr L M M') (hc : s_al L (fun x => x != c) = true) : AC c o n M' := h.of (fun _ _ _ => f.g (s_al_ok hc (by simp)))
theorem AC.wr {c : Nat} {o n : Int} {M M' : mH} {c' i : Nat} {v : Value} (h : AC c o n M) (u : Wr M c' i v M') (hc : c' ≠ c) : AC c o n M' := h.of (fun j _ _ => by unfold gi; rw [u.ne (Or.inl (Ne.symm hc))])
noncomputable def T167 : mT := (11, yX11_sentence, cX11_sentence, 9, (some .int))
set_option maxRecDepth 10000 in
theorem TE167 : sy_m[167]? = some T167 := rfl
theorem B167_0_1 : s_dk T167.2.2.1 0 [.aload_n 0] 1 = true := by decide +kernel
theorem D167_1 : decode T167.2.2.1 1 = .ok (.getfield 151, 3) := by decide +kernel
theorem B167_4_8 : s_dk T167.2.2.1 4 [.istore 4, .aload_n 0, .iconst 0] 8 = true := by decide +kernel
theorem D167_8 : decode T167.2.2.1 8 = .ok (.putfield 151, 3) := by decide +kernel
theorem B167_11_15 : s_dk T167.2.2.1 11 [.iload_n 1, .iconst 0, .bipush 7] 15 = true := by decide +kernel
theorem D167_15 : decode T167.2.2.1 15 = .ok (.invokestatic 123, 3) := by decide +kernel
theorem D167_18 : decode T167.2.2.1 18 = .ok (.ifCond .eq 23, 3) := by decide +kernel
theorem B167_41_43 : s_dk T167.2.2.1 41 [.aload_n 0, .iconst (-1)] 43 = true := by decide +kernel
theorem D167_43 : decode T167.2.2.1 43 = .ok (.invokevirtual 127, 3) := by decide +kernel
theorem D167_46 : decode T167.2.2.1 46 = .ok (.ireturn, 1) := by decide +kernel
theorem B167_21_25 : s_dk T167.2.2.1 21 [.iload_n 2, .iconst 0, .bipush 7] 25 = true := by decide +kernel
theorem D167_25 : decode T167.2.2.1 25 = .ok (.invokestatic 123, 3) := by decide +kernel
theorem D167_28 : decode T167.2.2.1 28 = .ok (.ifCond .eq 13, 3) := by decide +kernel
theorem B167_31_35 : s_dk T167.2.2.1 31 [.iload_n 3, .iconst 0, .bipush 7] 35 = true := by decide +kernel
theorem D167_35 : decode T167.2.2.1 35 = .ok (.invokestatic 123, 3) := by decide +kernel
theorem D167_38 : decode T167.2.2.1 38 = .ok (.ifCond .ne 9, 3) := by decide +kernel
theorem B167_47_52 : s_dk T167.2.2.1 47 [.iload 4, .iconst 1, .bipush 8] 52 = true := by decide +kernel
theorem D167_52 : decode T167.2.2.1 52 = .ok (.invokestatic 123, 3) := by decide +kernel
theorem B167_55_60 : s_dk T167.2.2.1 55 [.istore 5, .iconst 0, .istore 6] 60 = true := by decide +kernel
theorem B167_60_64 : s_dk T167.2.2.1 60 [.iload 6, .iload 4] 64 = true := by decide +kernel
theorem D167_64 : decode T167.2.2.1 64 = .ok (.if_icmp .ge 29, 3) := by decide +kernel
theorem B167_93_95 : s_dk T167.2.2.1 93 [.iload 5] 95 = true := by decide +kernel
theorem D167_95 : decode T167.2.2.1 95 = .ok (.ifCond .ne 10, 3) := by decide +kernel
theorem B167_105_106 : s_dk T167.2.2.1 105 [.aload_n 0] 106 = true := by decide +kernel
theorem D167_106 : decode T167.2.2.1 106 = .ok (.getfield 13, 3) := by decide +kernel
theorem B167_109_112 : s_dk T167.2.2.1 109 [.sipush 469] 112 = true := by decide +kernel
theorem D167_112 : decode T167.2.2.1 112 = .ok (.iaload, 1) := by decide +kernel
theorem B167_113_118 : s_dk T167.2.2.1 113 [.istore 6, .iconst 0, .istore 7] 118 = true := by decide +kernel
theorem B167_98_101 : s_dk T167.2.2.1 98 [.aload_n 0, .bipush (-6)] 101 = true := by decide +kernel
theorem D167_101 : decode T167.2.2.1 101 = .ok (.invokevirtual 127, 3) := by decide +kernel
theorem D167_104 : decode T167.2.2.1 104 = .ok (.ireturn, 1) := by decide +kernel
theorem B167_67_69 : s_dk T167.2.2.1 67 [.iload 5] 69 = true := by decide +kernel
theorem D167_69 : decode T167.2.2.1 69 = .ok (.ifCond .eq 24, 3) := by decide +kernel
theorem B167_72_73 : s_dk T167.2.2.1 72 [.aload_n 0] 73 = true := by decide +kernel
theorem D167_73 : decode T167.2.2.1 73 = .ok (.getfield 69, 3) := by decide +kernel
theorem B167_76_78 : s_dk T167.2.2.1 76 [.iload 6] 78 = true := by decide +kernel
theorem D167_78 : decode T167.2.2.1 78 = .ok (.baload, 1) := by decide +kernel
theorem B167_79_82 : s_dk T167.2.2.1 79 [.iconst 0, .bipush 29] 82 = true := by decide +kernel
theorem D167_82 : decode T167.2.2.1 82 = .ok (.invokestatic 123, 3) := by decide +kernel
theorem B167_85_90 : s_dk T167.2.2.1 85 [.istore 5, .iinc 6 1] 90 = true := by decide +kernel
theorem D167_90 : decode T167.2.2.1 90 = .ok (.goto (-30), 3) := by decide +kernel
theorem B167_118_122 : s_dk T167.2.2.1 118 [.iload 7, .iload 6] 122 = true := by decide +kernel
theorem D167_122 : decode T167.2.2.1 122 = .ok (.if_icmp .ge 27, 3) := by decide +kernel
theorem B167_149_153 : s_dk T167.2.2.1 149 [.iload 6, .bipush 16] 153 = true := by decide +kernel
theorem D167_153 : decode T167.2.2.1 153 = .ok (.if_icmp .ne 10, 3) := by decide +kernel
theorem B167_163_175 : s_dk T167.2.2.1 163 [.sipush 135, .bipush 16, .iload 6, .imul, .iadd, .istore 7, .aload_n 0] 175 = true := by decide +kernel
theorem D167_175 : decode T167.2.2.1 175 = .ok (.getfield 13, 3) := by decide +kernel
theorem B167_178_182 : s_dk T167.2.2.1 178 [.iload 7, .iload 4] 182 = true := by decide +kernel
theorem D167_182 : decode T167.2.2.1 182 = .ok (.iastore, 1) := by decide +kernel
theorem B167_183_186 : s_dk T167.2.2.1 183 [.iconst 0, .istore 8] 186 = true := by decide +kernel
theorem B167_125_130 : s_dk T167.2.2.1 125 [.aload_n 0, .iload 7, .iload 4] 130 = true := by decide +kernel
theorem D167_130 : decode T167.2.2.1 130 = .ok (.invokevirtual 154, 3) := by decide +kernel
theorem ck_11_virtual_154 : m_call 11 (.invokevirtual 154) = some (0, 166, 2) := by decide +kernel
theorem D167_133 : decode T167.2.2.1 133 = .ok (.ifCond .eq 10, 3) := by decide +kernel
theorem B167_143_146 : s_dk T167.2.2.1 143 [.iinc 7 1] 146 = true := by decide +kernel
theorem D167_146 : decode T167.2.2.1 146 = .ok (.goto (-28), 3) := by decide +kernel
theorem B167_136_139 : s_dk T167.2.2.1 136 [.aload_n 0, .bipush (-4)] 139 = true := by decide +kernel
theorem D167_139 : decode T167.2.2.1 139 = .ok (.invokevirtual 127, 3) := by decide +kernel
theorem D167_142 : decode T167.2.2.1 142 = .ok (.ireturn, 1) := by decide +kernel
theorem B167_186_190 : s_dk T167.2.2.1 186 [.iload 8, .bipush 8] 190 = true := by decide +kernel
theorem D167_190 : decode T167.2.2.1 190 = .ok (.if_icmp .ge 39, 3) := by decide +kernel
theorem B167_193_194 : s_dk T167.2.2.1 193 [.aload_n 0] 194 = true := by decide +kernel
theorem D167_194 : decode T167.2.2.1 194 = .ok (.getfield 13, 3) := by decide +kernel
theorem B167_197_208 : s_dk T167.2.2.1 197 [.iload 7, .iconst 1, .iadd, .iload 8, .iadd, .iload 8, .iload 4] 208 = true := by decide +kernel
theorem D167_208 : decode T167.2.2.1 208 = .ok (.if_icmp .ge 13, 3) := by decide +kernel
theorem B167_211_212 : s_dk T167.2.2.1 211 [.aload_n 0] 212 = true := by decide +kernel
theorem D167_212 : decode T167.2.2.1 212 = .ok (.getfield 69, 3) := by decide +kernel
theorem B167_215_217 : s_dk T167.2.2.1 215 [.iload 8] 217 = true := by decide +kernel
theorem D167_217 : decode T167.2.2.1 217 = .ok (.baload, 1) := by decide +kernel
theorem D167_218 : decode T167.2.2.1 218 = .ok (.goto 4, 3) := by decide +kernel
theorem D167_222 : decode T167.2.2.1 222 = .ok (.iastore, 1) := by decide +kernel
theorem B167_223_226 : s_dk T167.2.2.1 223 [.iinc 8 1] 226 = true := by decide +kernel
theorem D167_226 : decode T167.2.2.1 226 = .ok (.goto (-40), 3) := by decide +kernel
theorem B167_221_222 : s_dk T167.2.2.1 221 [.iconst 0] 222 = true := by decide +kernel
theorem B167_229_230 : s_dk T167.2.2.1 229 [.aload_n 0] 230 = true := by decide +kernel
theorem D167_230 : decode T167.2.2.1 230 = .ok (.getfield 13, 3) := by decide +kernel
theorem B167_233_239 : s_dk T167.2.2.1 233 [.iload 7, .bipush 9, .iadd, .iload_n 1] 239 = true := by decide +kernel
theorem D167_239 : decode T167.2.2.1 239 = .ok (.iastore, 1) := by decide +kernel
theorem B167_240_241 : s_dk T167.2.2.1 240 [.aload_n 0] 241 = true := by decide +kernel
theorem D167_241 : decode T167.2.2.1 241 = .ok (.getfield 13, 3) := by decide +kernel
theorem B167_244_250 : s_dk T167.2.2.1 244 [.iload 7, .bipush 10, .iadd, .iload_n 2] 250 = true := by decide +kernel
theorem D167_250 : decode T167.2.2.1 250 = .ok (.iastore, 1) := by decide +kernel
theorem B167_251_252 : s_dk T167.2.2.1 251 [.aload_n 0] 252 = true := by decide +kernel
theorem D167_252 : decode T167.2.2.1 252 = .ok (.getfield 13, 3) := by decide +kernel
theorem B167_255_261 : s_dk T167.2.2.1 255 [.iload 7, .bipush 11, .iadd, .iload_n 3] 261 = true := by decide +kernel
theorem D167_261 : decode T167.2.2.1 261 = .ok (.iastore, 1) := by decide +kernel
theorem B167_262_265 : s_dk T167.2.2.1 262 [.iconst 0, .istore 8] 265 = true := by decide +kernel
theorem B167_265_268 : s_dk T167.2.2.1 265 [.iload 8, .iconst 4] 268 = true := by decide +kernel
theorem D167_268 : decode T167.2.2.1 268 = .ok (.if_icmp .ge 23, 3) := by decide +kernel
theorem B167_271_272 : s_dk T167.2.2.1 271 [.aload_n 0] 272 = true := by decide +kernel
theorem D167_272 : decode T167.2.2.1 272 = .ok (.getfield 13, 3) := by decide +kernel
theorem B167_275_284 : s_dk T167.2.2.1 275 [.iload 7, .bipush 12, .iadd, .iload 8, .iadd, .iconst 1] 284 = true := by decide +kernel
theorem D167_284 : decode T167.2.2.1 284 = .ok (.iastore, 1) := by decide +kernel
theorem B167_285_288 : s_dk T167.2.2.1 285 [.iinc 8 1] 288 = true := by decide +kernel
theorem D167_288 : decode T167.2.2.1 288 = .ok (.goto (-23), 3) := by decide +kernel
theorem B167_156_159 : s_dk T167.2.2.1 156 [.aload_n 0, .bipush (-5)] 159 = true := by decide +kernel
theorem D167_159 : decode T167.2.2.1 159 = .ok (.invokevirtual 127, 3) := by decide +kernel
theorem D167_162 : decode T167.2.2.1 162 = .ok (.ireturn, 1) := by decide +kernel
theorem B167_291_292 : s_dk T167.2.2.1 291 [.aload_n 0] 292 = true := by decide +kernel
theorem D167_292 : decode T167.2.2.1 292 = .ok (.getfield 13, 3) := by decide +kernel
theorem B167_295_299 : s_dk T167.2.2.1 295 [.sipush 469, .dup2] 299 = true := by decide +kernel
theorem D167_299 : decode T167.2.2.1 299 = .ok (.iaload, 1) := by decide +kernel
theorem B167_300_302 : s_dk T167.2.2.1 300 [.iconst 1, .iadd] 302 = true := by decide +kernel
theorem D167_302 : decode T167.2.2.1 302 = .ok (.iastore, 1) := by decide +kernel
theorem B167_303_306 : s_dk T167.2.2.1 303 [.aload_n 0, .iload 6] 306 = true := by decide +kernel
theorem D167_306 : decode T167.2.2.1 306 = .ok (.invokevirtual 131, 3) := by decide +kernel
theorem D167_309 : decode T167.2.2.1 309 = .ok (.ireturn, 1) := by decide +kernel
noncomputable def T230 : mT := (11, yX11_habit, cX11_habit, 3, (some .int))
set_option maxRecDepth 10000 in
theorem TE230 : sy_m[230]? = some T230 := rfl
theorem B230_0_1 : s_dk T230.2.2.1 0 [.aload_n 0] 1 = true := by decide +kernel
theorem D230_1 : decode T230.2.2.1 1 = .ok (.getfield 13, 3) := by decide +kernel
theorem B230_4_7 : s_dk T230.2.2.1 4 [.sipush 471] 7 = true := by decide +kernel
theorem D230_7 : decode T230.2.2.1 7 = .ok (.iaload, 1) := by decide +kernel
theorem B230_8_10 : s_dk T230.2.2.1 8 [.bipush 8] 10 = true := by decide +kernel
theorem D230_10 : decode T230.2.2.1 10 = .ok (.if_icmp .ne 15, 3) := by decide +kernel
theorem B230_25_26 : s_dk T230.2.2.1 25 [.aload_n 0] 26 = true := by decide +kernel
theorem D230_26 : decode T230.2.2.1 26 = .ok (.invokevirtual 372, 3) := by decide +kernel
theorem ck_11_virtual_372 : m_call 11 (.invokevirtual 372) = some (0, 229, 0) := by decide +kernel
theorem D230_29 : decode T230.2.2.1 29 = .ok (.ifCond .ne 10, 3) := by decide +kernel
theorem B230_39_40 : s_dk T230.2.2.1 39 [.aload_n 0] 40 = true := by decide +kernel
theorem D230_40 : decode T230.2.2.1 40 = .ok (.getfield 13, 3) := by decide +kernel
theorem B230_43_46 : s_dk T230.2.2.1 43 [.sipush 471] 46 = true := by decide +kernel
theorem D230_46 : decode T230.2.2.1 46 = .ok (.iaload, 1) := by decide +kernel
theorem B230_47_49 : s_dk T230.2.2.1 47 [.istore_n 1, .aload_n 0] 49 = true := by decide +kernel
theorem D230_49 : decode T230.2.2.1 49 = .ok (.getfield 13, 3) := by decide +kernel
theorem B230_52_58 : s_dk T230.2.2.1 52 [.sipush 475, .iload_n 1, .iadd, .aload_n 0] 58 = true := by decide +kernel
theorem D230_58 : decode T230.2.2.1 58 = .ok (.getfield 305, 3) := by decide +kernel
theorem D230_61 : decode T230.2.2.1 61 = .ok (.iastore, 1) := by decide +kernel
theorem B230_62_64 : s_dk T230.2.2.1 62 [.iconst 0, .istore_n 2] 64 = true := by decide +kernel
theorem B230_32_35 : s_dk T230.2.2.1 32 [.aload_n 0, .bipush (-6)] 35 = true := by decide +kernel
theorem D230_35 : decode T230.2.2.1 35 = .ok (.invokevirtual 127, 3) := by decide +kernel
theorem D230_38 : decode T230.2.2.1 38 = .ok (.ireturn, 1) := by decide +kernel
theorem B230_13_15 : s_dk T230.2.2.1 13 [.aload_n 0, .iconst 0] 15 = true := by decide +kernel
theorem D230_15 : decode T230.2.2.1 15 = .ok (.putfield 151, 3) := by decide +kernel
theorem B230_18_21 : s_dk T230.2.2.1 18 [.aload_n 0, .bipush (-5)] 21 = true := by decide +kernel
theorem D230_21 : decode T230.2.2.1 21 = .ok (.invokevirtual 127, 3) := by decide +kernel
theorem D230_24 : decode T230.2.2.1 24 = .ok (.ireturn, 1) := by decide +kernel
theorem B230_64_66 : s_dk T230.2.2.1 64 [.iload_n 2, .aload_n 0] 66 = true := by decide +kernel
theorem D230_66 : decode T230.2.2.1 66 = .ok (.getfield 305, 3) := by decide +kernel
theorem D230_69 : decode T230.2.2.1 69 = .ok (.if_icmp .ge 53, 3) := by decide +kernel
theorem B230_122_123 : s_dk T230.2.2.1 122 [.aload_n 0] 123 = true := by decide +kernel
theorem D230_123 : decode T230.2.2.1 123 = .ok (.getfield 13, 3) := by decide +kernel
theorem B230_126_130 : s_dk T230.2.2.1 126 [.sipush 471, .dup2] 130 = true := by decide +kernel
theorem D230_130 : decode T230.2.2.1 130 = .ok (.iaload, 1) := by decide +kernel
theorem B230_131_133 : s_dk T230.2.2.1 131 [.iconst 1, .iadd] 133 = true := by decide +kernel
theorem D230_133 : decode T230.2.2.1 133 = .ok (.iastore, 1) := by decide +kernel
theorem B230_134_136 : s_dk T230.2.2.1 134 [.aload_n 0, .iload_n 1] 136 = true := by decide +kernel
theorem D230_136 : decode T230.2.2.1 136 = .ok (.invokevirtual 131, 3) := by decide +kernel
theorem D230_139 : decode T230.2.2.1 139 = .ok (.ireturn, 1) := by decide +kernel
theorem B230_72_73 : s_dk T230.2.2.1 72 [.aload_n 0] 73 = true := by decide +kernel
theorem D230_73 : decode T230.2.2.1 73 = .ok (.getfield 13, 3) := by decide +kernel
theorem B230_76_88 : s_dk T230.2.2.1 76 [.sipush 483, .sipush 400, .iload_n 1, .imul, .iadd, .iload_n 2, .iadd, .aload_n 0] 88 = true := by decide +kernel
theorem D230_88 : decode T230.2.2.1 88 = .ok (.getfield 78, 3) := by decide +kernel
theorem B230_91_92 : s_dk T230.2.2.1 91 [.iload_n 2] 92 = true := by decide +kernel
theorem D230_92 : decode T230.2.2.1 92 = .ok (.iaload, 1) := by decide +kernel
theorem D230_93 : decode T230.2.2.1 93 = .ok (.iastore, 1) := by decide +kernel
theorem B230_94_95 : s_dk T230.2.2.1 94 [.aload_n 0] 95 = true := by decide +kernel
theorem D230_95 : decode T230.2.2.1 95 = .ok (.getfield 13, 3) := by decide +kernel
theorem B230_98_110 : s_dk T230.2.2.1 98 [.sipush 3683, .sipush 400, .iload_n 1, .imul, .iadd, .iload_n 2, .iadd, .aload_n 0] 110 = true := by decide +kernel
theorem D230_110 : decode T230.2.2.1 110 = .ok (.getfield 81, 3) := by decide +kernel
theorem B230_113_114 : s_dk T230.2.2.1 113 [.iload_n 2] 114 = true := by decide +kernel
theorem D230_114 : decode T230.2.2.1 114 = .ok (.iaload, 1) := by decide +kernel
theorem D230_115 : decode T230.2.2.1 115 = .ok (.iastore, 1) := by decide +kernel
theorem B230_116_119 : s_dk T230.2.2.1 116 [.iinc 2 1] 119 = true := by decide +kernel
theorem D230_119 : decode T230.2.2.1 119 = .ok (.goto (-55), 3) := by decide +kernel
set_option maxRecDepth 4000 in
set_option maxHeartbeats 4000000 in
theorem k206k {base : Nat} {X : Nat → Option mC} {G : Nat → Value} (E : EnvOK base X G) {d : Nat} (hd : 7 ≤ d) {M : mH} (H : HI base M) (h0 : TB M) (h1 : LN M) (h2 : VT M) : sOk base X G d T206 [vR 77] M (pL (fun v M' => HI base M' ∧ Fr [(77, 7), (77, 8), (77, 9), (77, 10), (77, 14), (77, 15), (77, 16), (77, 26), (77, 28), (83, 0), (84, 0), (85, 0), (86, 0), (87, 0), (93, 0)] M M' ∧ (VT M'))) := by
  have f0 : Fr [(77, 7), (77, 8), (77, 9), (77, 10), (77, 14), (77, 15), (77, 16), (77, 26), (77, 28), (83, 0), (84, 0), (85, 0), (86, 0), (87, 0), (93, 0)] M M := Fr.rf
  refine sOk.of (show sRn base X G d T206 0 [(0, vR 77)] [] M _ from ?_)
  refine s_blx (lv' := [(0, vR 77)]) (st' := [vR 77]) B206_0_1 rfl ?_
  obtain ⟨t1, ht2⟩ : ∃ q, q = gi M 77 24 := ⟨_, rfl⟩
  have b_t1 := H.2 77 24 0 1 rfl
  rw [← ht2] at b_t1
  have g3 : gi M 77 24 = t1 := ht2.symm
  refine r_vL (c := 77) (args := []) (rest := []) (pc' := 4) D206_1 rfl ck_11_virtual_283 TE200 rfl (Nat.le_of_ble_eq_true rfl) ⟨Nat.le_of_ble_eq_true rfl, Nat.le_of_ble_eq_true rfl⟩ sc_77 ⟨rfl, by decide⟩ H.1 (dp_0 hd rfl) (k200k E (dp_n hd rfl) H (gi M 78) t1 (h0) (h1) (fun _ => rfl) (h2) (by omega) (by omega)) ?_
  intro v4 M5 q10
  obtain ⟨H6, f7, q8, q9⟩ := q10
  have f11 := f0.tr (f7.up rfl)
  refine s_blx (lv' := [(1, vL v4), (0, vR 77)]) (st' := [vI 1, vR 77]) B206_4_7 rfl ?_
  refine r_pbool (ki := 25) (pc' := 10) D206_7 rfl pf_11_273_77 rfl H6 (by omega) (show 0 ≤ 1 ∧ 1 ≤ 1 by omega) ?_
  intro M12 u13 H14 p15
  have f16 := f11.wr u13 rfl
  have hp17 := q9.wr u13 (by decide)
  refine s_blx (lv' := [(1, vL v4), (0, vR 77)]) (st' := [vR 77]) B206_10_11 rfl ?_
  have g18 : gi M12 77 24 = t1 := (u13.gi_ne (by decide) (Or.inr (by decide))).trans ((f7.g rfl).trans (ht2.symm))
  refine r_vL (c := 77) (args := []) (rest := []) (pc' := 14) D206_11 rfl ck_11_virtual_283 TE200 rfl (Nat.le_of_ble_eq_true rfl) ⟨Nat.le_of_ble_eq_true rfl, Nat.le_of_ble_eq_true rfl⟩ sc_77 ⟨rfl, by decide⟩ H14.1 (dp_0 hd rfl) (k200k E (dp_n hd rfl) H14 (gi M12 78) t1 ((h0.fr f16 rfl)) ((h1.fr f16 rfl)) (fun _ => rfl) (hp17) (by omega) (by omega)) ?_
  intro v19 M20 q25
  obtain ⟨H21, f22, q23, q24⟩ := q25
  have f26 := f16.tr (f22.up rfl)
  refine s_blx (lv' := [(3, vL v19), (1, vL v4), (0, vR 77)]) (st' := [vI 0, vR 77]) B206_14_17 rfl ?_
  refine r_pbool (ki := 25) (pc' := 20) D206_17 rfl pf_11_273_77 rfl H21 (by omega) (show 0 ≤ 0 ∧ 0 ≤ 1 by omega) ?_
  intro M27 u28 H29 p30
  have f31 := f26.wr u28 rfl
  have hp32 := q24.wr u28 (by decide)
  refine s_blx (lv' := [(3, vL v19), (1, vL v4), (0, vR 77)]) (st' := [vL (v19 - v4)]) B206_20_23 rfl ?_
  exact r_lretL D206_23 rfl (⟨H29, f31, hp32⟩)