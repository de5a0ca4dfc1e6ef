/-! The reference: what is in a set can come. -/
noncomputable def RS (n z : Int) (M : mH) : Prop := ∀ k : Int, 0 ≤ k → k ≤ 15 → bt z k → k < gi M 78 469 ∧ 1 ≤ gi M 78 (135 + 16 * k + 12 + gi M 78 474) ∧ n ≤ gi M 78 (135 + 16 * k)
theorem RS.of {n z : Int} {M M' : mH} (h : RS n z M) (e : ∀ i : Int, gi M' 78 i = gi M 78 i) : RS n z M' := by
  intro k h1 h2 h3
  simp only [e]
  exact h k h1 h2 h3
theorem RS.fr {n z : Int} {L : List (Nat × Nat)} {M M' : mH} (h : RS n z M) (f : Fr L M M') (hc : s_al L (fun c => c != 78) = true) : RS n z M' := h.of (fun _ => f.g (s_al_ok hc (by simp)))
theorem RS.wr {n z : Int} {M M' : mH} {c i : Nat} {v : Value} (h : RS n z M) (u : Wr M c i v M') (hc : c ≠ 78) : RS n z M' := h.of (fun j => by unfold gi; rw [u.ne (Or.inl (Ne.symm hc))])
/-- every sentence has a word -/
noncomputable def LN (M : mH) : Prop := ∀ s : Int, 0 ≤ s → s < gi M 78 469 → 1 ≤ gi M 78 (135 + 16 * s)
theorem LN.fr {L : List (Nat × Nat)} {M M' : mH} (h : LN M) (f : Fr L M M') (hc : s_al L (fun c => c != 78) = true) : LN M' := by
  have e : ∀ i : Int, gi M' 78 i = gi M 78 i := fun _ => f.g (s_al_ok hc (by simp))
  intro s h1 h2
  rw [e] at h2 ⊢
  exact h s h1 h2
theorem LN.wr {M M' : mH} {c i : Nat} {v : Value} (h : LN M) (u : Wr M c i v M') (hc : c ≠ 78) : LN M' := by
  have e : ∀ i : Int, gi M' 78 i = gi M 78 i := fun j => by unfold gi; rw [u.ne (Or.inl (Ne.symm hc))]
  intro s h1 h2
  rw [e] at h2 ⊢
  exact h s h1 h2
noncomputable def T196 : mT := (11, yX11_overAt, cX11_overAt, 11, none)
set_option maxRecDepth 10000 in
theorem TE196 : sy_m[196]? = some T196 := rfl
theorem B196_0_14 : s_dk T196.2.2.1 0 [.bipush 9, .iload_n 1, .imul, .istore_n 3, .lconst 0, .lstore 4, .iconst (-1), .istore 6, .iconst 0, .istore 7] 14 = true := by decide +kernel
theorem B196_14_18 : s_dk T196.2.2.1 14 [.iload 7, .bipush 16] 18 = true := by decide +kernel
theorem D196_18 : decode T196.2.2.1 18 = .ok (.if_icmp .ge 123, 3) := by decide +kernel
theorem B196_21_23 : s_dk T196.2.2.1 21 [.iload 7] 23 = true := by decide +kernel
theorem D196_23 : decode T196.2.2.1 23 = .ok (.invokestatic 237, 3) := by decide +kernel
theorem ck_11_static_237 : m_call 11 (.invokestatic 237) = some (1, 192, 1) := by decide +kernel
theorem B196_26_32 : s_dk T196.2.2.1 26 [.istore 8, .aload_n 0, .iload_n 2, .iload 8] 32 = true := by decide +kernel
theorem D196_32 : decode T196.2.2.1 32 = .ok (.invokevirtual 240, 3) := by decide +kernel
theorem ck_11_virtual_240 : m_call 11 (.invokevirtual 240) = some (0, 188, 2) := by decide +kernel
theorem D196_35 : decode T196.2.2.1 35 = .ok (.ifCond .ne 6, 3) := by decide +kernel
theorem B196_41_44 : s_dk T196.2.2.1 41 [.iload 8, .iconst 4] 44 = true := by decide +kernel
theorem D196_44 : decode T196.2.2.1 44 = .ok (.if_icmp .ne 13, 3) := by decide +kernel
theorem B196_57_58 : s_dk T196.2.2.1 57 [.aload_n 0] 58 = true := by decide +kernel
theorem gf_11_218_77 : s_gf 11 218 77 = some (15, 1) := by decide +kernel
theorem D196_58 : decode T196.2.2.1 58 = .ok (.getfield 218, 3) := by decide +kernel
theorem D196_61 : decode T196.2.2.1 61 = .ok (.i2l, 1) := by decide +kernel
theorem B196_62_64 : s_dk T196.2.2.1 62 [.aload_n 0, .aload_n 0] 64 = true := by decide +kernel
theorem gf_11_215_77 : s_gf 11 215 77 = some (14, 1) := by decide +kernel
theorem D196_64 : decode T196.2.2.1 64 = .ok (.getfield 215, 3) := by decide +kernel
theorem D196_67 : decode T196.2.2.1 67 = .ok (.invokevirtual 246, 3) := by decide +kernel
theorem ck_11_virtual_246 : m_call 11 (.invokevirtual 246) = some (0, 190, 1) := by decide +kernel
theorem D196_70 : decode T196.2.2.1 70 = .ok (.i2l, 1) := by decide +kernel
theorem B196_71_77 : s_dk T196.2.2.1 71 [.ladd, .lstore 9, .lload 9, .aload_n 0] 77 = true := by decide +kernel
theorem gf_11_197_77 : s_gf 11 197 77 = some (8, 1) := by decide +kernel
theorem D196_77 : decode T196.2.2.1 77 = .ok (.getfield 197, 3) := by decide +kernel
theorem D196_80 : decode T196.2.2.1 80 = .ok (.i2l, 1) := by decide +kernel
theorem B196_81_85 : s_dk T196.2.2.1 81 [.lmul, .iload 8, .iconst 4] 85 = true := by decide +kernel
theorem D196_85 : decode T196.2.2.1 85 = .ok (.if_icmp .ne 7, 3) := by decide +kernel
theorem B196_92_93 : s_dk T196.2.2.1 92 [.aload_n 0] 93 = true := by decide +kernel
theorem D196_93 : decode T196.2.2.1 93 = .ok (.getfield 40, 3) := by decide +kernel
theorem B196_96_102 : s_dk T196.2.2.1 96 [.sipush 1111, .iload_n 3, .imul, .aload_n 0] 102 = true := by decide +kernel
theorem D196_102 : decode T196.2.2.1 102 = .ok (.getfield 215, 3) := by decide +kernel
theorem B196_105_106 : s_dk T196.2.2.1 105 [.iadd] 106 = true := by decide +kernel
theorem D196_106 : decode T196.2.2.1 106 = .ok (.laload, 1) := by decide +kernel
theorem B196_107_113 : s_dk T196.2.2.1 107 [.ladd, .lstore 9, .iload 6, .iconst (-1)] 113 = true := by decide +kernel
theorem D196_113 : decode T196.2.2.1 113 = .ok (.if_icmp .eq 14, 3) := by decide +kernel
theorem B196_127_138 : s_dk T196.2.2.1 127 [.iload 8, .istore 6, .lload 9, .lstore 4, .iinc 7 1] 138 = true := by decide +kernel
theorem D196_138 : decode T196.2.2.1 138 = .ok (.goto (-124), 3) := by decide +kernel
theorem B196_88_89 : s_dk T196.2.2.1 88 [.lconst 0] 89 = true := by decide +kernel
theorem D196_89 : decode T196.2.2.1 89 = .ok (.goto 18, 3) := by decide +kernel
theorem B196_47_50 : s_dk T196.2.2.1 47 [.aload_n 0, .iload_n 2, .iload_n 1] 50 = true := by decide +kernel
theorem D196_50 : decode T196.2.2.1 50 = .ok (.invokevirtual 243, 3) := by decide +kernel
theorem ck_11_virtual_243 : m_call 11 (.invokevirtual 243) = some (0, 191, 2) := by decide +kernel
theorem D196_53 : decode T196.2.2.1 53 = .ok (.i2l, 1) := by decide +kernel
theorem D196_54 : decode T196.2.2.1 54 = .ok (.goto 18, 3) := by decide +kernel
theorem B196_72_77 : s_dk T196.2.2.1 72 [.lstore 9, .lload 9, .aload_n 0] 77 = true := by decide +kernel
theorem D196_38 : decode T196.2.2.1 38 = .ok (.goto 97, 3) := by decide +kernel
theorem B196_135_138 : s_dk T196.2.2.1 135 [.iinc 7 1] 138 = true := by decide +kernel
theorem B196_116_120 : s_dk T196.2.2.1 116 [.lload 9, .lload 4] 120 = true := by decide +kernel
theorem D196_120 : decode T196.2.2.1 120 = .ok (.lcmp, 1) := by decide +kernel
theorem D196_121 : decode T196.2.2.1 121 = .ok (.ifCond .lt 6, 3) := by decide +kernel
theorem D196_124 : decode T196.2.2.1 124 = .ok (.goto 11, 3) := by decide +kernel
theorem B196_141_148 : s_dk T196.2.2.1 141 [.aload_n 0, .iload_n 3, .iload_n 2, .lload 4, .iload 6] 148 = true := by decide +kernel
theorem D196_148 : decode T196.2.2.1 148 = .ok (.invokevirtual 249, 3) := by decide +kernel
theorem ck_11_virtual_249 : m_call 11 (.invokevirtual 249) = some (0, 194, 4) := by decide +kernel
theorem D196_151 : decode T196.2.2.1 151 = .ok (.return_, 1) := by decide +kernel
noncomputable def T197 : mT := (11, yX11_overs, cX11_overs, 4, none)
set_option maxRecDepth 10000 in
theorem TE197 : sy_m[197]? = some T197 := rfl
theorem B197_0_4 : s_dk T197.2.2.1 0 [.aload_n 0, .iload_n 1, .aload_n 0, .iload_n 1] 4 = true := by decide +kernel
theorem D197_4 : decode T197.2.2.1 4 = .ok (.invokevirtual 144, 3) := by decide +kernel
theorem B197_7_8 : s_dk T197.2.2.1 7 [.iconst 1] 8 = true := by decide +kernel
theorem D197_8 : decode T197.2.2.1 8 = .ok (.invokevirtual 253, 3) := by decide +kernel
theorem ck_11_virtual_253 : m_call 11 (.invokevirtual 253) = some (0, 183, 3) := by decide +kernel
theorem B197_11_13 : s_dk T197.2.2.1 11 [.iconst 0, .istore_n 2] 13 = true := by decide +kernel
theorem B197_13_15 : s_dk T197.2.2.1 13 [.iload_n 2, .iconst 3] 15 = true := by decide +kernel
theorem D197_15 : decode T197.2.2.1 15 = .ok (.if_icmp .gt 39, 3) := by decide +kernel
theorem B197_18_22 : s_dk T197.2.2.1 18 [.sipush 1110, .istore_n 3] 22 = true := by decide +kernel
theorem B197_22_23 : s_dk T197.2.2.1 22 [.iload_n 3] 23 = true := by decide +kernel
theorem D197_23 : decode T197.2.2.1 23 = .ok (.ifCond .lt 25, 3) := by decide +kernel
theorem B197_26_29 : s_dk T197.2.2.1 26 [.aload_n 0, .iload_n 3, .iload_n 1] 29 = true := by decide +kernel
theorem D197_29 : decode T197.2.2.1 29 = .ok (.invokevirtual 257, 3) := by decide +kernel
theorem ck_11_virtual_257 : m_call 11 (.invokevirtual 257) = some (0, 195, 2) := by decide +kernel
theorem B197_32_33 : s_dk T197.2.2.1 32 [.iload_n 2] 33 = true := by decide +kernel
theorem D197_33 : decode T197.2.2.1 33 = .ok (.if_icmp .ne 9, 3) := by decide +kernel
theorem B197_42_45 : s_dk T197.2.2.1 42 [.iinc 3 (-1)] 45 = true := by decide +kernel
theorem D197_45 : decode T197.2.2.1 45 = .ok (.goto (-23), 3) := by decide +kernel
theorem B197_36_39 : s_dk T197.2.2.1 36 [.aload_n 0, .iload_n 1, .iload_n 3] 39 = true := by decide +kernel
theorem D197_39 : decode T197.2.2.1 39 = .ok (.invokevirtual 260, 3) := by decide +kernel
theorem ck_11_virtual_260 : m_call 11 (.invokevirtual 260) = some (0, 196, 2) := by decide +kernel
theorem B197_48_51 : s_dk T197.2.2.1 48 [.iinc 2 1] 51 = true := by decide +kernel
theorem D197_51 : decode T197.2.2.1 51 = .ok (.goto (-38), 3) := by decide +kernel
theorem D197_54 : decode T197.2.2.1 54 = .ok (.return_, 1) := by decide +kernel
noncomputable def T198 : mT := (11, yX11_follows, cX11_follows, 7, none)
set_option maxRecDepth 10000 in
theorem TE198 : sy_m[198]? = some T198 := rfl
theorem B198_0_2 : s_dk T198.2.2.1 0 [.aload_n 0, .iconst 0] 2 = true := by decide +kernel
theorem pf_11_264_77 : s_pf 11 264 77 = some (27, 1) := by decide +kernel
theorem D198_2 : decode T198.2.2.1 2 = .ok (.putfield 264, 3) := by decide +kernel
theorem B198_5_7 : s_dk T198.2.2.1 5 [.iconst 0, .istore_n 3] 7 = true := by decide +kernel
theorem B198_7_9 : s_dk T198.2.2.1 7 [.iload_n 3, .aload_n 0] 9 = true := by decide +kernel
theorem D198_9 : decode T198.2.2.1 9 = .ok (.getfield 13, 3) := by decide +kernel
theorem B198_12_15 : s_dk T198.2.2.1 12 [.sipush 469] 15 = true := by decide +kernel
theorem D198_15 : decode T198.2.2.1 15 = .ok (.iaload, 1) := by decide +kernel
theorem D198_16 : decode T198.2.2.1 16 = .ok (.if_icmp .ge 130, 3) := by decide +kernel
theorem D198_146 : decode T198.2.2.1 146 = .ok (.return_, 1) := by decide +kernel
theorem B198_19_20 : s_dk T198.2.2.1 19 [.aload_n 0] 20 = true := by decide +kernel
theorem D198_20 : decode T198.2.2.1 20 = .ok (.getfield 194, 3) := by decide +kernel
theorem B198_23_24 : s_dk T198.2.2.1 23 [.iload_n 3] 24 = true := by decide +kernel
theorem D198_24 : decode T198.2.2.1 24 = .ok (.ishr, 1) := by decide +kernel
theorem B198_25_26 : s_dk T198.2.2.1 25 [.iconst 1] 26 = true := by decide +kernel
theorem D198_26 : decode T198.2.2.1 26 = .ok (.iand, 1) := by decide +kernel
theorem D198_27 : decode T198.2.2.1 27 = .ok (.ifCond .ne 6, 3) := by decide +kernel
theorem B198_33_35 : s_dk T198.2.2.1 33 [.aload_n 0, .iload_n 3] 35 = true := by decide +kernel
theorem D198_35 : decode T198.2.2.1 35 = .ok (.invokevirtual 144, 3) := by decide +kernel
theorem B198_38_39 : s_dk T198.2.2.1 38 [.iload_n 2] 39 = true := by decide +kernel
theorem D198_39 : decode T198.2.2.1 39 = .ok (.if_icmp .ne 10, 3) := by decide +kernel
theorem B198_49_56 : s_dk T198.2.2.1 49 [.bipush 9, .aload_n 0, .iload_n 3, .iload_n 2, .iconst 1, .iadd] 56 = true := by decide +kernel
theorem D198_56 : decode T198.2.2.1 56 = .ok (.invokevirtual 267, 3) := by decide +kernel
theorem ck_11_virtual_267 : m_call 11 (.invokevirtual 267) = some (0, 193, 2) := by decide +kernel
theorem B198_59_72 : s_dk T198.2.2.1 59 [.imul, .iload_n 2, .iadd, .iconst 1, .iadd, .istore 4, .iconst 0, .istore 5, .iconst 0, .istore 6] 72 = true := by decide +kernel
theorem B198_42_46 : s_dk T198.2.2.1 42 [.bipush 9, .iload_n 3, .imul] 46 = true := by decide +kernel
theorem D198_46 : decode T198.2.2.1 46 = .ok (.goto 18, 3) := by decide +kernel
theorem B198_64_72 : s_dk T198.2.2.1 64 [.istore 4, .iconst 0, .istore 5, .iconst 0, .istore 6] 72 = true := by decide +kernel
theorem D198_30 : decode T198.2.2.1 30 = .ok (.goto 110, 3) := by decide +kernel
theorem B198_140_143 : s_dk T198.2.2.1 140 [.iinc 3 1] 143 = true := by decide +kernel
theorem D198_143 : decode T198.2.2.1 143 = .ok (.goto (-136), 3) := by decide +kernel
theorem B198_72_75 : s_dk T198.2.2.1 72 [.iload 6, .aload_n 0] 75 = true := by decide +kernel
theorem gf_11_264_77 : s_gf 11 264 77 = some (27, 1) := by decide +kernel
theorem D198_75 : decode T198.2.2.1 75 = .ok (.getfield 264, 3) := by decide +kernel
theorem D198_78 : decode T198.2.2.1 78 = .ok (.if_icmp .ge 33, 3) := by decide +kernel
theorem B198_111_113 : s_dk T198.2.2.1 111 [.iload 5] 113 = true := by decide +kernel
theorem D198_113 : decode T198.2.2.1 113 = .ok (.ifCond .eq 6, 3) := by decide +kernel
theorem B198_119_120 : s_dk T198.2.2.1 119 [.aload_n 0] 120 = true := by decide +kernel
theorem gf_11_62_77 : s_gf 11 62 77 = some (26, 96) := by decide +kernel
theorem D198_120 : decode T198.2.2.1 120 = .ok (.getfield 62, 3) := by decide +kernel
theorem B198_123_124 : s_dk T198.2.2.1 123 [.aload_n 0] 124 = true := by decide +kernel
theorem D198_124 : decode T198.2.2.1 124 = .ok (.getfield 264, 3) := by decide +kernel
theorem B198_127_129 : s_dk T198.2.2.1 127 [.iload 4] 129 = true := by decide +kernel
theorem D198_129 : decode T198.2.2.1 129 = .ok (.iastore, 1) := by decide +kernel
theorem B198_130_132 : s_dk T198.2.2.1 130 [.aload_n 0, .dup] 132 = true := by decide +kernel
theorem D198_132 : decode T198.2.2.1 132 = .ok (.getfield 264, 3) := by decide +kernel
theorem B198_135_137 : s_dk T198.2.2.1 135 [.iconst 1, .iadd] 137 = true := by decide +kernel
theorem D198_137 : decode T198.2.2.1 137 = .ok (.putfield 264, 3) := by decide +kernel
theorem B198_81_83 : s_dk T198.2.2.1 81 [.iload 5] 83 = true := by decide +kernel
theorem D198_83 : decode T198.2.2.1 83 = .ok (.ifCond .ne 15, 3) := by decide +kernel
theorem B198_86_87 : s_dk T198.2.2.1 86 [.aload_n 0] 87 = true := by decide +kernel
theorem D198_87 : decode T198.2.2.1 87 = .ok (.getfield 62, 3) := by decide +kernel
theorem B198_90_92 : s_dk T198.2.2.1 90 [.iload 6] 92 = true := by decide +kernel
theorem D198_92 : decode T198.2.2.1 92 = .ok (.iaload, 1) := by decide +kernel
theorem B198_93_95 : s_dk T198.2.2.1 93 [.iload 4] 95 = true := by decide +kernel
theorem D198_95 : decode T198.2.2.1 95 = .ok (.if_icmp .ne 7, 3) := by decide +kernel
theorem B198_102_108 : s_dk T198.2.2.1 102 [.iconst 0, .istore 5, .iinc 6 1] 108 = true := by decide +kernel
theorem D198_108 : decode T198.2.2.1 108 = .ok (.goto (-36), 3) := by decide +kernel
theorem B198_98_99 : s_dk T198.2.2.1 98 [.iconst 1] 99 = true := by decide +kernel
theorem D198_99 : decode T198.2.2.1 99 = .ok (.goto 4, 3) := by decide +kernel
theorem B198_103_108 : s_dk T198.2.2.1 103 [.istore 5, .iinc 6 1] 108 = true := by decide +kernel
theorem D198_116 : decode T198.2.2.1 116 = .ok (.goto 24, 3) := by decide +kernel
noncomputable def T199 : mT := (11, yX11_placeAt, cX11_placeAt, 12, none)
set_option maxRecDepth 10000 in
theorem TE199 : sy_m[199]? = some T199 := rfl
theorem B199_0_4 : s_dk T199.2.2.1 0 [.aload_n 0, .iload_n 1, .iload_n 2, .iconst 0] 4 = true := by decide +kernel
theorem D199_4 : decode T199.2.2.1 4 = .ok (.invokevirtual 253, 3) := by decide +kernel
theorem B199_7_10 : s_dk T199.2.2.1 7 [.aload_n 0, .iload_n 1, .iload_n 2] 10 = true := by decide +kernel
theorem D199_10 : decode T199.2.2.1 10 = .ok (.invokevirtual 270, 3) := by decide +kernel
theorem ck_11_virtual_270 : m_call 11 (.invokevirtual 270) = some (0, 198, 2) := by decide +kernel
theorem B199_13_15 : s_dk T199.2.2.1 13 [.iconst 0, .istore_n 3] 15 = true := by decide +kernel
theorem B199_15_19 : s_dk T199.2.2.1 15 [.iload_n 3, .sipush 1111] 19 = true := by decide +kernel
theorem D199_19 : decode T199.2.2.1 19 = .ok (.if_icmp .ge 177, 3) := by decide +kernel
theorem B199_22_31 : s_dk T199.2.2.1 22 [.lconst 0, .lstore 4, .iconst (-1), .istore 6, .iconst 0, .istore 7] 31 = true := by decide +kernel
theorem B199_31_35 : s_dk T199.2.2.1 31 [.iload 7, .bipush 16] 35 = true := by decide +kernel
theorem D199_35 : decode T199.2.2.1 35 = .ok (.if_icmp .ge 140, 3) := by decide +kernel
theorem B199_38_40 : s_dk T199.2.2.1 38 [.iload 7] 40 = true := by decide +kernel
theorem D199_40 : decode T199.2.2.1 40 = .ok (.invokestatic 237, 3) := by decide +kernel
theorem B199_43_46 : s_dk T199.2.2.1 43 [.istore 8, .aload_n 0] 46 = true := by decide +kernel
theorem gf_11_273_77 : s_gf 11 273 77 = some (25, 1) := by decide +kernel
theorem D199_46 : decode T199.2.2.1 46 = .ok (.getfield 273, 3) := by decide +kernel
theorem D199_49 : decode T199.2.2.1 49 = .ok (.ifCond .eq 15, 3) := by decide +kernel
theorem B199_64_68 : s_dk T199.2.2.1 64 [.aload_n 0, .iload_n 3, .iload 8] 68 = true := by decide +kernel
theorem D199_68 : decode T199.2.2.1 68 = .ok (.invokevirtual 240, 3) := by decide +kernel
theorem D199_71 : decode T199.2.2.1 71 = .ok (.ifCond .ne 6, 3) := by decide +kernel
theorem B199_77_78 : s_dk T199.2.2.1 77 [.aload_n 0] 78 = true := by decide +kernel
theorem D199_78 : decode T199.2.2.1 78 = .ok (.getfield 218, 3) := by decide +kernel
theorem D199_81 : decode T199.2.2.1 81 = .ok (.i2l, 1) := by decide +kernel
theorem B199_82_84 : s_dk T199.2.2.1 82 [.aload_n 0, .aload_n 0] 84 = true := by decide +kernel
theorem D199_84 : decode T199.2.2.1 84 = .ok (.getfield 215, 3) := by decide +kernel
theorem D199_87 : decode T199.2.2.1 87 = .ok (.invokevirtual 246, 3) := by decide +kernel
theorem D199_90 : decode T199.2.2.1 90 = .ok (.i2l, 1) := by decide +kernel
theorem B199_91_93 : s_dk T199.2.2.1 91 [.ladd, .aload_n 0] 93 = true := by decide +kernel
theorem D199_93 : decode T199.2.2.1 93 = .ok (.getfield 197, 3) := by decide +kernel
theorem D199_96 : decode T199.2.2.1 96 = .ok (.i2l, 1) := by decide +kernel
theorem B199_97_103 : s_dk T199.2.2.1 97 [.lmul, .lstore 9, .iconst 0, .istore 11] 103 = true := by decide +kernel
theorem D199_74 : decode T199.2.2.1 74 = .ok (.goto 95, 3) := by decide +kernel
theorem B199_169_172 : s_dk T199.2.2.1 169 [.iinc 7 1] 172 = true := by decide +kernel
theorem D199_172 : decode T199.2.2.1 172 = .ok (.goto (-141), 3) := by decide +kernel
theorem B199_52_58 : s_dk T199.2.2.1 52 [.iload 8, .bipush 10, .bipush 17] 58 = true := by decide +kernel
theorem D199_58 : decode T199.2.2.1 58 = .ok (.invokestatic 123, 3) := by decide +kernel
theorem D199_61 : decode T199.2.2.1 61 = .ok (.ifCond .ne 108, 3) := by decide +kernel
theorem B199_103_106 : s_dk T199.2.2.1 103 [.iload 11, .aload_n 0] 106 = true := by decide +kernel
theorem D199_106 : decode T199.2.2.1 106 = .ok (.getfield 264, 3) := by decide +kernel
theorem D199_109 : decode T199.2.2.1 109 = .ok (.if_icmp .ge 35, 3) := by decide +kernel
theorem B199_144_147 : s_dk T199.2.2.1 144 [.iload 6, .iconst (-1)] 147 = true := by decide +kernel
theorem D199_147 : decode T199.2.2.1 147 = .ok (.if_icmp .eq 14, 3) := by decide +kernel
theorem B199_161_172 : s_dk T199.2.2.1 161 [.iload 8, .istore 6, .lload 9, .lstore 4, .iinc 7 1] 172 = true := by decide +kernel
theorem B199_112_115 : s_dk T199.2.2.1 112 [.lload 9, .aload_n 0] 115 = true := by decide +kernel
theorem D199_115 : decode T199.2.2.1 115 = .ok (.getfield 40, 3) := by decide +kernel
theorem B199_118_122 : s_dk T199.2.2.1 118 [.sipush 1111, .aload_n 0] 122 = true := by decide +kernel
theorem D199_122 : decode T199.2.2.1 122 = .ok (.getfield 62, 3) := by decide +kernel
theorem B199_125_127 : s_dk T199.2.2.1 125 [.iload 11] 127 = true := by decide +kernel
theorem D199_127 : decode T199.2.2.1 127 = .ok (.iaload, 1) := by decide +kernel
theorem B199_128_130 : s_dk T199.2.2.1 128 [.imul, .aload_n 0] 130 = true := by decide +kernel
theorem D199_130 : decode T199.2.2.1 130 = .ok (.getfield 215, 3) := by decide +kernel
theorem B199_133_134 : s_dk T199.2.2.1 133 [.iadd] 134 = true := by decide +kernel
theorem D199_134 : decode T199.2.2.1 134 = .ok (.laload, 1) := by decide +kernel
theorem B199_135_141 : s_dk T199.2.2.1 135 [.ladd, .lstore 9, .iinc 11 1] 141 = true := by decide +kernel
theorem D199_141 : decode T199.2.2.1 141 = .ok (.goto (-38), 3) := by decide +kernel
theorem B199_150_154 : s_dk T199.2.2.1 150 [.lload 9, .lload 4] 154 = true := by decide +kernel
theorem D199_154 : decode T199.2.2.1 154 = .ok (.lcmp, 1) := by decide +kernel
theorem D199_155 : decode T199.2.2.1 155 = .ok (.ifCond .lt 6, 3) := by decide +kernel
theorem D199_158 : decode T199.2.2.1 158 = .ok (.goto 11, 3) := by decide +kernel
theorem B199_175_187 : s_dk T199.2.2.1 175 [.aload_n 0, .bipush 9, .iload_n 1, .imul, .iload_n 2, .iadd, .iload_n 3, .lload 4, .iload 6] 187 = true := by decide +kernel
theorem D199_187 : decode T199.2.2.1 187 = .ok (.invokevirtual 249, 3) := by decide +kernel
theorem B199_190_193 : s_dk T199.2.2.1 190 [.iinc 3 1] 193 = true := by decide +kernel
theorem D199_193 : decode T199.2.2.1 193 = .ok (.goto (-178), 3) := by decide +kernel
theorem D199_196 : decode T199.2.2.1 196 = .ok (.return_, 1) := by decide +kernel
noncomputable def T200 : mT := (11, yX11_leastOf, cX11_leastOf, 4, (some .long))
set_option maxRecDepth 10000 in
theorem TE200 : sy_m[200]? = some T200 := rfl
theorem B200_0_2 : s_dk T200.2.2.1 0 [.iconst 0, .istore_n 1] 2 = true := by decide +kernel
theorem B200_2_4 : s_dk T200.2.2.1 2 [.iload_n 1, .aload_n 0] 4 = true := by decide +kernel
theorem D200_4 : decode T200.2.2.1 4 = .ok (.getfield 13, 3) := by decide +kernel
theorem B200_7_10 : s_dk T200.2.2.1 7 [.sipush 469] 10 = true := by decide +kernel
theorem D200_10 : decode T200.2.2.1 10 = .ok (.iaload, 1) := by decide +kernel
theorem D200_11 : decode T200.2.2.1 11 = .ok (.if_icmp .ge 22, 3) := by decide +kernel
theorem B200_33_36 : s_dk T200.2.2.1 33 [.bipush 8, .istore_n 1] 36 = true := by decide +kernel
theorem B200_14_16 : s_dk T200.2.2.1 14 [.aload_n 0, .iload_n 1] 16 = true := by decide +kernel
theorem D200_16 : decode T200.2.2.1 16 = .ok (.invokevirtual 138, 3) := by decide +kernel
theorem D200_19 : decode T200.2.2.1 19 = .ok (.ifCond .le 8, 3) := by decide +kernel
theorem B200_27_30 : s_dk T200.2.2.1 27 [.iinc 1 1] 30 = true := by decide +kernel
theorem D200_30 : decode T200.2.2.1 30 = .ok (.goto (-28), 3) := by decide +kernel
theorem B200_22_24 : s_dk T200.2.2.1 22 [.aload_n 0, .iload_n 1] 24 = true := by decide +kernel
theorem D200_24 : decode T200.2.2.1 24 = .ok (.invokevirtual 276, 3) := by decide +kernel
theorem ck_11_virtual_276 : m_call 11 (.invokevirtual 276) = some (0, 197, 1) := by decide +kernel
theorem B200_36_38 : s_dk T200.2.2.1 36 [.iload_n 1, .iconst 1] 38 = true := by decide +kernel
theorem D200_38 : decode T200.2.2.1 38 = .ok (.if_icmp .lt 62, 3) := by decide +kernel
theorem B200_41_43 : s_dk T200.2.2.1 41 [.iconst 0, .istore_n 2] 43 = true := by decide +kernel
theorem B200_43_45 : s_dk T200.2.2.1 43 [.iload_n 2, .aload_n 0] 45 = true := by decide +kernel
theorem D200_45 : decode T200.2.2.1 45 = .ok (.getfield 13, 3) := by decide +kernel
theorem B200_48_51 : s_dk T200.2.2.1 48 [.sipush 469] 51 = true := by decide +kernel
theorem D200_51 : decode T200.2.2.1 51 = .ok (.iaload, 1) := by decide +kernel
theorem D200_52 : decode T200.2.2.1 52 = .ok (.if_icmp .ge 42, 3) := by decide +kernel
theorem B200_94_97 : s_dk T200.2.2.1 94 [.iinc 1 (-1)] 97 = true := by decide +kernel
theorem D200_97 : decode T200.2.2.1 97 = .ok (.goto (-61), 3) := by decide +kernel
theorem B200_55_57 : s_dk T200.2.2.1 55 [.aload_n 0, .iload_n 2] 57 = true := by decide +kernel
theorem D200_57 : decode T200.2.2.1 57 = .ok (.invokevirtual 138, 3) := by decide +kernel
theorem D200_60 : decode T200.2.2.1 60 = .ok (.ifCond .le 28, 3) := by decide +kernel
theorem B200_88_91 : s_dk T200.2.2.1 88 [.iinc 2 1] 91 = true := by decide +kernel
theorem D200_91 : decode T200.2.2.1 91 = .ok (.goto (-48), 3) := by decide +kernel
theorem B200_63_65 : s_dk T200.2.2.1 63 [.aload_n 0, .iload_n 2] 65 = true := by decide +kernel
theorem D200_65 : decode T200.2.2.1 65 = .ok (.invokevirtual 144, 3) := by decide +kernel
theorem B200_68_69 : s_dk T200.2.2.1 68 [.iload_n 1] 69 = true := by decide +kernel
theorem D200_69 : decode T200.2.2.1 69 = .ok (.if_icmp .lt 19, 3) := by decide +kernel
theorem B200_72_75 : s_dk T200.2.2.1 72 [.aload_n 0, .iload_n 2, .iload_n 1] 75 = true := by decide +kernel
theorem D200_75 : decode T200.2.2.1 75 = .ok (.invokevirtual 267, 3) := by decide +kernel
theorem B200_78_79 : s_dk T200.2.2.1 78 [.iload_n 2] 79 = true := by decide +kernel
theorem D200_79 : decode T200.2.2.1 79 = .ok (.if_icmp .ne 9, 3) := by decide +kernel
theorem B200_82_85 : s_dk T200.2.2.1 82 [.aload_n 0, .iload_n 2, .iload_n 1] 85 = true := by decide +kernel
theorem D200_85 : decode T200.2.2.1 85 = .ok (.invokevirtual 280, 3) := by decide +kernel
theorem ck_11_virtual_280 : m_call 11 (.invokevirtual 280) = some (0, 199, 2) := by decide +kernel
theorem B200_100_104 : s_dk T200.2.2.1 100 [.lconst 0, .lstore_n 1, .iconst 0, .istore_n 3] 104 = true := by decide +kernel
theorem B200_104_106 : s_dk T200.2.2.1 104 [.iload_n 3, .aload_n 0] 106 = true := by decide +kernel
theorem D200_106 : decode T200.2.2.1 106 = .ok (.getfield 13, 3) := by decide +kernel
theorem B200_109_112 : s_dk T200.2.2.1 109 [.sipush 469] 112 = true := by decide +kernel
theorem D200_112 : decode T200.2.2.1 112 = .ok (.iaload, 1) := by decide +kernel
theorem D200_113 : decode T200.2.2.1 113 = .ok (.if_icmp .ge 45, 3) := by decide +kernel
theorem B200_158_159 : s_dk T200.2.2.1 158 [.lload_n 1] 159 = true := by decide +kernel
theorem D200_159 : decode T200.2.2.1 159 = .ok (.lreturn, 1) := by decide +kernel
theorem B200_116_118 : s_dk T200.2.2.1 116 [.aload_n 0, .iload_n 3] 118 = true := by decide +kernel
theorem D200_118 : decode T200.2.2.1 118 = .ok (.invokevirtual 138, 3) := by decide +kernel
theorem D200_121 : decode T200.2.2.1 121 = .ok (.ifCond .le 31, 3) := by decide +kernel
theorem B200_152_155 : s_dk T200.2.2.1 152 [.iinc 3 1] 155 = true := by decide +kernel
theorem D200_155 : decode T200.2.2.1 155 = .ok (.goto (-51), 3) := by decide +kernel
theorem B200_124_127 : s_dk T200.2.2.1 124 [.aload_n 0, .iload_n 3, .iconst 1] 127 = true := by decide +kernel
theorem D200_127 : decode T200.2.2.1 127 = .ok (.invokevirtual 267, 3) := by decide +kernel
theorem B200_130_131 : s_dk T200.2.2.1 130 [.iload_n 3] 131 = true := by decide +kernel
theorem D200_131 : decode T200.2.2.1 131 = .ok (.if_icmp .ne 21, 3) := by decide +kernel
theorem B200_134_136 : s_dk T200.2.2.1 134 [.lload_n 1, .aload_n 0] 136 = true := by decide +kernel
theorem D200_136 : decode T200.2.2.1 136 = .ok (.getfield 40, 3) := by decide +kernel
theorem B200_139_149 : s_dk T200.2.2.1 139 [.sipush 1111, .bipush 9, .iload_n 3, .imul, .iconst 1, .iadd, .imul] 149 = true := by decide +kernel
theorem D200_149 : decode T200.2.2.1 149 = .ok (.laload, 1) := by decide +kernel
theorem B200_150_155 : s_dk T200.2.2.1 150 [.ladd, .lstore_n 1, .iinc 3 1] 155 = true := by decide +kernel
noncomputable def T206 : mT := (11, yX11_guessing, cX11_guessing, 5, (some .long))
set_option maxRecDepth 10000 in
theorem TE206 : sy_m[206]? = some T206 := rfl
theorem B206_0_1 : s_dk T206.2.2.1 0 [.aload_n 0] 1 = true := by decide +kernel
theorem D206_1 : decode T206.2.2.1 1 = .ok (.invokevirtual 283, 3) := by decide +kernel
theorem ck_11_virtual_283 : m_call 11 (.invokevirtual 283) = some (0, 200, 0) := by decide +kernel
theorem B206_4_7 : s_dk T206.2.2.1 4 [.lstore_n 1, .aload_n 0, .iconst 1] 7 = true := by decide +kernel
theorem pf_11_273_77 : s_pf 11 273 77 = some (25, 2) := by decide +kernel
theorem D206_7 : decode T206.2.2.1 7 = .ok (.putfield 273, 3) := by decide +kernel
theorem B206_10_11 : s_dk T206.2.2.1 10 [.aload_n 0] 11 = true := by decide +kernel
theorem D206_11 : decode T206.2.2.1 11 = .ok (.invokevirtual 283, 3) := by decide +kernel
theorem B206_14_17 : s_dk T206.2.2.1 14 [.lstore_n 3, .aload_n 0, .iconst 0] 17 = true := by decide +kernel
theorem D206_17 : decode T206.2.2.1 17 = .ok (.putfield 273, 3) := by decide +kernel
theorem B206_20_23 : s_dk T206.2.2.1 20 [.lload_n 3, .lload_n 1, .lsub] 23 = true := by decide +kernel
theorem D206_23 : decode T206.2.2.1 23 = .ok (.lreturn, 1) := by decide +kernel
noncomputable def T207 : mT := (11, yX11_writing, cX11_writing, 7, (some .long))
set_option maxRecDepth 10000 in
theorem TE207 : sy_m[207]? = some T207 := rfl
theorem B207_0_1 : s_dk T207.2.2.1 0 [.aload_n 0] 1 = true := by decide +kernel
theorem D207_1 : decode T207.2.2.1 1 = .ok (.getfield 13, 3) := by decide +kernel
theorem B207_4_7 : s_dk T207.2.2.1 4 [.iconst 0, .iload_n 1, .iadd] 7 = true := by decide +kernel
theorem D207_7 : decode T207.2.2.1 7 = .ok (.iaload, 1) := by decide +kernel
theorem B207_8_11 : s_dk T207.2.2.1 8 [.istore 4, .aload_n 0] 11 = true := by decide +kernel
theorem D207_11 : decode T207.2.2.1 11 = .ok (.getfield 13, 3) := by decide +kernel
theorem B207_14_18 : s_dk T207.2.2.1 14 [.iconst 0, .iload_n 1, .iadd, .iconst 0] 18 = true := by decide +kernel
theorem D207_18 : decode T207.2.2.1 18 = .ok (.iastore, 1) := by decide +kernel
theorem B207_19_21 : s_dk T207.2.2.1 19 [.lload_n 2, .aload_n 0] 21 = true := by decide +kernel
theorem D207_21 : decode T207.2.2.1 21 = .ok (.invokevirtual 283, 3) := by decide +kernel
theorem B207_24_28 : s_dk T207.2.2.1 24 [.lsub, .lstore 5, .aload_n 0] 28 = true := by decide +kernel
theorem D207_28 : decode T207.2.2.1 28 = .ok (.getfield 13, 3) := by decide +kernel
theorem B207_31_36 : s_dk T207.2.2.1 31 [.iconst 0, .iload_n 1, .iadd, .iload 4] 36 = true := by decide +kernel
theorem D207_36 : decode T207.2.2.1 36 = .ok (.iastore, 1) := by decide +kernel
theorem B207_37_39 : s_dk T207.2.2.1 37 [.lload 5] 39 = true := by decide +kernel
theorem D207_39 : decode T207.2.2.1 39 = .ok (.lreturn, 1) := by decide +kernel
noncomputable def T209 : mT := (11, yX11_write, cX11_write, 10, (some .long))
set_option maxRecDepth 10000 in
theorem TE209 : sy_m[209]? = some T209 := rfl
theorem B209_0_4 : s_dk T209.2.2.1 0 [.iload_n 1, .iconst (-1), .bipush 29] 4 = true := by decide +kernel
theorem D209_4 : decode T209.2.2.1 4 = .ok (.invokestatic 123, 3) := by decide +kernel
theorem D209_7 : decode T209.2.2.1 7 = .ok (.ifCond .ne 7, 3) := by decide +kernel
theorem B209_14_15 : s_dk T209.2.2.1 14 [.aload_n 0] 15 = true := by decide +kernel
theorem D209_15 : decode T209.2.2.1 15 = .ok (.invokevirtual 283, 3) := by decide +kernel
theorem B209_18_21 : s_dk T209.2.2.1 18 [.lstore_n 2, .iload_n 1, .iconst (-1)] 21 = true := by decide +kernel
theorem D209_21 : decode T209.2.2.1 21 = .ok (.if_icmp .eq 10, 3) := by decide +kernel
theorem B209_31_40 : s_dk T209.2.2.1 31 [.iconst (-1), .istore 4, .lconst 0, .lstore 5, .iconst 0, .istore 7] 40 = true := by decide +kernel
theorem B209_24_27 : s_dk T209.2.2.1 24 [.aload_n 0, .iload_n 1, .lload_n 2] 27 = true := by decide +kernel
theorem D209_27 : decode T209.2.2.1 27 = .ok (.invokevirtual 298, 3) := by decide +kernel
theorem ck_11_virtual_298 : m_call 11 (.invokevirtual 298) = some (0, 207, 2) := by decide +kernel
theorem D209_30 : decode T209.2.2.1 30 = .ok (.lreturn, 1) := by decide +kernel
theorem cl_11_296 : m_cl 11 296 = some (-1) := by decide +kernel
theorem D209_10 : decode T209.2.2.1 10 = .ok (.ldc2_w 296, 3) := by decide +kernel
theorem D209_13 : decode T209.2.2.1 13 = .ok (.lreturn, 1) := by decide +kernel
theorem B209_40_44 : s_dk T209.2.2.1 40 [.iload 7, .bipush 30] 44 = true := by decide +kernel
theorem D209_44 : decode T209.2.2.1 44 = .ok (.if_icmp .ge 61, 3) := by decide +kernel
theorem B209_47_50 : s_dk T209.2.2.1 47 [.aload_n 0, .iload 7] 50 = true := by decide +kernel
theorem D209_50 : decode T209.2.2.1 50 = .ok (.invokevirtual 302, 3) := by decide +kernel
theorem ck_11_virtual_302 : m_call 11 (.invokevirtual 302) = some (0, 208, 1) := by decide +kernel
theorem D209_53 : decode T209.2.2.1 53 = .ok (.ifCond .eq 46, 3) := by decide +kernel
theorem B209_99_102 : s_dk T209.2.2.1 99 [.iinc 7 1] 102 = true := by decide +kernel
theorem D209_102 : decode T209.2.2.1 102 = .ok (.goto (-62), 3) := by decide +kernel
theorem B209_56_57 : s_dk T209.2.2.1 56 [.aload_n 0] 57 = true := by decide +kernel
theorem D209_57 : decode T209.2.2.1 57 = .ok (.getfield 13, 3) := by decide +kernel
theorem B209_60_64 : s_dk T209.2.2.1 60 [.iconst 0, .iload 7, .iadd] 64 = true := by decide +kernel
theorem D209_64 : decode T209.2.2.1 64 = .ok (.iaload, 1) := by decide +kernel
theorem D209_65 : decode T209.2.2.1 65 = .ok (.ifCond .ne 6, 3) := by decide +kernel
theorem B209_71_75 : s_dk T209.2.2.1 71 [.aload_n 0, .iload 7, .lload_n 2] 75 = true := by decide +kernel
theorem D209_75 : decode T209.2.2.1 75 = .ok (.invokevirtual 298, 3) := by decide +kernel
theorem B209_78_84 : s_dk T209.2.2.1 78 [.lstore 8, .lload 8, .lload 5] 84 = true := by decide +kernel
theorem D209_84 : decode T209.2.2.1 84 = .ok (.lcmp, 1) := by decide +kernel
theorem D209_85 : decode T209.2.2.1 85 = .ok (.ifCond .gt 6, 3) := by decide +kernel
theorem B209_91_102 : s_dk T209.2.2.1 91 [.lload 8, .lstore 5, .iload 7, .istore 4, .iinc 7 1] 102 = true := by decide +kernel
theorem D209_88 : decode T209.2.2.1 88 = .ok (.goto 11, 3) := by decide +kernel
theorem D209_68 : decode T209.2.2.1 68 = .ok (.goto 31, 3) := by decide +kernel
theorem B209_105_107 : s_dk T209.2.2.1 105 [.iload 4] 107 = true := by decide +kernel
theorem D209_107 : decode T209.2.2.1 107 = .ok (.i2l, 1) := by decide +kernel
theorem D209_108 : decode T209.2.2.1 108 = .ok (.lreturn, 1) := by decide +kernel
set_option maxRecDepth 4000 in
theorem L_k198x {base : Nat} {X : Nat → Option mC} {G : Nat → Value} (E : EnvOK base X G) {d : Nat} (hd : 3 ≤ d) {M : mH} (H : HI base M) (s : Int) (n : Int) (h0 : 0 ≤ s ∧ s ≤ 15) (h1 : 0 ≤ n ∧ n ≤ 8) (h2 : RS n (gi M 77 6) M) : ∀ mz : Nat, (∀ (x3 : Int) (N : mH), HI base N → Fr [(77, 28), (93, 0)] M N → (gi N 77 6 = gi M 77 6) → (gi N 77 27 ≤ x3) → (0 ≤ x3) → (x3 ≤ 16) → (16 - x3) * 18 + 17 < (mz : Int) → sRn base X G d T198 7 [(0, vR 77), (2, vI n), (3, vI x3)] [] N (s_Q base (pV (fun M' => HI base M' ∧ Fr [(77, 28), (93, 0)] M M')))) ∧ (∀ (x3 x4 x5 x6 : Int) (N : mH), HI base N → Fr [(77, 28), (93, 0)] M N → (gi N 77 6 = gi M 77 6) → (gi N 77 27 ≤ x3) → (x4 ≤ 143) → (0 ≤ x3) → (x3 ≤ 15) → (0 ≤ x4) → (x4 ≤ 144) → (0 ≤ x5) → (x5 ≤ 1) → (0 ≤ x6) → (x6 ≤ 16) → (16 - x3) * 18 + 0 + (16 - x6) * 1 + 0 < (mz : Int) → sRn base X G d T198 72 [(0, vR 77), (2, vI n), (3, vI x3), (4, vI x4), (5, vI x5), (6, vI x6)] [] N (s_Q base (pV (fun M' => HI base M' ∧ Fr [(77, 28), (93, 0)] M M')))) := by
  have f0 : Fr [(77, 28), (93, 0)] M M := Fr.rf
  intro mz
  induction mz with
  | zero => exact ⟨fun x3 N _ _ z0 z1 z2 z3 z4 => by omega, fun x3 x4 x5 x6 N _ _ z0 z1 z2 z3 z4 z5 z6 z7 z8 z9 z10 z11 => by omega⟩
  | succ mz ih =>
    refine ⟨?_, ?_⟩
    · intro x3 N HN fN i0 i1 i2 i3 hmu
      refine s_blx (lv' := [(0, vR 77), (2, vI n), (3, vI x3)]) (st' := [vR 77, vI x3]) B198_7_9 rfl ?_
      refine r_gfix (r := 78) (pc' := 12) D198_9 rfl gf_11_13_77 HN.1 ?_
      refine s_blx (lv' := [(0, vR 77), (2, vI n), (3, vI x3)]) (st' := [vI 469, vR 78, vI x3]) B198_12_15 rfl ?_
      refine r_iald (pc' := 16) D198_15 rfl sc_78 HN.1 (by omega) ?_
      intro w8 e9 r10
      have b_w8 := HN.2 78 (469) 0 16 (rk_many (by omega))
      rw [← e9] at b_w8; clear r10
      refine r_icmp (tgt := 146) (pc' := 19) D198_16 rfl rfl (by unfold inR; omega) (fun (c11 : w8 ≤ x3) => ?_) (fun (c11 : ¬ (w8 ≤ x3)) => ?_)
      · exact r_retV D198_146 rfl (⟨HN, fN⟩)
      · refine s_blx (lv' := [(0, vR 77), (2, vI n), (3, vI x3)]) (st' := [vR 77]) B198_19_20 rfl ?_
        refine r_gint (ki := 6) (pc' := 23) D198_20 rfl gf_11_194_77 rfl HN.1 ?_
        intro w12 e13 r14
        unfold inR at r14
        have ke := e13
        refine s_blx (lv' := [(0, vR 77), (2, vI n), (3, vI x3)]) (st' := [vI x3, vI w12]) B198_23_24 rfl ?_
        refine r_bin (pc' := 25) D198_24 rfl rfl ?_
        intro z15 r16 kq; unfold inR at r16
        have kr : z15 % 2 ≠ 0 → x3 < gi N 78 469 ∧ 1 ≤ gi N 78 (135 + 16 * x3 + 12 + gi N 78 474) ∧ n ≤ gi N 78 (135 + 16 * x3) := fun h => (h2.fr fN rfl) x3 (by omega) (by omega) (by rw [← i0, ← ke]; exact (bt_test kq (by omega)).mp (by omega))
        refine s_blx (lv' := [(0, vR 77), (2, vI n), (3, vI x3)]) (st' := [vI 1, vI z15]) B198_25_26 rfl ?_
        refine r_and1 (pc' := 27) D198_26 rfl ?_
        refine r_ifc (tgt := 33) (pc' := 30) D198_27 rfl rfl (by unfold inR; omega) (fun (c17 : (z15 % 2) ≠ 0) => ?_) (fun (c17 : ¬ ((z15 % 2) ≠ 0)) => ?_)
        · refine s_blx (lv' := [(0, vR 77), (2, vI n), (3, vI x3)]) (st' := [vI x3, vR 77]) B198_33_35 rfl ?_
          refine r_vIp (c := 77) (args := [vI x3]) (rest := []) (pc' := 38) D198_35 rfl ck_11_virtual_144 TE156 rfl (Nat.le_of_ble_eq_true rfl) ⟨Nat.le_of_ble_eq_true rfl, Nat.le_of_ble_eq_true rfl⟩ sc_77 ⟨rfl, by decide⟩ HN.1 (dp_0 hd rfl) (k156x E (dp_n hd rfl) HN x3 (by omega)) ?_
          intro v18 q22
          obtain ⟨q20, q21⟩ := q22
          have kr2 := kr (by omega)
          refine s_blx (lv' := [(0, vR 77), (2, vI n), (3, vI x3)]) (st' := [vI n, vI v18]) B198_38_39 rfl ?_
          refine r_icmp (tgt := 49) (pc' := 42) D198_39 rfl rfl (by unfold inR; omega) (fun (c23 : v18 ≠ n) => ?_) (fun (c23 : ¬ (v18 ≠ n)) => ?_)
          · refine s_blx (lv' := [(0, vR 77), (2, vI n), (3, vI x3)]) (st' := [vI (n + 1), vI x3, vR 77, vI 9]) B198_49_56 rfl ?_
            refine r_vIp (c := 77) (args := [vI x3, vI (n + 1)]) (rest := [vI 9]) (pc' := 59) D198_56 rfl ck_11_virtual_267 TE193 rfl (Nat.le_of_ble_eq_true rfl) ⟨Nat.le_of_ble_eq_true rfl, Nat.le_of_ble_eq_true rfl⟩ sc_77 ⟨rfl, by decide⟩ HN.1 (dp_0 hd rfl) (k193x E (dp_n hd rfl) HN x3 (n + 1) (by omega) (by omega) (by omega) (by omega)) ?_
            intro v24 q27
            have q26 := q27; clear q27
            refine s_blx (lv' := [(6, vI 0), (5, vI 0), (4, vI (((9 * v24) + n) + 1)), (0, vR 77), (2, vI n), (3, vI x3)]) (st' := []) B198_59_72 rfl ?_
            refine r_loc (lv' := [(0, vR 77), (2, vI n), (3, vI x3), (4, vI (((9 * v24) + n) + 1)), (5, vI 0), (6, vI 0)]) ⟨rfl, rfl, rfl, rfl, rfl, rfl, trivial⟩ rfl rfl ?_
            exact ih.2 x3 (((9 * v24) + n) + 1) 0 0 N HN fN (by omega) (by omega) (by omega) (by omega) (by omega) (by omega) (by omega) (by omega) (by omega) (by omega) (by omega) (by omega)
          · refine s_blx (lv' := [(0, vR 77), (2, vI n), (3, vI x3)]) (st' := [vI (9 * x3)]) B198_42_46 rfl ?_
            refine r_goto (tgt := 64) D198_46 rfl ?_
            refine s_blx (lv' := [(6, vI 0), (5, vI 0), (4, vI (9 * x3)), (0, vR 77), (2, vI n), (3, vI x3)]) (st' := []) B198_64_72 rfl ?_
            refine r_loc (lv' := [(0, vR 77), (2, vI n), (3, vI x3), (4, vI (9 * x3)), (5, vI 0), (6, vI 0)]) ⟨rfl, rfl, rfl, rfl, rfl, rfl, trivial⟩ rfl rfl ?_
            exact ih.2 x3 (9 * x3) 0 0 N HN fN (by omega) (by omega) (by omega) (by omega) (by omega) (by omega) (by omega) (by omega) (by omega) (by omega) (by omega) (by omega)
        · refine r_goto (tgt := 140) D198_30 rfl ?_
          refine s_blx (lv' := [(3, vI (x3 + 1)), (0, vR 77), (2, vI n)]) (st' := []) B198_140_143 rfl ?_
          refine r_goto (tgt := 7) D198_143 rfl ?_
          refine r_loc (lv' := [(0, vR 77), (2, vI n), (3, vI (x3 + 1))]) ⟨rfl, rfl, rfl, trivial⟩ rfl rfl ?_
          exact ih.1 (x3 + 1) N HN fN (by omega) (by omega) (by omega) (by omega) (by omega)
    · intro x3 x4 x5 x6 N HN fN i0 i1 i2 i3 i4 i5 i6 i7 i8 i9 i10 hmu
      refine s_blx (lv' := [(0, vR 77), (2, vI n), (3, vI x3), (4, vI x4), (5, vI x5), (6, vI x6)]) (st' := [vR 77, vI x6]) B198_72_75 rfl ?_
      refine r_gint (ki := 27) (pc' := 78) D198_75 rfl gf_11_264_77 rfl HN.1 ?_
      intro w28 e29 r30
      have b_w28 := HN.2 77 (27) 0 16 rfl
      rw [← e29] at b_w28; clear r30
      refine r_icmp (tgt := 111) (pc' := 81) D198_78 rfl rfl (by unfold inR; omega) (fun (c31 : w28 ≤ x6) => ?_) (fun (c31 : ¬ (w28 ≤ x6)) => ?_)
      · refine s_blx (lv' := [(0, vR 77), (2, vI n), (3, vI x3), (4, vI x4), (5, vI x5), (6, vI x6)]) (st' := [vI x5]) B198_111_113 rfl ?_
        refine r_ifc (tgt := 119) (pc' := 116) D198_113 rfl rfl (by unfold inR; omega) (fun (c32 : x5 = 0) => ?_) (fun (c32 : ¬ (x5 = 0)) => ?_)
        · refine s_blx (lv' := [(0, vR 77), (2, vI n), (3, vI x3), (4, vI x4), (5, vI x5), (6, vI x6)]) (st' := [vR 77]) B198_119_120 rfl ?_
          refine r_gfix (r := 93) (pc' := 123) D198_120 rfl gf_11_62_77 HN.1 ?_
          refine s_blx (lv' := [(0, vR 77), (2, vI n), (3, vI x3), (4, vI x4), (5, vI x5), (6, vI x6)]) (st' := [vR 77, vR 93]) B198_123_124 rfl ?_
          refine r_gint (ki := 27) (pc' := 127) D198_124 rfl gf_11_264_77 rfl HN.1 ?_
          intro w33 e34 r35
          have e36 : w28 = w33 := (e34.trans (e29.symm)).symm
          subst e36
          refine s_blx (lv' := [(0, vR 77), (2, vI n), (3, vI x3), (4, vI x4), (5, vI x5), (6, vI x6)]) (st' := [vI x4, vI w28, vR 93]) B198_127_129 rfl ?_
          refine r_iast (pc' := 130) D198_129 rfl sc_93 HN (by omega) (by unfold inR; omega) (show 0 ≤ x4 ∧ x4 ≤ 143 by omega) ?_
          intro M37 u38 H39 p40
          have f41 := fN.wr u38 rfl
          refine s_blx (lv' := [(0, vR 77), (2, vI n), (3, vI x3), (4, vI x4), (5, vI x5), (6, vI x6)]) (st' := [vR 77, vR 77]) B198_130_132 rfl ?_
          refine r_gint (ki := 27) (pc' := 135) D198_132 rfl gf_11_264_77 rfl H39.1 ?_
          intro w42 e43 r44
          have e45 : w28 = w42 := (e43.trans ((u38.gi_ne (by omega) (Or.inl (by decide))).trans (e29.symm))).symm
          subst e45
          refine s_blx (lv' := [(0, vR 77), (2, vI n), (3, vI x3), (4, vI x4), (5, vI x5), (6, vI x6)]) (st' := [vI (w28 + 1), vR 77]) B198_135_137 rfl ?_
          refine r_pint (ki := 27) (pc' := 140) D198_137 rfl pf_11_264_77 rfl H39 (by unfold inR; omega) (show 0 ≤ (w28 + 1) ∧ (w28 + 1) ≤ 16 by omega) ?_
          intro M46 u47 H48 p49
          have f50 := f41.wr u47 rfl
          refine s_blx (lv' := [(3, vI (x3 + 1)), (0, vR 77), (2, vI n), (4, vI x4), (5, vI x5), (6, vI x6)]) (st' := []) B198_140_143 rfl ?_
          refine r_goto (tgt := 7) D198_143 rfl ?_
          refine r_loc (lv' := [(0, vR 77), (2, vI n), (3, vI (x3 + 1))]) ⟨rfl, rfl, rfl, trivial⟩ rfl rfl ?_
          have g51 : gi M46 77 6 = gi N 77 6 := (u47.gi_ne (by decide) (Or.inr (by decide))).trans ((u38.gi_ne (by omega) (Or.inl (by decide))).trans (rfl))
          have g52 : gi M46 77 27 = w28 + 1 := p49
          exact ih.1 (x3 + 1) M46 H48 f50 (by omega) (by omega) (by omega) (by omega) (by omega)
        · refine r_goto (tgt := 140) D198_116 rfl ?_
          refine s_blx (lv' := [(3, vI (x3 + 1)), (0, vR 77), (2, vI n), (4, vI x4), (5, vI x5), (6, vI x6)]) (st' := []) B198_140_143 rfl ?_
          refine r_goto (tgt := 7) D198_143 rfl ?_
          refine r_loc (lv' := [(0, vR 77), (2, vI n), (3, vI (x3 + 1))]) ⟨rfl, rfl, rfl, trivial⟩ rfl rfl ?_
          exact ih.1 (x3 + 1) N HN fN (by omega) (by omega) (by omega) (by omega) (by omega)
      · refine s_blx (lv' := [(0, vR 77), (2, vI n), (3, vI x3), (4, vI x4), (5, vI x5), (6, vI x6)]) (st' := [vI x5]) B198_81_83 rfl ?_
        refine r_ifc (tgt := 98) (pc' := 86) D198_83 rfl rfl (by unfold inR; omega) (fun (c53 : x5 ≠ 0) => ?_) (fun (c53 : ¬ (x5 ≠ 0)) => ?_)
        · refine s_blx (lv' := [(0, vR 77), (2, vI n), (3, vI x3), (4, vI x4), (5, vI x5), (6, vI x6)]) (st' := [vI 1]) B198_98_99 rfl ?_
          refine r_goto (tgt := 103) D198_99 rfl ?_
          refine s_blx (lv' := [(6, vI (x6 + 1)), (5, vI 1), (0, vR 77), (2, vI n), (3, vI x3), (4, vI x4)]) (st' := []) B198_103_108 rfl ?_
          refine r_goto (tgt := 72) D198_108 rfl ?_
          refine r_loc (lv' := [(0, vR 77), (2, vI n), (3, vI x3), (4, vI x4), (5, vI 1), (6, vI (x6 + 1))]) ⟨rfl, rfl, rfl, rfl, rfl, rfl, trivial⟩ rfl rfl ?_
          exact ih.2 x3 x4 1 (x6 + 1) N HN fN (by omega) (by omega) (by omega) (by omega) (by omega) (by omega) (by omega) (by omega) (by omega) (by omega) (by omega) (by omega)
        · refine s_blx (lv' := [(0, vR 77), (2, vI n), (3, vI x3), (4, vI x4), (5, vI x5), (6, vI x6)]) (st' := [vR 77]) B198_86_87 rfl ?_
          refine r_gfix (r := 93) (pc' := 90) D198_87 rfl gf_11_62_77 HN.1 ?_
          refine s_blx (lv' := [(0, vR 77), (2, vI n), (3, vI x3), (4, vI x4), (5, vI x5), (6, vI x6)]) (st' := [vI x6, vR 93]) B198_90_92 rfl ?_
          refine r_iald (pc' := 93) D198_92 rfl sc_93 HN.1 (by omega) ?_
          intro w54 e55 r56
          have b_w54 := HN.2 93 (x6) 0 143 rfl
          rw [← e55] at b_w54; clear r56
          refine s_blx (lv' := [(0, vR 77), (2, vI n), (3, vI x3), (4, vI x4), (5, vI x5), (6, vI x6)]) (st' := [vI x4, vI w54]) B198_93_95 rfl ?_
          refine r_icmp (tgt := 102) (pc' := 98) D198_95 rfl rfl (by unfold inR; omega) (fun (c57 : w54 ≠ x4) => ?_) (fun (c57 : ¬ (w54 ≠ x4)) => ?_)
          · refine s_blx (lv' := [(6, vI (x6 + 1)), (5, vI 0), (0, vR 77), (2, vI n), (3, vI x3), (4, vI x4)]) (st' := []) B198_102_108 rfl ?_
            refine r_goto (tgt := 72) D198_108 rfl ?_
            refine r_loc (lv' := [(0, vR 77), (2, vI n), (3, vI x3), (4, vI x4), (5, vI 0), (6, vI (x6 + 1))]) ⟨rfl, rfl, rfl, rfl, rfl, rfl, trivial⟩ rfl rfl ?_
            exact ih.2 x3 x4 0 (x6 + 1) N HN fN (by omega) (by omega) (by omega) (by omega) (by omega) (by omega) (by omega) (by omega) (by omega) (by omega) (by omega) (by omega)
          · refine s_blx (lv' := [(0, vR 77), (2, vI n), (3, vI x3), (4, vI x4), (5, vI x5), (6, vI x6)]) (st' := [vI 1]) B198_98_99 rfl ?_
            refine r_goto (tgt := 103) D198_99 rfl ?_
            refine s_blx (lv' := [(6, vI (x6 + 1)), (5, vI 1), (0, vR 77), (2, vI n), (3, vI x3), (4, vI x4)]) (st' := []) B198_103_108 rfl ?_
            refine r_goto (tgt := 72) D198_108 rfl ?_
            refine r_loc (lv' := [(0, vR 77), (2, vI n), (3, vI x3), (4, vI x4), (5, vI 1), (6, vI (x6 + 1))]) ⟨rfl, rfl, rfl, rfl, rfl, rfl, trivial⟩ rfl rfl ?_
            exact ih.2 x3 x4 1 (x6 + 1) N HN fN (by omega) (by omega) (by omega) (by omega) (by omega) (by omega) (by omega) (by omega) (by omega) (by omega) (by omega) (by omega)
set_option maxRecDepth 4000 in
theorem k198x {base : Nat} {X : Nat → Option mC} {G : Nat → Value} (E : EnvOK base X G) {d : Nat} (hd : 3 ≤ d) {M : mH} (H : HI base M) (s : Int) (n : Int) (h0 : 0 ≤ s ∧ s ≤ 15) (h1 : 0 ≤ n ∧ n ≤ 8) (h2 : RS n (gi M 77 6) M) : sOk base X G d T198 [vR 77, vI s, vI n] M (pV (fun M' => HI base M' ∧ Fr [(77, 28), (93, 0)] M M')) := by
  have f0 : Fr [(77, 28), (93, 0)] M M := Fr.rf
  refine sOk.of (show sRn base X G d T198 0 [(0, vR 77), (1, vI s), (2, vI n)] [] M _ from ?_)
  refine s_blx (lv' := [(0, vR 77), (1, vI s), (2, vI n)]) (st' := [vI 0, vR 77]) B198_0_2 rfl ?_
  refine r_pint (ki := 27) (pc' := 5) D198_2 rfl pf_11_264_77 rfl H (by unfold inR; omega) (show 0 ≤ 0 ∧ 0 ≤ 16 by omega) ?_
  intro M1 u2 H3 p4
  have f5 := f0.wr u2 rfl
  refine s_blx (lv' := [(3, vI 0), (0, vR 77), (1, vI s), (2, vI n)]) (st' := []) B198_5_7 rfl ?_
  refine r_loc (lv' := [(0, vR 77), (2, vI n), (3, vI 0)]) ⟨rfl, rfl, rfl, trivial⟩ rfl rfl ?_
  have g6 : gi M1 77 6 = gi M 77 6 := (u2.gi_ne (by decide) (Or.inr (by decide))).trans (rfl)
  have g7 : gi M1 77 27 = 0 := p4
  exact (L_k198x E hd H s n h0 h1 h2 (((16 - 0) * 18 + 17 : Int) + 1).toNat).1 0 M1 H3 f5 (by omega) (by omega) (by omega) (by omega) (by omega)