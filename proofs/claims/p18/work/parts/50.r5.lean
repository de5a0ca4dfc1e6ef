/-! The reference: what is in a set can come. -/
noncomputable def RS (n z : Int) (M : mH) : Prop := ∀ k : Int, 0 ≤ k → k ≤ 15 → bt z k → k < gi M 78 469 ∧ 1 ≤ gi M 78 (135 + 16 * k + 12 + gi M 78 474) ∧ n ≤ gi M 78 (135 + 16 * k)
theorem RS.of {n z : Int} {M M' : mH} (h : RS n z M) (e : ∀ i : Int, gi M' 78 i = gi M 78 i) : RS n z M' := by
  intro k h1 h2 h3
  simp only [e]
  exact h k h1 h2 h3
theorem RS.fr {n z : Int} {L : List (Nat × Nat)} {M M' : mH} (h : RS n z M) (f : Fr L M M') (hc : s_al L (fun c => c != 78) = true) : RS n z M' := h.of (fun _ => f.g (s_al_ok hc (by simp)))
theorem RS.wr {n z : Int} {M M' : mH} {c i : Nat} {v : Value} (h : RS n z M) (u : Wr M c i v M') (hc : c ≠ 78) : RS n z M' := h.of (fun j => by unfold gi; rw [u.ne (Or.inl (Ne.symm hc))])
/-- every sentence has a word -/
noncomputable def LN (M : mH) : Prop := ∀ s : Int, 0 ≤ s → s < gi M 78 469 → 1 ≤ gi M 78 (135 + 16 * s)
theorem LN.fr {L : List (Nat × Nat)} {M M' : mH} (h : LN M) (f : Fr L M M') (hc : s_al L (fun c => c != 78) = true) : LN M' := by
  have e : ∀ i : Int, gi M' 78 i = gi M 78 i := fun _ => f.g (s_al_ok hc (by simp))
  intro s h1 h2
  rw [e] at h2 ⊢
  exact h s h1 h2
theorem LN.wr {M M' : mH} {c i : Nat} {v : Value} (h : LN M) (u : Wr M c i v M') (hc : c ≠ 78) : LN M' := by
  have e : ∀ i : Int, gi M' 78 i = gi M 78 i := fun j => by unfold gi; rw [u.ne (Or.inl (Ne.symm hc))]
  intro s h1 h2
  rw [e] at h2 ⊢
  exact h s h1 h2
theorem LN.wr78 {M M' : mH} {i : Int} {v : Value} (h : LN M) (u : Wr M 78 i.toNat v M') (hi : 0 ≤ i ∧ i < 135) : LN M' := by
  intro s h1 h2
  rw [u.gi_ne hi.1 (Or.inr (by omega))] at h2 ⊢
  exact h s h1 h2
noncomputable def T196 : mT := (11, yX11_overAt, cX11_overAt, 11, none)
set_option maxRecDepth 10000 in
theorem TE196 : sy_m[196]? = some T196 := rfl
theorem B196_0_14 : s_dk T196.2.2.1 0 [.bipush 9, .iload_n 1, .imul, .istore_n 3, .lconst 0, .lstore 4, .iconst (-1), .istore 6, .iconst 0, .istore 7] 14 = true := by decide +kernel
theorem B196_14_18 : s_dk T196.2.2.1 14 [.iload 7, .bipush 16] 18 = true := by decide +kernel
theorem D196_18 : decode T196.2.2.1 18 = .ok (.if_icmp .ge 123, 3) := by decide +kernel
theorem B196_21_23 : s_dk T196.2.2.1 21 [.iload 7] 23 = true := by decide +kernel
theorem D196_23 : decode T196.2.2.1 23 = .ok (.invokestatic 237, 3) := by decide +kernel
theorem ck_11_static_237 : m_call 11 (.invokestatic 237) = some (1, 192, 1) := by decide +kernel
theorem B196_26_32 : s_dk T196.2.2.1 26 [.istore 8, .aload_n 0, .iload_n 2, .iload 8] 32 = true := by decide +kernel
theorem D196_32 : decode T196.2.2.1 32 = .ok (.invokevirtual 240, 3) := by decide +kernel
theorem ck_11_virtual_240 : m_call 11 (.invokevirtual 240) = some (0, 188, 2) := by decide +kernel
theorem D196_35 : decode T196.2.2.1 35 = .ok (.ifCond .ne 6, 3) := by decide +kernel
theorem B196_41_44 : s_dk T196.2.2.1 41 [.iload 8, .iconst 4] 44 = true := by decide +kernel
theorem D196_44 : decode T196.2.2.1 44 = .ok (.if_icmp .ne 13, 3) := by decide +kernel
theorem B196_57_58 : s_dk T196.2.2.1 57 [.aload_n 0] 58 = true := by decide +kernel
theorem gf_11_218_77 : s_gf 11 218 77 = some (15, 1) := by decide +kernel
theorem D196_58 : decode T196.2.2.1 58 = .ok (.getfield 218, 3) := by decide +kernel
theorem D196_61 : decode T196.2.2.1 61 = .ok (.i2l, 1) := by decide +kernel
theorem B196_62_64 : s_dk T196.2.2.1 62 [.aload_n 0, .aload_n 0] 64 = true := by decide +kernel
theorem gf_11_215_77 : s_gf 11 215 77 = some (14, 1) := by decide +kernel
theorem D196_64 : decode T196.2.2.1 64 = .ok (.getfield 215, 3) := by decide +kernel
theorem D196_67 : decode T196.2.2.1 67 = .ok (.invokevirtual 246, 3) := by decide +kernel
theorem ck_11_virtual_246 : m_call 11 (.invokevirtual 246) = some (0, 190, 1) := by decide +kernel
theorem D196_70 : decode T196.2.2.1 70 = .ok (.i2l, 1) := by decide +kernel
theorem B196_71_77 : s_dk T196.2.2.1 71 [.ladd, .lstore 9, .lload 9, .aload_n 0] 77 = true := by decide +kernel
theorem gf_11_197_77 : s_gf 11 197 77 = some (8, 1) := by decide +kernel
theorem D196_77 : decode T196.2.2.1 77 = .ok (.getfield 197, 3) := by decide +kernel
theorem D196_80 : decode T196.2.2.1 80 = .ok (.i2l, 1) := by decide +kernel
theorem B196_81_85 : s_dk T196.2.2.1 81 [.lmul, .iload 8, .iconst 4] 85 = true := by decide +kernel
theorem D196_85 : decode T196.2.2.1 85 = .ok (.if_icmp .ne 7, 3) := by decide +kernel
theorem B196_92_93 : s_dk T196.2.2.1 92 [.aload_n 0] 93 = true := by decide +kernel
theorem D196_93 : decode T196.2.2.1 93 = .ok (.getfield 40, 3) := by decide +kernel
theorem B196_96_102 : s_dk T196.2.2.1 96 [.sipush 1111, .iload_n 3, .imul, .aload_n 0] 102 = true := by decide +kernel
theorem D196_102 : decode T196.2.2.1 102 = .ok (.getfield 215, 3) := by decide +kernel
theorem B196_105_106 : s_dk T196.2.2.1 105 [.iadd] 106 = true := by decide +kernel
theorem D196_106 : decode T196.2.2.1 106 = .ok (.laload, 1) := by decide +kernel
theorem B196_107_113 : s_dk T196.2.2.1 107 [.ladd, .lstore 9, .iload 6, .iconst (-1)] 113 = true := by decide +kernel
theorem D196_113 : decode T196.2.2.1 113 = .ok (.if_icmp .eq 14, 3) := by decide +kernel
theorem B196_127_138 : s_dk T196.2.2.1 127 [.iload 8, .istore 6, .lload 9, .lstore 4, .iinc 7 1] 138 = true := by decide +kernel
theorem D196_138 : decode T196.2.2.1 138 = .ok (.goto (-124), 3) := by decide +kernel
theorem B196_88_89 : s_dk T196.2.2.1 88 [.lconst 0] 89 = true := by decide +kernel
theorem D196_89 : decode T196.2.2.1 89 = .ok (.goto 18, 3) := by decide +kernel
theorem B196_47_50 : s_dk T196.2.2.1 47 [.aload_n 0, .iload_n 2, .iload_n 1] 50 = true := by decide +kernel
theorem D196_50 : decode T196.2.2.1 50 = .ok (.invokevirtual 243, 3) := by decide +kernel
theorem ck_11_virtual_243 : m_call 11 (.invokevirtual 243) = some (0, 191, 2) := by decide +kernel
theorem D196_53 : decode T196.2.2.1 53 = .ok (.i2l, 1) := by decide +kernel
theorem D196_54 : decode T196.2.2.1 54 = .ok (.goto 18, 3) := by decide +kernel
theorem B196_72_77 : s_dk T196.2.2.1 72 [.lstore 9, .lload 9, .aload_n 0] 77 = true := by decide +kernel
theorem D196_38 : decode T196.2.2.1 38 = .ok (.goto 97, 3) := by decide +kernel
theorem B196_135_138 : s_dk T196.2.2.1 135 [.iinc 7 1] 138 = true := by decide +kernel
theorem B196_116_120 : s_dk T196.2.2.1 116 [.lload 9, .lload 4] 120 = true := by decide +kernel
theorem D196_120 : decode T196.2.2.1 120 = .ok (.lcmp, 1) := by decide +kernel
theorem D196_121 : decode T196.2.2.1 121 = .ok (.ifCond .lt 6, 3) := by decide +kernel
theorem D196_124 : decode T196.2.2.1 124 = .ok (.goto 11, 3) := by decide +kernel
theorem B196_141_148 : s_dk T196.2.2.1 141 [.aload_n 0, .iload_n 3, .iload_n 2, .lload 4, .iload 6] 148 = true := by decide +kernel
theorem D196_148 : decode T196.2.2.1 148 = .ok (.invokevirtual 249, 3) := by decide +kernel
theorem ck_11_virtual_249 : m_call 11 (.invokevirtual 249) = some (0, 194, 4) := by decide +kernel
theorem D196_151 : decode T196.2.2.1 151 = .ok (.return_, 1) := by decide +kernel
noncomputable def T197 : mT := (11, yX11_overs, cX11_overs, 4, none)
set_option maxRecDepth 10000 in
theorem TE197 : sy_m[197]? = some T197 := rfl
theorem B197_0_4 : s_dk T197.2.2.1 0 [.aload_n 0, .iload_n 1, .aload_n 0, .iload_n 1] 4 = true := by decide +kernel
theorem D197_4 : decode T197.2.2.1 4 = .ok (.invokevirtual 144, 3) := by decide +kernel
theorem B197_7_8 : s_dk T197.2.2.1 7 [.iconst 1] 8 = true := by decide +kernel
theorem D197_8 : decode T197.2.2.1 8 = .ok (.invokevirtual 253, 3) := by decide +kernel
theorem ck_11_virtual_253 : m_call 11 (.invokevirtual 253) = some (0, 183, 3) := by decide +kernel
theorem B197_11_13 : s_dk T197.2.2.1 11 [.iconst 0, .istore_n 2] 13 = true := by decide +kernel
theorem B197_13_15 : s_dk T197.2.2.1 13 [.iload_n 2, .iconst 3] 15 = true := by decide +kernel
theorem D197_15 : decode T197.2.2.1 15 = .ok (.if_icmp .gt 39, 3) := by decide +kernel
theorem B197_18_22 : s_dk T197.2.2.1 18 [.sipush 1110, .istore_n 3] 22 = true := by decide +kernel
theorem B197_22_23 : s_dk T197.2.2.1 22 [.iload_n 3] 23 = true := by decide +kernel
theorem D197_23 : decode T197.2.2.1 23 = .ok (.ifCond .lt 25, 3) := by decide +kernel
theorem B197_26_29 : s_dk T197.2.2.1 26 [.aload_n 0, .iload_n 3, .iload_n 1] 29 = true := by decide +kernel
theorem D197_29 : decode T197.2.2.1 29 = .ok (.invokevirtual 257, 3) := by decide +kernel
theorem ck_11_virtual_257 : m_call 11 (.invokevirtual 257) = some (0, 195, 2) := by decide +kernel
theorem B197_32_33 : s_dk T197.2.2.1 32 [.iload_n 2] 33 = true := by decide +kernel
theorem D197_33 : decode T197.2.2.1 33 = .ok (.if_icmp .ne 9, 3) := by decide +kernel
theorem B197_42_45 : s_dk T197.2.2.1 42 [.iinc 3 (-1)] 45 = true := by decide +kernel
theorem D197_45 : decode T197.2.2.1 45 = .ok (.goto (-23), 3) := by decide +kernel
theorem B197_36_39 : s_dk T197.2.2.1 36 [.aload_n 0, .iload_n 1, .iload_n 3] 39 = true := by decide +kernel
theorem D197_39 : decode T197.2.2.1 39 = .ok (.invokevirtual 260, 3) := by decide +kernel
theorem ck_11_virtual_260 : m_call 11 (.invokevirtual 260) = some (0, 196, 2) := by decide +kernel
theorem B197_48_51 : s_dk T197.2.2.1 48 [.iinc 2 1] 51 = true := by decide +kernel
theorem D197_51 : decode T197.2.2.1 51 = .ok (.goto (-38), 3) := by decide +kernel
theorem D197_54 : decode T197.2.2.1 54 = .ok (.return_, 1) := by decide +kernel
noncomputable def T198 : mT := (11, yX11_follows, cX11_follows, 7, none)
set_option maxRecDepth 10000 in
theorem TE198 : sy_m[198]? = some T198 := rfl
theorem B198_0_2 : s_dk T198.2.2.1 0 [.aload_n 0, .iconst 0] 2 = true := by decide +kernel
theorem pf_11_264_77 : s_pf 11 264 77 = some (27, 1) := by decide +kernel
theorem D198_2 : decode T198.2.2.1 2 = .ok (.putfield 264, 3) := by decide +kernel
theorem B198_5_7 : s_dk T198.2.2.1 5 [.iconst 0, .istore_n 3] 7 = true := by decide +kernel
theorem B198_7_9 : s_dk T198.2.2.1 7 [.iload_n 3, .aload_n 0] 9 = true := by decide +kernel
theorem D198_9 : decode T198.2.2.1 9 = .ok (.getfield 13, 3) := by decide +kernel
theorem B198_12_15 : s_dk T198.2.2.1 12 [.sipush 469] 15 = true := by decide +kernel
theorem D198_15 : decode T198.2.2.1 15 = .ok (.iaload, 1) := by decide +kernel
theorem D198_16 : decode T198.2.2.1 16 = .ok (.if_icmp .ge 130, 3) := by decide +kernel
theorem D198_146 : decode T198.2.2.1 146 = .ok (.return_, 1) := by decide +kernel
theorem B198_19_20 : s_dk T198.2.2.1 19 [.aload_n 0] 20 = true := by decide +kernel
theorem D198_20 : decode T198.2.2.1 20 = .ok (.getfield 194, 3) := by decide +kernel
theorem B198_23_24 : s_dk T198.2.2.1 23 [.iload_n 3] 24 = true := by decide +kernel
theorem D198_24 : decode T198.2.2.1 24 = .ok (.ishr, 1) := by decide +kernel
theorem B198_25_26 : s_dk T198.2.2.1 25 [.iconst 1] 26 = true := by decide +kernel
theorem D198_26 : decode T198.2.2.1 26 = .ok (.iand, 1) := by decide +kernel
theorem D198_27 : decode T198.2.2.1 27 = .ok (.ifCond .ne 6, 3) := by decide +kernel
theorem B198_33_35 : s_dk T198.2.2.1 33 [.aload_n 0, .iload_n 3] 35 = true := by decide +kernel
theorem D198_35 : decode T198.2.2.1 35 = .ok (.invokevirtual 144, 3) := by decide +kernel
theorem B198_38_39 : s_dk T198.2.2.1 38 [.iload_n 2] 39 = true := by decide +kernel
theorem D198_39 : decode T198.2.2.1 39 = .ok (.if_icmp .ne 10, 3) := by decide +kernel
theorem B198_49_56 : s_dk T198.2.2.1 49 [.bipush 9, .aload_n 0, .iload_n 3, .iload_n 2, .iconst 1, .iadd] 56 = true := by decide +kernel
theorem D198_56 : decode T198.2.2.1 56 = .ok (.invokevirtual 267, 3) := by decide +kernel
theorem ck_11_virtual_267 : m_call 11 (.invokevirtual 267) = some (0, 193, 2) := by decide +kernel
theorem B198_59_72 : s_dk T198.2.2.1 59 [.imul, .iload_n 2, .iadd, .iconst 1, .iadd, .istore 4, .iconst 0, .istore 5, .iconst 0, .istore 6] 72 = true := by decide +kernel
theorem B198_42_46 : s_dk T198.2.2.1 42 [.bipush 9, .iload_n 3, .imul] 46 = true := by decide +kernel
theorem D198_46 : decode T198.2.2.1 46 = .ok (.goto 18, 3) := by decide +kernel
theorem B198_64_72 : s_dk T198.2.2.1 64 [.istore 4, .iconst 0, .istore 5, .iconst 0, .istore 6] 72 = true := by decide +kernel
theorem D198_30 : decode T198.2.2.1 30 = .ok (.goto 110, 3) := by decide +kernel
theorem B198_140_143 : s_dk T198.2.2.1 140 [.iinc 3 1] 143 = true := by decide +kernel
theorem D198_143 : decode T198.2.2.1 143 = .ok (.goto (-136), 3) := by decide +kernel
theorem B198_72_75 : s_dk T198.2.2.1 72 [.iload 6, .aload_n 0] 75 = true := by decide +kernel
theorem gf_11_264_77 : s_gf 11 264 77 = some (27, 1) := by decide +kernel
theorem D198_75 : decode T198.2.2.1 75 = .ok (.getfield 264, 3) := by decide +kernel
theorem D198_78 : decode T198.2.2.1 78 = .ok (.if_icmp .ge 33, 3) := by decide +kernel
theorem B198_111_113 : s_dk T198.2.2.1 111 [.iload 5] 113 = true := by decide +kernel
theorem D198_113 : decode T198.2.2.1 113 = .ok (.ifCond .eq 6, 3) := by decide +kernel
theorem B198_119_120 : s_dk T198.2.2.1 119 [.aload_n 0] 120 = true := by decide +kernel
theorem gf_11_62_77 : s_gf 11 62 77 = some (26, 96) := by decide +kernel
theorem D198_120 : decode T198.2.2.1 120 = .ok (.getfield 62, 3) := by decide +kernel
theorem B198_123_124 : s_dk T198.2.2.1 123 [.aload_n 0] 124 = true := by decide +kernel
theorem D198_124 : decode T198.2.2.1 124 = .ok (.getfield 264, 3) := by decide +kernel
theorem B198_127_129 : s_dk T198.2.2.1 127 [.iload 4] 129 = true := by decide +kernel
theorem D198_129 : decode T198.2.2.1 129 = .ok (.iastore, 1) := by decide +kernel
theorem B198_130_132 : s_dk T198.2.2.1 130 [.aload_n 0, .dup] 132 = true := by decide +kernel
theorem D198_132 : decode T198.2.2.1 132 = .ok (.getfield 264, 3) := by decide +kernel
theorem B198_135_137 : s_dk T198.2.2.1 135 [.iconst 1, .iadd] 137 = true := by decide +kernel
theorem D198_137 : decode T198.2.2.1 137 = .ok (.putfield 264, 3) := by decide +kernel
theorem B198_81_83 : s_dk T198.2.2.1 81 [.iload 5] 83 = true := by decide +kernel
theorem D198_83 : decode T198.2.2.1 83 = .ok (.ifCond .ne 15, 3) := by decide +kernel
theorem B198_86_87 : s_dk T198.2.2.1 86 [.aload_n 0] 87 = true := by decide +kernel
theorem D198_87 : decode T198.2.2.1 87 = .ok (.getfield 62, 3) := by decide +kernel
theorem B198_90_92 : s_dk T198.2.2.1 90 [.iload 6] 92 = true := by decide +kernel
theorem D198_92 : decode T198.2.2.1 92 = .ok (.iaload, 1) := by decide +kernel
theorem B198_93_95 : s_dk T198.2.2.1 93 [.iload 4] 95 = true := by decide +kernel
theorem D198_95 : decode T198.2.2.1 95 = .ok (.if_icmp .ne 7, 3) := by decide +kernel
theorem B198_102_108 : s_dk T198.2.2.1 102 [.iconst 0, .istore 5, .iinc 6 1] 108 = true := by decide +kernel
theorem D198_108 : decode T198.2.2.1 108 = .ok (.goto (-36), 3) := by decide +kernel
theorem B198_98_99 : s_dk T198.2.2.1 98 [.iconst 1] 99 = true := by decide +kernel
theorem D198_99 : decode T198.2.2.1 99 = .ok (.goto 4, 3) := by decide +kernel
theorem B198_103_108 : s_dk T198.2.2.1 103 [.istore 5, .iinc 6 1] 108 = true := by decide +kernel
theorem D198_116 : decode T198.2.2.1 116 = .ok (.goto 24, 3) := by decide +kernel
noncomputable def T199 : mT := (11, yX11_placeAt, cX11_placeAt, 12, none)
set_option maxRecDepth 10000 in
theorem TE199 : sy_m[199]? = some T199 := rfl
theorem B199_0_4 : s_dk T199.2.2.1 0 [.aload_n 0, .iload_n 1, .iload_n 2, .iconst 0] 4 = true := by decide +kernel
theorem D199_4 : decode T199.2.2.1 4 = .ok (.invokevirtual 253, 3) := by decide +kernel
theorem B199_7_10 : s_dk T199.2.2.1 7 [.aload_n 0, .iload_n 1, .iload_n 2] 10 = true := by decide +kernel
theorem D199_10 : decode T199.2.2.1 10 = .ok (.invokevirtual 270, 3) := by decide +kernel
theorem ck_11_virtual_270 : m_call 11 (.invokevirtual 270) = some (0, 198, 2) := by decide +kernel
theorem B199_13_15 : s_dk T199.2.2.1 13 [.iconst 0, .istore_n 3] 15 = true := by decide +kernel
theorem B199_15_19 : s_dk T199.2.2.1 15 [.iload_n 3, .sipush 1111] 19 = true := by decide +kernel
theorem D199_19 : decode T199.2.2.1 19 = .ok (.if_icmp .ge 177, 3) := by decide +kernel
theorem B199_22_31 : s_dk T199.2.2.1 22 [.lconst 0, .lstore 4, .iconst (-1), .istore 6, .iconst 0, .istore 7] 31 = true := by decide +kernel
theorem B199_31_35 : s_dk T199.2.2.1 31 [.iload 7, .bipush 16] 35 = true := by decide +kernel
theorem D199_35 : decode T199.2.2.1 35 = .ok (.if_icmp .ge 140, 3) := by decide +kernel
theorem B199_38_40 : s_dk T199.2.2.1 38 [.iload 7] 40 = true := by decide +kernel
theorem D199_40 : decode T199.2.2.1 40 = .ok (.invokestatic 237, 3) := by decide +kernel
theorem B199_43_46 : s_dk T199.2.2.1 43 [.istore 8, .aload_n 0] 46 = true := by decide +kernel
theorem gf_11_273_77 : s_gf 11 273 77 = some (25, 1) := by decide +kernel
theorem D199_46 : decode T199.2.2.1 46 = .ok (.getfield 273, 3) := by decide +kernel
theorem D199_49 : decode T199.2.2.1 49 = .ok (.ifCond .eq 15, 3) := by decide +kernel
theorem B199_64_68 : s_dk T199.2.2.1 64 [.aload_n 0, .iload_n 3, .iload 8] 68 = true := by decide +kernel
theorem D199_68 : decode T199.2.2.1 68 = .ok (.invokevirtual 240, 3) := by decide +kernel
theorem D199_71 : decode T199.2.2.1 71 = .ok (.ifCond .ne 6, 3) := by decide +kernel
theorem B199_77_78 : s_dk T199.2.2.1 77 [.aload_n 0] 78 = true := by decide +kernel
theorem D199_78 : decode T199.2.2.1 78 = .ok (.getfield 218, 3) := by decide +kernel
theorem D199_81 : decode T199.2.2.1 81 = .ok (.i2l, 1) := by decide +kernel
theorem B199_82_84 : s_dk T199.2.2.1 82 [.aload_n 0, .aload_n 0] 84 = true := by decide +kernel
theorem D199_84 : decode T199.2.2.1 84 = .ok (.getfield 215, 3) := by decide +kernel
theorem D199_87 : decode T199.2.2.1 87 = .ok (.invokevirtual 246, 3) := by decide +kernel
theorem D199_90 : decode T199.2.2.1 90 = .ok (.i2l, 1) := by decide +kernel
theorem B199_91_93 : s_dk T199.2.2.1 91 [.ladd, .aload_n 0] 93 = true := by decide +kernel
theorem D199_93 : decode T199.2.2.1 93 = .ok (.getfield 197, 3) := by decide +kernel
theorem D199_96 : decode T199.2.2.1 96 = .ok (.i2l, 1) := by decide +kernel
theorem B199_97_103 : s_dk T199.2.2.1 97 [.lmul, .lstore 9, .iconst 0, .istore 11] 103 = true := by decide +kernel
theorem D199_74 : decode T199.2.2.1 74 = .ok (.goto 95, 3) := by decide +kernel
theorem B199_169_172 : s_dk T199.2.2.1 169 [.iinc 7 1] 172 = true := by decide +kernel
theorem D199_172 : decode T199.2.2.1 172 = .ok (.goto (-141), 3) := by decide +kernel
theorem B199_52_58 : s_dk T199.2.2.1 52 [.iload 8, .bipush 10, .bipush 17] 58 = true := by decide +kernel
theorem D199_58 : decode T199.2.2.1 58 = .ok (.invokestatic 123, 3) := by decide +kernel
theorem D199_61 : decode T199.2.2.1 61 = .ok (.ifCond .ne 108, 3) := by decide +kernel
theorem B199_103_106 : s_dk T199.2.2.1 103 [.iload 11, .aload_n 0] 106 = true := by decide +kernel
theorem D199_106 : decode T199.2.2.1 106 = .ok (.getfield 264, 3) := by decide +kernel
theorem D199_109 : decode T199.2.2.1 109 = .ok (.if_icmp .ge 35, 3) := by decide +kernel
theorem B199_144_147 : s_dk T199.2.2.1 144 [.iload 6, .iconst (-1)] 147 = true := by decide +kernel
theorem D199_147 : decode T199.2.2.1 147 = .ok (.if_icmp .eq 14, 3) := by decide +kernel
theorem B199_161_172 : s_dk T199.2.2.1 161 [.iload 8, .istore 6, .lload 9, .lstore 4, .iinc 7 1] 172 = true := by decide +kernel
theorem B199_112_115 : s_dk T199.2.2.1 112 [.lload 9, .aload_n 0] 115 = true := by decide +kernel
theorem D199_115 : decode T199.2.2.1 115 = .ok (.getfield 40, 3) := by decide +kernel
theorem B199_118_122 : s_dk T199.2.2.1 118 [.sipush 1111, .aload_n 0] 122 = true := by decide +kernel
theorem D199_122 : decode T199.2.2.1 122 = .ok (.getfield 62, 3) := by decide +kernel
theorem B199_125_127 : s_dk T199.2.2.1 125 [.iload 11] 127 = true := by decide +kernel
theorem D199_127 : decode T199.2.2.1 127 = .ok (.iaload, 1) := by decide +kernel
theorem B199_128_130 : s_dk T199.2.2.1 128 [.imul, .aload_n 0] 130 = true := by decide +kernel
theorem D199_130 : decode T199.2.2.1 130 = .ok (.getfield 215, 3) := by decide +kernel
theorem B199_133_134 : s_dk T199.2.2.1 133 [.iadd] 134 = true := by decide +kernel
theorem D199_134 : decode T199.2.2.1 134 = .ok (.laload, 1) := by decide +kernel
theorem B199_135_141 : s_dk T199.2.2.1 135 [.ladd, .lstore 9, .iinc 11 1] 141 = true := by decide +kernel
theorem D199_141 : decode T199.2.2.1 141 = .ok (.goto (-38), 3) := by decide +kernel
theorem B199_150_154 : s_dk T199.2.2.1 150 [.lload 9, .lload 4] 154 = true := by decide +kernel
theorem D199_154 : decode T199.2.2.1 154 = .ok (.lcmp, 1) := by decide +kernel
theorem D199_155 : decode T199.2.2.1 155 = .ok (.ifCond .lt 6, 3) := by decide +kernel
theorem D199_158 : decode T199.2.2.1 158 = .ok (.goto 11, 3) := by decide +kernel
theorem B199_175_187 : s_dk T199.2.2.1 175 [.aload_n 0, .bipush 9, .iload_n 1, .imul, .iload_n 2, .iadd, .iload_n 3, .lload 4, .iload 6] 187 = true := by decide +kernel
theorem D199_187 : decode T199.2.2.1 187 = .ok (.invokevirtual 249, 3) := by decide +kernel
theorem B199_190_193 : s_dk T199.2.2.1 190 [.iinc 3 1] 193 = true := by decide +kernel
theorem D199_193 : decode T199.2.2.1 193 = .ok (.goto (-178), 3) := by decide +kernel
theorem D199_196 : decode T199.2.2.1 196 = .ok (.return_, 1) := by decide +kernel
noncomputable def T200 : mT := (11, yX11_leastOf, cX11_leastOf, 4, (some .long))
set_option maxRecDepth 10000 in
theorem TE200 : sy_m[200]? = some T200 := rfl
theorem B200_0_2 : s_dk T200.2.2.1 0 [.iconst 0, .istore_n 1] 2 = true := by decide +kernel
theorem B200_2_4 : s_dk T200.2.2.1 2 [.iload_n 1, .aload_n 0] 4 = true := by decide +kernel
theorem D200_4 : decode T200.2.2.1 4 = .ok (.getfield 13, 3) := by decide +kernel
theorem B200_7_10 : s_dk T200.2.2.1 7 [.sipush 469] 10 = true := by decide +kernel
theorem D200_10 : decode T200.2.2.1 10 = .ok (.iaload, 1) := by decide +kernel
theorem D200_11 : decode T200.2.2.1 11 = .ok (.if_icmp .ge 22, 3) := by decide +kernel
theorem B200_33_36 : s_dk T200.2.2.1 33 [.bipush 8, .istore_n 1] 36 = true := by decide +kernel
theorem B200_14_16 : s_dk T200.2.2.1 14 [.aload_n 0, .iload_n 1] 16 = true := by decide +kernel
theorem D200_16 : decode T200.2.2.1 16 = .ok (.invokevirtual 138, 3) := by decide +kernel
theorem D200_19 : decode T200.2.2.1 19 = .ok (.ifCond .le 8, 3) := by decide +kernel
theorem B200_27_30 : s_dk T200.2.2.1 27 [.iinc 1 1] 30 = true := by decide +kernel
theorem D200_30 : decode T200.2.2.1 30 = .ok (.goto (-28), 3) := by decide +kernel
theorem B200_22_24 : s_dk T200.2.2.1 22 [.aload_n 0, .iload_n 1] 24 = true := by decide +kernel
theorem D200_24 : decode T200.2.2.1 24 = .ok (.invokevirtual 276, 3) := by decide +kernel
theorem ck_11_virtual_276 : m_call 11 (.invokevirtual 276) = some (0, 197, 1) := by decide +kernel
theorem B200_36_38 : s_dk T200.2.2.1 36 [.iload_n 1, .iconst 1] 38 = true := by decide +kernel
theorem D200_38 : decode T200.2.2.1 38 = .ok (.if_icmp .lt 62, 3) := by decide +kernel
theorem B200_41_43 : s_dk T200.2.2.1 41 [.iconst 0, .istore_n 2] 43 = true := by decide +kernel
theorem B200_43_45 : s_dk T200.2.2.1 43 [.iload_n 2, .aload_n 0] 45 = true := by decide +kernel
theorem D200_45 : decode T200.2.2.1 45 = .ok (.getfield 13, 3) := by decide +kernel
theorem B200_48_51 : s_dk T200.2.2.1 48 [.sipush 469] 51 = true := by decide +kernel
theorem D200_51 : decode T200.2.2.1 51 = .ok (.iaload, 1) := by decide +kernel
theorem D200_52 : decode T200.2.2.1 52 = .ok (.if_icmp .ge 42, 3) := by decide +kernel
theorem B200_94_97 : s_dk T200.2.2.1 94 [.iinc 1 (-1)] 97 = true := by decide +kernel
theorem D200_97 : decode T200.2.2.1 97 = .ok (.goto (-61), 3) := by decide +kernel
theorem B200_55_57 : s_dk T200.2.2.1 55 [.aload_n 0, .iload_n 2] 57 = true := by decide +kernel
theorem D200_57 : decode T200.2.2.1 57 = .ok (.invokevirtual 138, 3) := by decide +kernel
theorem D200_60 : decode T200.2.2.1 60 = .ok (.ifCond .le 28, 3) := by decide +kernel
theorem B200_88_91 : s_dk T200.2.2.1 88 [.iinc 2 1] 91 = true := by decide +kernel
theorem D200_91 : decode T200.2.2.1 91 = .ok (.goto (-48), 3) := by decide +kernel
theorem B200_63_65 : s_dk T200.2.2.1 63 [.aload_n 0, .iload_n 2] 65 = true := by decide +kernel
theorem D200_65 : decode T200.2.2.1 65 = .ok (.invokevirtual 144, 3) := by decide +kernel
theorem B200_68_69 : s_dk T200.2.2.1 68 [.iload_n 1] 69 = true := by decide +kernel
theorem D200_69 : decode T200.2.2.1 69 = .ok (.if_icmp .lt 19, 3) := by decide +kernel
theorem B200_72_75 : s_dk T200.2.2.1 72 [.aload_n 0, .iload_n 2, .iload_n 1] 75 = true := by decide +kernel
theorem D200_75 : decode T200.2.2.1 75 = .ok (.invokevirtual 267, 3) := by decide +kernel
theorem B200_78_79 : s_dk T200.2.2.1 78 [.iload_n 2] 79 = true := by decide +kernel
theorem D200_79 : decode T200.2.2.1 79 = .ok (.if_icmp .ne 9, 3) := by decide +kernel
theorem B200_82_85 : s_dk T200.2.2.1 82 [.aload_n 0, .iload_n 2, .iload_n 1] 85 = true := by decide +kernel
theorem D200_85 : decode T200.2.2.1 85 = .ok (.invokevirtual 280, 3) := by decide +kernel
theorem ck_11_virtual_280 : m_call 11 (.invokevirtual 280) = some (0, 199, 2) := by decide +kernel
theorem B200_100_104 : s_dk T200.2.2.1 100 [.lconst 0, .lstore_n 1, .iconst 0, .istore_n 3] 104 = true := by decide +kernel
theorem B200_104_106 : s_dk T200.2.2.1 104 [.iload_n 3, .aload_n 0] 106 = true := by decide +kernel
theorem D200_106 : decode T200.2.2.1 106 = .ok (.getfield 13, 3) := by decide +kernel
theorem B200_109_112 : s_dk T200.2.2.1 109 [.sipush 469] 112 = true := by decide +kernel
theorem D200_112 : decode T200.2.2.1 112 = .ok (.iaload, 1) := by decide +kernel
theorem D200_113 : decode T200.2.2.1 113 = .ok (.if_icmp .ge 45, 3) := by decide +kernel
theorem B200_158_159 : s_dk T200.2.2.1 158 [.lload_n 1] 159 = true := by decide +kernel
theorem D200_159 : decode T200.2.2.1 159 = .ok (.lreturn, 1) := by decide +kernel
theorem B200_116_118 : s_dk T200.2.2.1 116 [.aload_n 0, .iload_n 3] 118 = true := by decide +kernel
theorem D200_118 : decode T200.2.2.1 118 = .ok (.invokevirtual 138, 3) := by decide +kernel
theorem D200_121 : decode T200.2.2.1 121 = .ok (.ifCond .le 31, 3) := by decide +kernel
theorem B200_152_155 : s_dk T200.2.2.1 152 [.iinc 3 1] 155 = true := by decide +kernel
theorem D200_155 : decode T200.2.2.1 155 = .ok (.goto (-51), 3) := by decide +kernel
theorem B200_124_127 : s_dk T200.2.2.1 124 [.aload_n 0, .iload_n 3, .iconst 1] 127 = true := by decide +kernel
theorem D200_127 : decode T200.2.2.1 127 = .ok (.invokevirtual 267, 3) := by decide +kernel
theorem B200_130_131 : s_dk T200.2.2.1 130 [.iload_n 3] 131 = true := by decide +kernel
theorem D200_131 : decode T200.2.2.1 131 = .ok (.if_icmp .ne 21, 3) := by decide +kernel
theorem B200_134_136 : s_dk T200.2.2.1 134 [.lload_n 1, .aload_n 0] 136 = true := by decide +kernel
theorem D200_136 : decode T200.2.2.1 136 = .ok (.getfield 40, 3) := by decide +kernel
theorem B200_139_149 : s_dk T200.2.2.1 139 [.sipush 1111, .bipush 9, .iload_n 3, .imul, .iconst 1, .iadd, .imul] 149 = true := by decide +kernel
theorem D200_149 : decode T200.2.2.1 149 = .ok (.laload, 1) := by decide +kernel
theorem B200_150_155 : s_dk T200.2.2.1 150 [.ladd, .lstore_n 1, .iinc 3 1] 155 = true := by decide +kernel
noncomputable def T206 : mT := (11, yX11_guessing, cX11_guessing, 5, (some .long))
set_option maxRecDepth 10000 in
theorem TE206 : sy_m[206]? = some T206 := rfl
theorem B206_0_1 : s_dk T206.2.2.1 0 [.aload_n 0] 1 = true := by decide +kernel
theorem D206_1 : decode T206.2.2.1 1 = .ok (.invokevirtual 283, 3) := by decide +kernel
theorem ck_11_virtual_283 : m_call 11 (.invokevirtual 283) = some (0, 200, 0) := by decide +kernel
theorem B206_4_7 : s_dk T206.2.2.1 4 [.lstore_n 1, .aload_n 0, .iconst 1] 7 = true := by decide +kernel
theorem pf_11_273_77 : s_pf 11 273 77 = some (25, 2) := by decide +kernel
theorem D206_7 : decode T206.2.2.1 7 = .ok (.putfield 273, 3) := by decide +kernel
theorem B206_10_11 : s_dk T206.2.2.1 10 [.aload_n 0] 11 = true := by decide +kernel
theorem D206_11 : decode T206.2.2.1 11 = .ok (.invokevirtual 283, 3) := by decide +kernel
theorem B206_14_17 : s_dk T206.2.2.1 14 [.lstore_n 3, .aload_n 0, .iconst 0] 17 = true := by decide +kernel
theorem D206_17 : decode T206.2.2.1 17 = .ok (.putfield 273, 3) := by decide +kernel
theorem B206_20_23 : s_dk T206.2.2.1 20 [.lload_n 3, .lload_n 1, .lsub] 23 = true := by decide +kernel
theorem D206_23 : decode T206.2.2.1 23 = .ok (.lreturn, 1) := by decide +kernel
noncomputable def T207 : mT := (11, yX11_writing, cX11_writing, 7, (some .long))
set_option maxRecDepth 10000 in
theorem TE207 : sy_m[207]? = some T207 := rfl
theorem B207_0_1 : s_dk T207.2.2.1 0 [.aload_n 0] 1 = true := by decide +kernel
theorem D207_1 : decode T207.2.2.1 1 = .ok (.getfield 13, 3) := by decide +kernel
theorem B207_4_7 : s_dk T207.2.2.1 4 [.iconst 0, .iload_n 1, .iadd] 7 = true := by decide +kernel
theorem D207_7 : decode T207.2.2.1 7 = .ok (.iaload, 1) := by decide +kernel
theorem B207_8_11 : s_dk T207.2.2.1 8 [.istore 4, .aload_n 0] 11 = true := by decide +kernel
theorem D207_11 : decode T207.2.2.1 11 = .ok (.getfield 13, 3) := by decide +kernel
theorem B207_14_18 : s_dk T207.2.2.1 14 [.iconst 0, .iload_n 1, .iadd, .iconst 0] 18 = true := by decide +kernel
theorem D207_18 : decode T207.2.2.1 18 = .ok (.iastore, 1) := by decide +kernel
theorem B207_19_21 : s_dk T207.2.2.1 19 [.lload_n 2, .aload_n 0] 21 = true := by decide +kernel
theorem D207_21 : decode T207.2.2.1 21 = .ok (.invokevirtual 283, 3) := by decide +kernel
theorem B207_24_28 : s_dk T207.2.2.1 24 [.lsub, .lstore 5, .aload_n 0] 28 = true := by decide +kernel
theorem D207_28 : decode T207.2.2.1 28 = .ok (.getfield 13, 3) := by decide +kernel
theorem B207_31_36 : s_dk T207.2.2.1 31 [.iconst 0, .iload_n 1, .iadd, .iload 4] 36 = true := by decide +kernel
theorem D207_36 : decode T207.2.2.1 36 = .ok (.iastore, 1) := by decide +kernel
theorem B207_37_39 : s_dk T207.2.2.1 37 [.lload 5] 39 = true := by decide +kernel
theorem D207_39 : decode T207.2.2.1 39 = .ok (.lreturn, 1) := by decide +kernel
noncomputable def T209 : mT := (11, yX11_write, cX11_write, 10, (some .long))
set_option maxRecDepth 10000 in
theorem TE209 : sy_m[209]? = some T209 := rfl
theorem B209_0_4 : s_dk T209.2.2.1 0 [.iload_n 1, .iconst (-1), .bipush 29] 4 = true := by decide +kernel
theorem D209_4 : decode T209.2.2.1 4 = .ok (.invokestatic 123, 3) := by decide +kernel
theorem D209_7 : decode T209.2.2.1 7 = .ok (.ifCond .ne 7, 3) := by decide +kernel
theorem B209_14_15 : s_dk T209.2.2.1 14 [.aload_n 0] 15 = true := by decide +kernel
theorem D209_15 : decode T209.2.2.1 15 = .ok (.invokevirtual 283, 3) := by decide +kernel
theorem B209_18_21 : s_dk T209.2.2.1 18 [.lstore_n 2, .iload_n 1, .iconst (-1)] 21 = true := by decide +kernel
theorem D209_21 : decode T209.2.2.1 21 = .ok (.if_icmp .eq 10, 3) := by decide +kernel
theorem B209_31_40 : s_dk T209.2.2.1 31 [.iconst (-1), .istore 4, .lconst 0, .lstore 5, .iconst 0, .istore 7] 40 = true := by decide +kernel
theorem B209_24_27 : s_dk T209.2.2.1 24 [.aload_n 0, .iload_n 1, .lload_n 2] 27 = true := by decide +kernel
theorem D209_27 : decode T209.2.2.1 27 = .ok (.invokevirtual 298, 3) := by decide +kernel
theorem ck_11_virtual_298 : m_call 11 (.invokevirtual 298) = some (0, 207, 2) := by decide +kernel
theorem D209_30 : decode T209.2.2.1 30 = .ok (.lreturn, 1) := by decide +kernel
theorem cl_11_296 : m_cl 11 296 = some (-1) := by decide +kernel
theorem D209_10 : decode T209.2.2.1 10 = .ok (.ldc2_w 296, 3) := by decide +kernel
theorem D209_13 : decode T209.2.2.1 13 = .ok (.lreturn, 1) := by decide +kernel
theorem B209_40_44 : s_dk T209.2.2.1 40 [.iload 7, .bipush 30] 44 = true := by decide +kernel
theorem D209_44 : decode T209.2.2.1 44 = .ok (.if_icmp .ge 61, 3) := by decide +kernel
theorem B209_47_50 : s_dk T209.2.2.1 47 [.aload_n 0, .iload 7] 50 = true := by decide +kernel
theorem D209_50 : decode T209.2.2.1 50 = .ok (.invokevirtual 302, 3) := by decide +kernel
theorem ck_11_virtual_302 : m_call 11 (.invokevirtual 302) = some (0, 208, 1) := by decide +kernel
theorem D209_53 : decode T209.2.2.1 53 = .ok (.ifCond .eq 46, 3) := by decide +kernel
theorem B209_99_102 : s_dk T209.2.2.1 99 [.iinc 7 1] 102 = true := by decide +kernel
theorem D209_102 : decode T209.2.2.1 102 = .ok (.goto (-62), 3) := by decide +kernel
theorem B209_56_57 : s_dk T209.2.2.1 56 [.aload_n 0] 57 = true := by decide +kernel
theorem D209_57 : decode T209.2.2.1 57 = .ok (.getfield 13, 3) := by decide +kernel
theorem B209_60_64 : s_dk T209.2.2.1 60 [.iconst 0, .iload 7, .iadd] 64 = true := by decide +kernel
theorem D209_64 : decode T209.2.2.1 64 = .ok (.iaload, 1) := by decide +kernel
theorem D209_65 : decode T209.2.2.1 65 = .ok (.ifCond .ne 6, 3) := by decide +kernel
theorem B209_71_75 : s_dk T209.2.2.1 71 [.aload_n 0, .iload 7, .lload_n 2] 75 = true := by decide +kernel
theorem D209_75 : decode T209.2.2.1 75 = .ok (.invokevirtual 298, 3) := by decide +kernel
theorem B209_78_84 : s_dk T209.2.2.1 78 [.lstore 8, .lload 8, .lload 5] 84 = true := by decide +kernel
theorem D209_84 : decode T209.2.2.1 84 = .ok (.lcmp, 1) := by decide +kernel
theorem D209_85 : decode T209.2.2.1 85 = .ok (.ifCond .gt 6, 3) := by decide +kernel
theorem B209_91_102 : s_dk T209.2.2.1 91 [.lload 8, .lstore 5, .iload 7, .istore 4, .iinc 7 1] 102 = true := by decide +kernel
theorem D209_88 : decode T209.2.2.1 88 = .ok (.goto 11, 3) := by decide +kernel
theorem D209_68 : decode T209.2.2.1 68 = .ok (.goto 31, 3) := by decide +kernel
theorem B209_105_107 : s_dk T209.2.2.1 105 [.iload 4] 107 = true := by decide +kernel
theorem D209_107 : decode T209.2.2.1 107 = .ok (.i2l, 1) := by decide +kernel
theorem D209_108 : decode T209.2.2.1 108 = .ok (.lreturn, 1) := by decide +kernel
set_option maxRecDepth 4000 in
theorem k192x {base : Nat} {X : Nat → Option mC} {G : Nat → Value} (E : EnvOK base X G) {d : Nat} (hd : 0 ≤ d) {M : mH} (H : HI base M) (k : Int) (h0 : 0 ≤ k ∧ k ≤ 15) : sOk base X G d T192 [vI k] M (pI (fun v M' => M' = M ∧ (0 ≤ v ∧ v ≤ 22) ∧ (v ≤ 4 ∨ 10 ≤ v) ∧ (v ≤ 17 ∨ 20 ≤ v))) := by
  refine sOk.of (show sRn base X G d T192 0 [(0, vI k)] [] M _ from ?_)
  refine s_blx (lv' := [(0, vI k)]) (st' := [vI 5, vI k]) B192_0_2 rfl ?_
  refine r_icmp (tgt := 9) (pc' := 5) D192_2 rfl rfl (by unfold inR; omega) (fun (c1 : 5 ≤ k) => ?_) (fun (c1 : ¬ (5 ≤ k)) => ?_)
  · refine s_blx (lv' := [(0, vI k)]) (st' := [vI 13, vI k]) B192_9_12 rfl ?_
    refine r_icmp (tgt := 21) (pc' := 15) D192_12 rfl rfl (by unfold inR; omega) (fun (c2 : 13 ≤ k) => ?_) (fun (c2 : ¬ (13 ≤ k)) => ?_)
    · refine s_blx (lv' := [(0, vI k)]) (st' := [vI (7 + k)]) B192_21_25 rfl ?_
      exact r_iretI D192_25 rfl (⟨rfl, by omega, by omega, by omega⟩)
    · refine s_blx (lv' := [(0, vI k)]) (st' := [vI (5 + k)]) B192_15_18 rfl ?_
      refine r_goto (tgt := 25) D192_18 rfl ?_
      exact r_iretI D192_25 rfl (⟨rfl, by omega, by omega, by omega⟩)
  · refine s_blx (lv' := [(0, vI k)]) (st' := [vI k]) B192_5_6 rfl ?_
    refine r_goto (tgt := 25) D192_6 rfl ?_
    exact r_iretI D192_25 rfl (⟨rfl, by omega, by omega, by omega⟩)
set_option maxRecDepth 4000 in
theorem L_k196x {base : Nat} {X : Nat → Option mC} {G : Nat → Value} (E : EnvOK base X G) {d : Nat} (hd : 4 ≤ d) {M : mH} (H : HI base M) (s : Int) (said : Int) (h0 : TB M) (h1 : 0 ≤ s ∧ s ≤ 15) (h2 : 0 ≤ said ∧ said ≤ 1110) : ∀ mz : Nat, (∀ (x3 x4 x6 x7 : Int) (N : mH), HI base N → Fr [(77, 14), (77, 15), (77, 16), (86, 0), (87, 0)] M N → (0 ≤ x3) → (x3 ≤ 135) → ((-1) ≤ x6) → (x6 ≤ 22) → (0 ≤ x7) → (x7 ≤ 16) → (16 - x7) * 1 + 0 < (mz : Int) → sRn base X G d T196 14 [(0, vR 77), (1, vI s), (2, vI said), (3, vI x3), (4, vL x4), (6, vI x6), (7, vI x7)] [] N (s_Q base (pV (fun M' => HI base M' ∧ Fr [(77, 14), (77, 15), (77, 16), (86, 0), (87, 0)] M M')))) := by
  have f0 : Fr [(77, 14), (77, 15), (77, 16), (86, 0), (87, 0)] M M := Fr.rf
  intro mz
  induction mz with
  | zero => exact fun x3 x4 x6 x7 N _ _ z0 z1 z2 z3 z4 z5 z6 => by omega
  | succ mz ih =>
    intro x3 x4 x6 x7 N HN fN i0 i1 i2 i3 i4 i5 hmu
    refine s_blx (lv' := [(0, vR 77), (1, vI s), (2, vI said), (3, vI x3), (4, vL x4), (6, vI x6), (7, vI x7)]) (st' := [vI 16, vI x7]) B196_14_18 rfl ?_
    refine r_icmp (tgt := 141) (pc' := 21) D196_18 rfl rfl (by unfold inR; omega) (fun (c1 : 16 ≤ x7) => ?_) (fun (c1 : ¬ (16 ≤ x7)) => ?_)
    · refine s_blx (lv' := [(0, vR 77), (1, vI s), (2, vI said), (3, vI x3), (4, vL x4), (6, vI x6), (7, vI x7)]) (st' := [vI x6, vL x4, vI said, vI x3, vR 77]) B196_141_148 rfl ?_
      refine r_vV (c := 77) (args := [vI x3, vI said, vL x4, vI x6]) (rest := []) (pc' := 151) D196_148 rfl ck_11_virtual_249 TE194 rfl (Nat.le_of_ble_eq_true rfl) ⟨Nat.le_of_ble_eq_true rfl, Nat.le_of_ble_eq_true rfl⟩ sc_77 ⟨rfl, by decide⟩ HN.1 (dp_0 hd rfl) (k194 E (dp_n hd rfl) HN x3 said x4 x6 (by omega) (by omega) (by omega)) ?_
      intro M3 q6
      obtain ⟨H4, f5⟩ := q6
      have f7 := fN.tr (f5.up rfl)
      exact r_retV D196_151 rfl (⟨H4, f7⟩)
    · refine s_blx (lv' := [(0, vR 77), (1, vI s), (2, vI said), (3, vI x3), (4, vL x4), (6, vI x6), (7, vI x7)]) (st' := [vI x7]) B196_21_23 rfl ?_
      refine r_sIp (args := [vI x7]) (rest := []) (pc' := 26) D196_23 rfl ck_11_static_237 TE192 rfl (Nat.le_of_ble_eq_true rfl) ⟨Nat.le_of_ble_eq_true rfl, Nat.le_of_ble_eq_true rfl⟩ (by decide) (dp_0 hd rfl) (k192x E (dp_n hd rfl) HN x7 (by omega)) ?_
      intro v8 q13
      obtain ⟨q10, q11, q12⟩ := q13
      refine s_blx (lv' := [(8, vI v8), (0, vR 77), (1, vI s), (2, vI said), (3, vI x3), (4, vL x4), (6, vI x6), (7, vI x7)]) (st' := [vI v8, vI said, vR 77]) B196_26_32 rfl ?_
      refine r_vI (c := 77) (args := [vI said, vI v8]) (rest := []) (pc' := 35) D196_32 rfl ck_11_virtual_240 TE188 rfl (Nat.le_of_ble_eq_true rfl) ⟨Nat.le_of_ble_eq_true rfl, Nat.le_of_ble_eq_true rfl⟩ sc_77 ⟨rfl, by decide⟩ HN.1 (dp_0 hd rfl) (k188x E (dp_n hd rfl) HN said v8 ((h0.fr fN rfl)) (by omega) (by omega) (by omega) (by omega)) ?_
      intro v14 M15 q19
      obtain ⟨H16, f17, q18⟩ := q19
      have f20 := fN.tr (f17.up rfl)
      refine r_ifc (tgt := 41) (pc' := 38) D196_35 rfl rfl (by unfold inR; omega) (fun (c21 : v14 ≠ 0) => ?_) (fun (c21 : ¬ (v14 ≠ 0)) => ?_)
      · refine s_blx (lv' := [(8, vI v8), (0, vR 77), (1, vI s), (2, vI said), (3, vI x3), (4, vL x4), (6, vI x6), (7, vI x7)]) (st' := [vI 4, vI v8]) B196_41_44 rfl ?_
        refine r_icmp (tgt := 57) (pc' := 47) D196_44 rfl rfl (by unfold inR; omega) (fun (c22 : v8 ≠ 4) => ?_) (fun (c22 : ¬ (v8 ≠ 4)) => ?_)
        · refine s_blx (lv' := [(8, vI v8), (0, vR 77), (1, vI s), (2, vI said), (3, vI x3), (4, vL x4), (6, vI x6), (7, vI x7)]) (st' := [vR 77]) B196_57_58 rfl ?_
          refine r_gint (ki := 15) (pc' := 61) D196_58 rfl gf_11_218_77 rfl H16.1 ?_
          intro w23 e24 r25
          unfold inR at r25
          refine r_i2l (pc' := 62) D196_61 rfl (by unfold inR; omega) ?_
          refine s_blx (lv' := [(8, vI v8), (0, vR 77), (1, vI s), (2, vI said), (3, vI x3), (4, vL x4), (6, vI x6), (7, vI x7)]) (st' := [vR 77, vR 77, vL w23]) B196_62_64 rfl ?_
          refine r_gint (ki := 14) (pc' := 67) D196_64 rfl gf_11_215_77 rfl H16.1 ?_
          intro w26 e27 r28
          have b_w26 := H16.2 77 (14) 0 1110 rfl
          rw [← e27] at b_w26; clear r28
          refine r_vIp (c := 77) (args := [vI w26]) (rest := [vL w23]) (pc' := 70) D196_67 rfl ck_11_virtual_246 TE190 rfl (Nat.le_of_ble_eq_true rfl) ⟨Nat.le_of_ble_eq_true rfl, Nat.le_of_ble_eq_true rfl⟩ sc_77 ⟨rfl, by decide⟩ H16.1 (dp_0 hd rfl) (k190 E (dp_n hd rfl) H16 w26 (by omega)) ?_
          intro v29 q32
          have q31 := q32; clear q32
          refine r_i2l (pc' := 71) D196_70 rfl (by unfold inR; omega) ?_
          refine s_blx (lv' := [(9, vL (w23 + v29)), (8, vI v8), (0, vR 77), (1, vI s), (2, vI said), (3, vI x3), (4, vL x4), (6, vI x6), (7, vI x7)]) (st' := [vR 77, vL (w23 + v29)]) B196_71_77 rfl ?_
          refine r_gint (ki := 8) (pc' := 80) D196_77 rfl gf_11_197_77 rfl H16.1 ?_
          intro w33 e34 r35
          unfold inR at r35
          refine r_i2l (pc' := 81) D196_80 rfl (by unfold inR; omega) ?_
          refine s_blx (lv' := [(9, vL (w23 + v29)), (8, vI v8), (0, vR 77), (1, vI s), (2, vI said), (3, vI x3), (4, vL x4), (6, vI x6), (7, vI x7)]) (st' := [vI 4, vI v8, vL ((w23 + v29) * w33)]) B196_81_85 rfl ?_
          refine r_icmp (tgt := 92) (pc' := 88) D196_85 rfl rfl (by unfold inR; omega) (fun (c36 : v8 ≠ 4) => ?_) (fun (c36 : ¬ (v8 ≠ 4)) => ?_)
          · refine s_blx (lv' := [(9, vL (w23 + v29)), (8, vI v8), (0, vR 77), (1, vI s), (2, vI said), (3, vI x3), (4, vL x4), (6, vI x6), (7, vI x7)]) (st' := [vR 77, vL ((w23 + v29) * w33)]) B196_92_93 rfl ?_
            refine r_gfix (r := 86) (pc' := 96) D196_93 rfl gf_11_40_77 H16.1 ?_
            refine s_blx (lv' := [(9, vL (w23 + v29)), (8, vI v8), (0, vR 77), (1, vI s), (2, vI said), (3, vI x3), (4, vL x4), (6, vI x6), (7, vI x7)]) (st' := [vR 77, vI (1111 * x3), vR 86, vL ((w23 + v29) * w33)]) B196_96_102 rfl ?_
            refine r_gint (ki := 14) (pc' := 105) D196_102 rfl gf_11_215_77 rfl H16.1 ?_
            intro w37 e38 r39
            have e40 : w26 = w37 := (e38.trans (e27.symm)).symm
            subst e40
            refine s_blx (lv' := [(9, vL (w23 + v29)), (8, vI v8), (0, vR 77), (1, vI s), (2, vI said), (3, vI x3), (4, vL x4), (6, vI x6), (7, vI x7)]) (st' := [vI ((1111 * x3) + w26), vR 86, vL ((w23 + v29) * w33)]) B196_105_106 rfl ?_
            refine r_lald (pc' := 107) D196_106 rfl sc_86 H16.1 (by omega) ?_
            intro w41 e42 r43
            clear r43
            refine s_blx (lv' := [(9, vL (((w23 + v29) * w33) + w41)), (8, vI v8), (0, vR 77), (1, vI s), (2, vI said), (3, vI x3), (4, vL x4), (6, vI x6), (7, vI x7)]) (st' := [vI (-1), vI x6]) B196_107_113 rfl ?_
            refine r_icmp (tgt := 127) (pc' := 116) D196_113 rfl rfl (by unfold inR; omega) (fun (c44 : x6 = (-1)) => ?_) (fun (c44 : ¬ (x6 = (-1))) => ?_)
            · refine s_blx (lv' := [(7, vI (x7 + 1)), (4, vL (((w23 + v29) * w33) + w41)), (6, vI v8), (9, vL (((w23 + v29) * w33) + w41)), (8, vI v8), (0, vR 77), (1, vI s), (2, vI said), (3, vI x3)]) (st' := []) B196_127_138 rfl ?_
              refine r_goto (tgt := 14) D196_138 rfl ?_
              refine r_loc (lv' := [(0, vR 77), (1, vI s), (2, vI said), (3, vI x3), (4, vL (((w23 + v29) * w33) + w41)), (6, vI v8), (7, vI (x7 + 1))]) ⟨rfl, rfl, rfl, rfl, rfl, rfl, rfl, trivial⟩ rfl rfl ?_
              exact ih x3 (((w23 + v29) * w33) + w41) v8 (x7 + 1) M15 H16 f20 (by omega) (by omega) (by omega) (by omega) (by omega) (by omega) (by omega)
            · refine s_blx (lv' := [(9, vL (((w23 + v29) * w33) + w41)), (8, vI v8), (0, vR 77), (1, vI s), (2, vI said), (3, vI x3), (4, vL x4), (6, vI x6), (7, vI x7)]) (st' := [vL x4, vL (((w23 + v29) * w33) + w41)]) B196_116_120 rfl ?_
              refine r_lcmp (pc' := 121) D196_120 rfl ?_
              intro z45 r46 r47
              refine r_ifc (tgt := 127) (pc' := 124) D196_121 rfl rfl (by unfold inR; omega) (fun (c48 : z45 < 0) => ?_) (fun (c48 : ¬ (z45 < 0)) => ?_)
              · refine s_blx (lv' := [(7, vI (x7 + 1)), (4, vL (((w23 + v29) * w33) + w41)), (6, vI v8), (9, vL (((w23 + v29) * w33) + w41)), (8, vI v8), (0, vR 77), (1, vI s), (2, vI said), (3, vI x3)]) (st' := []) B196_127_138 rfl ?_
                refine r_goto (tgt := 14) D196_138 rfl ?_
                refine r_loc (lv' := [(0, vR 77), (1, vI s), (2, vI said), (3, vI x3), (4, vL (((w23 + v29) * w33) + w41)), (6, vI v8), (7, vI (x7 + 1))]) ⟨rfl, rfl, rfl, rfl, rfl, rfl, rfl, trivial⟩ rfl rfl ?_
                exact ih x3 (((w23 + v29) * w33) + w41) v8 (x7 + 1) M15 H16 f20 (by omega) (by omega) (by omega) (by omega) (by omega) (by omega) (by omega)
              · refine r_goto (tgt := 135) D196_124 rfl ?_
                refine s_blx (lv' := [(7, vI (x7 + 1)), (9, vL (((w23 + v29) * w33) + w41)), (8, vI v8), (0, vR 77), (1, vI s), (2, vI said), (3, vI x3), (4, vL x4), (6, vI x6)]) (st' := []) B196_135_138 rfl ?_
                refine r_goto (tgt := 14) D196_138 rfl ?_
                refine r_loc (lv' := [(0, vR 77), (1, vI s), (2, vI said), (3, vI x3), (4, vL x4), (6, vI x6), (7, vI (x7 + 1))]) ⟨rfl, rfl, rfl, rfl, rfl, rfl, rfl, trivial⟩ rfl rfl ?_
                exact ih x3 x4 x6 (x7 + 1) M15 H16 f20 (by omega) (by omega) (by omega) (by omega) (by omega) (by omega) (by omega)
          · refine s_blx (lv' := [(9, vL (w23 + v29)), (8, vI v8), (0, vR 77), (1, vI s), (2, vI said), (3, vI x3), (4, vL x4), (6, vI x6), (7, vI x7)]) (st' := [vL 0, vL ((w23 + v29) * w33)]) B196_88_89 rfl ?_
            refine r_goto (tgt := 107) D196_89 rfl ?_
            refine s_blx (lv' := [(9, vL (((w23 + v29) * w33) + 0)), (8, vI v8), (0, vR 77), (1, vI s), (2, vI said), (3, vI x3), (4, vL x4), (6, vI x6), (7, vI x7)]) (st' := [vI (-1), vI x6]) B196_107_113 rfl ?_
            refine r_icmp (tgt := 127) (pc' := 116) D196_113 rfl rfl (by unfold inR; omega) (fun (c49 : x6 = (-1)) => ?_) (fun (c49 : ¬ (x6 = (-1))) => ?_)
            · refine s_blx (lv' := [(7, vI (x7 + 1)), (4, vL (((w23 + v29) * w33) + 0)), (6, vI v8), (9, vL (((w23 + v29) * w33) + 0)), (8, vI v8), (0, vR 77), (1, vI s), (2, vI said), (3, vI x3)]) (st' := []) B196_127_138 rfl ?_
              refine r_goto (tgt := 14) D196_138 rfl ?_
              refine r_loc (lv' := [(0, vR 77), (1, vI s), (2, vI said), (3, vI x3), (4, vL (((w23 + v29) * w33) + 0)), (6, vI v8), (7, vI (x7 + 1))]) ⟨rfl, rfl, rfl, rfl, rfl, rfl, rfl, trivial⟩ rfl rfl ?_
              exact ih x3 (((w23 + v29) * w33) + 0) v8 (x7 + 1) M15 H16 f20 (by omega) (by omega) (by omega) (by omega) (by omega) (by omega) (by omega)
            · refine s_blx (lv' := [(9, vL (((w23 + v29) * w33) + 0)), (8, vI v8), (0, vR 77), (1, vI s), (2, vI said), (3, vI x3), (4, vL x4), (6, vI x6), (7, vI x7)]) (st' := [vL x4, vL (((w23 + v29) * w33) + 0)]) B196_116_120 rfl ?_
              refine r_lcmp (pc' := 121) D196_120 rfl ?_
              intro z50 r51 r52
              refine r_ifc (tgt := 127) (pc' := 124) D196_121 rfl rfl (by unfold inR; omega) (fun (c53 : z50 < 0) => ?_) (fun (c53 : ¬ (z50 < 0)) => ?_)
              · refine s_blx (lv' := [(7, vI (x7 + 1)), (4, vL (((w23 + v29) * w33) + 0)), (6, vI v8), (9, vL (((w23 + v29) * w33) + 0)), (8, vI v8), (0, vR 77), (1, vI s), (2, vI said), (3, vI x3)]) (st' := []) B196_127_138 rfl ?_
                refine r_goto (tgt := 14) D196_138 rfl ?_
                refine r_loc (lv' := [(0, vR 77), (1, vI s), (2, vI said), (3, vI x3), (4, vL (((w23 + v29) * w33) + 0)), (6, vI v8), (7, vI (x7 + 1))]) ⟨rfl, rfl, rfl, rfl, rfl, rfl, rfl, trivial⟩ rfl rfl ?_
                exact ih x3 (((w23 + v29) * w33) + 0) v8 (x7 + 1) M15 H16 f20 (by omega) (by omega) (by omega) (by omega) (by omega) (by omega) (by omega)
              · refine r_goto (tgt := 135) D196_124 rfl ?_
                refine s_blx (lv' := [(7, vI (x7 + 1)), (9, vL (((w23 + v29) * w33) + 0)), (8, vI v8), (0, vR 77), (1, vI s), (2, vI said), (3, vI x3), (4, vL x4), (6, vI x6)]) (st' := []) B196_135_138 rfl ?_
                refine r_goto (tgt := 14) D196_138 rfl ?_
                refine r_loc (lv' := [(0, vR 77), (1, vI s), (2, vI said), (3, vI x3), (4, vL x4), (6, vI x6), (7, vI (x7 + 1))]) ⟨rfl, rfl, rfl, rfl, rfl, rfl, rfl, trivial⟩ rfl rfl ?_
                exact ih x3 x4 x6 (x7 + 1) M15 H16 f20 (by omega) (by omega) (by omega) (by omega) (by omega) (by omega) (by omega)
        · refine s_blx (lv' := [(8, vI v8), (0, vR 77), (1, vI s), (2, vI said), (3, vI x3), (4, vL x4), (6, vI x6), (7, vI x7)]) (st' := [vI s, vI said, vR 77]) B196_47_50 rfl ?_
          refine r_vIp (c := 77) (args := [vI said, vI s]) (rest := []) (pc' := 53) D196_50 rfl ck_11_virtual_243 TE191 rfl (Nat.le_of_ble_eq_true rfl) ⟨Nat.le_of_ble_eq_true rfl, Nat.le_of_ble_eq_true rfl⟩ sc_77 ⟨rfl, by decide⟩ H16.1 (dp_0 hd rfl) (k191 E (dp_n hd rfl) H16 said s (by omega) (by omega)) ?_
          intro v54 q57
          have q56 := q57; clear q57
          refine r_i2l (pc' := 54) D196_53 rfl (by unfold inR; omega) ?_
          refine r_goto (tgt := 72) D196_54 rfl ?_
          refine s_blx (lv' := [(9, vL v54), (8, vI v8), (0, vR 77), (1, vI s), (2, vI said), (3, vI x3), (4, vL x4), (6, vI x6), (7, vI x7)]) (st' := [vR 77, vL v54]) B196_72_77 rfl ?_
          refine r_gint (ki := 8) (pc' := 80) D196_77 rfl gf_11_197_77 rfl H16.1 ?_
          intro w58 e59 r60
          unfold inR at r60
          refine r_i2l (pc' := 81) D196_80 rfl (by unfold inR; omega) ?_
          refine s_blx (lv' := [(9, vL v54), (8, vI v8), (0, vR 77), (1, vI s), (2, vI said), (3, vI x3), (4, vL x4), (6, vI x6), (7, vI x7)]) (st' := [vI 4, vI v8, vL (v54 * w58)]) B196_81_85 rfl ?_
          refine r_icmp (tgt := 92) (pc' := 88) D196_85 rfl rfl (by unfold inR; omega) (fun (c61 : v8 ≠ 4) => ?_) (fun (c61 : ¬ (v8 ≠ 4)) => ?_)
          · exfalso; omega
          · refine s_blx (lv' := [(9, vL v54), (8, vI v8), (0, vR 77), (1, vI s), (2, vI said), (3, vI x3), (4, vL x4), (6, vI x6), (7, vI x7)]) (st' := [vL 0, vL (v54 * w58)]) B196_88_89 rfl ?_
            refine r_goto (tgt := 107) D196_89 rfl ?_
            refine s_blx (lv' := [(9, vL ((v54 * w58) + 0)), (8, vI v8), (0, vR 77), (1, vI s), (2, vI said), (3, vI x3), (4, vL x4), (6, vI x6), (7, vI x7)]) (st' := [vI (-1), vI x6]) B196_107_113 rfl ?_
            refine r_icmp (tgt := 127) (pc' := 116) D196_113 rfl rfl (by unfold inR; omega) (fun (c62 : x6 = (-1)) => ?_) (fun (c62 : ¬ (x6 = (-1))) => ?_)
            · refine s_blx (lv' := [(7, vI (x7 + 1)), (4, vL ((v54 * w58) + 0)), (6, vI v8), (9, vL ((v54 * w58) + 0)), (8, vI v8), (0, vR 77), (1, vI s), (2, vI said), (3, vI x3)]) (st' := []) B196_127_138 rfl ?_
              refine r_goto (tgt := 14) D196_138 rfl ?_
              refine r_loc (lv' := [(0, vR 77), (1, vI s), (2, vI said), (3, vI x3), (4, vL ((v54 * w58) + 0)), (6, vI v8), (7, vI (x7 + 1))]) ⟨rfl, rfl, rfl, rfl, rfl, rfl, rfl, trivial⟩ rfl rfl ?_
              exact ih x3 ((v54 * w58) + 0) v8 (x7 + 1) M15 H16 f20 (by omega) (by omega) (by omega) (by omega) (by omega) (by omega) (by omega)
            · refine s_blx (lv' := [(9, vL ((v54 * w58) + 0)), (8, vI v8), (0, vR 77), (1, vI s), (2, vI said), (3, vI x3), (4, vL x4), (6, vI x6), (7, vI x7)]) (st' := [vL x4, vL ((v54 * w58) + 0)]) B196_116_120 rfl ?_
              refine r_lcmp (pc' := 121) D196_120 rfl ?_
              intro z63 r64 r65
              refine r_ifc (tgt := 127) (pc' := 124) D196_121 rfl rfl (by unfold inR; omega) (fun (c66 : z63 < 0) => ?_) (fun (c66 : ¬ (z63 < 0)) => ?_)
              · refine s_blx (lv' := [(7, vI (x7 + 1)), (4, vL ((v54 * w58) + 0)), (6, vI v8), (9, vL ((v54 * w58) + 0)), (8, vI v8), (0, vR 77), (1, vI s), (2, vI said), (3, vI x3)]) (st' := []) B196_127_138 rfl ?_
                refine r_goto (tgt := 14) D196_138 rfl ?_
                refine r_loc (lv' := [(0, vR 77), (1, vI s), (2, vI said), (3, vI x3), (4, vL ((v54 * w58) + 0)), (6, vI v8), (7, vI (x7 + 1))]) ⟨rfl, rfl, rfl, rfl, rfl, rfl, rfl, trivial⟩ rfl rfl ?_
                exact ih x3 ((v54 * w58) + 0) v8 (x7 + 1) M15 H16 f20 (by omega) (by omega) (by omega) (by omega) (by omega) (by omega) (by omega)
              · refine r_goto (tgt := 135) D196_124 rfl ?_
                refine s_blx (lv' := [(7, vI (x7 + 1)), (9, vL ((v54 * w58) + 0)), (8, vI v8), (0, vR 77), (1, vI s), (2, vI said), (3, vI x3), (4, vL x4), (6, vI x6)]) (st' := []) B196_135_138 rfl ?_
                refine r_goto (tgt := 14) D196_138 rfl ?_
                refine r_loc (lv' := [(0, vR 77), (1, vI s), (2, vI said), (3, vI x3), (4, vL x4), (6, vI x6), (7, vI (x7 + 1))]) ⟨rfl, rfl, rfl, rfl, rfl, rfl, rfl, trivial⟩ rfl rfl ?_
                exact ih x3 x4 x6 (x7 + 1) M15 H16 f20 (by omega) (by omega) (by omega) (by omega) (by omega) (by omega) (by omega)
      · refine r_goto (tgt := 135) D196_38 rfl ?_
        refine s_blx (lv' := [(7, vI (x7 + 1)), (8, vI v8), (0, vR 77), (1, vI s), (2, vI said), (3, vI x3), (4, vL x4), (6, vI x6)]) (st' := []) B196_135_138 rfl ?_
        refine r_goto (tgt := 14) D196_138 rfl ?_
        refine r_loc (lv' := [(0, vR 77), (1, vI s), (2, vI said), (3, vI x3), (4, vL x4), (6, vI x6), (7, vI (x7 + 1))]) ⟨rfl, rfl, rfl, rfl, rfl, rfl, rfl, trivial⟩ rfl rfl ?_
        exact ih x3 x4 x6 (x7 + 1) M15 H16 f20 (by omega) (by omega) (by omega) (by omega) (by omega) (by omega) (by omega)
set_option maxRecDepth 4000 in
theorem k196x {base : Nat} {X : Nat → Option mC} {G : Nat → Value} (E : EnvOK base X G) {d : Nat} (hd : 4 ≤ d) {M : mH} (H : HI base M) (s : Int) (said : Int) (h0 : TB M) (h1 : 0 ≤ s ∧ s ≤ 15) (h2 : 0 ≤ said ∧ said ≤ 1110) : sOk base X G d T196 [vR 77, vI s, vI said] M (pV (fun M' => HI base M' ∧ Fr [(77, 14), (77, 15), (77, 16), (86, 0), (87, 0)] M M')) := by
  have f0 : Fr [(77, 14), (77, 15), (77, 16), (86, 0), (87, 0)] M M := Fr.rf
  refine sOk.of (show sRn base X G d T196 0 [(0, vR 77), (1, vI s), (2, vI said)] [] M _ from ?_)
  refine s_blx (lv' := [(7, vI 0), (6, vI (-1)), (4, vL 0), (3, vI (9 * s)), (0, vR 77), (1, vI s), (2, vI said)]) (st' := []) B196_0_14 rfl ?_
  refine r_loc (lv' := [(0, vR 77), (1, vI s), (2, vI said), (3, vI (9 * s)), (4, vL 0), (6, vI (-1)), (7, vI 0)]) ⟨rfl, rfl, rfl, rfl, rfl, rfl, rfl, trivial⟩ rfl rfl ?_
  exact (L_k196x E hd H s said h0 h1 h2 (((16 - 0) * 1 + 0 : Int) + 1).toNat) (9 * s) 0 (-1) 0 M H f0 (by omega) (by omega) (by omega) (by omega) (by omega) (by omega) (by omega)
set_option maxRecDepth 4000 in
theorem L_k171x {base : Nat} {X : Nat → Option mC} {G : Nat → Value} (E : EnvOK base X G) {d : Nat} (hd : 2 ≤ d) {M : mH} (H : HI base M) (like : Int) (n : Int) (over : Int) (h0 : (over = 0 ∨ over = 1)) (h1 : 0 ≤ like ∧ like ≤ 15) (h2 : 0 ≤ n ∧ n ≤ 8) : ∀ mz : Nat, (∀ (x4 x5 : Int), (RS n x4 M) → (-2147483648 ≤ x4 ∧ x4 ≤ 2147483647) → ((-2147483648) ≤ x4) → (x4 ≤ 2147483647) → (0 ≤ x5) → (x5 ≤ 16) → (16 - x5) * 1 + 0 < (mz : Int) → sRn base X G d T171 6 [(0, vR 77), (1, vI like), (2, vI n), (3, vI over), (4, vI x4), (5, vI x5)] [] M (s_Q base (pI (fun v M' => M' = M ∧ (-2147483648 ≤ v ∧ v ≤ 2147483647) ∧ RS n v M)))) := by
  intro mz
  induction mz with
  | zero => exact fun x4 x5 z0 z1 z2 z3 z4 z5 z6 => by omega
  | succ mz ih =>
    intro x4 x5 i0 i1 i2 i3 i4 i5 hmu
    refine s_blx (lv' := [(0, vR 77), (1, vI like), (2, vI n), (3, vI over), (4, vI x4), (5, vI x5)]) (st' := [vR 77, vI x5]) B171_6_9 rfl ?_
    refine r_gfix (r := 78) (pc' := 12) D171_9 rfl gf_11_13_77 H.1 ?_
    refine s_blx (lv' := [(0, vR 77), (1, vI like), (2, vI n), (3, vI over), (4, vI x4), (5, vI x5)]) (st' := [vI 469, vR 78, vI x5]) B171_12_15 rfl ?_
    refine r_iald (pc' := 16) D171_15 rfl sc_78 H.1 (by omega) ?_
    intro w1 e2 r3
    have b_w1 := H.2 78 (469) 0 16 (rk_many (by omega))
    rw [← e2] at b_w1; clear r3
    refine r_icmp (tgt := 68) (pc' := 19) D171_16 rfl rfl (by unfold inR; omega) (fun (c4 : w1 ≤ x5) => ?_) (fun (c4 : ¬ (w1 ≤ x5)) => ?_)
    · refine s_blx (lv' := [(0, vR 77), (1, vI like), (2, vI n), (3, vI over), (4, vI x4), (5, vI x5)]) (st' := [vI x4]) B171_68_70 rfl ?_
      exact r_iretI D171_70 rfl (⟨rfl, by omega, i0⟩)
    · refine s_blx (lv' := [(0, vR 77), (1, vI like), (2, vI n), (3, vI over), (4, vI x4), (5, vI x5)]) (st' := [vI x5, vR 77]) B171_19_22 rfl ?_
      refine r_vIp (c := 77) (args := [vI x5]) (rest := []) (pc' := 25) D171_22 rfl ck_11_virtual_138 TE159 rfl (Nat.le_of_ble_eq_true rfl) ⟨Nat.le_of_ble_eq_true rfl, Nat.le_of_ble_eq_true rfl⟩ sc_77 ⟨rfl, by decide⟩ H.1 (dp_0 hd rfl) (k159x E (dp_n hd rfl) H x5 (by omega)) ?_
      intro v5 q9
      obtain ⟨q7, q8⟩ := q9
      refine r_ifc (tgt := 62) (pc' := 28) D171_25 rfl rfl (by unfold inR; omega) (fun (c10 : v5 ≤ 0) => ?_) (fun (c10 : ¬ (v5 ≤ 0)) => ?_)
      · refine s_blx (lv' := [(5, vI (x5 + 1)), (0, vR 77), (1, vI like), (2, vI n), (3, vI over), (4, vI x4)]) (st' := []) B171_62_65 rfl ?_
        refine r_goto (tgt := 6) D171_65 rfl ?_
        refine r_loc (lv' := [(0, vR 77), (1, vI like), (2, vI n), (3, vI over), (4, vI x4), (5, vI (x5 + 1))]) ⟨rfl, rfl, rfl, rfl, rfl, rfl, trivial⟩ rfl rfl ?_
        exact ih x4 (x5 + 1) (by first | exact i0 | exact fun k h1 h2 h3 => ((bt_or kq2).mp h3).elim (i0 k h1 h2) (fun h => by rw [(bt_shl kq1 (by omega) (by omega)).mp h]; exact ⟨by omega, by omega, by omega⟩)) (by omega) (by omega) (by omega) (by omega) (by omega) (by omega)
      · refine s_blx (lv' := [(0, vR 77), (1, vI like), (2, vI n), (3, vI over), (4, vI x4), (5, vI x5)]) (st' := [vI n, vI like, vI x5, vR 77]) B171_28_33 rfl ?_
        refine r_vIp (c := 77) (args := [vI x5, vI like, vI n]) (rest := []) (pc' := 36) D171_33 rfl ck_11_virtual_158 TE170 rfl (Nat.le_of_ble_eq_true rfl) ⟨Nat.le_of_ble_eq_true rfl, Nat.le_of_ble_eq_true rfl⟩ sc_77 ⟨rfl, by decide⟩ H.1 (dp_0 hd rfl) (k170x E (dp_n hd rfl) H x5 like n (by omega) (by omega) (by omega)) ?_
        intro v11 q16
        obtain ⟨q13, q14, q15⟩ := q16
        refine r_ifc (tgt := 62) (pc' := 39) D171_36 rfl rfl (by unfold inR; omega) (fun (c17 : v11 = 0) => ?_) (fun (c17 : ¬ (v11 = 0)) => ?_)
        · refine s_blx (lv' := [(5, vI (x5 + 1)), (0, vR 77), (1, vI like), (2, vI n), (3, vI over), (4, vI x4)]) (st' := []) B171_62_65 rfl ?_
          refine r_goto (tgt := 6) D171_65 rfl ?_
          refine r_loc (lv' := [(0, vR 77), (1, vI like), (2, vI n), (3, vI over), (4, vI x4), (5, vI (x5 + 1))]) ⟨rfl, rfl, rfl, rfl, rfl, rfl, trivial⟩ rfl rfl ?_
          exact ih x4 (x5 + 1) (by first | exact i0 | exact fun k h1 h2 h3 => ((bt_or kq2).mp h3).elim (i0 k h1 h2) (fun h => by rw [(bt_shl kq1 (by omega) (by omega)).mp h]; exact ⟨by omega, by omega, by omega⟩)) (by omega) (by omega) (by omega) (by omega) (by omega) (by omega)
        · refine s_blx (lv' := [(0, vR 77), (1, vI like), (2, vI n), (3, vI over), (4, vI x4), (5, vI x5)]) (st' := [vI over]) B171_39_40 rfl ?_
          refine r_ifc (tgt := 53) (pc' := 43) D171_40 rfl rfl (by unfold inR; omega) (fun (c18 : over = 0) => ?_) (fun (c18 : ¬ (over = 0)) => ?_)
          · refine s_blx (lv' := [(0, vR 77), (1, vI like), (2, vI n), (3, vI over), (4, vI x4), (5, vI x5)]) (st' := [vI x5, vI 1, vI x4]) B171_53_58 rfl ?_
            refine r_bin (pc' := 59) D171_58 rfl rfl ?_
            intro z19 r20 kq1; unfold inR at r20
            refine r_bin (pc' := 60) D171_59 rfl rfl ?_
            intro z21 r22 kq2; unfold inR at r22
            refine s_blx (lv' := [(5, vI (x5 + 1)), (4, vI z21), (0, vR 77), (1, vI like), (2, vI n), (3, vI over)]) (st' := []) B171_60_65 rfl ?_
            refine r_goto (tgt := 6) D171_65 rfl ?_
            refine r_loc (lv' := [(0, vR 77), (1, vI like), (2, vI n), (3, vI over), (4, vI z21), (5, vI (x5 + 1))]) ⟨rfl, rfl, rfl, rfl, rfl, rfl, trivial⟩ rfl rfl ?_
            exact ih z21 (x5 + 1) (by first | exact i0 | exact fun k h1 h2 h3 => ((bt_or kq2).mp h3).elim (i0 k h1 h2) (fun h => by rw [(bt_shl kq1 (by omega) (by omega)).mp h]; exact ⟨by omega, by omega, by omega⟩)) (by omega) (by omega) (by omega) (by omega) (by omega) (by omega)
          · refine s_blx (lv' := [(0, vR 77), (1, vI like), (2, vI n), (3, vI over), (4, vI x4), (5, vI x5)]) (st' := [vI x5, vR 77]) B171_43_46 rfl ?_
            refine r_vIp (c := 77) (args := [vI x5]) (rest := []) (pc' := 49) D171_46 rfl ck_11_virtual_144 TE156 rfl (Nat.le_of_ble_eq_true rfl) ⟨Nat.le_of_ble_eq_true rfl, Nat.le_of_ble_eq_true rfl⟩ sc_77 ⟨rfl, by decide⟩ H.1 (dp_0 hd rfl) (k156x E (dp_n hd rfl) H x5 (by omega)) ?_
            intro v23 q27
            obtain ⟨q25, q26⟩ := q27
            refine s_blx (lv' := [(0, vR 77), (1, vI like), (2, vI n), (3, vI over), (4, vI x4), (5, vI x5)]) (st' := [vI n, vI v23]) B171_49_50 rfl ?_
            refine r_icmp (tgt := 62) (pc' := 53) D171_50 rfl rfl (by unfold inR; omega) (fun (c28 : n < v23) => ?_) (fun (c28 : ¬ (n < v23)) => ?_)
            · refine s_blx (lv' := [(5, vI (x5 + 1)), (0, vR 77), (1, vI like), (2, vI n), (3, vI over), (4, vI x4)]) (st' := []) B171_62_65 rfl ?_
              refine r_goto (tgt := 6) D171_65 rfl ?_
              refine r_loc (lv' := [(0, vR 77), (1, vI like), (2, vI n), (3, vI over), (4, vI x4), (5, vI (x5 + 1))]) ⟨rfl, rfl, rfl, rfl, rfl, rfl, trivial⟩ rfl rfl ?_
              exact ih x4 (x5 + 1) (by first | exact i0 | exact fun k h1 h2 h3 => ((bt_or kq2).mp h3).elim (i0 k h1 h2) (fun h => by rw [(bt_shl kq1 (by omega) (by omega)).mp h]; exact ⟨by omega, by omega, by omega⟩)) (by omega) (by omega) (by omega) (by omega) (by omega) (by omega)
            · refine s_blx (lv' := [(0, vR 77), (1, vI like), (2, vI n), (3, vI over), (4, vI x4), (5, vI x5)]) (st' := [vI x5, vI 1, vI x4]) B171_53_58 rfl ?_
              refine r_bin (pc' := 59) D171_58 rfl rfl ?_
              intro z29 r30 kq1; unfold inR at r30
              refine r_bin (pc' := 60) D171_59 rfl rfl ?_
              intro z31 r32 kq2; unfold inR at r32
              refine s_blx (lv' := [(5, vI (x5 + 1)), (4, vI z31), (0, vR 77), (1, vI like), (2, vI n), (3, vI over)]) (st' := []) B171_60_65 rfl ?_
              refine r_goto (tgt := 6) D171_65 rfl ?_
              refine r_loc (lv' := [(0, vR 77), (1, vI like), (2, vI n), (3, vI over), (4, vI z31), (5, vI (x5 + 1))]) ⟨rfl, rfl, rfl, rfl, rfl, rfl, trivial⟩ rfl rfl ?_
              exact ih z31 (x5 + 1) (by first | exact i0 | exact fun k h1 h2 h3 => ((bt_or kq2).mp h3).elim (i0 k h1 h2) (fun h => by rw [(bt_shl kq1 (by omega) (by omega)).mp h]; exact ⟨by omega, by omega, by omega⟩)) (by omega) (by omega) (by omega) (by omega) (by omega) (by omega)
set_option maxRecDepth 4000 in
theorem k171x {base : Nat} {X : Nat → Option mC} {G : Nat → Value} (E : EnvOK base X G) {d : Nat} (hd : 2 ≤ d) {M : mH} (H : HI base M) (like : Int) (n : Int) (over : Int) (h0 : (over = 0 ∨ over = 1)) (h1 : 0 ≤ like ∧ like ≤ 15) (h2 : 0 ≤ n ∧ n ≤ 8) : sOk base X G d T171 [vR 77, vI like, vI n, vI over] M (pI (fun v M' => M' = M ∧ (-2147483648 ≤ v ∧ v ≤ 2147483647) ∧ RS n v M)) := by
  refine sOk.of (show sRn base X G d T171 0 [(0, vR 77), (1, vI like), (2, vI n), (3, vI over)] [] M _ from ?_)
  refine s_blx (lv' := [(5, vI 0), (4, vI 0), (0, vR 77), (1, vI like), (2, vI n), (3, vI over)]) (st' := []) B171_0_6 rfl ?_
  refine r_loc (lv' := [(0, vR 77), (1, vI like), (2, vI n), (3, vI over), (4, vI 0), (5, vI 0)]) ⟨rfl, rfl, rfl, rfl, rfl, rfl, trivial⟩ rfl rfl ?_
  exact (L_k171x E hd H like n over h0 h1 h2 (((16 - 0) * 1 + 0 : Int) + 1).toNat) 0 0 (fun k _ _ h => absurd h (bt_0 k)) (by omega) (by omega) (by omega) (by omega) (by omega) (by omega)
set_option maxRecDepth 4000 in
theorem L_k183x {base : Nat} {X : Nat → Option mC} {G : Nat → Value} (E : EnvOK base X G) {d : Nat} (hd : 3 ≤ d) {M : mH} (H : HI base M) (s : Int) (n : Int) (isOver : Int) (h0 : (isOver = 0 ∨ isOver = 1)) (h1 : 0 ≤ s ∧ s ≤ 15) (h2 : 0 ≤ n ∧ n ≤ 8) : ∀ mz : Nat, (∀ (x4 zz : Int) (N : mH), HI base N → Fr [(77, 7), (77, 8), (77, 9), (77, 10), (83, 0), (84, 0), (85, 0)] M N → (RS n zz N) → (gi N 77 6 = zz) → (0 ≤ x4) → (x4 ≤ 8) → (8 - x4) * 1 + 4 < (mz : Int) → sRn base X G d T183 36 [(0, vR 77), (1, vI s), (2, vI n), (4, vI x4)] [] N (s_Q base (pV (fun M' => HI base M' ∧ Fr [(77, 7), (77, 8), (77, 9), (77, 10), (83, 0), (84, 0), (85, 0)] M M' ∧ (RS n (gi M' 77 6) M'))))) ∧ (∀ (x4 zz : Int) (N : mH), HI base N → Fr [(77, 7), (77, 8), (77, 9), (77, 10), (83, 0), (84, 0), (85, 0)] M N → (RS n zz N) → (gi N 77 6 = zz) → (0 ≤ x4) → (x4 ≤ 3) → (3 - x4) * 1 + 0 < (mz : Int) → sRn base X G d T183 74 [(0, vR 77), (4, vI x4)] [] N (s_Q base (pV (fun M' => HI base M' ∧ Fr [(77, 7), (77, 8), (77, 9), (77, 10), (83, 0), (84, 0), (85, 0)] M M' ∧ (RS n (gi M' 77 6) M'))))) := by
  have f0 : Fr [(77, 7), (77, 8), (77, 9), (77, 10), (83, 0), (84, 0), (85, 0)] M M := Fr.rf
  intro mz
  induction mz with
  | zero => exact ⟨fun x4 zz N _ _ z0 z1 z2 z3 z4 => by omega, fun x4 zz N _ _ z0 z1 z2 z3 z4 => by omega⟩
  | succ mz ih =>
    refine ⟨?_, ?_⟩
    · intro x4 zz N HN fN i0 i1 i2 i3 hmu
      refine s_blx (lv' := [(0, vR 77), (1, vI s), (2, vI n), (4, vI x4)]) (st' := [vI n, vI x4]) B183_36_39 rfl ?_
      refine r_icmp (tgt := 71) (pc' := 42) D183_39 rfl rfl (by unfold inR; omega) (fun (c38 : n ≤ x4) => ?_) (fun (c38 : ¬ (n ≤ x4)) => ?_)
      · refine s_blx (lv' := [(4, vI 0), (0, vR 77), (1, vI s), (2, vI n)]) (st' := []) B183_71_74 rfl ?_
        refine r_loc (lv' := [(0, vR 77), (4, vI 0)]) ⟨rfl, rfl, trivial⟩ rfl rfl ?_
        exact ih.2 0 zz N HN fN (i0) (by omega) (by omega) (by omega) (by omega)
      · refine s_blx (lv' := [(0, vR 77), (1, vI s), (2, vI n), (4, vI x4)]) (st' := [vR 77, vR 77]) B183_42_44 rfl ?_
        refine r_gint (ki := 7) (pc' := 47) D183_44 rfl gf_11_200_77 rfl HN.1 ?_
        intro w39 e40 r41
        unfold inR at r41
        refine s_blx (lv' := [(0, vR 77), (1, vI s), (2, vI n), (4, vI x4)]) (st' := [vR 77, vI w39, vR 77]) B183_47_48 rfl ?_
        refine r_gfix (r := 78) (pc' := 51) D183_48 rfl gf_11_13_77 HN.1 ?_
        refine s_blx (lv' := [(0, vR 77), (1, vI s), (2, vI n), (4, vI x4)]) (st' := [vI x4, vI s, vR 77, vI 0, vR 78, vI w39, vR 77]) B183_51_56 rfl ?_
        refine r_vIp (c := 77) (args := [vI s, vI x4]) (rest := [vI 0, vR 78, vI w39, vR 77]) (pc' := 59) D183_56 rfl ck_11_virtual_147 TE157 rfl (Nat.le_of_ble_eq_true rfl) ⟨Nat.le_of_ble_eq_true rfl, Nat.le_of_ble_eq_true rfl⟩ sc_77 ⟨rfl, by decide⟩ HN.1 (dp_0 hd rfl) (k157x E (dp_n hd rfl) HN s x4 (by omega) (by omega)) ?_
        intro v42 q46
        obtain ⟨q44, q45⟩ := q46
        refine s_blx (lv' := [(0, vR 77), (1, vI s), (2, vI n), (4, vI x4)]) (st' := [vI (0 + v42), vR 78, vI w39, vR 77]) B183_59_60 rfl ?_
        refine r_iald (pc' := 61) D183_60 rfl sc_78 HN.1 (by omega) ?_
        intro w47 e48 r49
        have b_w47 := HN.2 78 (0 + v42) 0 9 (rk_load (by omega))
        rw [← e48] at b_w47; clear r49
        refine s_blx (lv' := [(0, vR 77), (1, vI s), (2, vI n), (4, vI x4)]) (st' := [vI (w39 + w47), vR 77]) B183_61_62 rfl ?_
        refine r_norm ?_
        intro z50 r51 _; unfold inR at r51
        refine r_pint (ki := 7) (pc' := 65) D183_62 rfl pf_11_200_77 rfl HN (by unfold inR; omega) trivial ?_
        intro M52 u53 H54 p55
        have f56 := fN.wr u53 rfl
        have hp57 := i0.wr u53 (by decide)
        refine s_blx (lv' := [(4, vI (x4 + 1)), (0, vR 77), (1, vI s), (2, vI n)]) (st' := []) B183_65_68 rfl ?_
        refine r_goto (tgt := 36) D183_68 rfl ?_
        refine r_loc (lv' := [(0, vR 77), (1, vI s), (2, vI n), (4, vI (x4 + 1))]) ⟨rfl, rfl, rfl, rfl, trivial⟩ rfl rfl ?_
        have g58 : gi M52 77 6 = gi N 77 6 := (u53.gi_ne (by decide) (Or.inr (by decide))).trans (rfl)
        exact ih.1 (x4 + 1) zz M52 H54 f56 (hp57) (by omega) (by omega) (by omega) (by omega)
    · intro x4 zz N HN fN i0 i1 i2 i3 hmu
      refine s_blx (lv' := [(0, vR 77), (4, vI x4)]) (st' := [vI 3, vI x4]) B183_74_77 rfl ?_
      refine r_icmp (tgt := 140) (pc' := 80) D183_77 rfl rfl (by unfold inR; omega) (fun (c59 : 3 ≤ x4) => ?_) (fun (c59 : ¬ (3 ≤ x4)) => ?_)
      · exact r_retV D183_140 rfl (⟨HN, fN, by rw [i1]; exact i0⟩)
      · refine s_blx (lv' := [(0, vR 77), (4, vI x4)]) (st' := [vR 77]) B183_80_81 rfl ?_
        refine r_gfix (r := 83) (pc' := 84) D183_81 rfl gf_11_30_77 HN.1 ?_
        refine s_blx (lv' := [(0, vR 77), (4, vI x4)]) (st' := [vR 77, vR 77, vI x4, vR 83]) B183_84_88 rfl ?_
        refine r_gint (ki := 6) (pc' := 91) D183_88 rfl gf_11_194_77 rfl HN.1 ?_
        intro w60 e61 r62
        unfold inR at r62
        refine s_blx (lv' := [(0, vR 77), (4, vI x4)]) (st' := [vI x4, vI w60, vR 77, vI x4, vR 83]) B183_91_93 rfl ?_
        refine r_vIp (c := 77) (args := [vI w60, vI x4]) (rest := [vI x4, vR 83]) (pc' := 96) D183_93 rfl ck_11_virtual_171 TE172 rfl (Nat.le_of_ble_eq_true rfl) ⟨Nat.le_of_ble_eq_true rfl, Nat.le_of_ble_eq_true rfl⟩ sc_77 ⟨rfl, by decide⟩ HN.1 (dp_0 hd rfl) (k172 E (dp_n hd rfl) HN w60 x4 (by omega) (by omega)) ?_
        intro v63 q66
        have q65 := q66; clear q66
        refine r_iast (pc' := 97) D183_96 rfl sc_83 HN (by omega) (by unfold inR; omega) trivial ?_
        intro M67 u68 H69 p70
        have f71 := fN.wr u68 rfl
        have hp72 := i0.wr u68 (by decide)
        refine s_blx (lv' := [(0, vR 77), (4, vI x4)]) (st' := [vR 77]) B183_97_98 rfl ?_
        refine r_gfix (r := 84) (pc' := 101) D183_98 rfl gf_11_33_77 H69.1 ?_
        refine s_blx (lv' := [(0, vR 77), (4, vI x4)]) (st' := [vR 77, vI x4, vR 84]) B183_101_104 rfl ?_
        refine r_gfix (r := 83) (pc' := 107) D183_104 rfl gf_11_30_77 H69.1 ?_
        refine s_blx (lv' := [(0, vR 77), (4, vI x4)]) (st' := [vI x4, vR 83, vI x4, vR 84]) B183_107_109 rfl ?_
        refine r_iald (pc' := 110) D183_109 rfl sc_83 H69.1 (by omega) ?_
        intro w73 e74 r75
        have e76 : v63 = w73 := (e74.trans (p70)).symm
        subst e76
        refine r_sIp (args := [vI v63]) (rest := [vI x4, vR 84]) (pc' := 113) D183_110 rfl ck_11_static_203 TE176 rfl (Nat.le_of_ble_eq_true rfl) ⟨Nat.le_of_ble_eq_true rfl, Nat.le_of_ble_eq_true rfl⟩ (by decide) (dp_0 hd rfl) (k176 E (dp_n hd rfl) H69 v63 (by omega)) ?_
        intro v77 q80
        have q79 := q80; clear q80
        refine r_iast (pc' := 114) D183_113 rfl sc_84 H69 (by omega) (by unfold inR; omega) (show (-1) ≤ v77 ∧ v77 ≤ 7 by omega) ?_
        intro M81 u82 H83 p84
        have f85 := f71.wr u82 rfl
        have hp86 := hp72.wr u82 (by decide)
        refine s_blx (lv' := [(0, vR 77), (4, vI x4)]) (st' := [vR 77]) B183_114_115 rfl ?_
        refine r_gfix (r := 85) (pc' := 118) D183_115 rfl gf_11_36_77 H83.1 ?_
        refine s_blx (lv' := [(0, vR 77), (4, vI x4)]) (st' := [vR 77, vI x4, vR 77, vI x4, vR 85]) B183_118_124 rfl ?_
        refine r_gfix (r := 83) (pc' := 127) D183_124 rfl gf_11_30_77 H83.1 ?_
        refine s_blx (lv' := [(0, vR 77), (4, vI x4)]) (st' := [vI x4, vR 83, vI x4, vR 77, vI x4, vR 85]) B183_127_129 rfl ?_
        refine r_iald (pc' := 130) D183_129 rfl sc_83 H83.1 (by omega) ?_
        intro w87 e88 r89
        have e90 : v63 = w87 := (e88.trans ((u82.gi_ne (by omega) (Or.inl (by decide))).trans (p70))).symm
        subst e90
        refine r_vIp (c := 77) (args := [vI x4, vI v63]) (rest := [vI x4, vR 85]) (pc' := 133) D183_130 rfl ck_11_virtual_187 TE180 rfl (Nat.le_of_ble_eq_true rfl) ⟨Nat.le_of_ble_eq_true rfl, Nat.le_of_ble_eq_true rfl⟩ sc_77 ⟨rfl, by decide⟩ H83.1 (dp_0 hd rfl) (k180 E (dp_n hd rfl) H83 x4 v63 (by omega) (by omega)) ?_
        intro v91 q94
        have q93 := q94; clear q94
        refine r_iast (pc' := 134) D183_133 rfl sc_85 H83 (by omega) (by unfold inR; omega) (show (-1) ≤ v91 ∧ v91 ≤ 11 by omega) ?_
        intro M95 u96 H97 p98
        have f99 := f85.wr u96 rfl
        have hp100 := hp86.wr u96 (by decide)
        refine s_blx (lv' := [(4, vI (x4 + 1)), (0, vR 77)]) (st' := []) B183_134_137 rfl ?_
        refine r_goto (tgt := 74) D183_137 rfl ?_
        refine r_loc (lv' := [(0, vR 77), (4, vI (x4 + 1))]) ⟨rfl, rfl, trivial⟩ rfl rfl ?_
        have g101 : gi M95 77 6 = w60 := (u96.gi_ne (by omega) (Or.inl (by decide))).trans ((u82.gi_ne (by omega) (Or.inl (by decide))).trans ((u68.gi_ne (by omega) (Or.inl (by decide))).trans (e61.symm)))
        exact ih.2 (x4 + 1) zz M95 H97 f99 (hp100) (by omega) (by omega) (by omega) (by omega)
set_option maxRecDepth 4000 in
theorem k183x {base : Nat} {X : Nat → Option mC} {G : Nat → Value} (E : EnvOK base X G) {d : Nat} (hd : 3 ≤ d) {M : mH} (H : HI base M) (s : Int) (n : Int) (isOver : Int) (h0 : (isOver = 0 ∨ isOver = 1)) (h1 : 0 ≤ s ∧ s ≤ 15) (h2 : 0 ≤ n ∧ n ≤ 8) : sOk base X G d T183 [vR 77, vI s, vI n, vI isOver] M (pV (fun M' => HI base M' ∧ Fr [(77, 7), (77, 8), (77, 9), (77, 10), (83, 0), (84, 0), (85, 0)] M M' ∧ (RS n (gi M' 77 6) M'))) := by
  have f0 : Fr [(77, 7), (77, 8), (77, 9), (77, 10), (83, 0), (84, 0), (85, 0)] M M := Fr.rf
  refine sOk.of (show sRn base X G d T183 0 [(0, vR 77), (1, vI s), (2, vI n), (3, vI isOver)] [] M _ from ?_)
  refine s_blx (lv' := [(0, vR 77), (1, vI s), (2, vI n), (3, vI isOver)]) (st' := [vI isOver, vR 77]) B183_0_2 rfl ?_
  refine r_pbool (ki := 9) (pc' := 5) D183_2 rfl pf_11_190_77 rfl H (by omega) (show 0 ≤ isOver ∧ isOver ≤ 1 by omega) ?_
  intro M1 u2 H3 p4
  have f5 := f0.wr u2 rfl
  refine s_blx (lv' := [(0, vR 77), (1, vI s), (2, vI n), (3, vI isOver)]) (st' := [vI isOver, vI n, vI s, vR 77, vR 77]) B183_5_10 rfl ?_
  refine r_vIp (c := 77) (args := [vI s, vI n, vI isOver]) (rest := [vR 77]) (pc' := 13) D183_10 rfl ck_11_virtual_167 TE171 rfl (Nat.le_of_ble_eq_true rfl) ⟨Nat.le_of_ble_eq_true rfl, Nat.le_of_ble_eq_true rfl⟩ sc_77 ⟨rfl, by decide⟩ H3.1 (dp_0 hd rfl) (k171x E (dp_n hd rfl) H3 s n isOver (by omega) (by omega) (by omega)) ?_
  intro v6 q10
  obtain ⟨q8, q9⟩ := q10
  have krs := q9; clear q9
  refine r_pint (ki := 6) (pc' := 16) D183_13 rfl pf_11_194_77 rfl H3 (by unfold inR; omega) trivial ?_
  intro M11 u12 H13 p14
  have f15 := f5.wr u12 rfl
  have hp16 := krs.wr u12 (by decide)
  refine s_blx (lv' := [(0, vR 77), (1, vI s), (2, vI n), (3, vI isOver)]) (st' := [vR 77, vR 77, vR 77]) B183_16_19 rfl ?_
  refine r_gint (ki := 6) (pc' := 22) D183_19 rfl gf_11_194_77 rfl H13.1 ?_
  intro w17 e18 r19
  have e20 : v6 = w17 := (e18.trans (p14)).symm
  subst e20
  refine r_vIp (c := 77) (args := [vI v6]) (rest := [vR 77]) (pc' := 25) D183_22 rfl ck_11_virtual_181 TE173 rfl (Nat.le_of_ble_eq_true rfl) ⟨Nat.le_of_ble_eq_true rfl, Nat.le_of_ble_eq_true rfl⟩ sc_77 ⟨rfl, by decide⟩ H13.1 (dp_0 hd rfl) (k173 E (dp_n hd rfl) H13 v6 (by omega)) ?_
  intro v21 q24
  have q23 := q24; clear q24
  refine r_pint (ki := 8) (pc' := 28) D183_25 rfl pf_11_197_77 rfl H13 (by unfold inR; omega) trivial ?_
  intro M25 u26 H27 p28
  have f29 := f15.wr u26 rfl
  have hp30 := hp16.wr u26 (by decide)
  refine s_blx (lv' := [(0, vR 77), (1, vI s), (2, vI n), (3, vI isOver)]) (st' := [vI 0, vR 77]) B183_28_30 rfl ?_
  refine r_pint (ki := 7) (pc' := 33) D183_30 rfl pf_11_200_77 rfl H27 (by unfold inR; omega) trivial ?_
  intro M31 u32 H33 p34
  have f35 := f29.wr u32 rfl
  have hp36 := hp30.wr u32 (by decide)
  refine s_blx (lv' := [(4, vI 0), (0, vR 77), (1, vI s), (2, vI n), (3, vI isOver)]) (st' := []) B183_33_36 rfl ?_
  refine r_loc (lv' := [(0, vR 77), (1, vI s), (2, vI n), (4, vI 0)]) ⟨rfl, rfl, rfl, rfl, trivial⟩ rfl rfl ?_
  have g37 : gi M31 77 6 = v6 := (u32.gi_ne (by decide) (Or.inr (by decide))).trans ((u26.gi_ne (by decide) (Or.inr (by decide))).trans (p14))
  exact (L_k183x E hd H s n isOver h0 h1 h2 (((8 - 0) * 1 + 4 : Int) + 1).toNat).1 0 v6 M31 H33 f35 (hp36) (by omega) (by omega) (by omega) (by omega)
set_option maxRecDepth 4000 in
theorem L_k197x {base : Nat} {X : Nat → Option mC} {G : Nat → Value} (E : EnvOK base X G) {d : Nat} (hd : 5 ≤ d) {M : mH} (H : HI base M) (s : Int) (h0 : TB M) (h1 : 0 ≤ s ∧ s ≤ 15) : ∀ mz : Nat, (∀ (x2 : Int) (N : mH), HI base N → Fr [(77, 7), (77, 8), (77, 9), (77, 10), (77, 14), (77, 15), (77, 16), (83, 0), (84, 0), (85, 0), (86, 0), (87, 0)] M N → (0 ≤ x2) → (x2 ≤ 4) → (4 - x2) * 1113 + 1112 < (mz : Int) → sRn base X G d T197 13 [(0, vR 77), (1, vI s), (2, vI x2)] [] N (s_Q base (pV (fun M' => HI base M' ∧ Fr [(77, 7), (77, 8), (77, 9), (77, 10), (77, 14), (77, 15), (77, 16), (83, 0), (84, 0), (85, 0), (86, 0), (87, 0)] M M')))) ∧ (∀ (x2 x3 : Int) (N : mH), HI base N → Fr [(77, 7), (77, 8), (77, 9), (77, 10), (77, 14), (77, 15), (77, 16), (83, 0), (84, 0), (85, 0), (86, 0), (87, 0)] M N → (0 ≤ x2) → (x2 ≤ 3) → ((-1) ≤ x3) → (x3 ≤ 1110) → (4 - x2) * 1113 + 0 + (x3 + 1) * 1 + 0 < (mz : Int) → sRn base X G d T197 22 [(0, vR 77), (1, vI s), (2, vI x2), (3, vI x3)] [] N (s_Q base (pV (fun M' => HI base M' ∧ Fr [(77, 7), (77, 8), (77, 9), (77, 10), (77, 14), (77, 15), (77, 16), (83, 0), (84, 0), (85, 0), (86, 0), (87, 0)] M M')))) := by
  have f0 : Fr [(77, 7), (77, 8), (77, 9), (77, 10), (77, 14), (77, 15), (77, 16), (83, 0), (84, 0), (85, 0), (86, 0), (87, 0)] M M := Fr.rf
  intro mz
  induction mz with
  | zero => exact ⟨fun x2 N _ _ z0 z1 z2 => by omega, fun x2 x3 N _ _ z0 z1 z2 z3 z4 => by omega⟩
  | succ mz ih =>
    refine ⟨?_, ?_⟩
    · intro x2 N HN fN i0 i1 hmu
      refine s_blx (lv' := [(0, vR 77), (1, vI s), (2, vI x2)]) (st' := [vI 3, vI x2]) B197_13_15 rfl ?_
      refine r_icmp (tgt := 54) (pc' := 18) D197_15 rfl rfl (by unfold inR; omega) (fun (c13 : 3 < x2) => ?_) (fun (c13 : ¬ (3 < x2)) => ?_)
      · exact r_retV D197_54 rfl (⟨HN, fN⟩)
      · refine s_blx (lv' := [(3, vI 1110), (0, vR 77), (1, vI s), (2, vI x2)]) (st' := []) B197_18_22 rfl ?_
        refine r_loc (lv' := [(0, vR 77), (1, vI s), (2, vI x2), (3, vI 1110)]) ⟨rfl, rfl, rfl, rfl, trivial⟩ rfl rfl ?_
        exact ih.2 x2 1110 N HN fN (by omega) (by omega) (by omega) (by omega) (by omega)
    · intro x2 x3 N HN fN i0 i1 i2 i3 hmu
      refine s_blx (lv' := [(0, vR 77), (1, vI s), (2, vI x2), (3, vI x3)]) (st' := [vI x3]) B197_22_23 rfl ?_
      refine r_ifc (tgt := 48) (pc' := 26) D197_23 rfl rfl (by unfold inR; omega) (fun (c14 : x3 < 0) => ?_) (fun (c14 : ¬ (x3 < 0)) => ?_)
      · refine s_blx (lv' := [(2, vI (x2 + 1)), (0, vR 77), (1, vI s), (3, vI x3)]) (st' := []) B197_48_51 rfl ?_
        refine r_goto (tgt := 13) D197_51 rfl ?_
        refine r_loc (lv' := [(0, vR 77), (1, vI s), (2, vI (x2 + 1))]) ⟨rfl, rfl, rfl, trivial⟩ rfl rfl ?_
        exact ih.1 (x2 + 1) N HN fN (by omega) (by omega) (by omega)
      · refine s_blx (lv' := [(0, vR 77), (1, vI s), (2, vI x2), (3, vI x3)]) (st' := [vI s, vI x3, vR 77]) B197_26_29 rfl ?_
        refine r_vIp (c := 77) (args := [vI x3, vI s]) (rest := []) (pc' := 32) D197_29 rfl ck_11_virtual_257 TE195 rfl (Nat.le_of_ble_eq_true rfl) ⟨Nat.le_of_ble_eq_true rfl, Nat.le_of_ble_eq_true rfl⟩ sc_77 ⟨rfl, by decide⟩ HN.1 (dp_0 hd rfl) (k195 E (dp_n hd rfl) HN x3 s (by omega) (by omega)) ?_
        intro v15 q18
        have q17 := q18; clear q18
        refine s_blx (lv' := [(0, vR 77), (1, vI s), (2, vI x2), (3, vI x3)]) (st' := [vI x2, vI v15]) B197_32_33 rfl ?_
        refine r_icmp (tgt := 42) (pc' := 36) D197_33 rfl rfl (by unfold inR; omega) (fun (c19 : v15 ≠ x2) => ?_) (fun (c19 : ¬ (v15 ≠ x2)) => ?_)
        · refine s_blx (lv' := [(3, vI (x3 + (-1))), (0, vR 77), (1, vI s), (2, vI x2)]) (st' := []) B197_42_45 rfl ?_
          refine r_goto (tgt := 22) D197_45 rfl ?_
          refine r_loc (lv' := [(0, vR 77), (1, vI s), (2, vI x2), (3, vI (x3 + (-1)))]) ⟨rfl, rfl, rfl, rfl, trivial⟩ rfl rfl ?_
          exact ih.2 x2 (x3 + (-1)) N HN fN (by omega) (by omega) (by omega) (by omega) (by omega)
        · refine s_blx (lv' := [(0, vR 77), (1, vI s), (2, vI x2), (3, vI x3)]) (st' := [vI x3, vI s, vR 77]) B197_36_39 rfl ?_
          refine r_vV (c := 77) (args := [vI s, vI x3]) (rest := []) (pc' := 42) D197_39 rfl ck_11_virtual_260 TE196 rfl (Nat.le_of_ble_eq_true rfl) ⟨Nat.le_of_ble_eq_true rfl, Nat.le_of_ble_eq_true rfl⟩ sc_77 ⟨rfl, by decide⟩ HN.1 (dp_0 hd rfl) (k196x E (dp_n hd rfl) HN s x3 ((h0.fr fN rfl)) (by omega) (by omega)) ?_
          intro M21 q24
          obtain ⟨H22, f23⟩ := q24
          have f25 := fN.tr (f23.up rfl)
          refine s_blx (lv' := [(3, vI (x3 + (-1))), (0, vR 77), (1, vI s), (2, vI x2)]) (st' := []) B197_42_45 rfl ?_
          refine r_goto (tgt := 22) D197_45 rfl ?_
          refine r_loc (lv' := [(0, vR 77), (1, vI s), (2, vI x2), (3, vI (x3 + (-1)))]) ⟨rfl, rfl, rfl, rfl, trivial⟩ rfl rfl ?_
          exact ih.2 x2 (x3 + (-1)) M21 H22 f25 (by omega) (by omega) (by omega) (by omega) (by omega)
set_option maxRecDepth 4000 in
theorem k197x {base : Nat} {X : Nat → Option mC} {G : Nat → Value} (E : EnvOK base X G) {d : Nat} (hd : 5 ≤ d) {M : mH} (H : HI base M) (s : Int) (h0 : TB M) (h1 : 0 ≤ s ∧ s ≤ 15) : sOk base X G d T197 [vR 77, vI s] M (pV (fun M' => HI base M' ∧ Fr [(77, 7), (77, 8), (77, 9), (77, 10), (77, 14), (77, 15), (77, 16), (83, 0), (84, 0), (85, 0), (86, 0), (87, 0)] M M')) := by
  have f0 : Fr [(77, 7), (77, 8), (77, 9), (77, 10), (77, 14), (77, 15), (77, 16), (83, 0), (84, 0), (85, 0), (86, 0), (87, 0)] M M := Fr.rf
  refine sOk.of (show sRn base X G d T197 0 [(0, vR 77), (1, vI s)] [] M _ from ?_)
  refine s_blx (lv' := [(0, vR 77), (1, vI s)]) (st' := [vI s, vR 77, vI s, vR 77]) B197_0_4 rfl ?_
  refine r_vIp (c := 77) (args := [vI s]) (rest := [vI s, vR 77]) (pc' := 7) D197_4 rfl ck_11_virtual_144 TE156 rfl (Nat.le_of_ble_eq_true rfl) ⟨Nat.le_of_ble_eq_true rfl, Nat.le_of_ble_eq_true rfl⟩ sc_77 ⟨rfl, by decide⟩ H.1 (dp_0 hd rfl) (k156x E (dp_n hd rfl) H s (by omega)) ?_
  intro v1 q5
  obtain ⟨q3, q4⟩ := q5
  refine s_blx (lv' := [(0, vR 77), (1, vI s)]) (st' := [vI 1, vI v1, vI s, vR 77]) B197_7_8 rfl ?_
  refine r_vV (c := 77) (args := [vI s, vI v1, vI 1]) (rest := []) (pc' := 11) D197_8 rfl ck_11_virtual_253 TE183 rfl (Nat.le_of_ble_eq_true rfl) ⟨Nat.le_of_ble_eq_true rfl, Nat.le_of_ble_eq_true rfl⟩ sc_77 ⟨rfl, by decide⟩ H.1 (dp_0 hd rfl) (k183x E (dp_n hd rfl) H s v1 1 (by omega) (by omega) (by omega)) ?_
  intro M7 q11
  obtain ⟨H8, f9, q10⟩ := q11
  have f12 := f0.tr (f9.up rfl)
  refine s_blx (lv' := [(2, vI 0), (0, vR 77), (1, vI s)]) (st' := []) B197_11_13 rfl ?_
  refine r_loc (lv' := [(0, vR 77), (1, vI s), (2, vI 0)]) ⟨rfl, rfl, rfl, trivial⟩ rfl rfl ?_
  exact (L_k197x E hd H s h0 h1 (((4 - 0) * 1113 + 1112 : Int) + 1).toNat).1 0 M7 H8 f12 (by omega) (by omega) (by omega)
set_option maxRecDepth 4000 in
theorem L_k198x {base : Nat} {X : Nat → Option mC} {G : Nat → Value} (E : EnvOK base X G) {d : Nat} (hd : 3 ≤ d) {M : mH} (H : HI base M) (s : Int) (n : Int) (h0 : 0 ≤ s ∧ s ≤ 15) (h1 : 0 ≤ n ∧ n ≤ 8) (h2 : RS n (gi M 77 6) M) : ∀ mz : Nat, (∀ (x3 : Int) (N : mH), HI base N → Fr [(77, 28), (93, 0)] M N → (gi N 77 6 = gi M 77 6) → (gi N 77 27 ≤ x3) → (0 ≤ x3) → (x3 ≤ 16) → (16 - x3) * 18 + 17 < (mz : Int) → sRn base X G d T198 7 [(0, vR 77), (2, vI n), (3, vI x3)] [] N (s_Q base (pV (fun M' => HI base M' ∧ Fr [(77, 28), (93, 0)] M M')))) ∧ (∀ (x3 x4 x5 x6 : Int) (N : mH), HI base N → Fr [(77, 28), (93, 0)] M N → (gi N 77 6 = gi M 77 6) → (gi N 77 27 ≤ x3) → (x4 ≤ 143) → (0 ≤ x3) → (x3 ≤ 15) → (0 ≤ x4) → (x4 ≤ 144) → (0 ≤ x5) → (x5 ≤ 1) → (0 ≤ x6) → (x6 ≤ 16) → (16 - x3) * 18 + 0 + (16 - x6) * 1 + 0 < (mz : Int) → sRn base X G d T198 72 [(0, vR 77), (2, vI n), (3, vI x3), (4, vI x4), (5, vI x5), (6, vI x6)] [] N (s_Q base (pV (fun M' => HI base M' ∧ Fr [(77, 28), (93, 0)] M M')))) := by
  have f0 : Fr [(77, 28), (93, 0)] M M := Fr.rf
  intro mz
  induction mz with
  | zero => exact ⟨fun x3 N _ _ z0 z1 z2 z3 z4 => by omega, fun x3 x4 x5 x6 N _ _ z0 z1 z2 z3 z4 z5 z6 z7 z8 z9 z10 z11 => by omega⟩
  | succ mz ih =>
    refine ⟨?_, ?_⟩
    · intro x3 N HN fN i0 i1 i2 i3 hmu
      refine s_blx (lv' := [(0, vR 77), (2, vI n), (3, vI x3)]) (st' := [vR 77, vI x3]) B198_7_9 rfl ?_
      refine r_gfix (r := 78) (pc' := 12) D198_9 rfl gf_11_13_77 HN.1 ?_
      refine s_blx (lv' := [(0, vR 77), (2, vI n), (3, vI x3)]) (st' := [vI 469, vR 78, vI x3]) B198_12_15 rfl ?_
      refine r_iald (pc' := 16) D198_15 rfl sc_78 HN.1 (by omega) ?_
      intro w8 e9 r10
      have b_w8 := HN.2 78 (469) 0 16 (rk_many (by omega))
      rw [← e9] at b_w8; clear r10
      refine r_icmp (tgt := 146) (pc' := 19) D198_16 rfl rfl (by unfold inR; omega) (fun (c11 : w8 ≤ x3) => ?_) (fun (c11 : ¬ (w8 ≤ x3)) => ?_)
      · exact r_retV D198_146 rfl (⟨HN, fN⟩)
      · refine s_blx (lv' := [(0, vR 77), (2, vI n), (3, vI x3)]) (st' := [vR 77]) B198_19_20 rfl ?_
        refine r_gint (ki := 6) (pc' := 23) D198_20 rfl gf_11_194_77 rfl HN.1 ?_
        intro w12 e13 r14
        unfold inR at r14
        have ke := e13
        refine s_blx (lv' := [(0, vR 77), (2, vI n), (3, vI x3)]) (st' := [vI x3, vI w12]) B198_23_24 rfl ?_
        refine r_bin (pc' := 25) D198_24 rfl rfl ?_
        intro z15 r16 kq; unfold inR at r16
        have kr : z15 % 2 ≠ 0 → x3 < gi N 78 469 ∧ 1 ≤ gi N 78 (135 + 16 * x3 + 12 + gi N 78 474) ∧ n ≤ gi N 78 (135 + 16 * x3) := fun h => (h2.fr fN rfl) x3 (by omega) (by omega) (by rw [← i0, ← ke]; exact (bt_test kq (by omega)).mp (by omega))
        refine s_blx (lv' := [(0, vR 77), (2, vI n), (3, vI x3)]) (st' := [vI 1, vI z15]) B198_25_26 rfl ?_
        refine r_and1 (pc' := 27) D198_26 rfl ?_
        refine r_ifc (tgt := 33) (pc' := 30) D198_27 rfl rfl (by unfold inR; omega) (fun (c17 : (z15 % 2) ≠ 0) => ?_) (fun (c17 : ¬ ((z15 % 2) ≠ 0)) => ?_)
        · refine s_blx (lv' := [(0, vR 77), (2, vI n), (3, vI x3)]) (st' := [vI x3, vR 77]) B198_33_35 rfl ?_
          refine r_vIp (c := 77) (args := [vI x3]) (rest := []) (pc' := 38) D198_35 rfl ck_11_virtual_144 TE156 rfl (Nat.le_of_ble_eq_true rfl) ⟨Nat.le_of_ble_eq_true rfl, Nat.le_of_ble_eq_true rfl⟩ sc_77 ⟨rfl, by decide⟩ HN.1 (dp_0 hd rfl) (k156x E (dp_n hd rfl) HN x3 (by omega)) ?_
          intro v18 q22
          obtain ⟨q20, q21⟩ := q22
          have kr2 := kr (by omega)
          refine s_blx (lv' := [(0, vR 77), (2, vI n), (3, vI x3)]) (st' := [vI n, vI v18]) B198_38_39 rfl ?_
          refine r_icmp (tgt := 49) (pc' := 42) D198_39 rfl rfl (by unfold inR; omega) (fun (c23 : v18 ≠ n) => ?_) (fun (c23 : ¬ (v18 ≠ n)) => ?_)
          · refine s_blx (lv' := [(0, vR 77), (2, vI n), (3, vI x3)]) (st' := [vI (n + 1), vI x3, vR 77, vI 9]) B198_49_56 rfl ?_
            refine r_vIp (c := 77) (args := [vI x3, vI (n + 1)]) (rest := [vI 9]) (pc' := 59) D198_56 rfl ck_11_virtual_267 TE193 rfl (Nat.le_of_ble_eq_true rfl) ⟨Nat.le_of_ble_eq_true rfl, Nat.le_of_ble_eq_true rfl⟩ sc_77 ⟨rfl, by decide⟩ HN.1 (dp_0 hd rfl) (k193x E (dp_n hd rfl) HN x3 (n + 1) (by omega) (by omega) (by omega) (by omega)) ?_
            intro v24 q27
            have q26 := q27; clear q27
            refine s_blx (lv' := [(6, vI 0), (5, vI 0), (4, vI (((9 * v24) + n) + 1)), (0, vR 77), (2, vI n), (3, vI x3)]) (st' := []) B198_59_72 rfl ?_
            refine r_loc (lv' := [(0, vR 77), (2, vI n), (3, vI x3), (4, vI (((9 * v24) + n) + 1)), (5, vI 0), (6, vI 0)]) ⟨rfl, rfl, rfl, rfl, rfl, rfl, trivial⟩ rfl rfl ?_
            exact ih.2 x3 (((9 * v24) + n) + 1) 0 0 N HN fN (by omega) (by omega) (by omega) (by omega) (by omega) (by omega) (by omega) (by omega) (by omega) (by omega) (by omega) (by omega)
          · refine s_blx (lv' := [(0, vR 77), (2, vI n), (3, vI x3)]) (st' := [vI (9 * x3)]) B198_42_46 rfl ?_
            refine r_goto (tgt := 64) D198_46 rfl ?_
            refine s_blx (lv' := [(6, vI 0), (5, vI 0), (4, vI (9 * x3)), (0, vR 77), (2, vI n), (3, vI x3)]) (st' := []) B198_64_72 rfl ?_
            refine r_loc (lv' := [(0, vR 77), (2, vI n), (3, vI x3), (4, vI (9 * x3)), (5, vI 0), (6, vI 0)]) ⟨rfl, rfl, rfl, rfl, rfl, rfl, trivial⟩ rfl rfl ?_
            exact ih.2 x3 (9 * x3) 0 0 N HN fN (by omega) (by omega) (by omega) (by omega) (by omega) (by omega) (by omega) (by omega) (by omega) (by omega) (by omega) (by omega)
        · refine r_goto (tgt := 140) D198_30 rfl ?_
          refine s_blx (lv' := [(3, vI (x3 + 1)), (0, vR 77), (2, vI n)]) (st' := []) B198_140_143 rfl ?_
          refine r_goto (tgt := 7) D198_143 rfl ?_
          refine r_loc (lv' := [(0, vR 77), (2, vI n), (3, vI (x3 + 1))]) ⟨rfl, rfl, rfl, trivial⟩ rfl rfl ?_
          exact ih.1 (x3 + 1) N HN fN (by omega) (by omega) (by omega) (by omega) (by omega)
    · intro x3 x4 x5 x6 N HN fN i0 i1 i2 i3 i4 i5 i6 i7 i8 i9 i10 hmu
      refine s_blx (lv' := [(0, vR 77), (2, vI n), (3, vI x3), (4, vI x4), (5, vI x5), (6, vI x6)]) (st' := [vR 77, vI x6]) B198_72_75 rfl ?_
      refine r_gint (ki := 27) (pc' := 78) D198_75 rfl gf_11_264_77 rfl HN.1 ?_
      intro w28 e29 r30
      have b_w28 := HN.2 77 (27) 0 16 rfl
      rw [← e29] at b_w28; clear r30
      refine r_icmp (tgt := 111) (pc' := 81) D198_78 rfl rfl (by unfold inR; omega) (fun (c31 : w28 ≤ x6) => ?_) (fun (c31 : ¬ (w28 ≤ x6)) => ?_)
      · refine s_blx (lv' := [(0, vR 77), (2, vI n), (3, vI x3), (4, vI x4), (5, vI x5), (6, vI x6)]) (st' := [vI x5]) B198_111_113 rfl ?_
        refine r_ifc (tgt := 119) (pc' := 116) D198_113 rfl rfl (by unfold inR; omega) (fun (c32 : x5 = 0) => ?_) (fun (c32 : ¬ (x5 = 0)) => ?_)
        · refine s_blx (lv' := [(0, vR 77), (2, vI n), (3, vI x3), (4, vI x4), (5, vI x5), (6, vI x6)]) (st' := [vR 77]) B198_119_120 rfl ?_
          refine r_gfix (r := 93) (pc' := 123) D198_120 rfl gf_11_62_77 HN.1 ?_
          refine s_blx (lv' := [(0, vR 77), (2, vI n), (3, vI x3), (4, vI x4), (5, vI x5), (6, vI x6)]) (st' := [vR 77, vR 93]) B198_123_124 rfl ?_
          refine r_gint (ki := 27) (pc' := 127) D198_124 rfl gf_11_264_77 rfl HN.1 ?_
          intro w33 e34 r35
          have e36 : w28 = w33 := (e34.trans (e29.symm)).symm
          subst e36
          refine s_blx (lv' := [(0, vR 77), (2, vI n), (3, vI x3), (4, vI x4), (5, vI x5), (6, vI x6)]) (st' := [vI x4, vI w28, vR 93]) B198_127_129 rfl ?_
          refine r_iast (pc' := 130) D198_129 rfl sc_93 HN (by omega) (by unfold inR; omega) (show 0 ≤ x4 ∧ x4 ≤ 143 by omega) ?_
          intro M37 u38 H39 p40
          have f41 := fN.wr u38 rfl
          refine s_blx (lv' := [(0, vR 77), (2, vI n), (3, vI x3), (4, vI x4), (5, vI x5), (6, vI x6)]) (st' := [vR 77, vR 77]) B198_130_132 rfl ?_
          refine r_gint (ki := 27) (pc' := 135) D198_132 rfl gf_11_264_77 rfl H39.1 ?_
          intro w42 e43 r44
          have e45 : w28 = w42 := (e43.trans ((u38.gi_ne (by omega) (Or.inl (by decide))).trans (e29.symm))).symm
          subst e45
          refine s_blx (lv' := [(0, vR 77), (2, vI n), (3, vI x3), (4, vI x4), (5, vI x5), (6, vI x6)]) (st' := [vI (w28 + 1), vR 77]) B198_135_137 rfl ?_
          refine r_pint (ki := 27) (pc' := 140) D198_137 rfl pf_11_264_77 rfl H39 (by unfold inR; omega) (show 0 ≤ (w28 + 1) ∧ (w28 + 1) ≤ 16 by omega) ?_
          intro M46 u47 H48 p49
          have f50 := f41.wr u47 rfl
          refine s_blx (lv' := [(3, vI (x3 + 1)), (0, vR 77), (2, vI n), (4, vI x4), (5, vI x5), (6, vI x6)]) (st' := []) B198_140_143 rfl ?_
          refine r_goto (tgt := 7) D198_143 rfl ?_
          refine r_loc (lv' := [(0, vR 77), (2, vI n), (3, vI (x3 + 1))]) ⟨rfl, rfl, rfl, trivial⟩ rfl rfl ?_
          have g51 : gi M46 77 6 = gi N 77 6 := (u47.gi_ne (by decide) (Or.inr (by decide))).trans ((u38.gi_ne (by omega) (Or.inl (by decide))).trans (rfl))
          have g52 : gi M46 77 27 = w28 + 1 := p49
          exact ih.1 (x3 + 1) M46 H48 f50 (by omega) (by omega) (by omega) (by omega) (by omega)
        · refine r_goto (tgt := 140) D198_116 rfl ?_
          refine s_blx (lv' := [(3, vI (x3 + 1)), (0, vR 77), (2, vI n), (4, vI x4), (5, vI x5), (6, vI x6)]) (st' := []) B198_140_143 rfl ?_
          refine r_goto (tgt := 7) D198_143 rfl ?_
          refine r_loc (lv' := [(0, vR 77), (2, vI n), (3, vI (x3 + 1))]) ⟨rfl, rfl, rfl, trivial⟩ rfl rfl ?_
          exact ih.1 (x3 + 1) N HN fN (by omega) (by omega) (by omega) (by omega) (by omega)
      · refine s_blx (lv' := [(0, vR 77), (2, vI n), (3, vI x3), (4, vI x4), (5, vI x5), (6, vI x6)]) (st' := [vI x5]) B198_81_83 rfl ?_
        refine r_ifc (tgt := 98) (pc' := 86) D198_83 rfl rfl (by unfold inR; omega) (fun (c53 : x5 ≠ 0) => ?_) (fun (c53 : ¬ (x5 ≠ 0)) => ?_)
        · refine s_blx (lv' := [(0, vR 77), (2, vI n), (3, vI x3), (4, vI x4), (5, vI x5), (6, vI x6)]) (st' := [vI 1]) B198_98_99 rfl ?_
          refine r_goto (tgt := 103) D198_99 rfl ?_
          refine s_blx (lv' := [(6, vI (x6 + 1)), (5, vI 1), (0, vR 77), (2, vI n), (3, vI x3), (4, vI x4)]) (st' := []) B198_103_108 rfl ?_
          refine r_goto (tgt := 72) D198_108 rfl ?_
          refine r_loc (lv' := [(0, vR 77), (2, vI n), (3, vI x3), (4, vI x4), (5, vI 1), (6, vI (x6 + 1))]) ⟨rfl, rfl, rfl, rfl, rfl, rfl, trivial⟩ rfl rfl ?_
          exact ih.2 x3 x4 1 (x6 + 1) N HN fN (by omega) (by omega) (by omega) (by omega) (by omega) (by omega) (by omega) (by omega) (by omega) (by omega) (by omega) (by omega)
        · refine s_blx (lv' := [(0, vR 77), (2, vI n), (3, vI x3), (4, vI x4), (5, vI x5), (6, vI x6)]) (st' := [vR 77]) B198_86_87 rfl ?_
          refine r_gfix (r := 93) (pc' := 90) D198_87 rfl gf_11_62_77 HN.1 ?_
          refine s_blx (lv' := [(0, vR 77), (2, vI n), (3, vI x3), (4, vI x4), (5, vI x5), (6, vI x6)]) (st' := [vI x6, vR 93]) B198_90_92 rfl ?_
          refine r_iald (pc' := 93) D198_92 rfl sc_93 HN.1 (by omega) ?_
          intro w54 e55 r56
          have b_w54 := HN.2 93 (x6) 0 143 rfl
          rw [← e55] at b_w54; clear r56
          refine s_blx (lv' := [(0, vR 77), (2, vI n), (3, vI x3), (4, vI x4), (5, vI x5), (6, vI x6)]) (st' := [vI x4, vI w54]) B198_93_95 rfl ?_
          refine r_icmp (tgt := 102) (pc' := 98) D198_95 rfl rfl (by unfold inR; omega) (fun (c57 : w54 ≠ x4) => ?_) (fun (c57 : ¬ (w54 ≠ x4)) => ?_)
          · refine s_blx (lv' := [(6, vI (x6 + 1)), (5, vI 0), (0, vR 77), (2, vI n), (3, vI x3), (4, vI x4)]) (st' := []) B198_102_108 rfl ?_
            refine r_goto (tgt := 72) D198_108 rfl ?_
            refine r_loc (lv' := [(0, vR 77), (2, vI n), (3, vI x3), (4, vI x4), (5, vI 0), (6, vI (x6 + 1))]) ⟨rfl, rfl, rfl, rfl, rfl, rfl, trivial⟩ rfl rfl ?_
            exact ih.2 x3 x4 0 (x6 + 1) N HN fN (by omega) (by omega) (by omega) (by omega) (by omega) (by omega) (by omega) (by omega) (by omega) (by omega) (by omega) (by omega)
          · refine s_blx (lv' := [(0, vR 77), (2, vI n), (3, vI x3), (4, vI x4), (5, vI x5), (6, vI x6)]) (st' := [vI 1]) B198_98_99 rfl ?_
            refine r_goto (tgt := 103) D198_99 rfl ?_
            refine s_blx (lv' := [(6, vI (x6 + 1)), (5, vI 1), (0, vR 77), (2, vI n), (3, vI x3), (4, vI x4)]) (st' := []) B198_103_108 rfl ?_
            refine r_goto (tgt := 72) D198_108 rfl ?_
            refine r_loc (lv' := [(0, vR 77), (2, vI n), (3, vI x3), (4, vI x4), (5, vI 1), (6, vI (x6 + 1))]) ⟨rfl, rfl, rfl, rfl, rfl, rfl, trivial⟩ rfl rfl ?_
            exact ih.2 x3 x4 1 (x6 + 1) N HN fN (by omega) (by omega) (by omega) (by omega) (by omega) (by omega) (by omega) (by omega) (by omega) (by omega) (by omega) (by omega)
set_option maxRecDepth 4000 in
theorem k198x {base : Nat} {X : Nat → Option mC} {G : Nat → Value} (E : EnvOK base X G) {d : Nat} (hd : 3 ≤ d) {M : mH} (H : HI base M) (s : Int) (n : Int) (h0 : 0 ≤ s ∧ s ≤ 15) (h1 : 0 ≤ n ∧ n ≤ 8) (h2 : RS n (gi M 77 6) M) : sOk base X G d T198 [vR 77, vI s, vI n] M (pV (fun M' => HI base M' ∧ Fr [(77, 28), (93, 0)] M M')) := by
  have f0 : Fr [(77, 28), (93, 0)] M M := Fr.rf
  refine sOk.of (show sRn base X G d T198 0 [(0, vR 77), (1, vI s), (2, vI n)] [] M _ from ?_)
  refine s_blx (lv' := [(0, vR 77), (1, vI s), (2, vI n)]) (st' := [vI 0, vR 77]) B198_0_2 rfl ?_
  refine r_pint (ki := 27) (pc' := 5) D198_2 rfl pf_11_264_77 rfl H (by unfold inR; omega) (show 0 ≤ 0 ∧ 0 ≤ 16 by omega) ?_
  intro M1 u2 H3 p4
  have f5 := f0.wr u2 rfl
  refine s_blx (lv' := [(3, vI 0), (0, vR 77), (1, vI s), (2, vI n)]) (st' := []) B198_5_7 rfl ?_
  refine r_loc (lv' := [(0, vR 77), (2, vI n), (3, vI 0)]) ⟨rfl, rfl, rfl, trivial⟩ rfl rfl ?_
  have g6 : gi M1 77 6 = gi M 77 6 := (u2.gi_ne (by decide) (Or.inr (by decide))).trans (rfl)
  have g7 : gi M1 77 27 = 0 := p4
  exact (L_k198x E hd H s n h0 h1 h2 (((16 - 0) * 18 + 17 : Int) + 1).toNat).1 0 M1 H3 f5 (by omega) (by omega) (by omega) (by omega) (by omega)
set_option maxRecDepth 4000 in
theorem L_k199x {base : Nat} {X : Nat → Option mC} {G : Nat → Value} (E : EnvOK base X G) {d : Nat} (hd : 4 ≤ d) {M : mH} (H : HI base M) (s : Int) (n : Int) (h0 : TB M) (h1 : 0 ≤ s ∧ s ≤ 15) (h2 : 0 ≤ n ∧ n ≤ 8) : ∀ mz : Nat, (∀ (x3 : Int) (N : mH), HI base N → Fr [(77, 7), (77, 8), (77, 9), (77, 10), (77, 14), (77, 15), (77, 16), (77, 28), (83, 0), (84, 0), (85, 0), (86, 0), (87, 0), (93, 0)] M N → (0 ≤ x3 ∧ x3 ≤ 1111) → (0 ≤ x3) → (x3 ≤ 1111) → (1111 - x3) * 307 + 306 < (mz : Int) → sRn base X G d T199 15 [(0, vR 77), (1, vI s), (2, vI n), (3, vI x3)] [] N (s_Q base (pV (fun M' => HI base M' ∧ Fr [(77, 7), (77, 8), (77, 9), (77, 10), (77, 14), (77, 15), (77, 16), (77, 28), (83, 0), (84, 0), (85, 0), (86, 0), (87, 0), (93, 0)] M M')))) ∧ (∀ (x3 x4 x6 x7 : Int) (N : mH), HI base N → Fr [(77, 7), (77, 8), (77, 9), (77, 10), (77, 14), (77, 15), (77, 16), (77, 28), (83, 0), (84, 0), (85, 0), (86, 0), (87, 0), (93, 0)] M N → (0 ≤ x3 ∧ x3 ≤ 1110) → (0 ≤ x7 ∧ x7 ≤ 16) → (0 ≤ x3) → (x3 ≤ 1110) → ((-1) ≤ x6) → (x6 ≤ 22) → (0 ≤ x7) → (x7 ≤ 16) → (1111 - x3) * 307 + 0 + (16 - x7) * 18 + 17 < (mz : Int) → sRn base X G d T199 31 [(0, vR 77), (1, vI s), (2, vI n), (3, vI x3), (4, vL x4), (6, vI x6), (7, vI x7)] [] N (s_Q base (pV (fun M' => HI base M' ∧ Fr [(77, 7), (77, 8), (77, 9), (77, 10), (77, 14), (77, 15), (77, 16), (77, 28), (83, 0), (84, 0), (85, 0), (86, 0), (87, 0), (93, 0)] M M')))) ∧ (∀ (x3 x4 x6 x7 x8 x9 x11 : Int) (N : mH), HI base N → Fr [(77, 7), (77, 8), (77, 9), (77, 10), (77, 14), (77, 15), (77, 16), (77, 28), (83, 0), (84, 0), (85, 0), (86, 0), (87, 0), (93, 0)] M N → (0 ≤ x3 ∧ x3 ≤ 1110) → (0 ≤ x7 ∧ x7 ≤ 15) → (0 ≤ x11 ∧ x11 ≤ 16) → (0 ≤ x3) → (x3 ≤ 1110) → ((-1) ≤ x6) → (x6 ≤ 22) → (0 ≤ x7) → (x7 ≤ 15) → (0 ≤ x8) → (x8 ≤ 22) → (0 ≤ x11) → (x11 ≤ 16) → (1111 - x3) * 307 + 0 + (16 - x7) * 18 + 0 + (16 - x11) * 1 + 0 < (mz : Int) → sRn base X G d T199 103 [(0, vR 77), (1, vI s), (2, vI n), (3, vI x3), (4, vL x4), (6, vI x6), (7, vI x7), (8, vI x8), (9, vL x9), (11, vI x11)] [] N (s_Q base (pV (fun M' => HI base M' ∧ Fr [(77, 7), (77, 8), (77, 9), (77, 10), (77, 14), (77, 15), (77, 16), (77, 28), (83, 0), (84, 0), (85, 0), (86, 0), (87, 0), (93, 0)] M M')))) := by
  have f0 : Fr [(77, 7), (77, 8), (77, 9), (77, 10), (77, 14), (77, 15), (77, 16), (77, 28), (83, 0), (84, 0), (85, 0), (86, 0), (87, 0), (93, 0)] M M := Fr.rf
  intro mz
  induction mz with
  | zero => exact ⟨fun x3 N _ _ z0 z1 z2 z3 => by omega, fun x3 x4 x6 x7 N _ _ z0 z1 z2 z3 z4 z5 z6 z7 z8 => by omega, fun x3 x4 x6 x7 x8 x9 x11 N _ _ z0 z1 z2 z3 z4 z5 z6 z7 z8 z9 z10 z11 z12 z13 => by omega⟩
  | succ mz ih =>
    refine ⟨?_, ?_, ?_⟩
    · intro x3 N HN fN i0 i1 i2 hmu
      refine s_blx (lv' := [(0, vR 77), (1, vI s), (2, vI n), (3, vI x3)]) (st' := [vI 1111, vI x3]) B199_15_19 rfl ?_
      refine r_icmp (tgt := 196) (pc' := 22) D199_19 rfl rfl (by unfold inR; omega) (fun (c14 : 1111 ≤ x3) => ?_) (fun (c14 : ¬ (1111 ≤ x3)) => ?_)
      · exact r_retV D199_196 rfl (⟨HN, fN⟩)
      · refine s_blx (lv' := [(7, vI 0), (6, vI (-1)), (4, vL 0), (0, vR 77), (1, vI s), (2, vI n), (3, vI x3)]) (st' := []) B199_22_31 rfl ?_
        refine r_loc (lv' := [(0, vR 77), (1, vI s), (2, vI n), (3, vI x3), (4, vL 0), (6, vI (-1)), (7, vI 0)]) ⟨rfl, rfl, rfl, rfl, rfl, rfl, rfl, trivial⟩ rfl rfl ?_
        exact ih.2.1 x3 0 (-1) 0 N HN fN (by omega) (by omega) (by omega) (by omega) (by omega) (by omega) (by omega) (by omega) (by omega)
    · intro x3 x4 x6 x7 N HN fN i0 i1 i2 i3 i4 i5 i6 i7 hmu
      refine s_blx (lv' := [(0, vR 77), (1, vI s), (2, vI n), (3, vI x3), (4, vL x4), (6, vI x6), (7, vI x7)]) (st' := [vI 16, vI x7]) B199_31_35 rfl ?_
      refine r_icmp (tgt := 175) (pc' := 38) D199_35 rfl rfl (by unfold inR; omega) (fun (c15 : 16 ≤ x7) => ?_) (fun (c15 : ¬ (16 ≤ x7)) => ?_)
      · refine s_blx (lv' := [(0, vR 77), (1, vI s), (2, vI n), (3, vI x3), (4, vL x4), (6, vI x6), (7, vI x7)]) (st' := [vI x6, vL x4, vI x3, vI ((9 * s) + n), vR 77]) B199_175_187 rfl ?_
        refine r_vV (c := 77) (args := [vI ((9 * s) + n), vI x3, vL x4, vI x6]) (rest := []) (pc' := 190) D199_187 rfl ck_11_virtual_249 TE194 rfl (Nat.le_of_ble_eq_true rfl) ⟨Nat.le_of_ble_eq_true rfl, Nat.le_of_ble_eq_true rfl⟩ sc_77 ⟨rfl, by decide⟩ HN.1 (dp_0 hd rfl) (k194 E (dp_n hd rfl) HN ((9 * s) + n) x3 x4 x6 (by omega) (by omega) (by omega)) ?_
        intro M17 q20
        obtain ⟨H18, f19⟩ := q20
        have f21 := fN.tr (f19.up rfl)
        refine s_blx (lv' := [(3, vI (x3 + 1)), (0, vR 77), (1, vI s), (2, vI n), (4, vL x4), (6, vI x6), (7, vI x7)]) (st' := []) B199_190_193 rfl ?_
        refine r_goto (tgt := 15) D199_193 rfl ?_
        refine r_loc (lv' := [(0, vR 77), (1, vI s), (2, vI n), (3, vI (x3 + 1))]) ⟨rfl, rfl, rfl, rfl, trivial⟩ rfl rfl ?_
        exact ih.1 (x3 + 1) M17 H18 f21 (by omega) (by omega) (by omega) (by omega)
      · refine s_blx (lv' := [(0, vR 77), (1, vI s), (2, vI n), (3, vI x3), (4, vL x4), (6, vI x6), (7, vI x7)]) (st' := [vI x7]) B199_38_40 rfl ?_
        refine r_sIp (args := [vI x7]) (rest := []) (pc' := 43) D199_40 rfl ck_11_static_237 TE192 rfl (Nat.le_of_ble_eq_true rfl) ⟨Nat.le_of_ble_eq_true rfl, Nat.le_of_ble_eq_true rfl⟩ (by decide) (dp_0 hd rfl) (k192x E (dp_n hd rfl) HN x7 (by omega)) ?_
        intro v22 q27
        obtain ⟨q24, q25, q26⟩ := q27
        refine s_blx (lv' := [(8, vI v22), (0, vR 77), (1, vI s), (2, vI n), (3, vI x3), (4, vL x4), (6, vI x6), (7, vI x7)]) (st' := [vR 77]) B199_43_46 rfl ?_
        refine r_gint (ki := 25) (pc' := 49) D199_46 rfl gf_11_273_77 rfl HN.1 ?_
        intro w28 e29 r30
        have b_w28 := HN.2 77 (25) 0 1 rfl
        rw [← e29] at b_w28; clear r30
        refine r_ifc (tgt := 64) (pc' := 52) D199_49 rfl rfl (by unfold inR; omega) (fun (c31 : w28 = 0) => ?_) (fun (c31 : ¬ (w28 = 0)) => ?_)
        · refine s_blx (lv' := [(8, vI v22), (0, vR 77), (1, vI s), (2, vI n), (3, vI x3), (4, vL x4), (6, vI x6), (7, vI x7)]) (st' := [vI v22, vI x3, vR 77]) B199_64_68 rfl ?_
          refine r_vI (c := 77) (args := [vI x3, vI v22]) (rest := []) (pc' := 71) D199_68 rfl ck_11_virtual_240 TE188 rfl (Nat.le_of_ble_eq_true rfl) ⟨Nat.le_of_ble_eq_true rfl, Nat.le_of_ble_eq_true rfl⟩ sc_77 ⟨rfl, by decide⟩ HN.1 (dp_0 hd rfl) (k188x E (dp_n hd rfl) HN x3 v22 ((h0.fr fN rfl)) (by omega) (by omega) (by omega) (by omega)) ?_
          intro v32 M33 q37
          obtain ⟨H34, f35, q36⟩ := q37
          have f38 := fN.tr (f35.up rfl)
          refine r_ifc (tgt := 77) (pc' := 74) D199_71 rfl rfl (by unfold inR; omega) (fun (c39 : v32 ≠ 0) => ?_) (fun (c39 : ¬ (v32 ≠ 0)) => ?_)
          · refine s_blx (lv' := [(8, vI v22), (0, vR 77), (1, vI s), (2, vI n), (3, vI x3), (4, vL x4), (6, vI x6), (7, vI x7)]) (st' := [vR 77]) B199_77_78 rfl ?_
            refine r_gint (ki := 15) (pc' := 81) D199_78 rfl gf_11_218_77 rfl H34.1 ?_
            intro w40 e41 r42
            unfold inR at r42
            refine r_i2l (pc' := 82) D199_81 rfl (by unfold inR; omega) ?_
            refine s_blx (lv' := [(8, vI v22), (0, vR 77), (1, vI s), (2, vI n), (3, vI x3), (4, vL x4), (6, vI x6), (7, vI x7)]) (st' := [vR 77, vR 77, vL w40]) B199_82_84 rfl ?_
            refine r_gint (ki := 14) (pc' := 87) D199_84 rfl gf_11_215_77 rfl H34.1 ?_
            intro w43 e44 r45
            have b_w43 := H34.2 77 (14) 0 1110 rfl
            rw [← e44] at b_w43; clear r45
            refine r_vIp (c := 77) (args := [vI w43]) (rest := [vL w40]) (pc' := 90) D199_87 rfl ck_11_virtual_246 TE190 rfl (Nat.le_of_ble_eq_true rfl) ⟨Nat.le_of_ble_eq_true rfl, Nat.le_of_ble_eq_true rfl⟩ sc_77 ⟨rfl, by decide⟩ H34.1 (dp_0 hd rfl) (k190 E (dp_n hd rfl) H34 w43 (by omega)) ?_
            intro v46 q49
            have q48 := q49; clear q49
            refine r_i2l (pc' := 91) D199_90 rfl (by unfold inR; omega) ?_
            refine s_blx (lv' := [(8, vI v22), (0, vR 77), (1, vI s), (2, vI n), (3, vI x3), (4, vL x4), (6, vI x6), (7, vI x7)]) (st' := [vR 77, vL (w40 + v46)]) B199_91_93 rfl ?_
            refine r_gint (ki := 8) (pc' := 96) D199_93 rfl gf_11_197_77 rfl H34.1 ?_
            intro w50 e51 r52
            unfold inR at r52
            refine r_i2l (pc' := 97) D199_96 rfl (by unfold inR; omega) ?_
            refine s_blx (lv' := [(11, vI 0), (9, vL ((w40 + v46) * w50)), (8, vI v22), (0, vR 77), (1, vI s), (2, vI n), (3, vI x3), (4, vL x4), (6, vI x6), (7, vI x7)]) (st' := []) B199_97_103 rfl ?_
            refine r_loc (lv' := [(0, vR 77), (1, vI s), (2, vI n), (3, vI x3), (4, vL x4), (6, vI x6), (7, vI x7), (8, vI v22), (9, vL ((w40 + v46) * w50)), (11, vI 0)]) ⟨rfl, rfl, rfl, rfl, rfl, rfl, rfl, rfl, rfl, rfl, trivial⟩ rfl rfl ?_
            exact ih.2.2 x3 x4 x6 x7 v22 ((w40 + v46) * w50) 0 M33 H34 f38 (by omega) (by omega) (by omega) (by omega) (by omega) (by omega) (by omega) (by omega) (by omega) (by omega) (by omega) (by omega) (by omega) (by omega)
          · refine r_goto (tgt := 169) D199_74 rfl ?_
            refine s_blx (lv' := [(7, vI (x7 + 1)), (8, vI v22), (0, vR 77), (1, vI s), (2, vI n), (3, vI x3), (4, vL x4), (6, vI x6)]) (st' := []) B199_169_172 rfl ?_
            refine r_goto (tgt := 31) D199_172 rfl ?_
            refine r_loc (lv' := [(0, vR 77), (1, vI s), (2, vI n), (3, vI x3), (4, vL x4), (6, vI x6), (7, vI (x7 + 1))]) ⟨rfl, rfl, rfl, rfl, rfl, rfl, rfl, trivial⟩ rfl rfl ?_
            exact ih.2.1 x3 x4 x6 (x7 + 1) M33 H34 f38 (by omega) (by omega) (by omega) (by omega) (by omega) (by omega) (by omega) (by omega) (by omega)
        · refine s_blx (lv' := [(8, vI v22), (0, vR 77), (1, vI s), (2, vI n), (3, vI x3), (4, vL x4), (6, vI x6), (7, vI x7)]) (st' := [vI 17, vI 10, vI v22]) B199_52_58 rfl ?_
          refine r_sIp (args := [vI v22, vI 10, vI 17]) (rest := []) (pc' := 61) D199_58 rfl ck_11_static_123 TE147 rfl (Nat.le_of_ble_eq_true rfl) ⟨Nat.le_of_ble_eq_true rfl, Nat.le_of_ble_eq_true rfl⟩ (by decide) (dp_0 hd rfl) (k147 E (dp_n hd rfl) HN v22 10 17 (by omega) (by omega) (by omega)) ?_
          intro v53 q58
          obtain ⟨q55, q56, q57⟩ := q58
          refine r_ifc (tgt := 169) (pc' := 64) D199_61 rfl rfl (by unfold inR; omega) (fun (c59 : v53 ≠ 0) => ?_) (fun (c59 : ¬ (v53 ≠ 0)) => ?_)
          · refine s_blx (lv' := [(7, vI (x7 + 1)), (8, vI v22), (0, vR 77), (1, vI s), (2, vI n), (3, vI x3), (4, vL x4), (6, vI x6)]) (st' := []) B199_169_172 rfl ?_
            refine r_goto (tgt := 31) D199_172 rfl ?_
            refine r_loc (lv' := [(0, vR 77), (1, vI s), (2, vI n), (3, vI x3), (4, vL x4), (6, vI x6), (7, vI (x7 + 1))]) ⟨rfl, rfl, rfl, rfl, rfl, rfl, rfl, trivial⟩ rfl rfl ?_
            exact ih.2.1 x3 x4 x6 (x7 + 1) N HN fN (by omega) (by omega) (by omega) (by omega) (by omega) (by omega) (by omega) (by omega) (by omega)
          · refine s_blx (lv' := [(8, vI v22), (0, vR 77), (1, vI s), (2, vI n), (3, vI x3), (4, vL x4), (6, vI x6), (7, vI x7)]) (st' := [vI v22, vI x3, vR 77]) B199_64_68 rfl ?_
            refine r_vI (c := 77) (args := [vI x3, vI v22]) (rest := []) (pc' := 71) D199_68 rfl ck_11_virtual_240 TE188 rfl (Nat.le_of_ble_eq_true rfl) ⟨Nat.le_of_ble_eq_true rfl, Nat.le_of_ble_eq_true rfl⟩ sc_77 ⟨rfl, by decide⟩ HN.1 (dp_0 hd rfl) (k188x E (dp_n hd rfl) HN x3 v22 ((h0.fr fN rfl)) (by omega) (by omega) (by omega) (by omega)) ?_
            intro v60 M61 q65
            obtain ⟨H62, f63, q64⟩ := q65
            have f66 := fN.tr (f63.up rfl)
            refine r_ifc (tgt := 77) (pc' := 74) D199_71 rfl rfl (by unfold inR; omega) (fun (c67 : v60 ≠ 0) => ?_) (fun (c67 : ¬ (v60 ≠ 0)) => ?_)
            · refine s_blx (lv' := [(8, vI v22), (0, vR 77), (1, vI s), (2, vI n), (3, vI x3), (4, vL x4), (6, vI x6), (7, vI x7)]) (st' := [vR 77]) B199_77_78 rfl ?_
              refine r_gint (ki := 15) (pc' := 81) D199_78 rfl gf_11_218_77 rfl H62.1 ?_
              intro w68 e69 r70
              unfold inR at r70
              refine r_i2l (pc' := 82) D199_81 rfl (by unfold inR; omega) ?_
              refine s_blx (lv' := [(8, vI v22), (0, vR 77), (1, vI s), (2, vI n), (3, vI x3), (4, vL x4), (6, vI x6), (7, vI x7)]) (st' := [vR 77, vR 77, vL w68]) B199_82_84 rfl ?_
              refine r_gint (ki := 14) (pc' := 87) D199_84 rfl gf_11_215_77 rfl H62.1 ?_
              intro w71 e72 r73
              have b_w71 := H62.2 77 (14) 0 1110 rfl
              rw [← e72] at b_w71; clear r73
              refine r_vIp (c := 77) (args := [vI w71]) (rest := [vL w68]) (pc' := 90) D199_87 rfl ck_11_virtual_246 TE190 rfl (Nat.le_of_ble_eq_true rfl) ⟨Nat.le_of_ble_eq_true rfl, Nat.le_of_ble_eq_true rfl⟩ sc_77 ⟨rfl, by decide⟩ H62.1 (dp_0 hd rfl) (k190 E (dp_n hd rfl) H62 w71 (by omega)) ?_
              intro v74 q77
              have q76 := q77; clear q77
              refine r_i2l (pc' := 91) D199_90 rfl (by unfold inR; omega) ?_
              refine s_blx (lv' := [(8, vI v22), (0, vR 77), (1, vI s), (2, vI n), (3, vI x3), (4, vL x4), (6, vI x6), (7, vI x7)]) (st' := [vR 77, vL (w68 + v74)]) B199_91_93 rfl ?_
              refine r_gint (ki := 8) (pc' := 96) D199_93 rfl gf_11_197_77 rfl H62.1 ?_
              intro w78 e79 r80
              unfold inR at r80
              refine r_i2l (pc' := 97) D199_96 rfl (by unfold inR; omega) ?_
              refine s_blx (lv' := [(11, vI 0), (9, vL ((w68 + v74) * w78)), (8, vI v22), (0, vR 77), (1, vI s), (2, vI n), (3, vI x3), (4, vL x4), (6, vI x6), (7, vI x7)]) (st' := []) B199_97_103 rfl ?_
              refine r_loc (lv' := [(0, vR 77), (1, vI s), (2, vI n), (3, vI x3), (4, vL x4), (6, vI x6), (7, vI x7), (8, vI v22), (9, vL ((w68 + v74) * w78)), (11, vI 0)]) ⟨rfl, rfl, rfl, rfl, rfl, rfl, rfl, rfl, rfl, rfl, trivial⟩ rfl rfl ?_
              exact ih.2.2 x3 x4 x6 x7 v22 ((w68 + v74) * w78) 0 M61 H62 f66 (by omega) (by omega) (by omega) (by omega) (by omega) (by omega) (by omega) (by omega) (by omega) (by omega) (by omega) (by omega) (by omega) (by omega)
            · refine r_goto (tgt := 169) D199_74 rfl ?_
              refine s_blx (lv' := [(7, vI (x7 + 1)), (8, vI v22), (0, vR 77), (1, vI s), (2, vI n), (3, vI x3), (4, vL x4), (6, vI x6)]) (st' := []) B199_169_172 rfl ?_
              refine r_goto (tgt := 31) D199_172 rfl ?_
              refine r_loc (lv' := [(0, vR 77), (1, vI s), (2, vI n), (3, vI x3), (4, vL x4), (6, vI x6), (7, vI (x7 + 1))]) ⟨rfl, rfl, rfl, rfl, rfl, rfl, rfl, trivial⟩ rfl rfl ?_
              exact ih.2.1 x3 x4 x6 (x7 + 1) M61 H62 f66 (by omega) (by omega) (by omega) (by omega) (by omega) (by omega) (by omega) (by omega) (by omega)
    · intro x3 x4 x6 x7 x8 x9 x11 N HN fN i0 i1 i2 i3 i4 i5 i6 i7 i8 i9 i10 i11 i12 hmu
      refine s_blx (lv' := [(0, vR 77), (1, vI s), (2, vI n), (3, vI x3), (4, vL x4), (6, vI x6), (7, vI x7), (8, vI x8), (9, vL x9), (11, vI x11)]) (st' := [vR 77, vI x11]) B199_103_106 rfl ?_
      refine r_gint (ki := 27) (pc' := 109) D199_106 rfl gf_11_264_77 rfl HN.1 ?_
      intro w81 e82 r83
      have b_w81 := HN.2 77 (27) 0 16 rfl
      rw [← e82] at b_w81; clear r83
      refine r_icmp (tgt := 144) (pc' := 112) D199_109 rfl rfl (by unfold inR; omega) (fun (c84 : w81 ≤ x11) => ?_) (fun (c84 : ¬ (w81 ≤ x11)) => ?_)
      · refine s_blx (lv' := [(0, vR 77), (1, vI s), (2, vI n), (3, vI x3), (4, vL x4), (6, vI x6), (7, vI x7), (8, vI x8), (9, vL x9), (11, vI x11)]) (st' := [vI (-1), vI x6]) B199_144_147 rfl ?_
        refine r_icmp (tgt := 161) (pc' := 150) D199_147 rfl rfl (by unfold inR; omega) (fun (c85 : x6 = (-1)) => ?_) (fun (c85 : ¬ (x6 = (-1))) => ?_)
        · refine s_blx (lv' := [(7, vI (x7 + 1)), (4, vL x9), (6, vI x8), (0, vR 77), (1, vI s), (2, vI n), (3, vI x3), (8, vI x8), (9, vL x9), (11, vI x11)]) (st' := []) B199_161_172 rfl ?_
          refine r_goto (tgt := 31) D199_172 rfl ?_
          refine r_loc (lv' := [(0, vR 77), (1, vI s), (2, vI n), (3, vI x3), (4, vL x9), (6, vI x8), (7, vI (x7 + 1))]) ⟨rfl, rfl, rfl, rfl, rfl, rfl, rfl, trivial⟩ rfl rfl ?_
          exact ih.2.1 x3 x9 x8 (x7 + 1) N HN fN (by omega) (by omega) (by omega) (by omega) (by omega) (by omega) (by omega) (by omega) (by omega)
        · refine s_blx (lv' := [(0, vR 77), (1, vI s), (2, vI n), (3, vI x3), (4, vL x4), (6, vI x6), (7, vI x7), (8, vI x8), (9, vL x9), (11, vI x11)]) (st' := [vL x4, vL x9]) B199_150_154 rfl ?_
          refine r_lcmp (pc' := 155) D199_154 rfl ?_
          intro z86 r87 r88
          refine r_ifc (tgt := 161) (pc' := 158) D199_155 rfl rfl (by unfold inR; omega) (fun (c89 : z86 < 0) => ?_) (fun (c89 : ¬ (z86 < 0)) => ?_)
          · refine s_blx (lv' := [(7, vI (x7 + 1)), (4, vL x9), (6, vI x8), (0, vR 77), (1, vI s), (2, vI n), (3, vI x3), (8, vI x8), (9, vL x9), (11, vI x11)]) (st' := []) B199_161_172 rfl ?_
            refine r_goto (tgt := 31) D199_172 rfl ?_
            refine r_loc (lv' := [(0, vR 77), (1, vI s), (2, vI n), (3, vI x3), (4, vL x9), (6, vI x8), (7, vI (x7 + 1))]) ⟨rfl, rfl, rfl, rfl, rfl, rfl, rfl, trivial⟩ rfl rfl ?_
            exact ih.2.1 x3 x9 x8 (x7 + 1) N HN fN (by omega) (by omega) (by omega) (by omega) (by omega) (by omega) (by omega) (by omega) (by omega)
          · refine r_goto (tgt := 169) D199_158 rfl ?_
            refine s_blx (lv' := [(7, vI (x7 + 1)), (0, vR 77), (1, vI s), (2, vI n), (3, vI x3), (4, vL x4), (6, vI x6), (8, vI x8), (9, vL x9), (11, vI x11)]) (st' := []) B199_169_172 rfl ?_
            refine r_goto (tgt := 31) D199_172 rfl ?_
            refine r_loc (lv' := [(0, vR 77), (1, vI s), (2, vI n), (3, vI x3), (4, vL x4), (6, vI x6), (7, vI (x7 + 1))]) ⟨rfl, rfl, rfl, rfl, rfl, rfl, rfl, trivial⟩ rfl rfl ?_
            exact ih.2.1 x3 x4 x6 (x7 + 1) N HN fN (by omega) (by omega) (by omega) (by omega) (by omega) (by omega) (by omega) (by omega) (by omega)
      · refine s_blx (lv' := [(0, vR 77), (1, vI s), (2, vI n), (3, vI x3), (4, vL x4), (6, vI x6), (7, vI x7), (8, vI x8), (9, vL x9), (11, vI x11)]) (st' := [vR 77, vL x9]) B199_112_115 rfl ?_
        refine r_gfix (r := 86) (pc' := 118) D199_115 rfl gf_11_40_77 HN.1 ?_
        refine s_blx (lv' := [(0, vR 77), (1, vI s), (2, vI n), (3, vI x3), (4, vL x4), (6, vI x6), (7, vI x7), (8, vI x8), (9, vL x9), (11, vI x11)]) (st' := [vR 77, vI 1111, vR 86, vL x9]) B199_118_122 rfl ?_
        refine r_gfix (r := 93) (pc' := 125) D199_122 rfl gf_11_62_77 HN.1 ?_
        refine s_blx (lv' := [(0, vR 77), (1, vI s), (2, vI n), (3, vI x3), (4, vL x4), (6, vI x6), (7, vI x7), (8, vI x8), (9, vL x9), (11, vI x11)]) (st' := [vI x11, vR 93, vI 1111, vR 86, vL x9]) B199_125_127 rfl ?_
        refine r_iald (pc' := 128) D199_127 rfl sc_93 HN.1 (by omega) ?_
        intro w90 e91 r92
        have b_w90 := HN.2 93 (x11) 0 143 rfl
        rw [← e91] at b_w90; clear r92
        refine s_blx (lv' := [(0, vR 77), (1, vI s), (2, vI n), (3, vI x3), (4, vL x4), (6, vI x6), (7, vI x7), (8, vI x8), (9, vL x9), (11, vI x11)]) (st' := [vR 77, vI (1111 * w90), vR 86, vL x9]) B199_128_130 rfl ?_
        refine r_gint (ki := 14) (pc' := 133) D199_130 rfl gf_11_215_77 rfl HN.1 ?_
        intro w93 e94 r95
        have b_w93 := HN.2 77 (14) 0 1110 rfl
        rw [← e94] at b_w93; clear r95
        refine s_blx (lv' := [(0, vR 77), (1, vI s), (2, vI n), (3, vI x3), (4, vL x4), (6, vI x6), (7, vI x7), (8, vI x8), (9, vL x9), (11, vI x11)]) (st' := [vI ((1111 * w90) + w93), vR 86, vL x9]) B199_133_134 rfl ?_
        refine r_lald (pc' := 135) D199_134 rfl sc_86 HN.1 (by omega) ?_
        intro w96 e97 r98
        clear r98
        refine s_blx (lv' := [(11, vI (x11 + 1)), (9, vL (x9 + w96)), (0, vR 77), (1, vI s), (2, vI n), (3, vI x3), (4, vL x4), (6, vI x6), (7, vI x7), (8, vI x8)]) (st' := []) B199_135_141 rfl ?_
        refine r_goto (tgt := 103) D199_141 rfl ?_
        refine r_loc (lv' := [(0, vR 77), (1, vI s), (2, vI n), (3, vI x3), (4, vL x4), (6, vI x6), (7, vI x7), (8, vI x8), (9, vL (x9 + w96)), (11, vI (x11 + 1))]) ⟨rfl, rfl, rfl, rfl, rfl, rfl, rfl, rfl, rfl, rfl, trivial⟩ rfl rfl ?_
        exact ih.2.2 x3 x4 x6 x7 x8 (x9 + w96) (x11 + 1) N HN fN (by omega) (by omega) (by omega) (by omega) (by omega) (by omega) (by omega) (by omega) (by omega) (by omega) (by omega) (by omega) (by omega) (by omega)
set_option maxRecDepth 4000 in
theorem k199x {base : Nat} {X : Nat → Option mC} {G : Nat → Value} (E : EnvOK base X G) {d : Nat} (hd : 4 ≤ d) {M : mH} (H : HI base M) (s : Int) (n : Int) (h0 : TB M) (h1 : 0 ≤ s ∧ s ≤ 15) (h2 : 0 ≤ n ∧ n ≤ 8) : sOk base X G d T199 [vR 77, vI s, vI n] M (pV (fun M' => HI base M' ∧ Fr [(77, 7), (77, 8), (77, 9), (77, 10), (77, 14), (77, 15), (77, 16), (77, 28), (83, 0), (84, 0), (85, 0), (86, 0), (87, 0), (93, 0)] M M')) := by
  have f0 : Fr [(77, 7), (77, 8), (77, 9), (77, 10), (77, 14), (77, 15), (77, 16), (77, 28), (83, 0), (84, 0), (85, 0), (86, 0), (87, 0), (93, 0)] M M := Fr.rf
  refine sOk.of (show sRn base X G d T199 0 [(0, vR 77), (1, vI s), (2, vI n)] [] M _ from ?_)
  refine s_blx (lv' := [(0, vR 77), (1, vI s), (2, vI n)]) (st' := [vI 0, vI n, vI s, vR 77]) B199_0_4 rfl ?_
  refine r_vV (c := 77) (args := [vI s, vI n, vI 0]) (rest := []) (pc' := 7) D199_4 rfl ck_11_virtual_253 TE183 rfl (Nat.le_of_ble_eq_true rfl) ⟨Nat.le_of_ble_eq_true rfl, Nat.le_of_ble_eq_true rfl⟩ sc_77 ⟨rfl, by decide⟩ H.1 (dp_0 hd rfl) (k183x E (dp_n hd rfl) H s n 0 (by omega) (by omega) (by omega)) ?_
  intro M2 q6
  obtain ⟨H3, f4, q5⟩ := q6
  have f7 := f0.tr (f4.up rfl)
  have krs := q5; clear q5
  refine s_blx (lv' := [(0, vR 77), (1, vI s), (2, vI n)]) (st' := [vI n, vI s, vR 77]) B199_7_10 rfl ?_
  refine r_vV (c := 77) (args := [vI s, vI n]) (rest := []) (pc' := 13) D199_10 rfl ck_11_virtual_270 TE198 rfl (Nat.le_of_ble_eq_true rfl) ⟨Nat.le_of_ble_eq_true rfl, Nat.le_of_ble_eq_true rfl⟩ sc_77 ⟨rfl, by decide⟩ H3.1 (dp_0 hd rfl) (k198x E (dp_n hd rfl) H3 s n (by omega) (by omega) (krs)) ?_
  intro M9 q12
  obtain ⟨H10, f11⟩ := q12
  have f13 := f7.tr (f11.up rfl)
  refine s_blx (lv' := [(3, vI 0), (0, vR 77), (1, vI s), (2, vI n)]) (st' := []) B199_13_15 rfl ?_
  refine r_loc (lv' := [(0, vR 77), (1, vI s), (2, vI n), (3, vI 0)]) ⟨rfl, rfl, rfl, rfl, trivial⟩ rfl rfl ?_
  exact (L_k199x E hd H s n h0 h1 h2 (((1111 - 0) * 307 + 306 : Int) + 1).toNat).1 0 M9 H10 f13 (by omega) (by omega) (by omega) (by omega)
set_option maxRecDepth 4000 in
theorem L_k200x {base : Nat} {X : Nat → Option mC} {G : Nat → Value} (E : EnvOK base X G) {d : Nat} (hd : 6 ≤ d) {M : mH} (H : HI base M) (h0 : TB M) (h1 : LN M) : ∀ mz : Nat, (∀ (x1 : Int) (N : mH), HI base N → Fr [(77, 7), (77, 8), (77, 9), (77, 10), (77, 14), (77, 15), (77, 16), (77, 28), (83, 0), (84, 0), (85, 0), (86, 0), (87, 0), (93, 0)] M N → (0 ≤ x1) → (x1 ≤ 16) → (16 - x1) * 1 + 179 < (mz : Int) → sRn base X G d T200 2 [(0, vR 77), (1, vI x1)] [] N (s_Q base (pL (fun v M' => HI base M' ∧ Fr [(77, 7), (77, 8), (77, 9), (77, 10), (77, 14), (77, 15), (77, 16), (77, 28), (83, 0), (84, 0), (85, 0), (86, 0), (87, 0), (93, 0)] M M')))) ∧ (∀ (x1 : Int) (N : mH), HI base N → Fr [(77, 7), (77, 8), (77, 9), (77, 10), (77, 14), (77, 15), (77, 16), (77, 28), (83, 0), (84, 0), (85, 0), (86, 0), (87, 0), (93, 0)] M N → (0 ≤ x1) → (x1 ≤ 8) → (x1 - 0) * 18 + 34 < (mz : Int) → sRn base X G d T200 36 [(0, vR 77), (1, vI x1)] [] N (s_Q base (pL (fun v M' => HI base M' ∧ Fr [(77, 7), (77, 8), (77, 9), (77, 10), (77, 14), (77, 15), (77, 16), (77, 28), (83, 0), (84, 0), (85, 0), (86, 0), (87, 0), (93, 0)] M M')))) ∧ (∀ (x1 x2 : Int) (N : mH), HI base N → Fr [(77, 7), (77, 8), (77, 9), (77, 10), (77, 14), (77, 15), (77, 16), (77, 28), (83, 0), (84, 0), (85, 0), (86, 0), (87, 0), (93, 0)] M N → (1 ≤ x1) → (x1 ≤ 8) → (0 ≤ x2) → (x2 ≤ 16) → (x1 - 0) * 18 + 17 + (16 - x2) * 1 + 0 < (mz : Int) → sRn base X G d T200 43 [(0, vR 77), (1, vI x1), (2, vI x2)] [] N (s_Q base (pL (fun v M' => HI base M' ∧ Fr [(77, 7), (77, 8), (77, 9), (77, 10), (77, 14), (77, 15), (77, 16), (77, 28), (83, 0), (84, 0), (85, 0), (86, 0), (87, 0), (93, 0)] M M')))) ∧ (∀ (x1 x3 : Int) (N : mH), HI base N → Fr [(77, 7), (77, 8), (77, 9), (77, 10), (77, 14), (77, 15), (77, 16), (77, 28), (83, 0), (84, 0), (85, 0), (86, 0), (87, 0), (93, 0)] M N → (0 ≤ x3) → (x3 ≤ 16) → (16 - x3) * 1 + 0 < (mz : Int) → sRn base X G d T200 104 [(0, vR 77), (1, vL x1), (3, vI x3)] [] N (s_Q base (pL (fun v M' => HI base M' ∧ Fr [(77, 7), (77, 8), (77, 9), (77, 10), (77, 14), (77, 15), (77, 16), (77, 28), (83, 0), (84, 0), (85, 0), (86, 0), (87, 0), (93, 0)] M M')))) := by
  have f0 : Fr [(77, 7), (77, 8), (77, 9), (77, 10), (77, 14), (77, 15), (77, 16), (77, 28), (83, 0), (84, 0), (85, 0), (86, 0), (87, 0), (93, 0)] M M := Fr.rf
  intro mz
  induction mz with
  | zero => exact ⟨fun x1 N _ _ z0 z1 z2 => by omega, fun x1 N _ _ z0 z1 z2 => by omega, fun x1 x2 N _ _ z0 z1 z2 z3 z4 => by omega, fun x1 x3 N _ _ z0 z1 z2 => by omega⟩
  | succ mz ih =>
    refine ⟨?_, ?_, ?_, ?_⟩
    · intro x1 N HN fN i0 i1 hmu
      refine s_blx (lv' := [(0, vR 77), (1, vI x1)]) (st' := [vR 77, vI x1]) B200_2_4 rfl ?_
      refine r_gfix (r := 78) (pc' := 7) D200_4 rfl gf_11_13_77 HN.1 ?_
      refine s_blx (lv' := [(0, vR 77), (1, vI x1)]) (st' := [vI 469, vR 78, vI x1]) B200_7_10 rfl ?_
      refine r_iald (pc' := 11) D200_10 rfl sc_78 HN.1 (by omega) ?_
      intro w1 e2 r3
      have b_w1 := HN.2 78 (469) 0 16 (rk_many (by omega))
      rw [← e2] at b_w1; clear r3
      refine r_icmp (tgt := 33) (pc' := 14) D200_11 rfl rfl (by unfold inR; omega) (fun (c4 : w1 ≤ x1) => ?_) (fun (c4 : ¬ (w1 ≤ x1)) => ?_)
      · refine s_blx (lv' := [(1, vI 8), (0, vR 77)]) (st' := []) B200_33_36 rfl ?_
        refine r_loc (lv' := [(0, vR 77), (1, vI 8)]) ⟨rfl, rfl, trivial⟩ rfl rfl ?_
        exact ih.2.1 8 N HN fN (by omega) (by omega) (by omega)
      · refine s_blx (lv' := [(0, vR 77), (1, vI x1)]) (st' := [vI x1, vR 77]) B200_14_16 rfl ?_
        refine r_vIp (c := 77) (args := [vI x1]) (rest := []) (pc' := 19) D200_16 rfl ck_11_virtual_138 TE159 rfl (Nat.le_of_ble_eq_true rfl) ⟨Nat.le_of_ble_eq_true rfl, Nat.le_of_ble_eq_true rfl⟩ sc_77 ⟨rfl, by decide⟩ HN.1 (dp_0 hd rfl) (k159x E (dp_n hd rfl) HN x1 (by omega)) ?_
        intro v5 q9
        obtain ⟨q7, q8⟩ := q9
        refine r_ifc (tgt := 27) (pc' := 22) D200_19 rfl rfl (by unfold inR; omega) (fun (c10 : v5 ≤ 0) => ?_) (fun (c10 : ¬ (v5 ≤ 0)) => ?_)
        · refine s_blx (lv' := [(1, vI (x1 + 1)), (0, vR 77)]) (st' := []) B200_27_30 rfl ?_
          refine r_goto (tgt := 2) D200_30 rfl ?_
          refine r_loc (lv' := [(0, vR 77), (1, vI (x1 + 1))]) ⟨rfl, rfl, trivial⟩ rfl rfl ?_
          exact ih.1 (x1 + 1) N HN fN (by omega) (by omega) (by omega)
        · refine s_blx (lv' := [(0, vR 77), (1, vI x1)]) (st' := [vI x1, vR 77]) B200_22_24 rfl ?_
          refine r_vV (c := 77) (args := [vI x1]) (rest := []) (pc' := 27) D200_24 rfl ck_11_virtual_276 TE197 rfl (Nat.le_of_ble_eq_true rfl) ⟨Nat.le_of_ble_eq_true rfl, Nat.le_of_ble_eq_true rfl⟩ sc_77 ⟨rfl, by decide⟩ HN.1 (dp_0 hd rfl) (k197x E (dp_n hd rfl) HN x1 ((h0.fr fN rfl)) (by omega)) ?_
          intro M12 q15
          obtain ⟨H13, f14⟩ := q15
          have f16 := fN.tr (f14.up rfl)
          refine s_blx (lv' := [(1, vI (x1 + 1)), (0, vR 77)]) (st' := []) B200_27_30 rfl ?_
          refine r_goto (tgt := 2) D200_30 rfl ?_
          refine r_loc (lv' := [(0, vR 77), (1, vI (x1 + 1))]) ⟨rfl, rfl, trivial⟩ rfl rfl ?_
          exact ih.1 (x1 + 1) M12 H13 f16 (by omega) (by omega) (by omega)
    · intro x1 N HN fN i0 i1 hmu
      refine s_blx (lv' := [(0, vR 77), (1, vI x1)]) (st' := [vI 1, vI x1]) B200_36_38 rfl ?_
      refine r_icmp (tgt := 100) (pc' := 41) D200_38 rfl rfl (by unfold inR; omega) (fun (c17 : x1 < 1) => ?_) (fun (c17 : ¬ (x1 < 1)) => ?_)
      · refine s_blx (lv' := [(3, vI 0), (1, vL 0), (0, vR 77)]) (st' := []) B200_100_104 rfl ?_
        refine r_loc (lv' := [(0, vR 77), (1, vL 0), (3, vI 0)]) ⟨rfl, rfl, rfl, trivial⟩ rfl rfl ?_
        exact ih.2.2.2 0 0 N HN fN (by omega) (by omega) (by omega)
      · refine s_blx (lv' := [(2, vI 0), (0, vR 77), (1, vI x1)]) (st' := []) B200_41_43 rfl ?_
        refine r_loc (lv' := [(0, vR 77), (1, vI x1), (2, vI 0)]) ⟨rfl, rfl, rfl, trivial⟩ rfl rfl ?_
        exact ih.2.2.1 x1 0 N HN fN (by omega) (by omega) (by omega) (by omega) (by omega)
    · intro x1 x2 N HN fN i0 i1 i2 i3 hmu
      refine s_blx (lv' := [(0, vR 77), (1, vI x1), (2, vI x2)]) (st' := [vR 77, vI x2]) B200_43_45 rfl ?_
      refine r_gfix (r := 78) (pc' := 48) D200_45 rfl gf_11_13_77 HN.1 ?_
      refine s_blx (lv' := [(0, vR 77), (1, vI x1), (2, vI x2)]) (st' := [vI 469, vR 78, vI x2]) B200_48_51 rfl ?_
      refine r_iald (pc' := 52) D200_51 rfl sc_78 HN.1 (by omega) ?_
      intro w36 e37 r38
      have b_w36 := HN.2 78 (469) 0 16 (rk_many (by omega))
      rw [← e37] at b_w36; clear r38
      refine r_icmp (tgt := 94) (pc' := 55) D200_52 rfl rfl (by unfold inR; omega) (fun (c39 : w36 ≤ x2) => ?_) (fun (c39 : ¬ (w36 ≤ x2)) => ?_)
      · refine s_blx (lv' := [(1, vI (x1 + (-1))), (0, vR 77), (2, vI x2)]) (st' := []) B200_94_97 rfl ?_
        refine r_goto (tgt := 36) D200_97 rfl ?_
        refine r_loc (lv' := [(0, vR 77), (1, vI (x1 + (-1)))]) ⟨rfl, rfl, trivial⟩ rfl rfl ?_
        exact ih.2.1 (x1 + (-1)) N HN fN (by omega) (by omega) (by omega)
      · refine s_blx (lv' := [(0, vR 77), (1, vI x1), (2, vI x2)]) (st' := [vI x2, vR 77]) B200_55_57 rfl ?_
        refine r_vIp (c := 77) (args := [vI x2]) (rest := []) (pc' := 60) D200_57 rfl ck_11_virtual_138 TE159 rfl (Nat.le_of_ble_eq_true rfl) ⟨Nat.le_of_ble_eq_true rfl, Nat.le_of_ble_eq_true rfl⟩ sc_77 ⟨rfl, by decide⟩ HN.1 (dp_0 hd rfl) (k159x E (dp_n hd rfl) HN x2 (by omega)) ?_
        intro v40 q44
        obtain ⟨q42, q43⟩ := q44
        refine r_ifc (tgt := 88) (pc' := 63) D200_60 rfl rfl (by unfold inR; omega) (fun (c45 : v40 ≤ 0) => ?_) (fun (c45 : ¬ (v40 ≤ 0)) => ?_)
        · refine s_blx (lv' := [(2, vI (x2 + 1)), (0, vR 77), (1, vI x1)]) (st' := []) B200_88_91 rfl ?_
          refine r_goto (tgt := 43) D200_91 rfl ?_
          refine r_loc (lv' := [(0, vR 77), (1, vI x1), (2, vI (x2 + 1))]) ⟨rfl, rfl, rfl, trivial⟩ rfl rfl ?_
          exact ih.2.2.1 x1 (x2 + 1) N HN fN (by omega) (by omega) (by omega) (by omega) (by omega)
        · refine s_blx (lv' := [(0, vR 77), (1, vI x1), (2, vI x2)]) (st' := [vI x2, vR 77]) B200_63_65 rfl ?_
          refine r_vIp (c := 77) (args := [vI x2]) (rest := []) (pc' := 68) D200_65 rfl ck_11_virtual_144 TE156 rfl (Nat.le_of_ble_eq_true rfl) ⟨Nat.le_of_ble_eq_true rfl, Nat.le_of_ble_eq_true rfl⟩ sc_77 ⟨rfl, by decide⟩ HN.1 (dp_0 hd rfl) (k156x E (dp_n hd rfl) HN x2 (by omega)) ?_
          intro v46 q50
          obtain ⟨q48, q49⟩ := q50
          refine s_blx (lv' := [(0, vR 77), (1, vI x1), (2, vI x2)]) (st' := [vI x1, vI v46]) B200_68_69 rfl ?_
          refine r_icmp (tgt := 88) (pc' := 72) D200_69 rfl rfl (by unfold inR; omega) (fun (c51 : v46 < x1) => ?_) (fun (c51 : ¬ (v46 < x1)) => ?_)
          · refine s_blx (lv' := [(2, vI (x2 + 1)), (0, vR 77), (1, vI x1)]) (st' := []) B200_88_91 rfl ?_
            refine r_goto (tgt := 43) D200_91 rfl ?_
            refine r_loc (lv' := [(0, vR 77), (1, vI x1), (2, vI (x2 + 1))]) ⟨rfl, rfl, rfl, trivial⟩ rfl rfl ?_
            exact ih.2.2.1 x1 (x2 + 1) N HN fN (by omega) (by omega) (by omega) (by omega) (by omega)
          · refine s_blx (lv' := [(0, vR 77), (1, vI x1), (2, vI x2)]) (st' := [vI x1, vI x2, vR 77]) B200_72_75 rfl ?_
            refine r_vIp (c := 77) (args := [vI x2, vI x1]) (rest := []) (pc' := 78) D200_75 rfl ck_11_virtual_267 TE193 rfl (Nat.le_of_ble_eq_true rfl) ⟨Nat.le_of_ble_eq_true rfl, Nat.le_of_ble_eq_true rfl⟩ sc_77 ⟨rfl, by decide⟩ HN.1 (dp_0 hd rfl) (k193x E (dp_n hd rfl) HN x2 x1 (by omega) (by omega) (by omega) (by omega)) ?_
            intro v52 q55
            have q54 := q55; clear q55
            refine s_blx (lv' := [(0, vR 77), (1, vI x1), (2, vI x2)]) (st' := [vI x2, vI v52]) B200_78_79 rfl ?_
            refine r_icmp (tgt := 88) (pc' := 82) D200_79 rfl rfl (by unfold inR; omega) (fun (c56 : v52 ≠ x2) => ?_) (fun (c56 : ¬ (v52 ≠ x2)) => ?_)
            · refine s_blx (lv' := [(2, vI (x2 + 1)), (0, vR 77), (1, vI x1)]) (st' := []) B200_88_91 rfl ?_
              refine r_goto (tgt := 43) D200_91 rfl ?_
              refine r_loc (lv' := [(0, vR 77), (1, vI x1), (2, vI (x2 + 1))]) ⟨rfl, rfl, rfl, trivial⟩ rfl rfl ?_
              exact ih.2.2.1 x1 (x2 + 1) N HN fN (by omega) (by omega) (by omega) (by omega) (by omega)
            · refine s_blx (lv' := [(0, vR 77), (1, vI x1), (2, vI x2)]) (st' := [vI x1, vI x2, vR 77]) B200_82_85 rfl ?_
              refine r_vV (c := 77) (args := [vI x2, vI x1]) (rest := []) (pc' := 88) D200_85 rfl ck_11_virtual_280 TE199 rfl (Nat.le_of_ble_eq_true rfl) ⟨Nat.le_of_ble_eq_true rfl, Nat.le_of_ble_eq_true rfl⟩ sc_77 ⟨rfl, by decide⟩ HN.1 (dp_0 hd rfl) (k199x E (dp_n hd rfl) HN x2 x1 ((h0.fr fN rfl)) (by omega) (by omega)) ?_
              intro M58 q61
              obtain ⟨H59, f60⟩ := q61
              have f62 := fN.tr (f60.up rfl)
              refine s_blx (lv' := [(2, vI (x2 + 1)), (0, vR 77), (1, vI x1)]) (st' := []) B200_88_91 rfl ?_
              refine r_goto (tgt := 43) D200_91 rfl ?_
              refine r_loc (lv' := [(0, vR 77), (1, vI x1), (2, vI (x2 + 1))]) ⟨rfl, rfl, rfl, trivial⟩ rfl rfl ?_
              exact ih.2.2.1 x1 (x2 + 1) M58 H59 f62 (by omega) (by omega) (by omega) (by omega) (by omega)
    · intro x1 x3 N HN fN i0 i1 hmu
      refine s_blx (lv' := [(0, vR 77), (1, vL x1), (3, vI x3)]) (st' := [vR 77, vI x3]) B200_104_106 rfl ?_
      refine r_gfix (r := 78) (pc' := 109) D200_106 rfl gf_11_13_77 HN.1 ?_
      refine s_blx (lv' := [(0, vR 77), (1, vL x1), (3, vI x3)]) (st' := [vI 469, vR 78, vI x3]) B200_109_112 rfl ?_
      refine r_iald (pc' := 113) D200_112 rfl sc_78 HN.1 (by omega) ?_
      intro w18 e19 r20
      have b_w18 := HN.2 78 (469) 0 16 (rk_many (by omega))
      rw [← e19] at b_w18; clear r20
      refine r_icmp (tgt := 158) (pc' := 116) D200_113 rfl rfl (by unfold inR; omega) (fun (c21 : w18 ≤ x3) => ?_) (fun (c21 : ¬ (w18 ≤ x3)) => ?_)
      · refine s_blx (lv' := [(0, vR 77), (1, vL x1), (3, vI x3)]) (st' := [vL x1]) B200_158_159 rfl ?_
        exact r_lretL D200_159 rfl (⟨HN, fN⟩)
      · refine s_blx (lv' := [(0, vR 77), (1, vL x1), (3, vI x3)]) (st' := [vI x3, vR 77]) B200_116_118 rfl ?_
        refine r_vIp (c := 77) (args := [vI x3]) (rest := []) (pc' := 121) D200_118 rfl ck_11_virtual_138 TE159 rfl (Nat.le_of_ble_eq_true rfl) ⟨Nat.le_of_ble_eq_true rfl, Nat.le_of_ble_eq_true rfl⟩ sc_77 ⟨rfl, by decide⟩ HN.1 (dp_0 hd rfl) (k159x E (dp_n hd rfl) HN x3 (by omega)) ?_
        intro v22 q26
        obtain ⟨q24, q25⟩ := q26
        have kln := (h1.fr fN rfl) x3 (by omega) (by omega)
        refine r_ifc (tgt := 152) (pc' := 124) D200_121 rfl rfl (by unfold inR; omega) (fun (c27 : v22 ≤ 0) => ?_) (fun (c27 : ¬ (v22 ≤ 0)) => ?_)
        · refine s_blx (lv' := [(3, vI (x3 + 1)), (0, vR 77), (1, vL x1)]) (st' := []) B200_152_155 rfl ?_
          refine r_goto (tgt := 104) D200_155 rfl ?_
          refine r_loc (lv' := [(0, vR 77), (1, vL x1), (3, vI (x3 + 1))]) ⟨rfl, rfl, rfl, trivial⟩ rfl rfl ?_
          exact ih.2.2.2 x1 (x3 + 1) N HN fN (by omega) (by omega) (by omega)
        · refine s_blx (lv' := [(0, vR 77), (1, vL x1), (3, vI x3)]) (st' := [vI 1, vI x3, vR 77]) B200_124_127 rfl ?_
          refine r_vIp (c := 77) (args := [vI x3, vI 1]) (rest := []) (pc' := 130) D200_127 rfl ck_11_virtual_267 TE193 rfl (Nat.le_of_ble_eq_true rfl) ⟨Nat.le_of_ble_eq_true rfl, Nat.le_of_ble_eq_true rfl⟩ sc_77 ⟨rfl, by decide⟩ HN.1 (dp_0 hd rfl) (k193x E (dp_n hd rfl) HN x3 1 (by omega) (by omega) (by omega) (by omega)) ?_
          intro v28 q31
          have q30 := q31; clear q31
          refine s_blx (lv' := [(0, vR 77), (1, vL x1), (3, vI x3)]) (st' := [vI x3, vI v28]) B200_130_131 rfl ?_
          refine r_icmp (tgt := 152) (pc' := 134) D200_131 rfl rfl (by unfold inR; omega) (fun (c32 : v28 ≠ x3) => ?_) (fun (c32 : ¬ (v28 ≠ x3)) => ?_)
          · refine s_blx (lv' := [(3, vI (x3 + 1)), (0, vR 77), (1, vL x1)]) (st' := []) B200_152_155 rfl ?_
            refine r_goto (tgt := 104) D200_155 rfl ?_
            refine r_loc (lv' := [(0, vR 77), (1, vL x1), (3, vI (x3 + 1))]) ⟨rfl, rfl, rfl, trivial⟩ rfl rfl ?_
            exact ih.2.2.2 x1 (x3 + 1) N HN fN (by omega) (by omega) (by omega)
          · refine s_blx (lv' := [(0, vR 77), (1, vL x1), (3, vI x3)]) (st' := [vR 77, vL x1]) B200_134_136 rfl ?_
            refine r_gfix (r := 86) (pc' := 139) D200_136 rfl gf_11_40_77 HN.1 ?_
            refine s_blx (lv' := [(0, vR 77), (1, vL x1), (3, vI x3)]) (st' := [vI (1111 * ((9 * x3) + 1)), vR 86, vL x1]) B200_139_149 rfl ?_
            refine r_lald (pc' := 150) D200_149 rfl sc_86 HN.1 (by omega) ?_
            intro w33 e34 r35
            clear r35
            refine s_blx (lv' := [(3, vI (x3 + 1)), (1, vL (x1 + w33)), (0, vR 77)]) (st' := []) B200_150_155 rfl ?_
            refine r_goto (tgt := 104) D200_155 rfl ?_
            refine r_loc (lv' := [(0, vR 77), (1, vL (x1 + w33)), (3, vI (x3 + 1))]) ⟨rfl, rfl, rfl, trivial⟩ rfl rfl ?_
            exact ih.2.2.2 (x1 + w33) (x3 + 1) N HN fN (by omega) (by omega) (by omega)
set_option maxRecDepth 4000 in
theorem k200x {base : Nat} {X : Nat → Option mC} {G : Nat → Value} (E : EnvOK base X G) {d : Nat} (hd : 6 ≤ d) {M : mH} (H : HI base M) (h0 : TB M) (h1 : LN M) : sOk base X G d T200 [vR 77] M (pL (fun v M' => HI base M' ∧ Fr [(77, 7), (77, 8), (77, 9), (77, 10), (77, 14), (77, 15), (77, 16), (77, 28), (83, 0), (84, 0), (85, 0), (86, 0), (87, 0), (93, 0)] M M')) := by
  have f0 : Fr [(77, 7), (77, 8), (77, 9), (77, 10), (77, 14), (77, 15), (77, 16), (77, 28), (83, 0), (84, 0), (85, 0), (86, 0), (87, 0), (93, 0)] M M := Fr.rf
  refine sOk.of (show sRn base X G d T200 0 [(0, vR 77)] [] M _ from ?_)
  refine s_blx (lv' := [(1, vI 0), (0, vR 77)]) (st' := []) B200_0_2 rfl ?_
  refine r_loc (lv' := [(0, vR 77), (1, vI 0)]) ⟨rfl, rfl, trivial⟩ rfl rfl ?_
  exact (L_k200x E hd H h0 h1 (((16 - 0) * 1 + 179 : Int) + 1).toNat).1 0 M H f0 (by omega) (by omega) (by omega)
set_option maxRecDepth 4000 in
theorem k206x {base : Nat} {X : Nat → Option mC} {G : Nat → Value} (E : EnvOK base X G) {d : Nat} (hd : 7 ≤ d) {M : mH} (H : HI base M) (h0 : TB M) (h1 : LN M) : sOk base X G d T206 [vR 77] M (pL (fun v M' => HI base M' ∧ Fr [(77, 7), (77, 8), (77, 9), (77, 10), (77, 14), (77, 15), (77, 16), (77, 26), (77, 28), (83, 0), (84, 0), (85, 0), (86, 0), (87, 0), (93, 0)] M M')) := by
  have f0 : Fr [(77, 7), (77, 8), (77, 9), (77, 10), (77, 14), (77, 15), (77, 16), (77, 26), (77, 28), (83, 0), (84, 0), (85, 0), (86, 0), (87, 0), (93, 0)] M M := Fr.rf
  refine sOk.of (show sRn base X G d T206 0 [(0, vR 77)] [] M _ from ?_)
  refine s_blx (lv' := [(0, vR 77)]) (st' := [vR 77]) B206_0_1 rfl ?_
  refine r_vL (c := 77) (args := []) (rest := []) (pc' := 4) D206_1 rfl ck_11_virtual_283 TE200 rfl (Nat.le_of_ble_eq_true rfl) ⟨Nat.le_of_ble_eq_true rfl, Nat.le_of_ble_eq_true rfl⟩ sc_77 ⟨rfl, by decide⟩ H.1 (dp_0 hd rfl) (k200x E (dp_n hd rfl) H (h0) (h1)) ?_
  intro v1 M2 q5
  obtain ⟨H3, f4⟩ := q5
  have f6 := f0.tr (f4.up rfl)
  refine s_blx (lv' := [(1, vL v1), (0, vR 77)]) (st' := [vI 1, vR 77]) B206_4_7 rfl ?_
  refine r_pbool (ki := 25) (pc' := 10) D206_7 rfl pf_11_273_77 rfl H3 (by omega) (show 0 ≤ 1 ∧ 1 ≤ 1 by omega) ?_
  intro M7 u8 H9 p10
  have f11 := f6.wr u8 rfl
  refine s_blx (lv' := [(1, vL v1), (0, vR 77)]) (st' := [vR 77]) B206_10_11 rfl ?_
  refine r_vL (c := 77) (args := []) (rest := []) (pc' := 14) D206_11 rfl ck_11_virtual_283 TE200 rfl (Nat.le_of_ble_eq_true rfl) ⟨Nat.le_of_ble_eq_true rfl, Nat.le_of_ble_eq_true rfl⟩ sc_77 ⟨rfl, by decide⟩ H9.1 (dp_0 hd rfl) (k200x E (dp_n hd rfl) H9 ((h0.fr f11 rfl)) ((h1.fr f11 rfl))) ?_
  intro v12 M13 q16
  obtain ⟨H14, f15⟩ := q16
  have f17 := f11.tr (f15.up rfl)
  refine s_blx (lv' := [(3, vL v12), (1, vL v1), (0, vR 77)]) (st' := [vI 0, vR 77]) B206_14_17 rfl ?_
  refine r_pbool (ki := 25) (pc' := 20) D206_17 rfl pf_11_273_77 rfl H14 (by omega) (show 0 ≤ 0 ∧ 0 ≤ 1 by omega) ?_
  intro M18 u19 H20 p21
  have f22 := f17.wr u19 rfl
  refine s_blx (lv' := [(3, vL v12), (1, vL v1), (0, vR 77)]) (st' := [vL (v12 - v1)]) B206_20_23 rfl ?_
  exact r_lretL D206_23 rfl (⟨H20, f22⟩)
set_option maxRecDepth 4000 in
theorem k207x {base : Nat} {X : Nat → Option mC} {G : Nat → Value} (E : EnvOK base X G) {d : Nat} (hd : 7 ≤ d) {M : mH} (H : HI base M) (w : Int) (now : Int) (h0 : TB M) (h1 : LN M) (h2 : 0 ≤ w ∧ w ≤ 29) : sOk base X G d T207 [vR 77, vI w, vL now] M (pL (fun v M' => HI base M' ∧ Fr [(77, 7), (77, 8), (77, 9), (77, 10), (77, 14), (77, 15), (77, 16), (77, 28), (78, 0), (83, 0), (84, 0), (85, 0), (86, 0), (87, 0), (93, 0)] M M' ∧ (LN M'))) := by
  have f0 : Fr [(77, 7), (77, 8), (77, 9), (77, 10), (77, 14), (77, 15), (77, 16), (77, 28), (78, 0), (83, 0), (84, 0), (85, 0), (86, 0), (87, 0), (93, 0)] M M := Fr.rf
  refine sOk.of (show sRn base X G d T207 0 [(0, vR 77), (1, vI w), (2, vL now)] [] M _ from ?_)
  refine s_blx (lv' := [(0, vR 77), (1, vI w), (2, vL now)]) (st' := [vR 77]) B207_0_1 rfl ?_
  refine r_gfix (r := 78) (pc' := 4) D207_1 rfl gf_11_13_77 H.1 ?_
  refine s_blx (lv' := [(0, vR 77), (1, vI w), (2, vL now)]) (st' := [vI (0 + w), vR 78]) B207_4_7 rfl ?_
  refine r_iald (pc' := 8) D207_7 rfl sc_78 H.1 (by omega) ?_
  intro w1 e2 r3
  have b_w1 := H.2 78 (0 + w) 0 9 (rk_load (by omega))
  rw [← e2] at b_w1; clear r3
  refine s_blx (lv' := [(4, vI w1), (0, vR 77), (1, vI w), (2, vL now)]) (st' := [vR 77]) B207_8_11 rfl ?_
  refine r_gfix (r := 78) (pc' := 14) D207_11 rfl gf_11_13_77 H.1 ?_
  refine s_blx (lv' := [(4, vI w1), (0, vR 77), (1, vI w), (2, vL now)]) (st' := [vI 0, vI (0 + w), vR 78]) B207_14_18 rfl ?_
  refine r_iast (pc' := 19) D207_18 rfl sc_78 H (by omega) (by unfold inR; omega) (by show s_in (rgK _) _; rw [rk_load (by omega)]; show 0 ≤ 0 ∧ 0 ≤ 9; omega) ?_
  intro M4 u5 H6 p7
  have f8 := f0.wr u5 rfl
  have kln18 := h1.wr78 u5 (by omega)
  refine s_blx (lv' := [(4, vI w1), (0, vR 77), (1, vI w), (2, vL now)]) (st' := [vR 77, vL now]) B207_19_21 rfl ?_
  refine r_vL (c := 77) (args := []) (rest := [vL now]) (pc' := 24) D207_21 rfl ck_11_virtual_283 TE200 rfl (Nat.le_of_ble_eq_true rfl) ⟨Nat.le_of_ble_eq_true rfl, Nat.le_of_ble_eq_true rfl⟩ sc_77 ⟨rfl, by decide⟩ H6.1 (dp_0 hd rfl) (k200x E (dp_n hd rfl) H6 ((h0.fr f8 rfl)) (kln18)) ?_
  intro v9 M10 q13
  obtain ⟨H11, f12⟩ := q13
  have f14 := f8.tr (f12.up rfl)
  have hp15 := kln18.fr f12 (by decide)
  refine s_blx (lv' := [(5, vL (now - v9)), (4, vI w1), (0, vR 77), (1, vI w), (2, vL now)]) (st' := [vR 77]) B207_24_28 rfl ?_
  refine r_gfix (r := 78) (pc' := 31) D207_28 rfl gf_11_13_77 H11.1 ?_
  refine s_blx (lv' := [(5, vL (now - v9)), (4, vI w1), (0, vR 77), (1, vI w), (2, vL now)]) (st' := [vI w1, vI (0 + w), vR 78]) B207_31_36 rfl ?_
  refine r_iast (pc' := 37) D207_36 rfl sc_78 H11 (by omega) (by unfold inR; omega) (by show s_in (rgK _) _; rw [rk_load (by omega)]; show 0 ≤ w1 ∧ w1 ≤ 9; omega) ?_
  intro M16 u17 H18 p19
  have f20 := f14.wr u17 rfl
  have kln36 := hp15.wr78 u17 (by omega)
  refine s_blx (lv' := [(5, vL (now - v9)), (4, vI w1), (0, vR 77), (1, vI w), (2, vL now)]) (st' := [vL (now - v9)]) B207_37_39 rfl ?_
  exact r_lretL D207_39 rfl (⟨H18, f20, kln36⟩)
set_option maxRecDepth 4000 in
theorem L_k209x {base : Nat} {X : Nat → Option mC} {G : Nat → Value} (E : EnvOK base X G) {d : Nat} (hd : 8 ≤ d) {M : mH} (H : HI base M) (w : Int) (h0 : TB M) (h1 : LN M) (h2 : -2147483648 ≤ w ∧ w ≤ 2147483647) : ∀ mz : Nat, (∀ (x2 x4 x5 x7 : Int) (N : mH), HI base N → Fr [(77, 7), (77, 8), (77, 9), (77, 10), (77, 14), (77, 15), (77, 16), (77, 28), (78, 0), (83, 0), (84, 0), (85, 0), (86, 0), (87, 0), (93, 0)] M N → (LN N) → ((-1) ≤ x4) → (x4 ≤ 29) → (0 ≤ x7) → (x7 ≤ 30) → ((-1) ≤ w) → (w ≤ (-1)) → (30 - x7) * 1 + 0 < (mz : Int) → sRn base X G d T209 40 [(0, vR 77), (2, vL x2), (4, vI x4), (5, vL x5), (7, vI x7)] [] N (s_Q base (pL (fun v M' => HI base M' ∧ Fr [(77, 7), (77, 8), (77, 9), (77, 10), (77, 14), (77, 15), (77, 16), (77, 28), (78, 0), (83, 0), (84, 0), (85, 0), (86, 0), (87, 0), (93, 0)] M M' ∧ (LN M'))))) := by
  have f0 : Fr [(77, 7), (77, 8), (77, 9), (77, 10), (77, 14), (77, 15), (77, 16), (77, 28), (78, 0), (83, 0), (84, 0), (85, 0), (86, 0), (87, 0), (93, 0)] M M := Fr.rf
  intro mz
  induction mz with
  | zero => exact fun x2 x4 x5 x7 N _ _ z0 z1 z2 z3 z4 z5 z6 z7 => by omega
  | succ mz ih =>
    intro x2 x4 x5 x7 N HN fN i0 i1 i2 i3 i4 i5 i6 hmu
    refine s_blx (lv' := [(0, vR 77), (2, vL x2), (4, vI x4), (5, vL x5), (7, vI x7)]) (st' := [vI 30, vI x7]) B209_40_44 rfl ?_
    refine r_icmp (tgt := 105) (pc' := 47) D209_44 rfl rfl (by unfold inR; omega) (fun (c23 : 30 ≤ x7) => ?_) (fun (c23 : ¬ (30 ≤ x7)) => ?_)
    · refine s_blx (lv' := [(0, vR 77), (2, vL x2), (4, vI x4), (5, vL x5), (7, vI x7)]) (st' := [vI x4]) B209_105_107 rfl ?_
      refine r_i2l (pc' := 108) D209_107 rfl (by unfold inR; omega) ?_
      exact r_lretL D209_108 rfl (⟨HN, fN, i0⟩)
    · refine s_blx (lv' := [(0, vR 77), (2, vL x2), (4, vI x4), (5, vL x5), (7, vI x7)]) (st' := [vI x7, vR 77]) B209_47_50 rfl ?_
      refine r_vIp (c := 77) (args := [vI x7]) (rest := []) (pc' := 53) D209_50 rfl ck_11_virtual_302 TE208 rfl (Nat.le_of_ble_eq_true rfl) ⟨Nat.le_of_ble_eq_true rfl, Nat.le_of_ble_eq_true rfl⟩ sc_77 ⟨rfl, by decide⟩ HN.1 (dp_0 hd rfl) (k208 E (dp_n hd rfl) HN x7 (by omega)) ?_
      intro v24 q27
      have q26 := q27; clear q27
      refine r_ifc (tgt := 99) (pc' := 56) D209_53 rfl rfl (by unfold inR; omega) (fun (c28 : v24 = 0) => ?_) (fun (c28 : ¬ (v24 = 0)) => ?_)
      · refine s_blx (lv' := [(7, vI (x7 + 1)), (0, vR 77), (2, vL x2), (4, vI x4), (5, vL x5)]) (st' := []) B209_99_102 rfl ?_
        refine r_goto (tgt := 40) D209_102 rfl ?_
        refine r_loc (lv' := [(0, vR 77), (2, vL x2), (4, vI x4), (5, vL x5), (7, vI (x7 + 1))]) ⟨rfl, rfl, rfl, rfl, rfl, trivial⟩ rfl rfl ?_
        exact ih x2 x4 x5 (x7 + 1) N HN fN (i0) (by omega) (by omega) (by omega) (by omega) (by omega) (by omega) (by omega)
      · refine s_blx (lv' := [(0, vR 77), (2, vL x2), (4, vI x4), (5, vL x5), (7, vI x7)]) (st' := [vR 77]) B209_56_57 rfl ?_
        refine r_gfix (r := 78) (pc' := 60) D209_57 rfl gf_11_13_77 HN.1 ?_
        refine s_blx (lv' := [(0, vR 77), (2, vL x2), (4, vI x4), (5, vL x5), (7, vI x7)]) (st' := [vI (0 + x7), vR 78]) B209_60_64 rfl ?_
        refine r_iald (pc' := 65) D209_64 rfl sc_78 HN.1 (by omega) ?_
        intro w29 e30 r31
        have b_w29 := HN.2 78 (0 + x7) 0 9 (rk_load (by omega))
        rw [← e30] at b_w29; clear r31
        refine r_ifc (tgt := 71) (pc' := 68) D209_65 rfl rfl (by unfold inR; omega) (fun (c32 : w29 ≠ 0) => ?_) (fun (c32 : ¬ (w29 ≠ 0)) => ?_)
        · refine s_blx (lv' := [(0, vR 77), (2, vL x2), (4, vI x4), (5, vL x5), (7, vI x7)]) (st' := [vL x2, vI x7, vR 77]) B209_71_75 rfl ?_
          refine r_vL (c := 77) (args := [vI x7, vL x2]) (rest := []) (pc' := 78) D209_75 rfl ck_11_virtual_298 TE207 rfl (Nat.le_of_ble_eq_true rfl) ⟨Nat.le_of_ble_eq_true rfl, Nat.le_of_ble_eq_true rfl⟩ sc_77 ⟨rfl, by decide⟩ HN.1 (dp_0 hd rfl) (k207x E (dp_n hd rfl) HN x7 x2 ((h0.fr fN rfl)) (i0) (by omega)) ?_
          intro v33 M34 q38
          obtain ⟨H35, f36, q37⟩ := q38
          have f39 := fN.tr (f36.up rfl)
          refine s_blx (lv' := [(8, vL v33), (0, vR 77), (2, vL x2), (4, vI x4), (5, vL x5), (7, vI x7)]) (st' := [vL x5, vL v33]) B209_78_84 rfl ?_
          refine r_lcmp (pc' := 85) D209_84 rfl ?_
          intro z40 r41 r42
          refine r_ifc (tgt := 91) (pc' := 88) D209_85 rfl rfl (by unfold inR; omega) (fun (c43 : 0 < z40) => ?_) (fun (c43 : ¬ (0 < z40)) => ?_)
          · refine s_blx (lv' := [(7, vI (x7 + 1)), (4, vI x7), (5, vL v33), (8, vL v33), (0, vR 77), (2, vL x2)]) (st' := []) B209_91_102 rfl ?_
            refine r_goto (tgt := 40) D209_102 rfl ?_
            refine r_loc (lv' := [(0, vR 77), (2, vL x2), (4, vI x7), (5, vL v33), (7, vI (x7 + 1))]) ⟨rfl, rfl, rfl, rfl, rfl, trivial⟩ rfl rfl ?_
            exact ih x2 x7 v33 (x7 + 1) M34 H35 f39 (q37) (by omega) (by omega) (by omega) (by omega) (by omega) (by omega) (by omega)
          · refine r_goto (tgt := 99) D209_88 rfl ?_
            refine s_blx (lv' := [(7, vI (x7 + 1)), (8, vL v33), (0, vR 77), (2, vL x2), (4, vI x4), (5, vL x5)]) (st' := []) B209_99_102 rfl ?_
            refine r_goto (tgt := 40) D209_102 rfl ?_
            refine r_loc (lv' := [(0, vR 77), (2, vL x2), (4, vI x4), (5, vL x5), (7, vI (x7 + 1))]) ⟨rfl, rfl, rfl, rfl, rfl, trivial⟩ rfl rfl ?_
            exact ih x2 x4 x5 (x7 + 1) M34 H35 f39 (q37) (by omega) (by omega) (by omega) (by omega) (by omega) (by omega) (by omega)
        · refine r_goto (tgt := 99) D209_68 rfl ?_
          refine s_blx (lv' := [(7, vI (x7 + 1)), (0, vR 77), (2, vL x2), (4, vI x4), (5, vL x5)]) (st' := []) B209_99_102 rfl ?_
          refine r_goto (tgt := 40) D209_102 rfl ?_
          refine r_loc (lv' := [(0, vR 77), (2, vL x2), (4, vI x4), (5, vL x5), (7, vI (x7 + 1))]) ⟨rfl, rfl, rfl, rfl, rfl, trivial⟩ rfl rfl ?_
          exact ih x2 x4 x5 (x7 + 1) N HN fN (i0) (by omega) (by omega) (by omega) (by omega) (by omega) (by omega) (by omega)
set_option maxRecDepth 4000 in
theorem k209x {base : Nat} {X : Nat → Option mC} {G : Nat → Value} (E : EnvOK base X G) {d : Nat} (hd : 8 ≤ d) {M : mH} (H : HI base M) (w : Int) (h0 : TB M) (h1 : LN M) (h2 : -2147483648 ≤ w ∧ w ≤ 2147483647) : sOk base X G d T209 [vR 77, vI w] M (pL (fun v M' => HI base M' ∧ Fr [(77, 7), (77, 8), (77, 9), (77, 10), (77, 14), (77, 15), (77, 16), (77, 28), (78, 0), (83, 0), (84, 0), (85, 0), (86, 0), (87, 0), (93, 0)] M M' ∧ (LN M'))) := by
  have f0 : Fr [(77, 7), (77, 8), (77, 9), (77, 10), (77, 14), (77, 15), (77, 16), (77, 28), (78, 0), (83, 0), (84, 0), (85, 0), (86, 0), (87, 0), (93, 0)] M M := Fr.rf
  refine sOk.of (show sRn base X G d T209 0 [(0, vR 77), (1, vI w)] [] M _ from ?_)
  refine s_blx (lv' := [(0, vR 77), (1, vI w)]) (st' := [vI 29, vI (-1), vI w]) B209_0_4 rfl ?_
  refine r_sIp (args := [vI w, vI (-1), vI 29]) (rest := []) (pc' := 7) D209_4 rfl ck_11_static_123 TE147 rfl (Nat.le_of_ble_eq_true rfl) ⟨Nat.le_of_ble_eq_true rfl, Nat.le_of_ble_eq_true rfl⟩ (by decide) (dp_0 hd rfl) (k147 E (dp_n hd rfl) H w (-1) 29 (by omega) (by omega) (by omega)) ?_
  intro v1 q6
  obtain ⟨q3, q4, q5⟩ := q6
  refine r_ifc (tgt := 14) (pc' := 10) D209_7 rfl rfl (by unfold inR; omega) (fun (c7 : v1 ≠ 0) => ?_) (fun (c7 : ¬ (v1 ≠ 0)) => ?_)
  · refine s_blx (lv' := [(0, vR 77), (1, vI w)]) (st' := [vR 77]) B209_14_15 rfl ?_
    refine r_vL (c := 77) (args := []) (rest := []) (pc' := 18) D209_15 rfl ck_11_virtual_283 TE200 rfl (Nat.le_of_ble_eq_true rfl) ⟨Nat.le_of_ble_eq_true rfl, Nat.le_of_ble_eq_true rfl⟩ sc_77 ⟨rfl, by decide⟩ H.1 (dp_0 hd rfl) (k200x E (dp_n hd rfl) H (h0) (h1)) ?_
    intro v8 M9 q12
    obtain ⟨H10, f11⟩ := q12
    have f13 := f0.tr (f11.up rfl)
    have hp14 := h1.fr f11 (by decide)
    refine s_blx (lv' := [(2, vL v8), (0, vR 77), (1, vI w)]) (st' := [vI (-1), vI w]) B209_18_21 rfl ?_
    refine r_icmp (tgt := 31) (pc' := 24) D209_21 rfl rfl (by unfold inR; omega) (fun (c15 : w = (-1)) => ?_) (fun (c15 : ¬ (w = (-1))) => ?_)
    · refine s_blx (lv' := [(7, vI 0), (5, vL 0), (4, vI (-1)), (2, vL v8), (0, vR 77), (1, vI w)]) (st' := []) B209_31_40 rfl ?_
      refine r_loc (lv' := [(0, vR 77), (2, vL v8), (4, vI (-1)), (5, vL 0), (7, vI 0)]) ⟨rfl, rfl, rfl, rfl, rfl, trivial⟩ rfl rfl ?_
      exact (L_k209x E hd H w h0 h1 h2 (((30 - 0) * 1 + 0 : Int) + 1).toNat) v8 (-1) 0 0 M9 H10 f13 (hp14) (by omega) (by omega) (by omega) (by omega) (by omega) (by omega) (by omega)
    · refine s_blx (lv' := [(2, vL v8), (0, vR 77), (1, vI w)]) (st' := [vL v8, vI w, vR 77]) B209_24_27 rfl ?_
      refine r_vL (c := 77) (args := [vI w, vL v8]) (rest := []) (pc' := 30) D209_27 rfl ck_11_virtual_298 TE207 rfl (Nat.le_of_ble_eq_true rfl) ⟨Nat.le_of_ble_eq_true rfl, Nat.le_of_ble_eq_true rfl⟩ sc_77 ⟨rfl, by decide⟩ H10.1 (dp_0 hd rfl) (k207x E (dp_n hd rfl) H10 w v8 ((h0.fr f13 rfl)) (hp14) (by omega)) ?_
      intro v16 M17 q21
      obtain ⟨H18, f19, q20⟩ := q21
      have f22 := f13.tr (f19.up rfl)
      exact r_lretL D209_30 rfl (⟨H18, f22, q20⟩)
  · refine r_ldc2 (e := (-1)) (pc' := 13) D209_10 rfl cl_11_296 (by decide) ?_
    exact r_lretL D209_13 rfl (⟨H, f0, h1⟩)
