/-! The class takes a sentence: its tape holds words. -/
noncomputable def TC (n : Int) (M : mH) : Prop := ∀ j : Int, 0 ≤ j → j < n → gi M 13 j ≤ 29
theorem TC.of {n : Int} {M M' : mH} (h : TC n M) (e : ∀ j : Int, gi M' 13 j = gi M 13 j) : TC n M' := by
  intro j h1 h2; rw [e]; exact h j h1 h2
theorem TC.fr {n : Int} {L : List (Nat × Nat)} {M M' : mH} (h : TC n M) (f : Fr L M M') (hc : s_al L (fun c => c != 13) = true) : TC n M' := h.of (fun _ => f.g (s_al_ok hc (by simp)))
theorem TC.wr {n : Int} {M M' : mH} {c i : Nat} {v : Value} (h : TC n M) (u : Wr M c i v M') (hc : c ≠ 13) : TC n M' := h.of (fun j => by unfold gi; rw [u.ne (Or.inl (Ne.symm hc))])
theorem TC.zero {M : mH} : TC 0 M := fun j h1 h2 => by omega
theorem TC.next {k : Int} {M : mH} (h : TC k M) (hk : gi M 13 k ≤ 29) : TC (k + 1) M := by
  intro j h1 h2
  by_cases e : j = k
  · rw [e]; exact hk
  · exact h j h1 (by omega)
theorem TC.mono {k n : Int} {M : mH} (h : TC k M) (hn : n ≤ k) : TC n M := fun j h1 h2 => h j h1 (by omega)
noncomputable def T60 : mT := (8, yX8_addRow, cX8_addRow, 5, (some .int))
set_option maxRecDepth 10000 in
theorem TE60 : sy_m[60]? = some T60 := rfl
theorem B60_0_1 : s_dk T60.2.2.1 0 [.aload_n 0] 1 = true := by decide +kernel
theorem D60_1 : decode T60.2.2.1 1 = .ok (.getfield 43, 3) := by decide +kernel
theorem B60_4_8 : s_dk T60.2.2.1 4 [.istore_n 3, .aload_n 1, .iconst 0, .aload_n 0] 8 = true := by decide +kernel
theorem D60_8 : decode T60.2.2.1 8 = .ok (.getfield 31, 3) := by decide +kernel
theorem B60_11_16 : s_dk T60.2.2.1 11 [.iload_n 3, .bipush 8, .imul, .iload_n 2] 16 = true := by decide +kernel
theorem D60_16 : decode T60.2.2.1 16 = .ok (.invokestatic 70, 3) := by decide +kernel
theorem mc_8_static_70 : m_call 8 (.invokestatic 70) = none := by decide +kernel
theorem sp_8_70 : m_sp 8 70 = some 1 := by decide +kernel
theorem B60_19_20 : s_dk T60.2.2.1 19 [.aload_n 0] 20 = true := by decide +kernel
theorem D60_20 : decode T60.2.2.1 20 = .ok (.getfield 34, 3) := by decide +kernel
theorem B60_23_25 : s_dk T60.2.2.1 23 [.iload_n 3, .iload_n 2] 25 = true := by decide +kernel
theorem D60_25 : decode T60.2.2.1 25 = .ok (.iastore, 1) := by decide +kernel
theorem B60_26_29 : s_dk T60.2.2.1 26 [.iconst 0, .istore 4] 29 = true := by decide +kernel
theorem B60_29_32 : s_dk T60.2.2.1 29 [.iload 4, .iconst 4] 32 = true := by decide +kernel
theorem D60_32 : decode T60.2.2.1 32 = .ok (.if_icmp .ge 21, 3) := by decide +kernel
theorem B60_35_36 : s_dk T60.2.2.1 35 [.aload_n 0] 36 = true := by decide +kernel
theorem D60_36 : decode T60.2.2.1 36 = .ok (.getfield 40, 3) := by decide +kernel
theorem B60_39_46 : s_dk T60.2.2.1 39 [.iload_n 3, .iconst 4, .imul, .iload 4, .iadd, .iconst 1] 46 = true := by decide +kernel
theorem D60_46 : decode T60.2.2.1 46 = .ok (.iastore, 1) := by decide +kernel
theorem B60_47_50 : s_dk T60.2.2.1 47 [.iinc 4 1] 50 = true := by decide +kernel
theorem D60_50 : decode T60.2.2.1 50 = .ok (.goto (-21), 3) := by decide +kernel
theorem B60_53_55 : s_dk T60.2.2.1 53 [.aload_n 0, .dup] 55 = true := by decide +kernel
theorem D60_55 : decode T60.2.2.1 55 = .ok (.getfield 43, 3) := by decide +kernel
theorem B60_58_60 : s_dk T60.2.2.1 58 [.iconst 1, .iadd] 60 = true := by decide +kernel
theorem pf_8_43_1 : s_pf 8 43 1 = some (10, 1) := by decide +kernel
theorem D60_60 : decode T60.2.2.1 60 = .ok (.putfield 43, 3) := by decide +kernel
theorem B60_63_64 : s_dk T60.2.2.1 63 [.iload_n 3] 64 = true := by decide +kernel
theorem D60_64 : decode T60.2.2.1 64 = .ok (.ireturn, 1) := by decide +kernel
noncomputable def T101 : mT := (10, yX10_sentence, cX10_sentence, 6, (some .int))
set_option maxRecDepth 10000 in
theorem TE101 : sy_m[101]? = some T101 := rfl
theorem B101_0_1 : s_dk T101.2.2.1 0 [.aload_n 0] 1 = true := by decide +kernel
theorem D101_1 : decode T101.2.2.1 1 = .ok (.invokevirtual 149, 3) := by decide +kernel
theorem B101_4_7 : s_dk T101.2.2.1 4 [.istore 4, .iload_n 1] 7 = true := by decide +kernel
theorem D101_7 : decode T101.2.2.1 7 = .ok (.invokestatic 153, 3) := by decide +kernel
theorem D101_10 : decode T101.2.2.1 10 = .ok (.ifCond .eq 17, 3) := by decide +kernel
theorem B101_27_29 : s_dk T101.2.2.1 27 [.aload_n 0, .iconst (-1)] 29 = true := by decide +kernel
theorem D101_29 : decode T101.2.2.1 29 = .ok (.invokevirtual 106, 3) := by decide +kernel
theorem D101_32 : decode T101.2.2.1 32 = .ok (.ireturn, 1) := by decide +kernel
theorem B101_13_14 : s_dk T101.2.2.1 13 [.iload_n 2] 14 = true := by decide +kernel
theorem D101_14 : decode T101.2.2.1 14 = .ok (.invokestatic 153, 3) := by decide +kernel
theorem D101_17 : decode T101.2.2.1 17 = .ok (.ifCond .eq 10, 3) := by decide +kernel
theorem B101_20_21 : s_dk T101.2.2.1 20 [.iload_n 3] 21 = true := by decide +kernel
theorem D101_21 : decode T101.2.2.1 21 = .ok (.invokestatic 153, 3) := by decide +kernel
theorem D101_24 : decode T101.2.2.1 24 = .ok (.ifCond .ne 9, 3) := by decide +kernel
theorem B101_33_36 : s_dk T101.2.2.1 33 [.aload_n 0, .iload 4] 36 = true := by decide +kernel
theorem D101_36 : decode T101.2.2.1 36 = .ok (.invokevirtual 156, 3) := by decide +kernel
theorem ck_10_virtual_156 : m_call 10 (.invokevirtual 156) = some (0, 137, 1) := by decide +kernel
theorem D101_39 : decode T101.2.2.1 39 = .ok (.ifCond .ne 10, 3) := by decide +kernel
theorem B101_49_50 : s_dk T101.2.2.1 49 [.aload_n 0] 50 = true := by decide +kernel
theorem D101_50 : decode T101.2.2.1 50 = .ok (.getfield 10, 3) := by decide +kernel
theorem B101_53_54 : s_dk T101.2.2.1 53 [.aload_n 0] 54 = true := by decide +kernel
theorem D101_54 : decode T101.2.2.1 54 = .ok (.getfield 20, 3) := by decide +kernel
theorem B101_57_59 : s_dk T101.2.2.1 57 [.iload 4] 59 = true := by decide +kernel
theorem D101_59 : decode T101.2.2.1 59 = .ok (.invokevirtual 159, 3) := by decide +kernel
theorem ck_10_virtual_159 : m_call 10 (.invokevirtual 159) = some (0, 64, 2) := by decide +kernel
theorem D101_62 : decode T101.2.2.1 62 = .ok (.ifCond .eq 10, 3) := by decide +kernel
theorem B101_72_73 : s_dk T101.2.2.1 72 [.aload_n 0] 73 = true := by decide +kernel
theorem D101_73 : decode T101.2.2.1 73 = .ok (.getfield 10, 3) := by decide +kernel
theorem D101_76 : decode T101.2.2.1 76 = .ok (.getfield 163, 3) := by decide +kernel
theorem B101_79_81 : s_dk T101.2.2.1 79 [.bipush 16] 81 = true := by decide +kernel
theorem D101_81 : decode T101.2.2.1 81 = .ok (.if_icmp .lt 10, 3) := by decide +kernel
theorem B101_91_92 : s_dk T101.2.2.1 91 [.aload_n 0] 92 = true := by decide +kernel
theorem D101_92 : decode T101.2.2.1 92 = .ok (.getfield 10, 3) := by decide +kernel
theorem B101_95_96 : s_dk T101.2.2.1 95 [.aload_n 0] 96 = true := by decide +kernel
theorem D101_96 : decode T101.2.2.1 96 = .ok (.getfield 20, 3) := by decide +kernel
theorem B101_99_101 : s_dk T101.2.2.1 99 [.iload 4] 101 = true := by decide +kernel
theorem D101_101 : decode T101.2.2.1 101 = .ok (.invokevirtual 166, 3) := by decide +kernel
theorem ck_10_virtual_166 : m_call 10 (.invokevirtual 166) = some (0, 60, 2) := by decide +kernel
theorem B101_104_107 : s_dk T101.2.2.1 104 [.istore 5, .aload_n 0] 107 = true := by decide +kernel
theorem D101_107 : decode T101.2.2.1 107 = .ok (.getfield 10, 3) := by decide +kernel
theorem B101_110_115 : s_dk T101.2.2.1 110 [.iload 5, .iload_n 1, .iload_n 2, .iload_n 3] 115 = true := by decide +kernel
theorem D101_115 : decode T101.2.2.1 115 = .ok (.invokevirtual 170, 3) := by decide +kernel
theorem ck_10_virtual_170 : m_call 10 (.invokevirtual 170) = some (0, 61, 4) := by decide +kernel
theorem B101_118_121 : s_dk T101.2.2.1 118 [.aload_n 0, .iload 5] 121 = true := by decide +kernel
theorem D101_121 : decode T101.2.2.1 121 = .ok (.invokevirtual 123, 3) := by decide +kernel
theorem D101_124 : decode T101.2.2.1 124 = .ok (.ireturn, 1) := by decide +kernel
theorem B101_84_87 : s_dk T101.2.2.1 84 [.aload_n 0, .bipush (-5)] 87 = true := by decide +kernel
theorem D101_87 : decode T101.2.2.1 87 = .ok (.invokevirtual 106, 3) := by decide +kernel
theorem D101_90 : decode T101.2.2.1 90 = .ok (.ireturn, 1) := by decide +kernel
theorem B101_65_68 : s_dk T101.2.2.1 65 [.aload_n 0, .bipush (-4)] 68 = true := by decide +kernel
theorem D101_68 : decode T101.2.2.1 68 = .ok (.invokevirtual 106, 3) := by decide +kernel
theorem D101_71 : decode T101.2.2.1 71 = .ok (.ireturn, 1) := by decide +kernel
theorem B101_42_45 : s_dk T101.2.2.1 42 [.aload_n 0, .bipush (-6)] 45 = true := by decide +kernel
theorem D101_45 : decode T101.2.2.1 45 = .ok (.invokevirtual 106, 3) := by decide +kernel
theorem D101_48 : decode T101.2.2.1 48 = .ok (.ireturn, 1) := by decide +kernel