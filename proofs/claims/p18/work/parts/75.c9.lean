/-! The habits of the state. -/
noncomputable def HB (base : Nat) (M : mH) : Prop := ∀ t : Int, 0 ≤ t → t < gi M 1 12 → ∃ (hb : Nat) (nh nc : Int), hv M 9 t.toNat = .ref (base + hb) ∧ IsHab base hb nh nc M ∧ (0 ≤ nh ∧ nh ≤ 12) ∧ 0 ≤ nc ∧ nc ≤ 400
theorem IsHab.nc {base hb : Nat} {nh nc : Int} {M : mH} (h : IsHab base hb nh nc M) : 0 ≤ nc ∧ nc ≤ 400 := by
  have h1 := h.ic.2.2.1.2.1
  have h2 := h.ic.2.2.2.1
  omega
theorem HB.fr {base : Nat} {L : List (Nat × Nat)} {M M' : mH} (h : HB base M) (f : Fr L M M') (hc : (s_al L (fun c => decide (c < 111) && c != 9) && !s_md L 1 12) = true) : HB base M' := by
  rw [Bool.and_eq_true] at hc
  have hc9 : ∀ i, s_md L 9 i = false := fun i => s_al_ok hc.1 (by simp)
  have hl : s_al L (fun c => decide (c < 111)) = true := by
    have := hc.1
    unfold s_al at this ⊢
    rw [List.all_eq_true] at this ⊢
    intro q hq
    have := this q hq
    rw [Bool.and_eq_true] at this
    exact this.1
  intro t h1 h2
  have e : gi M' 1 12 = gi M 1 12 := f.g (i := 12) (by simpa using hc.2)
  rw [e] at h2
  obtain ⟨hb, nh, nc, a, b, c⟩ := h t h1 h2
  exact ⟨hb, nh, nc, by rw [(f.2.2 9).2.2 _ (hc9 _)]; exact a, b.fr f hl, c⟩
theorem HB.wr {base : Nat} {M M' : mH} {c i : Nat} {v : Value} (h : HB base M) (u : Wr M c i v M') (hc : c < 111 ∧ c ≠ 9 ∧ (c ≠ 1 ∨ i ≠ 12)) : HB base M' := by
  intro t h1 h2
  have e : gi M' 1 12 = gi M 1 12 := by
    unfold gi
    rw [if_pos (by decide), if_pos (by decide), u.ne]
    rcases hc.2.2 with q | q
    · exact Or.inl (Ne.symm q)
    · exact Or.inr (Ne.symm q)
  rw [e] at h2
  obtain ⟨hb, nh, nc, a, b, c⟩ := h t h1 h2
  exact ⟨hb, nh, nc, by rw [u.ne (Or.inl (Ne.symm hc.2.1))]; exact a, b.wr u hc.1, c⟩
noncomputable def T66 : mT := (8, yX8_isHabit, cX8_isHabit, 2, (some .boolean))
set_option maxRecDepth 10000 in
theorem TE66 : sy_m[66]? = some T66 := rfl
theorem B66_0_3 : s_dk T66.2.2.1 0 [.iload_n 1, .iconst 0, .aload_n 0] 3 = true := by decide +kernel
theorem gf_8_52_1 : s_gf 8 52 1 = some (12, 1) := by decide +kernel
theorem D66_3 : decode T66.2.2.1 3 = .ok (.getfield 52, 3) := by decide +kernel
theorem B66_6_8 : s_dk T66.2.2.1 6 [.iconst 1, .isub] 8 = true := by decide +kernel
theorem D66_8 : decode T66.2.2.1 8 = .ok (.invokestatic 80, 3) := by decide +kernel
theorem D66_11 : decode T66.2.2.1 11 = .ok (.ifCond .eq 16, 3) := by decide +kernel
theorem B66_27_28 : s_dk T66.2.2.1 27 [.iconst 0] 28 = true := by decide +kernel
theorem D66_28 : decode T66.2.2.1 28 = .ok (.ireturn, 1) := by decide +kernel
theorem B66_14_15 : s_dk T66.2.2.1 14 [.aload_n 0] 15 = true := by decide +kernel
theorem gf_8_48_1 : s_gf 8 48 1 = some (11, 12) := by decide +kernel
theorem D66_15 : decode T66.2.2.1 15 = .ok (.getfield 48, 3) := by decide +kernel
theorem B66_18_19 : s_dk T66.2.2.1 18 [.iload_n 1] 19 = true := by decide +kernel
theorem D66_19 : decode T66.2.2.1 19 = .ok (.aaload, 1) := by decide +kernel
theorem D66_20 : decode T66.2.2.1 20 = .ok (.ifnull 7, 3) := by decide +kernel
theorem B66_23_24 : s_dk T66.2.2.1 23 [.iconst 1] 24 = true := by decide +kernel
theorem D66_24 : decode T66.2.2.1 24 = .ok (.goto 4, 3) := by decide +kernel
noncomputable def T114 : mT := (10, yX10_run, cX10_run, 3, (some .int))
set_option maxRecDepth 10000 in
theorem TE114 : sy_m[114]? = some T114 := rfl
theorem B114_0_1 : s_dk T114.2.2.1 0 [.aload_n 0] 1 = true := by decide +kernel
theorem D114_1 : decode T114.2.2.1 1 = .ok (.getfield 10, 3) := by decide +kernel
theorem B114_4_5 : s_dk T114.2.2.1 4 [.iload_n 1] 5 = true := by decide +kernel
theorem D114_5 : decode T114.2.2.1 5 = .ok (.invokevirtual 249, 3) := by decide +kernel
theorem ck_10_virtual_249 : m_call 10 (.invokevirtual 249) = some (0, 66, 1) := by decide +kernel
theorem D114_8 : decode T114.2.2.1 8 = .ok (.ifCond .eq 14, 3) := by decide +kernel
theorem B114_22_23 : s_dk T114.2.2.1 22 [.iconst (-1)] 23 = true := by decide +kernel
theorem D114_23 : decode T114.2.2.1 23 = .ok (.ireturn, 1) := by decide +kernel
theorem B114_11_12 : s_dk T114.2.2.1 11 [.aload_n 0] 12 = true := by decide +kernel
theorem D114_12 : decode T114.2.2.1 12 = .ok (.getfield 10, 3) := by decide +kernel
theorem B114_15_16 : s_dk T114.2.2.1 15 [.iload_n 2] 16 = true := by decide +kernel
theorem D114_16 : decode T114.2.2.1 16 = .ok (.invokevirtual 186, 3) := by decide +kernel
theorem D114_19 : decode T114.2.2.1 19 = .ok (.ifCond .ne 5, 3) := by decide +kernel
theorem B114_24_25 : s_dk T114.2.2.1 24 [.aload_n 0] 25 = true := by decide +kernel
theorem D114_25 : decode T114.2.2.1 25 = .ok (.invokevirtual 252, 3) := by decide +kernel
theorem ck_10_virtual_252 : m_call 10 (.invokevirtual 252) = some (0, 138, 0) := by decide +kernel
theorem B114_28_29 : s_dk T114.2.2.1 28 [.aload_n 0] 29 = true := by decide +kernel
theorem D114_29 : decode T114.2.2.1 29 = .ok (.getfield 74, 3) := by decide +kernel
theorem B114_32_33 : s_dk T114.2.2.1 32 [.aload_n 0] 33 = true := by decide +kernel
theorem D114_33 : decode T114.2.2.1 33 = .ok (.getfield 44, 3) := by decide +kernel
theorem B114_36_37 : s_dk T114.2.2.1 36 [.aload_n 0] 37 = true := by decide +kernel
theorem D114_37 : decode T114.2.2.1 37 = .ok (.getfield 10, 3) := by decide +kernel
theorem gf_10_255_1 : s_gf 10 255 1 = some (11, 12) := by decide +kernel
theorem D114_40 : decode T114.2.2.1 40 = .ok (.getfield 255, 3) := by decide +kernel
theorem B114_43_44 : s_dk T114.2.2.1 43 [.iload_n 1] 44 = true := by decide +kernel
theorem D114_44 : decode T114.2.2.1 44 = .ok (.aaload, 1) := by decide +kernel
theorem B114_45_46 : s_dk T114.2.2.1 45 [.iload_n 2] 46 = true := by decide +kernel
theorem D114_46 : decode T114.2.2.1 46 = .ok (.invokevirtual 259, 3) := by decide +kernel
theorem ck_10_virtual_259 : m_call 10 (.invokevirtual 259) = some (0, 1, 3) := by decide +kernel
theorem D114_49 : decode T114.2.2.1 49 = .ok (.ireturn, 1) := by decide +kernel
noncomputable def T116 : mT := (10, yX10_worth, cX10_worth, 5, (some .long))
set_option maxRecDepth 10000 in
theorem TE116 : sy_m[116]? = some T116 := rfl
theorem B116_0_1 : s_dk T116.2.2.1 0 [.aload_n 0] 1 = true := by decide +kernel
theorem D116_1 : decode T116.2.2.1 1 = .ok (.getfield 10, 3) := by decide +kernel
theorem B116_4_5 : s_dk T116.2.2.1 4 [.iload_n 1] 5 = true := by decide +kernel
theorem D116_5 : decode T116.2.2.1 5 = .ok (.invokevirtual 249, 3) := by decide +kernel
theorem D116_8 : decode T116.2.2.1 8 = .ok (.ifCond .ne 7, 3) := by decide +kernel
theorem B116_15_16 : s_dk T116.2.2.1 15 [.aload_n 0] 16 = true := by decide +kernel
theorem D116_16 : decode T116.2.2.1 16 = .ok (.invokevirtual 252, 3) := by decide +kernel
theorem B116_19_24 : s_dk T116.2.2.1 19 [.lconst 0, .lstore_n 2, .iconst 0, .istore 4] 24 = true := by decide +kernel
theorem cl_10_269 : m_cl 10 269 = some (-1) := by decide +kernel
theorem D116_11 : decode T116.2.2.1 11 = .ok (.ldc2_w 269, 3) := by decide +kernel
theorem D116_14 : decode T116.2.2.1 14 = .ok (.lreturn, 1) := by decide +kernel
theorem B116_24_27 : s_dk T116.2.2.1 24 [.iload 4, .aload_n 0] 27 = true := by decide +kernel
theorem D116_27 : decode T116.2.2.1 27 = .ok (.getfield 10, 3) := by decide +kernel
theorem D116_30 : decode T116.2.2.1 30 = .ok (.getfield 163, 3) := by decide +kernel
theorem D116_33 : decode T116.2.2.1 33 = .ok (.if_icmp .ge 60, 3) := by decide +kernel
theorem B116_93_94 : s_dk T116.2.2.1 93 [.lload_n 2] 94 = true := by decide +kernel
theorem D116_94 : decode T116.2.2.1 94 = .ok (.lreturn, 1) := by decide +kernel
theorem B116_36_37 : s_dk T116.2.2.1 36 [.aload_n 0] 37 = true := by decide +kernel
theorem D116_37 : decode T116.2.2.1 37 = .ok (.getfield 10, 3) := by decide +kernel
theorem B116_40_42 : s_dk T116.2.2.1 40 [.iload 4] 42 = true := by decide +kernel
theorem D116_42 : decode T116.2.2.1 42 = .ok (.invokevirtual 186, 3) := by decide +kernel
theorem D116_45 : decode T116.2.2.1 45 = .ok (.ifCond .eq 42, 3) := by decide +kernel
theorem B116_87_90 : s_dk T116.2.2.1 87 [.iinc 4 1] 90 = true := by decide +kernel
theorem D116_90 : decode T116.2.2.1 90 = .ok (.goto (-66), 3) := by decide +kernel
theorem B116_48_50 : s_dk T116.2.2.1 48 [.lload_n 2, .aload_n 0] 50 = true := by decide +kernel
theorem D116_50 : decode T116.2.2.1 50 = .ok (.getfield 10, 3) := by decide +kernel
theorem B116_53_56 : s_dk T116.2.2.1 53 [.iconst 1, .iload 4] 56 = true := by decide +kernel
theorem D116_56 : decode T116.2.2.1 56 = .ok (.ishl, 1) := by decide +kernel
theorem D116_57 : decode T116.2.2.1 57 = .ok (.invokevirtual 201, 3) := by decide +kernel
theorem D116_60 : decode T116.2.2.1 60 = .ok (.i2l, 1) := by decide +kernel
theorem B116_61_62 : s_dk T116.2.2.1 61 [.aload_n 0] 62 = true := by decide +kernel
theorem D116_62 : decode T116.2.2.1 62 = .ok (.getfield 70, 3) := by decide +kernel
theorem B116_65_66 : s_dk T116.2.2.1 65 [.aload_n 0] 66 = true := by decide +kernel
theorem D116_66 : decode T116.2.2.1 66 = .ok (.getfield 44, 3) := by decide +kernel
theorem B116_69_70 : s_dk T116.2.2.1 69 [.aload_n 0] 70 = true := by decide +kernel
theorem D116_70 : decode T116.2.2.1 70 = .ok (.getfield 10, 3) := by decide +kernel
theorem D116_73 : decode T116.2.2.1 73 = .ok (.getfield 255, 3) := by decide +kernel
theorem B116_76_77 : s_dk T116.2.2.1 76 [.iload_n 1] 77 = true := by decide +kernel
theorem D116_77 : decode T116.2.2.1 77 = .ok (.aaload, 1) := by decide +kernel
theorem B116_78_80 : s_dk T116.2.2.1 78 [.iload 4] 80 = true := by decide +kernel
theorem D116_80 : decode T116.2.2.1 80 = .ok (.invokevirtual 259, 3) := by decide +kernel
theorem D116_83 : decode T116.2.2.1 83 = .ok (.i2l, 1) := by decide +kernel
theorem B116_84_90 : s_dk T116.2.2.1 84 [.lmul, .ladd, .lstore_n 2, .iinc 4 1] 90 = true := by decide +kernel
noncomputable def T126 : mT := (10, yX10_whose, cX10_whose, 8, (some .int))
set_option maxRecDepth 10000 in
theorem TE126 : sy_m[126]? = some T126 := rfl
theorem B126_0_1 : s_dk T126.2.2.1 0 [.aload_n 0] 1 = true := by decide +kernel
theorem D126_1 : decode T126.2.2.1 1 = .ok (.getfield 10, 3) := by decide +kernel
theorem B126_4_5 : s_dk T126.2.2.1 4 [.iload_n 1] 5 = true := by decide +kernel
theorem D126_5 : decode T126.2.2.1 5 = .ok (.invokevirtual 249, 3) := by decide +kernel
theorem D126_8 : decode T126.2.2.1 8 = .ok (.ifCond .eq 21, 3) := by decide +kernel
theorem B126_29_30 : s_dk T126.2.2.1 29 [.iconst (-1)] 30 = true := by decide +kernel
theorem D126_30 : decode T126.2.2.1 30 = .ok (.ireturn, 1) := by decide +kernel
theorem B126_11_12 : s_dk T126.2.2.1 11 [.aload_n 0] 12 = true := by decide +kernel
theorem D126_12 : decode T126.2.2.1 12 = .ok (.getfield 10, 3) := by decide +kernel
theorem B126_15_16 : s_dk T126.2.2.1 15 [.iload_n 2] 16 = true := by decide +kernel
theorem D126_16 : decode T126.2.2.1 16 = .ok (.invokevirtual 186, 3) := by decide +kernel
theorem D126_19 : decode T126.2.2.1 19 = .ok (.ifCond .eq 10, 3) := by decide +kernel
theorem B126_22_23 : s_dk T126.2.2.1 22 [.iload_n 3] 23 = true := by decide +kernel
theorem D126_23 : decode T126.2.2.1 23 = .ok (.invokestatic 135, 3) := by decide +kernel
theorem D126_26 : decode T126.2.2.1 26 = .ok (.ifCond .ne 5, 3) := by decide +kernel
theorem B126_31_33 : s_dk T126.2.2.1 31 [.iload 4] 33 = true := by decide +kernel
theorem D126_33 : decode T126.2.2.1 33 = .ok (.invokestatic 153, 3) := by decide +kernel
theorem D126_36 : decode T126.2.2.1 36 = .ok (.ifCond .eq 11, 3) := by decide +kernel
theorem B126_47_48 : s_dk T126.2.2.1 47 [.iconst (-1)] 48 = true := by decide +kernel
theorem D126_48 : decode T126.2.2.1 48 = .ok (.ireturn, 1) := by decide +kernel
theorem B126_39_41 : s_dk T126.2.2.1 39 [.iload 5] 41 = true := by decide +kernel
theorem D126_41 : decode T126.2.2.1 41 = .ok (.invokestatic 153, 3) := by decide +kernel
theorem D126_44 : decode T126.2.2.1 44 = .ok (.ifCond .ne 5, 3) := by decide +kernel
theorem B126_49_50 : s_dk T126.2.2.1 49 [.aload_n 0] 50 = true := by decide +kernel
theorem D126_50 : decode T126.2.2.1 50 = .ok (.invokevirtual 252, 3) := by decide +kernel
theorem B126_53_54 : s_dk T126.2.2.1 53 [.aload_n 0] 54 = true := by decide +kernel
theorem D126_54 : decode T126.2.2.1 54 = .ok (.getfield 70, 3) := by decide +kernel
theorem B126_57_58 : s_dk T126.2.2.1 57 [.aload_n 0] 58 = true := by decide +kernel
theorem D126_58 : decode T126.2.2.1 58 = .ok (.getfield 44, 3) := by decide +kernel
theorem B126_61_62 : s_dk T126.2.2.1 61 [.aload_n 0] 62 = true := by decide +kernel
theorem D126_62 : decode T126.2.2.1 62 = .ok (.getfield 10, 3) := by decide +kernel
theorem D126_65 : decode T126.2.2.1 65 = .ok (.getfield 255, 3) := by decide +kernel
theorem B126_68_69 : s_dk T126.2.2.1 68 [.iload_n 1] 69 = true := by decide +kernel
theorem D126_69 : decode T126.2.2.1 69 = .ok (.aaload, 1) := by decide +kernel
theorem B126_70_71 : s_dk T126.2.2.1 70 [.iload_n 2] 71 = true := by decide +kernel
theorem D126_71 : decode T126.2.2.1 71 = .ok (.invokevirtual 259, 3) := by decide +kernel
theorem B126_74_76 : s_dk T126.2.2.1 74 [.pop, .aload_n 0] 76 = true := by decide +kernel
theorem D126_76 : decode T126.2.2.1 76 = .ok (.getfield 10, 3) := by decide +kernel
theorem gf_10_316_1 : s_gf 10 316 1 = some (8, 10) := by decide +kernel
theorem D126_79 : decode T126.2.2.1 79 = .ok (.getfield 316, 3) := by decide +kernel
theorem B126_82_87 : s_dk T126.2.2.1 82 [.iload_n 2, .iconst 3, .imul, .iload_n 3, .iadd] 87 = true := by decide +kernel
theorem D126_87 : decode T126.2.2.1 87 = .ok (.iaload, 1) := by decide +kernel
theorem B126_88_91 : s_dk T126.2.2.1 88 [.istore 6, .aload_n 0] 91 = true := by decide +kernel
theorem D126_91 : decode T126.2.2.1 91 = .ok (.getfield 44, 3) := by decide +kernel
theorem B126_94_95 : s_dk T126.2.2.1 94 [.aload_n 0] 95 = true := by decide +kernel
theorem D126_95 : decode T126.2.2.1 95 = .ok (.getfield 70, 3) := by decide +kernel
theorem gf_10_319_58 : s_gf 10 319 58 = some (3, 1) := by decide +kernel
theorem D126_98 : decode T126.2.2.1 98 = .ok (.getfield 319, 3) := by decide +kernel
theorem B126_101_102 : s_dk T126.2.2.1 101 [.iload_n 3] 102 = true := by decide +kernel
theorem D126_102 : decode T126.2.2.1 102 = .ok (.invokevirtual 322, 3) := by decide +kernel
theorem ck_10_virtual_322 : m_call 10 (.invokevirtual 322) = some (0, 86, 2) := by decide +kernel
theorem B126_105_111 : s_dk T126.2.2.1 105 [.istore 7, .iload 4, .iload 6] 111 = true := by decide +kernel
theorem D126_111 : decode T126.2.2.1 111 = .ok (.if_icmp .eq 7, 3) := by decide +kernel
theorem B126_118_123 : s_dk T126.2.2.1 118 [.iconst 0, .iload 7, .iload 6] 123 = true := by decide +kernel
theorem D126_123 : decode T126.2.2.1 123 = .ok (.if_icmp .eq 7, 3) := by decide +kernel
theorem B126_130_136 : s_dk T126.2.2.1 130 [.iconst 0, .iadd, .iload 5, .iload 7] 136 = true := by decide +kernel
theorem D126_136 : decode T126.2.2.1 136 = .ok (.if_icmp .eq 7, 3) := by decide +kernel
theorem B126_143_145 : s_dk T126.2.2.1 143 [.iconst 0, .iadd] 145 = true := by decide +kernel
theorem D126_145 : decode T126.2.2.1 145 = .ok (.ireturn, 1) := by decide +kernel
theorem B126_139_140 : s_dk T126.2.2.1 139 [.iconst 4] 140 = true := by decide +kernel
theorem D126_140 : decode T126.2.2.1 140 = .ok (.goto 4, 3) := by decide +kernel
theorem B126_144_145 : s_dk T126.2.2.1 144 [.iadd] 145 = true := by decide +kernel
theorem B126_126_127 : s_dk T126.2.2.1 126 [.iconst 2] 127 = true := by decide +kernel
theorem D126_127 : decode T126.2.2.1 127 = .ok (.goto 4, 3) := by decide +kernel
theorem B126_131_136 : s_dk T126.2.2.1 131 [.iadd, .iload 5, .iload 7] 136 = true := by decide +kernel
theorem B126_114_115 : s_dk T126.2.2.1 114 [.iconst 1] 115 = true := by decide +kernel
theorem D126_115 : decode T126.2.2.1 115 = .ok (.goto 4, 3) := by decide +kernel
theorem B126_119_123 : s_dk T126.2.2.1 119 [.iload 7, .iload 6] 123 = true := by decide +kernel
noncomputable def T127 : mT := (10, yX10_read, cX10_read, 5, (some .int))
set_option maxRecDepth 10000 in
theorem TE127 : sy_m[127]? = some T127 := rfl
theorem B127_0_1 : s_dk T127.2.2.1 0 [.aload_n 0] 1 = true := by decide +kernel
theorem D127_1 : decode T127.2.2.1 1 = .ok (.invokevirtual 149, 3) := by decide +kernel
theorem ck_10_virtual_149 : m_call 10 (.invokevirtual 149) = some (0, 135, 0) := by decide +kernel
theorem B127_4_6 : s_dk T127.2.2.1 4 [.istore_n 2, .aload_n 0] 6 = true := by decide +kernel
theorem D127_6 : decode T127.2.2.1 6 = .ok (.getfield 10, 3) := by decide +kernel
theorem B127_9_10 : s_dk T127.2.2.1 9 [.iload_n 1] 10 = true := by decide +kernel
theorem D127_10 : decode T127.2.2.1 10 = .ok (.invokevirtual 186, 3) := by decide +kernel
theorem D127_13 : decode T127.2.2.1 13 = .ok (.ifCond .ne 5, 3) := by decide +kernel
theorem B127_18_19 : s_dk T127.2.2.1 18 [.aload_n 0] 19 = true := by decide +kernel
theorem D127_19 : decode T127.2.2.1 19 = .ok (.invokevirtual 252, 3) := by decide +kernel
theorem B127_22_27 : s_dk T127.2.2.1 22 [.iconst 0, .istore_n 3, .iconst 0, .istore 4] 27 = true := by decide +kernel
theorem B127_16_17 : s_dk T127.2.2.1 16 [.iconst (-1)] 17 = true := by decide +kernel
theorem D127_17 : decode T127.2.2.1 17 = .ok (.ireturn, 1) := by decide +kernel
theorem B127_27_30 : s_dk T127.2.2.1 27 [.iload 4, .aload_n 0] 30 = true := by decide +kernel
theorem D127_30 : decode T127.2.2.1 30 = .ok (.getfield 10, 3) := by decide +kernel
theorem D127_33 : decode T127.2.2.1 33 = .ok (.getfield 237, 3) := by decide +kernel
theorem D127_36 : decode T127.2.2.1 36 = .ok (.if_icmp .ge 47, 3) := by decide +kernel
theorem B127_83_84 : s_dk T127.2.2.1 83 [.iload_n 3] 84 = true := by decide +kernel
theorem D127_84 : decode T127.2.2.1 84 = .ok (.ireturn, 1) := by decide +kernel
theorem B127_39_40 : s_dk T127.2.2.1 39 [.aload_n 0] 40 = true := by decide +kernel
theorem D127_40 : decode T127.2.2.1 40 = .ok (.getfield 70, 3) := by decide +kernel
theorem B127_43_44 : s_dk T127.2.2.1 43 [.aload_n 0] 44 = true := by decide +kernel
theorem D127_44 : decode T127.2.2.1 44 = .ok (.getfield 44, 3) := by decide +kernel
theorem B127_47_48 : s_dk T127.2.2.1 47 [.aload_n 0] 48 = true := by decide +kernel
theorem D127_48 : decode T127.2.2.1 48 = .ok (.getfield 10, 3) := by decide +kernel
theorem D127_51 : decode T127.2.2.1 51 = .ok (.getfield 255, 3) := by decide +kernel
theorem B127_54_56 : s_dk T127.2.2.1 54 [.iload 4] 56 = true := by decide +kernel
theorem D127_56 : decode T127.2.2.1 56 = .ok (.aaload, 1) := by decide +kernel
theorem B127_57_58 : s_dk T127.2.2.1 57 [.iload_n 1] 58 = true := by decide +kernel
theorem D127_58 : decode T127.2.2.1 58 = .ok (.invokevirtual 259, 3) := by decide +kernel
theorem B127_61_64 : s_dk T127.2.2.1 61 [.pop, .aload_n 0, .iload_n 2] 64 = true := by decide +kernel
theorem D127_64 : decode T127.2.2.1 64 = .ok (.invokevirtual 325, 3) := by decide +kernel
theorem ck_10_virtual_325 : m_call 10 (.invokevirtual 325) = some (0, 140, 1) := by decide +kernel
theorem D127_67 : decode T127.2.2.1 67 = .ok (.ifCond .eq 10, 3) := by decide +kernel
theorem B127_77_80 : s_dk T127.2.2.1 77 [.iinc 4 1] 80 = true := by decide +kernel
theorem D127_80 : decode T127.2.2.1 80 = .ok (.goto (-53), 3) := by decide +kernel
theorem B127_70_74 : s_dk T127.2.2.1 70 [.iload_n 3, .iconst 1, .iload 4] 74 = true := by decide +kernel
theorem D127_74 : decode T127.2.2.1 74 = .ok (.ishl, 1) := by decide +kernel
theorem D127_75 : decode T127.2.2.1 75 = .ok (.ior, 1) := by decide +kernel
theorem B127_76_80 : s_dk T127.2.2.1 76 [.istore_n 3, .iinc 4 1] 80 = true := by decide +kernel
noncomputable def T141 : mT := (10, yX10_pairsApart, cX10_pairsApart, 5, (some .int))
set_option maxRecDepth 10000 in
theorem TE141 : sy_m[141]? = some T141 := rfl
theorem B141_0_4 : s_dk T141.2.2.1 0 [.iconst 0, .istore_n 2, .iconst 0, .istore_n 3] 4 = true := by decide +kernel
theorem B141_4_6 : s_dk T141.2.2.1 4 [.iload_n 3, .aload_n 0] 6 = true := by decide +kernel
theorem D141_6 : decode T141.2.2.1 6 = .ok (.getfield 10, 3) := by decide +kernel
theorem D141_9 : decode T141.2.2.1 9 = .ok (.getfield 237, 3) := by decide +kernel
theorem D141_12 : decode T141.2.2.1 12 = .ok (.if_icmp .ge 84, 3) := by decide +kernel
theorem B141_96_97 : s_dk T141.2.2.1 96 [.iload_n 2] 97 = true := by decide +kernel
theorem D141_97 : decode T141.2.2.1 97 = .ok (.ireturn, 1) := by decide +kernel
theorem B141_15_16 : s_dk T141.2.2.1 15 [.aload_n 0] 16 = true := by decide +kernel
theorem D141_16 : decode T141.2.2.1 16 = .ok (.getfield 70, 3) := by decide +kernel
theorem B141_19_20 : s_dk T141.2.2.1 19 [.aload_n 0] 20 = true := by decide +kernel
theorem D141_20 : decode T141.2.2.1 20 = .ok (.getfield 44, 3) := by decide +kernel
theorem B141_23_24 : s_dk T141.2.2.1 23 [.aload_n 0] 24 = true := by decide +kernel
theorem D141_24 : decode T141.2.2.1 24 = .ok (.getfield 10, 3) := by decide +kernel
theorem D141_27 : decode T141.2.2.1 27 = .ok (.getfield 255, 3) := by decide +kernel
theorem B141_30_31 : s_dk T141.2.2.1 30 [.iload_n 3] 31 = true := by decide +kernel
theorem D141_31 : decode T141.2.2.1 31 = .ok (.aaload, 1) := by decide +kernel
theorem B141_32_33 : s_dk T141.2.2.1 32 [.iload_n 1] 33 = true := by decide +kernel
theorem D141_33 : decode T141.2.2.1 33 = .ok (.invokevirtual 259, 3) := by decide +kernel
theorem B141_36_38 : s_dk T141.2.2.1 36 [.pop, .aload_n 0] 38 = true := by decide +kernel
theorem gf_10_98_0 : s_gf 10 98 0 = some (17, 79) := by decide +kernel
theorem D141_38 : decode T141.2.2.1 38 = .ok (.getfield 98, 3) := by decide +kernel
theorem B141_41_43 : s_dk T141.2.2.1 41 [.iload_n 3, .aload_n 0] 43 = true := by decide +kernel
theorem D141_43 : decode T141.2.2.1 43 = .ok (.getfield 70, 3) := by decide +kernel
theorem gf_10_338_58 : s_gf 10 338 58 = some (2, 2) := by decide +kernel
theorem D141_46 : decode T141.2.2.1 46 = .ok (.getfield 338, 3) := by decide +kernel
theorem D141_49 : decode T141.2.2.1 49 = .ok (.lastore, 1) := by decide +kernel
theorem B141_50_53 : s_dk T141.2.2.1 50 [.iconst 0, .istore 4] 53 = true := by decide +kernel
theorem B141_53_56 : s_dk T141.2.2.1 53 [.iload 4, .iload_n 3] 56 = true := by decide +kernel
theorem D141_56 : decode T141.2.2.1 56 = .ok (.if_icmp .ge 34, 3) := by decide +kernel
theorem B141_90_93 : s_dk T141.2.2.1 90 [.iinc 3 1] 93 = true := by decide +kernel
theorem D141_93 : decode T141.2.2.1 93 = .ok (.goto (-89), 3) := by decide +kernel
theorem B141_59_61 : s_dk T141.2.2.1 59 [.iload_n 2, .aload_n 0] 61 = true := by decide +kernel
theorem D141_61 : decode T141.2.2.1 61 = .ok (.getfield 98, 3) := by decide +kernel
theorem B141_64_66 : s_dk T141.2.2.1 64 [.iload 4] 66 = true := by decide +kernel
theorem D141_66 : decode T141.2.2.1 66 = .ok (.laload, 1) := by decide +kernel
theorem B141_67_68 : s_dk T141.2.2.1 67 [.aload_n 0] 68 = true := by decide +kernel
theorem D141_68 : decode T141.2.2.1 68 = .ok (.getfield 98, 3) := by decide +kernel
theorem B141_71_72 : s_dk T141.2.2.1 71 [.iload_n 3] 72 = true := by decide +kernel
theorem D141_72 : decode T141.2.2.1 72 = .ok (.laload, 1) := by decide +kernel
theorem D141_73 : decode T141.2.2.1 73 = .ok (.lcmp, 1) := by decide +kernel
theorem D141_74 : decode T141.2.2.1 74 = .ok (.ifCond .ne 7, 3) := by decide +kernel
theorem B141_81_87 : s_dk T141.2.2.1 81 [.iconst 1, .iadd, .istore_n 2, .iinc 4 1] 87 = true := by decide +kernel
theorem D141_87 : decode T141.2.2.1 87 = .ok (.goto (-34), 3) := by decide +kernel
theorem B141_77_78 : s_dk T141.2.2.1 77 [.iconst 0] 78 = true := by decide +kernel
theorem D141_78 : decode T141.2.2.1 78 = .ok (.goto 4, 3) := by decide +kernel
theorem B141_82_87 : s_dk T141.2.2.1 82 [.iadd, .istore_n 2, .iinc 4 1] 87 = true := by decide +kernel
noncomputable def T128 : mT := (10, yX10_parting, cX10_parting, 6, (some .int))
set_option maxRecDepth 10000 in
theorem TE128 : sy_m[128]? = some T128 := rfl
theorem B128_0_3 : s_dk T128.2.2.1 0 [.iload_n 1, .iconst 0, .iconst 1] 3 = true := by decide +kernel
theorem D128_3 : decode T128.2.2.1 3 = .ok (.invokestatic 102, 3) := by decide +kernel
theorem D128_6 : decode T128.2.2.1 6 = .ok (.ifCond .ne 5, 3) := by decide +kernel
theorem B128_11_12 : s_dk T128.2.2.1 11 [.aload_n 0] 12 = true := by decide +kernel
theorem D128_12 : decode T128.2.2.1 12 = .ok (.invokevirtual 252, 3) := by decide +kernel
theorem B128_15_22 : s_dk T128.2.2.1 15 [.iconst 0, .istore_n 2, .iconst (-1), .istore_n 3, .iconst 0, .istore 4] 22 = true := by decide +kernel
theorem B128_9_10 : s_dk T128.2.2.1 9 [.iconst (-1)] 10 = true := by decide +kernel
theorem D128_10 : decode T128.2.2.1 10 = .ok (.ireturn, 1) := by decide +kernel
theorem B128_22_25 : s_dk T128.2.2.1 22 [.iload 4, .aload_n 0] 25 = true := by decide +kernel
theorem D128_25 : decode T128.2.2.1 25 = .ok (.getfield 10, 3) := by decide +kernel
theorem D128_28 : decode T128.2.2.1 28 = .ok (.getfield 163, 3) := by decide +kernel
theorem D128_31 : decode T128.2.2.1 31 = .ok (.if_icmp .ge 45, 3) := by decide +kernel
theorem B128_76_78 : s_dk T128.2.2.1 76 [.iload_n 3, .iconst (-1)] 78 = true := by decide +kernel
theorem D128_78 : decode T128.2.2.1 78 = .ok (.if_icmp .eq 7, 3) := by decide +kernel
theorem B128_85_86 : s_dk T128.2.2.1 85 [.iload_n 3] 86 = true := by decide +kernel
theorem D128_86 : decode T128.2.2.1 86 = .ok (.goto 4, 3) := by decide +kernel
theorem D128_90 : decode T128.2.2.1 90 = .ok (.ireturn, 1) := by decide +kernel
theorem B128_34_35 : s_dk T128.2.2.1 34 [.aload_n 0] 35 = true := by decide +kernel
theorem D128_35 : decode T128.2.2.1 35 = .ok (.getfield 10, 3) := by decide +kernel
theorem B128_38_40 : s_dk T128.2.2.1 38 [.iload 4] 40 = true := by decide +kernel
theorem D128_40 : decode T128.2.2.1 40 = .ok (.invokevirtual 186, 3) := by decide +kernel
theorem D128_43 : decode T128.2.2.1 43 = .ok (.ifCond .eq 12, 3) := by decide +kernel
theorem B128_55_61 : s_dk T128.2.2.1 55 [.iconst 0, .istore 5, .iload 5, .iload_n 2] 61 = true := by decide +kernel
theorem D128_61 : decode T128.2.2.1 61 = .ok (.if_icmp .le 9, 3) := by decide +kernel
theorem B128_70_73 : s_dk T128.2.2.1 70 [.iinc 4 1] 73 = true := by decide +kernel
theorem D128_73 : decode T128.2.2.1 73 = .ok (.goto (-51), 3) := by decide +kernel
theorem B128_46_49 : s_dk T128.2.2.1 46 [.aload_n 0, .iload 4] 49 = true := by decide +kernel
theorem D128_49 : decode T128.2.2.1 49 = .ok (.invokevirtual 328, 3) := by decide +kernel
theorem ck_10_virtual_328 : m_call 10 (.invokevirtual 328) = some (0, 141, 1) := by decide +kernel
theorem D128_52 : decode T128.2.2.1 52 = .ok (.goto 4, 3) := by decide +kernel
theorem B128_56_61 : s_dk T128.2.2.1 56 [.istore 5, .iload 5, .iload_n 2] 61 = true := by decide +kernel
theorem B128_64_73 : s_dk T128.2.2.1 64 [.iload 5, .istore_n 2, .iload 4, .istore_n 3, .iinc 4 1] 73 = true := by decide +kernel
theorem B128_81_82 : s_dk T128.2.2.1 81 [.iload_n 1] 82 = true := by decide +kernel
theorem D128_82 : decode T128.2.2.1 82 = .ok (.ifCond .ne 7, 3) := by decide +kernel
theorem B128_89_90 : s_dk T128.2.2.1 89 [.iload_n 2] 90 = true := by decide +kernel
set_option maxRecDepth 4000 in
theorem k66_1x {base : Nat} {X : Nat → Option mC} {G : Nat → Value} (E : EnvOK base X G) {d : Nat} (hd : 1 ≤ d) {M : mH} (H : HI base M) (text : Int) (h0 : HB base M) (h1 : -2147483648 ≤ text ∧ text ≤ 2147483647) : sOk base X G d T66 [vR 1, vI text] M (pI (fun v M' => M' = M ∧ (v = 0 ∨ v = 1) ∧ (v = 1 → 0 ≤ text ∧ text < gi M 1 12))) := by
  refine sOk.of (show sRn base X G d T66 0 [(0, vR 1), (1, vI text)] [] M _ from ?_)
  refine s_blx (lv' := [(0, vR 1), (1, vI text)]) (st' := [vR 1, vI 0, vI text]) B66_0_3 rfl ?_
  refine r_gint (ki := 12) (pc' := 6) D66_3 rfl gf_8_52_1 rfl H.1 ?_
  intro w1 e2 r3
  have b_w1 := H.2 1 (12) 0 8 rfl
  rw [← e2] at b_w1; clear r3
  refine s_blx (lv' := [(0, vR 1), (1, vI text)]) (st' := [vI (w1 - 1), vI 0, vI text]) B66_6_8 rfl ?_
  refine r_sIp (args := [vI text, vI 0, vI (w1 - 1)]) (rest := []) (pc' := 11) D66_8 rfl ck_8_static_80 TE142 rfl (Nat.le_of_ble_eq_true rfl) ⟨Nat.le_of_ble_eq_true rfl, Nat.le_of_ble_eq_true rfl⟩ (by decide) (dp_0 hd rfl) (k142 E (dp_n hd rfl) H text 0 (w1 - 1) (by omega) (by omega) (by omega)) ?_
  intro v4 q9
  obtain ⟨q6, q7, q8⟩ := q9
  refine r_ifc (tgt := 27) (pc' := 14) D66_11 rfl rfl (by unfold inR; omega) (fun (c10 : v4 = 0) => ?_) (fun (c10 : ¬ (v4 = 0)) => ?_)
  · refine s_blx (lv' := [(0, vR 1), (1, vI text)]) (st' := [vI 0]) B66_27_28 rfl ?_
    exact r_zretI D66_28 rfl (by omega) (⟨rfl, by omega, by omega⟩)
  · refine s_blx (lv' := [(0, vR 1), (1, vI text)]) (st' := [vR 1]) B66_14_15 rfl ?_
    refine r_gfix (r := 9) (pc' := 18) D66_15 rfl gf_8_48_1 H.1 ?_
    refine s_blx (lv' := [(0, vR 1), (1, vI text)]) (st' := [vI text, vR 9]) B66_18_19 rfl ?_
    have b18 := H.2 1 12 0 8 rfl
    have g19 : gi M 1 12 = w1 := e2.symm
    obtain ⟨hb11, nh12, nc13, a14, b15, r16, r17⟩ := (h0) (text) (by omega) (by omega)
    refine r_aald (v := vR hb11) (pc' := 20) D66_19 rfl sc_9 (by decide) H.1 (by omega) a14 ?_
    refine r_ifnull (q := some (.inl hb11)) (tgt := 27) (pc' := 23) D66_20 rfl rfl (fun hq_ => ?_) (fun hq_ => ?_)
    · exact absurd hq_ (by simp)
    · refine s_blx (lv' := [(0, vR 1), (1, vI text)]) (st' := [vI 1]) B66_23_24 rfl ?_
      refine r_goto (tgt := 28) D66_24 rfl ?_
      exact r_zretI D66_28 rfl (by omega) (⟨rfl, by omega, by omega⟩)
set_option maxRecDepth 4000 in
theorem k114x {base : Nat} {X : Nat → Option mC} {G : Nat → Value} (E : EnvOK base X G) {d : Nat} (hd : 7 ≤ d) {M : mH} (H : HI base M) (text : Int) (sentence : Int) (h0 : HB base M) (h1 : -2147483648 ≤ text ∧ text ≤ 2147483647) (h2 : -2147483648 ≤ sentence ∧ sentence ≤ 2147483647) : sOk base X G d T114 [vR 0, vI text, vI sentence] M (pI (fun v M' => HI base M' ∧ Fr [(0, 10), (20, 16), (20, 17), (20, 18), (21, 0), (22, 0), (23, 0), (24, 0), (25, 0), (26, 0), (27, 0), (28, 0), (29, 0), (30, 0), (31, 0), (32, 0), (33, 0), (34, 0), (35, 0), (62, 2), (62, 3), (62, 4), (62, 6), (63, 0), (64, 0), (65, 0)] M M' ∧ (-2147483648 ≤ v ∧ v ≤ 2147483647))) := by
  have f0 : Fr [(0, 10), (20, 16), (20, 17), (20, 18), (21, 0), (22, 0), (23, 0), (24, 0), (25, 0), (26, 0), (27, 0), (28, 0), (29, 0), (30, 0), (31, 0), (32, 0), (33, 0), (34, 0), (35, 0), (62, 2), (62, 3), (62, 4), (62, 6), (63, 0), (64, 0), (65, 0)] M M := Fr.rf
  refine sOk.of (show sRn base X G d T114 0 [(0, vR 0), (1, vI text), (2, vI sentence)] [] M _ from ?_)
  refine s_blx (lv' := [(0, vR 0), (1, vI text), (2, vI sentence)]) (st' := [vR 0]) B114_0_1 rfl ?_
  refine r_gfix (r := 1) (pc' := 4) D114_1 rfl gf_10_10_0 H.1 ?_
  refine s_blx (lv' := [(0, vR 0), (1, vI text), (2, vI sentence)]) (st' := [vI text, vR 1]) B114_4_5 rfl ?_
  refine r_vIp (c := 1) (args := [vI text]) (rest := []) (pc' := 8) D114_5 rfl ck_10_virtual_249 TE66 rfl (Nat.le_of_ble_eq_true rfl) ⟨Nat.le_of_ble_eq_true rfl, Nat.le_of_ble_eq_true rfl⟩ sc_1 ⟨rfl, by decide⟩ H.1 (dp_0 hd rfl) (k66_1x E (dp_n hd rfl) H text (h0) (by omega)) ?_
  intro v1 q5
  obtain ⟨q3, q4⟩ := q5
  refine r_ifc (tgt := 22) (pc' := 11) D114_8 rfl rfl (by unfold inR; omega) (fun (c6 : v1 = 0) => ?_) (fun (c6 : ¬ (v1 = 0)) => ?_)
  · refine s_blx (lv' := [(0, vR 0), (1, vI text), (2, vI sentence)]) (st' := [vI (-1)]) B114_22_23 rfl ?_
    exact r_iretI D114_23 rfl (⟨H, f0, by omega⟩)
  · refine s_blx (lv' := [(0, vR 0), (1, vI text), (2, vI sentence)]) (st' := [vR 0]) B114_11_12 rfl ?_
    refine r_gfix (r := 1) (pc' := 15) D114_12 rfl gf_10_10_0 H.1 ?_
    refine s_blx (lv' := [(0, vR 0), (1, vI text), (2, vI sentence)]) (st' := [vI sentence, vR 1]) B114_15_16 rfl ?_
    refine r_vIp (c := 1) (args := [vI sentence]) (rest := []) (pc' := 19) D114_16 rfl ck_10_virtual_186 TE67 rfl (Nat.le_of_ble_eq_true rfl) ⟨Nat.le_of_ble_eq_true rfl, Nat.le_of_ble_eq_true rfl⟩ sc_1 ⟨rfl, by decide⟩ H.1 (dp_0 hd rfl) (k67_1x E (dp_n hd rfl) H sentence (by omega)) ?_
    intro v7 q13
    obtain ⟨q9, q10, q11, q12⟩ := q13
    refine r_ifc (tgt := 24) (pc' := 22) D114_19 rfl rfl (by unfold inR; omega) (fun (c14 : v7 ≠ 0) => ?_) (fun (c14 : ¬ (v7 ≠ 0)) => ?_)
    · refine s_blx (lv' := [(0, vR 0), (1, vI text), (2, vI sentence)]) (st' := [vR 0]) B114_24_25 rfl ?_
      refine r_vV (c := 0) (args := []) (rest := []) (pc' := 28) D114_25 rfl ck_10_virtual_252 TE138 rfl (Nat.le_of_ble_eq_true rfl) ⟨Nat.le_of_ble_eq_true rfl, Nat.le_of_ble_eq_true rfl⟩ sc_0 ⟨rfl, by decide⟩ H.1 (dp_0 hd rfl) (k138 E (dp_n hd rfl) H ) ?_
      intro M16 q19
      obtain ⟨H17, f18⟩ := q19
      have f20 := f0.tr (f18.up rfl)
      refine s_blx (lv' := [(0, vR 0), (1, vI text), (2, vI sentence)]) (st' := [vR 0]) B114_28_29 rfl ?_
      refine r_gfix (r := 62) (pc' := 32) D114_29 rfl gf_10_74_0 H17.1 ?_
      refine s_blx (lv' := [(0, vR 0), (1, vI text), (2, vI sentence)]) (st' := [vR 0, vR 62]) B114_32_33 rfl ?_
      refine r_gfix (r := 20) (pc' := 36) D114_33 rfl gf_10_44_0 H17.1 ?_
      refine s_blx (lv' := [(0, vR 0), (1, vI text), (2, vI sentence)]) (st' := [vR 0, vR 20, vR 62]) B114_36_37 rfl ?_
      refine r_gfix (r := 1) (pc' := 40) D114_37 rfl gf_10_10_0 H17.1 ?_
      refine r_gfix (r := 9) (pc' := 43) D114_40 rfl gf_10_255_1 H17.1 ?_
      refine s_blx (lv' := [(0, vR 0), (1, vI text), (2, vI sentence)]) (st' := [vI text, vR 9, vR 20, vR 62]) B114_43_44 rfl ?_
      have b28 := H17.2 1 12 0 8 rfl
      have g29 : gi M16 1 12 = gi M 1 12 := (f18.g rfl).trans (rfl)
      obtain ⟨hb21, nh22, nc23, a24, b25, r26, r27⟩ := ((h0.fr f20 rfl)) (text) (by omega) (by omega)
      refine r_aald (v := vR hb21) (pc' := 45) D114_44 rfl sc_9 (by decide) H17.1 (by omega) a24 ?_
      refine s_blx (lv' := [(0, vR 0), (1, vI text), (2, vI sentence)]) (st' := [vI sentence, vR (hb21), vR 20, vR 62]) B114_45_46 rfl ?_
      refine r_vI (c := 62) (args := [vR 20, vR (hb21), vI sentence]) (rest := []) (pc' := 49) D114_46 rfl ck_10_virtual_259 TE1 rfl (Nat.le_of_ble_eq_true rfl) ⟨Nat.le_of_ble_eq_true rfl, Nat.le_of_ble_eq_true rfl⟩ sc_62 ⟨rfl, by decide⟩ H17.1 (dp_0 hd rfl) (k1_62_20x E (dp_n hd rfl) H17 hb21 sentence nh22 nc23 (b25) (by omega) (by omega) (by omega)) ?_
      intro v30 M31 q35
      obtain ⟨H32, f33, q34⟩ := q35
      have f36 := f20.tr (f33.up rfl)
      have hp37 := b25.fr f33 (by decide)
      exact r_iretI D114_49 rfl (⟨H32, f36, by omega⟩)
    · refine s_blx (lv' := [(0, vR 0), (1, vI text), (2, vI sentence)]) (st' := [vI (-1)]) B114_22_23 rfl ?_
      exact r_iretI D114_23 rfl (⟨H, f0, by omega⟩)
set_option maxRecDepth 4000 in
theorem L_k116x {base : Nat} {X : Nat → Option mC} {G : Nat → Value} (E : EnvOK base X G) {d : Nat} (hd : 7 ≤ d) {M : mH} (H : HI base M) (text : Int) (h0 : HB base M) (h1 : -2147483648 ≤ text ∧ text ≤ 2147483647) : ∀ mz : Nat, (∀ (x2 x4 : Int) (N : mH), HI base N → Fr [(0, 10), (20, 16), (20, 17), (20, 18), (21, 0), (22, 0), (23, 0), (24, 0), (25, 0), (26, 0), (27, 0), (28, 0), (29, 0), (30, 0), (31, 0), (32, 0), (33, 0), (34, 0), (35, 0), (58, 2), (58, 3), (58, 4), (58, 6), (59, 0), (60, 0), (61, 0)] M N → (0 ≤ text ∧ text < gi N 1 12) → (0 ≤ x4) → (x4 ≤ 16) → (0 ≤ text) → (text ≤ 2147483647) → (16 - x4) * 1 + 0 < (mz : Int) → sRn base X G d T116 24 [(0, vR 0), (1, vI text), (2, vL x2), (4, vI x4)] [] N (s_Q base (pL (fun v M' => HI base M' ∧ Fr [(0, 10), (20, 16), (20, 17), (20, 18), (21, 0), (22, 0), (23, 0), (24, 0), (25, 0), (26, 0), (27, 0), (28, 0), (29, 0), (30, 0), (31, 0), (32, 0), (33, 0), (34, 0), (35, 0), (58, 2), (58, 3), (58, 4), (58, 6), (59, 0), (60, 0), (61, 0)] M M')))) := by
  have f0 : Fr [(0, 10), (20, 16), (20, 17), (20, 18), (21, 0), (22, 0), (23, 0), (24, 0), (25, 0), (26, 0), (27, 0), (28, 0), (29, 0), (30, 0), (31, 0), (32, 0), (33, 0), (34, 0), (35, 0), (58, 2), (58, 3), (58, 4), (58, 6), (59, 0), (60, 0), (61, 0)] M M := Fr.rf
  intro mz
  induction mz with
  | zero => exact fun x2 x4 N _ _ z0 z1 z2 z3 z4 z5 => by omega
  | succ mz ih =>
    intro x2 x4 N HN fN i0 i1 i2 i3 i4 hmu
    refine s_blx (lv' := [(0, vR 0), (1, vI text), (2, vL x2), (4, vI x4)]) (st' := [vR 0, vI x4]) B116_24_27 rfl ?_
    refine r_gfix (r := 1) (pc' := 30) D116_27 rfl gf_10_10_0 HN.1 ?_
    refine r_gint (ki := 10) (pc' := 33) D116_30 rfl gf_10_163_1 rfl HN.1 ?_
    intro w14 e15 r16
    have b_w14 := HN.2 1 (10) 0 16 rfl
    rw [← e15] at b_w14; clear r16
    refine r_icmp (tgt := 93) (pc' := 36) D116_33 rfl rfl (by unfold inR; omega) (fun (c17 : w14 ≤ x4) => ?_) (fun (c17 : ¬ (w14 ≤ x4)) => ?_)
    · refine s_blx (lv' := [(0, vR 0), (1, vI text), (2, vL x2), (4, vI x4)]) (st' := [vL x2]) B116_93_94 rfl ?_
      exact r_lretL D116_94 rfl (⟨HN, fN⟩)
    · refine s_blx (lv' := [(0, vR 0), (1, vI text), (2, vL x2), (4, vI x4)]) (st' := [vR 0]) B116_36_37 rfl ?_
      refine r_gfix (r := 1) (pc' := 40) D116_37 rfl gf_10_10_0 HN.1 ?_
      refine s_blx (lv' := [(0, vR 0), (1, vI text), (2, vL x2), (4, vI x4)]) (st' := [vI x4, vR 1]) B116_40_42 rfl ?_
      refine r_vIp (c := 1) (args := [vI x4]) (rest := []) (pc' := 45) D116_42 rfl ck_10_virtual_186 TE67 rfl (Nat.le_of_ble_eq_true rfl) ⟨Nat.le_of_ble_eq_true rfl, Nat.le_of_ble_eq_true rfl⟩ sc_1 ⟨rfl, by decide⟩ HN.1 (dp_0 hd rfl) (k67_1x E (dp_n hd rfl) HN x4 (by omega)) ?_
      intro v18 q24
      obtain ⟨q20, q21, q22, q23⟩ := q24
      refine r_ifc (tgt := 87) (pc' := 48) D116_45 rfl rfl (by unfold inR; omega) (fun (c25 : v18 = 0) => ?_) (fun (c25 : ¬ (v18 = 0)) => ?_)
      · refine s_blx (lv' := [(4, vI (x4 + 1)), (0, vR 0), (1, vI text), (2, vL x2)]) (st' := []) B116_87_90 rfl ?_
        refine r_goto (tgt := 24) D116_90 rfl ?_
        refine r_loc (lv' := [(0, vR 0), (1, vI text), (2, vL x2), (4, vI (x4 + 1))]) ⟨rfl, rfl, rfl, rfl, trivial⟩ rfl rfl ?_
        exact ih x2 (x4 + 1) N HN fN (by omega) (by omega) (by omega) (by omega) (by omega) (by omega)
      · refine s_blx (lv' := [(0, vR 0), (1, vI text), (2, vL x2), (4, vI x4)]) (st' := [vR 0, vL x2]) B116_48_50 rfl ?_
        refine r_gfix (r := 1) (pc' := 53) D116_50 rfl gf_10_10_0 HN.1 ?_
        refine s_blx (lv' := [(0, vR 0), (1, vI text), (2, vL x2), (4, vI x4)]) (st' := [vI x4, vI 1, vR 1, vL x2]) B116_53_56 rfl ?_
        refine r_bin (pc' := 57) D116_56 rfl rfl ?_
        intro z26 r27 _; unfold inR at r27
        refine r_vIp (c := 1) (args := [vI z26]) (rest := [vL x2]) (pc' := 60) D116_57 rfl ck_10_virtual_201 TE76 rfl (Nat.le_of_ble_eq_true rfl) ⟨Nat.le_of_ble_eq_true rfl, Nat.le_of_ble_eq_true rfl⟩ sc_1 ⟨rfl, by decide⟩ HN.1 (dp_0 hd rfl) (k76_1 E (dp_n hd rfl) HN z26 (by omega)) ?_
        intro v28 q31
        have q30 := q31; clear q31
        refine r_i2l (pc' := 61) D116_60 rfl (by unfold inR; omega) ?_
        refine s_blx (lv' := [(0, vR 0), (1, vI text), (2, vL x2), (4, vI x4)]) (st' := [vR 0, vL v28, vL x2]) B116_61_62 rfl ?_
        refine r_gfix (r := 58) (pc' := 65) D116_62 rfl gf_10_70_0 HN.1 ?_
        refine s_blx (lv' := [(0, vR 0), (1, vI text), (2, vL x2), (4, vI x4)]) (st' := [vR 0, vR 58, vL v28, vL x2]) B116_65_66 rfl ?_
        refine r_gfix (r := 20) (pc' := 69) D116_66 rfl gf_10_44_0 HN.1 ?_
        refine s_blx (lv' := [(0, vR 0), (1, vI text), (2, vL x2), (4, vI x4)]) (st' := [vR 0, vR 20, vR 58, vL v28, vL x2]) B116_69_70 rfl ?_
        refine r_gfix (r := 1) (pc' := 73) D116_70 rfl gf_10_10_0 HN.1 ?_
        refine r_gfix (r := 9) (pc' := 76) D116_73 rfl gf_10_255_1 HN.1 ?_
        refine s_blx (lv' := [(0, vR 0), (1, vI text), (2, vL x2), (4, vI x4)]) (st' := [vI text, vR 9, vR 20, vR 58, vL v28, vL x2]) B116_76_77 rfl ?_
        have b39 := HN.2 1 12 0 8 rfl
        obtain ⟨hb32, nh33, nc34, a35, b36, r37, r38⟩ := ((h0.fr fN rfl)) (text) (by omega) (by omega)
        refine r_aald (v := vR hb32) (pc' := 78) D116_77 rfl sc_9 (by decide) HN.1 (by omega) a35 ?_
        refine s_blx (lv' := [(0, vR 0), (1, vI text), (2, vL x2), (4, vI x4)]) (st' := [vI x4, vR (hb32), vR 20, vR 58, vL v28, vL x2]) B116_78_80 rfl ?_
        refine r_vI (c := 58) (args := [vR 20, vR (hb32), vI x4]) (rest := [vL v28, vL x2]) (pc' := 83) D116_80 rfl ck_10_virtual_259 TE1 rfl (Nat.le_of_ble_eq_true rfl) ⟨Nat.le_of_ble_eq_true rfl, Nat.le_of_ble_eq_true rfl⟩ sc_58 ⟨rfl, by decide⟩ HN.1 (dp_0 hd rfl) (k1_58_20x E (dp_n hd rfl) HN hb32 x4 nh33 nc34 (b36) (by omega) (by omega) (by omega)) ?_
        intro v40 M41 q45
        obtain ⟨H42, f43, q44⟩ := q45
        have f46 := fN.tr (f43.up rfl)
        have hp47 := b36.fr f43 (by decide)
        refine r_i2l (pc' := 84) D116_83 rfl (by unfold inR; omega) ?_
        refine s_blx (lv' := [(4, vI (x4 + 1)), (2, vL (x2 + (v28 * v40))), (0, vR 0), (1, vI text)]) (st' := []) B116_84_90 rfl ?_
        refine r_goto (tgt := 24) D116_90 rfl ?_
        refine r_loc (lv' := [(0, vR 0), (1, vI text), (2, vL (x2 + (v28 * v40))), (4, vI (x4 + 1))]) ⟨rfl, rfl, rfl, rfl, trivial⟩ rfl rfl ?_
        have g48 : gi M41 1 12 = gi N 1 12 := (f43.g rfl).trans (rfl)
        exact ih (x2 + (v28 * v40)) (x4 + 1) M41 H42 f46 (by omega) (by omega) (by omega) (by omega) (by omega) (by omega)
set_option maxRecDepth 4000 in
theorem k116x {base : Nat} {X : Nat → Option mC} {G : Nat → Value} (E : EnvOK base X G) {d : Nat} (hd : 7 ≤ d) {M : mH} (H : HI base M) (text : Int) (h0 : HB base M) (h1 : -2147483648 ≤ text ∧ text ≤ 2147483647) : sOk base X G d T116 [vR 0, vI text] M (pL (fun v M' => HI base M' ∧ Fr [(0, 10), (20, 16), (20, 17), (20, 18), (21, 0), (22, 0), (23, 0), (24, 0), (25, 0), (26, 0), (27, 0), (28, 0), (29, 0), (30, 0), (31, 0), (32, 0), (33, 0), (34, 0), (35, 0), (58, 2), (58, 3), (58, 4), (58, 6), (59, 0), (60, 0), (61, 0)] M M')) := by
  have f0 : Fr [(0, 10), (20, 16), (20, 17), (20, 18), (21, 0), (22, 0), (23, 0), (24, 0), (25, 0), (26, 0), (27, 0), (28, 0), (29, 0), (30, 0), (31, 0), (32, 0), (33, 0), (34, 0), (35, 0), (58, 2), (58, 3), (58, 4), (58, 6), (59, 0), (60, 0), (61, 0)] M M := Fr.rf
  refine sOk.of (show sRn base X G d T116 0 [(0, vR 0), (1, vI text)] [] M _ from ?_)
  refine s_blx (lv' := [(0, vR 0), (1, vI text)]) (st' := [vR 0]) B116_0_1 rfl ?_
  refine r_gfix (r := 1) (pc' := 4) D116_1 rfl gf_10_10_0 H.1 ?_
  refine s_blx (lv' := [(0, vR 0), (1, vI text)]) (st' := [vI text, vR 1]) B116_4_5 rfl ?_
  refine r_vIp (c := 1) (args := [vI text]) (rest := []) (pc' := 8) D116_5 rfl ck_10_virtual_249 TE66 rfl (Nat.le_of_ble_eq_true rfl) ⟨Nat.le_of_ble_eq_true rfl, Nat.le_of_ble_eq_true rfl⟩ sc_1 ⟨rfl, by decide⟩ H.1 (dp_0 hd rfl) (k66_1x E (dp_n hd rfl) H text (h0) (by omega)) ?_
  intro v1 q5
  obtain ⟨q3, q4⟩ := q5
  refine r_ifc (tgt := 15) (pc' := 11) D116_8 rfl rfl (by unfold inR; omega) (fun (c6 : v1 ≠ 0) => ?_) (fun (c6 : ¬ (v1 ≠ 0)) => ?_)
  · refine s_blx (lv' := [(0, vR 0), (1, vI text)]) (st' := [vR 0]) B116_15_16 rfl ?_
    refine r_vV (c := 0) (args := []) (rest := []) (pc' := 19) D116_16 rfl ck_10_virtual_252 TE138 rfl (Nat.le_of_ble_eq_true rfl) ⟨Nat.le_of_ble_eq_true rfl, Nat.le_of_ble_eq_true rfl⟩ sc_0 ⟨rfl, by decide⟩ H.1 (dp_0 hd rfl) (k138 E (dp_n hd rfl) H ) ?_
    intro M8 q11
    obtain ⟨H9, f10⟩ := q11
    have f12 := f0.tr (f10.up rfl)
    refine s_blx (lv' := [(4, vI 0), (2, vL 0), (0, vR 0), (1, vI text)]) (st' := []) B116_19_24 rfl ?_
    refine r_loc (lv' := [(0, vR 0), (1, vI text), (2, vL 0), (4, vI 0)]) ⟨rfl, rfl, rfl, rfl, trivial⟩ rfl rfl ?_
    have g13 : gi M8 1 12 = gi M 1 12 := (f10.g rfl).trans (rfl)
    exact (L_k116x E hd H text h0 h1 (((16 - 0) * 1 + 0 : Int) + 1).toNat) 0 0 M8 H9 f12 (by omega) (by omega) (by omega) (by omega) (by omega) (by omega)
  · refine r_ldc2 (e := (-1)) (pc' := 14) D116_11 rfl cl_10_269 (by decide) ?_
    exact r_lretL D116_14 rfl (⟨H, f0⟩)
set_option maxRecDepth 4000 in
theorem k126x {base : Nat} {X : Nat → Option mC} {G : Nat → Value} (E : EnvOK base X G) {d : Nat} (hd : 7 ≤ d) {M : mH} (H : HI base M) (text : Int) (sentence : Int) (slot : Int) (meant : Int) (third : Int) (h0 : HB base M) (h1 : -2147483648 ≤ text ∧ text ≤ 2147483647) (h2 : -2147483648 ≤ sentence ∧ sentence ≤ 2147483647) (h3 : -2147483648 ≤ slot ∧ slot ≤ 2147483647) (h4 : -2147483648 ≤ meant ∧ meant ≤ 2147483647) (h5 : -2147483648 ≤ third ∧ third ≤ 2147483647) : sOk base X G d T126 [vR 0, vI text, vI sentence, vI slot, vI meant, vI third] M (pI (fun v M' => HI base M' ∧ Fr [(0, 10), (20, 16), (20, 17), (20, 18), (21, 0), (22, 0), (23, 0), (24, 0), (25, 0), (26, 0), (27, 0), (28, 0), (29, 0), (30, 0), (31, 0), (32, 0), (33, 0), (34, 0), (35, 0), (58, 2), (58, 3), (58, 4), (58, 6), (59, 0), (60, 0), (61, 0)] M M')) := by
  have f0 : Fr [(0, 10), (20, 16), (20, 17), (20, 18), (21, 0), (22, 0), (23, 0), (24, 0), (25, 0), (26, 0), (27, 0), (28, 0), (29, 0), (30, 0), (31, 0), (32, 0), (33, 0), (34, 0), (35, 0), (58, 2), (58, 3), (58, 4), (58, 6), (59, 0), (60, 0), (61, 0)] M M := Fr.rf
  refine sOk.of (show sRn base X G d T126 0 [(0, vR 0), (1, vI text), (2, vI sentence), (3, vI slot), (4, vI meant), (5, vI third)] [] M _ from ?_)
  refine s_blx (lv' := [(0, vR 0), (1, vI text), (2, vI sentence), (3, vI slot), (4, vI meant), (5, vI third)]) (st' := [vR 0]) B126_0_1 rfl ?_
  refine r_gfix (r := 1) (pc' := 4) D126_1 rfl gf_10_10_0 H.1 ?_
  refine s_blx (lv' := [(0, vR 0), (1, vI text), (2, vI sentence), (3, vI slot), (4, vI meant), (5, vI third)]) (st' := [vI text, vR 1]) B126_4_5 rfl ?_
  refine r_vIp (c := 1) (args := [vI text]) (rest := []) (pc' := 8) D126_5 rfl ck_10_virtual_249 TE66 rfl (Nat.le_of_ble_eq_true rfl) ⟨Nat.le_of_ble_eq_true rfl, Nat.le_of_ble_eq_true rfl⟩ sc_1 ⟨rfl, by decide⟩ H.1 (dp_0 hd rfl) (k66_1x E (dp_n hd rfl) H text (h0) (by omega)) ?_
  intro v1 q5
  obtain ⟨q3, q4⟩ := q5
  refine r_ifc (tgt := 29) (pc' := 11) D126_8 rfl rfl (by unfold inR; omega) (fun (c6 : v1 = 0) => ?_) (fun (c6 : ¬ (v1 = 0)) => ?_)
  · refine s_blx (lv' := [(0, vR 0), (1, vI text), (2, vI sentence), (3, vI slot), (4, vI meant), (5, vI third)]) (st' := [vI (-1)]) B126_29_30 rfl ?_
    exact r_iretI D126_30 rfl (⟨H, f0⟩)
  · refine s_blx (lv' := [(0, vR 0), (1, vI text), (2, vI sentence), (3, vI slot), (4, vI meant), (5, vI third)]) (st' := [vR 0]) B126_11_12 rfl ?_
    refine r_gfix (r := 1) (pc' := 15) D126_12 rfl gf_10_10_0 H.1 ?_
    refine s_blx (lv' := [(0, vR 0), (1, vI text), (2, vI sentence), (3, vI slot), (4, vI meant), (5, vI third)]) (st' := [vI sentence, vR 1]) B126_15_16 rfl ?_
    refine r_vIp (c := 1) (args := [vI sentence]) (rest := []) (pc' := 19) D126_16 rfl ck_10_virtual_186 TE67 rfl (Nat.le_of_ble_eq_true rfl) ⟨Nat.le_of_ble_eq_true rfl, Nat.le_of_ble_eq_true rfl⟩ sc_1 ⟨rfl, by decide⟩ H.1 (dp_0 hd rfl) (k67_1x E (dp_n hd rfl) H sentence (by omega)) ?_
    intro v7 q13
    obtain ⟨q9, q10, q11, q12⟩ := q13
    refine r_ifc (tgt := 29) (pc' := 22) D126_19 rfl rfl (by unfold inR; omega) (fun (c14 : v7 = 0) => ?_) (fun (c14 : ¬ (v7 = 0)) => ?_)
    · refine s_blx (lv' := [(0, vR 0), (1, vI text), (2, vI sentence), (3, vI slot), (4, vI meant), (5, vI third)]) (st' := [vI (-1)]) B126_29_30 rfl ?_
      exact r_iretI D126_30 rfl (⟨H, f0⟩)
    · refine s_blx (lv' := [(0, vR 0), (1, vI text), (2, vI sentence), (3, vI slot), (4, vI meant), (5, vI third)]) (st' := [vI slot]) B126_22_23 rfl ?_
      refine r_sIp (args := [vI slot]) (rest := []) (pc' := 26) D126_23 rfl ck_10_static_135 TE143 rfl (Nat.le_of_ble_eq_true rfl) ⟨Nat.le_of_ble_eq_true rfl, Nat.le_of_ble_eq_true rfl⟩ (by decide) (dp_0 hd rfl) (k143 E (dp_n hd rfl) H slot (by omega)) ?_
      intro v15 q19
      obtain ⟨q17, q18⟩ := q19
      refine r_ifc (tgt := 31) (pc' := 29) D126_26 rfl rfl (by unfold inR; omega) (fun (c20 : v15 ≠ 0) => ?_) (fun (c20 : ¬ (v15 ≠ 0)) => ?_)
      · refine s_blx (lv' := [(0, vR 0), (1, vI text), (2, vI sentence), (3, vI slot), (4, vI meant), (5, vI third)]) (st' := [vI meant]) B126_31_33 rfl ?_
        refine r_sIp (args := [vI meant]) (rest := []) (pc' := 36) D126_33 rfl ck_10_static_153 TE144 rfl (Nat.le_of_ble_eq_true rfl) ⟨Nat.le_of_ble_eq_true rfl, Nat.le_of_ble_eq_true rfl⟩ (by decide) (dp_0 hd rfl) (k144 E (dp_n hd rfl) H meant (by omega)) ?_
        intro v21 q25
        obtain ⟨q23, q24⟩ := q25
        refine r_ifc (tgt := 47) (pc' := 39) D126_36 rfl rfl (by unfold inR; omega) (fun (c26 : v21 = 0) => ?_) (fun (c26 : ¬ (v21 = 0)) => ?_)
        · refine s_blx (lv' := [(0, vR 0), (1, vI text), (2, vI sentence), (3, vI slot), (4, vI meant), (5, vI third)]) (st' := [vI (-1)]) B126_47_48 rfl ?_
          exact r_iretI D126_48 rfl (⟨H, f0⟩)
        · refine s_blx (lv' := [(0, vR 0), (1, vI text), (2, vI sentence), (3, vI slot), (4, vI meant), (5, vI third)]) (st' := [vI third]) B126_39_41 rfl ?_
          refine r_sIp (args := [vI third]) (rest := []) (pc' := 44) D126_41 rfl ck_10_static_153 TE144 rfl (Nat.le_of_ble_eq_true rfl) ⟨Nat.le_of_ble_eq_true rfl, Nat.le_of_ble_eq_true rfl⟩ (by decide) (dp_0 hd rfl) (k144 E (dp_n hd rfl) H third (by omega)) ?_
          intro v27 q31
          obtain ⟨q29, q30⟩ := q31
          refine r_ifc (tgt := 49) (pc' := 47) D126_44 rfl rfl (by unfold inR; omega) (fun (c32 : v27 ≠ 0) => ?_) (fun (c32 : ¬ (v27 ≠ 0)) => ?_)
          · refine s_blx (lv' := [(0, vR 0), (1, vI text), (2, vI sentence), (3, vI slot), (4, vI meant), (5, vI third)]) (st' := [vR 0]) B126_49_50 rfl ?_
            refine r_vV (c := 0) (args := []) (rest := []) (pc' := 53) D126_50 rfl ck_10_virtual_252 TE138 rfl (Nat.le_of_ble_eq_true rfl) ⟨Nat.le_of_ble_eq_true rfl, Nat.le_of_ble_eq_true rfl⟩ sc_0 ⟨rfl, by decide⟩ H.1 (dp_0 hd rfl) (k138 E (dp_n hd rfl) H ) ?_
            intro M34 q37
            obtain ⟨H35, f36⟩ := q37
            have f38 := f0.tr (f36.up rfl)
            refine s_blx (lv' := [(0, vR 0), (1, vI text), (2, vI sentence), (3, vI slot), (4, vI meant), (5, vI third)]) (st' := [vR 0]) B126_53_54 rfl ?_
            refine r_gfix (r := 58) (pc' := 57) D126_54 rfl gf_10_70_0 H35.1 ?_
            refine s_blx (lv' := [(0, vR 0), (1, vI text), (2, vI sentence), (3, vI slot), (4, vI meant), (5, vI third)]) (st' := [vR 0, vR 58]) B126_57_58 rfl ?_
            refine r_gfix (r := 20) (pc' := 61) D126_58 rfl gf_10_44_0 H35.1 ?_
            refine s_blx (lv' := [(0, vR 0), (1, vI text), (2, vI sentence), (3, vI slot), (4, vI meant), (5, vI third)]) (st' := [vR 0, vR 20, vR 58]) B126_61_62 rfl ?_
            refine r_gfix (r := 1) (pc' := 65) D126_62 rfl gf_10_10_0 H35.1 ?_
            refine r_gfix (r := 9) (pc' := 68) D126_65 rfl gf_10_255_1 H35.1 ?_
            refine s_blx (lv' := [(0, vR 0), (1, vI text), (2, vI sentence), (3, vI slot), (4, vI meant), (5, vI third)]) (st' := [vI text, vR 9, vR 20, vR 58]) B126_68_69 rfl ?_
            have b46 := H35.2 1 12 0 8 rfl
            have g47 : gi M34 1 12 = gi M 1 12 := (f36.g rfl).trans (rfl)
            obtain ⟨hb39, nh40, nc41, a42, b43, r44, r45⟩ := ((h0.fr f38 rfl)) (text) (by omega) (by omega)
            refine r_aald (v := vR hb39) (pc' := 70) D126_69 rfl sc_9 (by decide) H35.1 (by omega) a42 ?_
            refine s_blx (lv' := [(0, vR 0), (1, vI text), (2, vI sentence), (3, vI slot), (4, vI meant), (5, vI third)]) (st' := [vI sentence, vR (hb39), vR 20, vR 58]) B126_70_71 rfl ?_
            refine r_vI (c := 58) (args := [vR 20, vR (hb39), vI sentence]) (rest := []) (pc' := 74) D126_71 rfl ck_10_virtual_259 TE1 rfl (Nat.le_of_ble_eq_true rfl) ⟨Nat.le_of_ble_eq_true rfl, Nat.le_of_ble_eq_true rfl⟩ sc_58 ⟨rfl, by decide⟩ H35.1 (dp_0 hd rfl) (k1_58_20x E (dp_n hd rfl) H35 hb39 sentence nh40 nc41 (b43) (by omega) (by omega) (by omega)) ?_
            intro v48 M49 q53
            obtain ⟨H50, f51, q52⟩ := q53
            have f54 := f38.tr (f51.up rfl)
            have hp55 := b43.fr f51 (by decide)
            refine s_blx (lv' := [(0, vR 0), (1, vI text), (2, vI sentence), (3, vI slot), (4, vI meant), (5, vI third)]) (st' := [vR 0]) B126_74_76 rfl ?_
            refine r_gfix (r := 1) (pc' := 79) D126_76 rfl gf_10_10_0 H50.1 ?_
            refine r_gfix (r := 7) (pc' := 82) D126_79 rfl gf_10_316_1 H50.1 ?_
            refine s_blx (lv' := [(0, vR 0), (1, vI text), (2, vI sentence), (3, vI slot), (4, vI meant), (5, vI third)]) (st' := [vI ((sentence * 3) + slot), vR 7]) B126_82_87 rfl ?_
            refine r_iald (pc' := 88) D126_87 rfl sc_7 H50.1 (by omega) ?_
            intro w56 e57 r58
            have b_w56 := H50.2 7 ((sentence * 3) + slot) 0 7 rfl
            rw [← e57] at b_w56; clear r58
            refine s_blx (lv' := [(6, vI w56), (0, vR 0), (1, vI text), (2, vI sentence), (3, vI slot), (4, vI meant), (5, vI third)]) (st' := [vR 0]) B126_88_91 rfl ?_
            refine r_gfix (r := 20) (pc' := 94) D126_91 rfl gf_10_44_0 H50.1 ?_
            refine s_blx (lv' := [(6, vI w56), (0, vR 0), (1, vI text), (2, vI sentence), (3, vI slot), (4, vI meant), (5, vI third)]) (st' := [vR 0, vR 20]) B126_94_95 rfl ?_
            refine r_gfix (r := 58) (pc' := 98) D126_95 rfl gf_10_70_0 H50.1 ?_
            refine r_gint (ki := 3) (pc' := 101) D126_98 rfl gf_10_319_58 rfl H50.1 ?_
            intro w59 e60 r61
            unfold inR at r61
            refine s_blx (lv' := [(6, vI w56), (0, vR 0), (1, vI text), (2, vI sentence), (3, vI slot), (4, vI meant), (5, vI third)]) (st' := [vI slot, vI w59, vR 20]) B126_101_102 rfl ?_
            refine r_vIp (c := 20) (args := [vI w59, vI slot]) (rest := []) (pc' := 105) D126_102 rfl ck_10_virtual_322 TE86 rfl (Nat.le_of_ble_eq_true rfl) ⟨Nat.le_of_ble_eq_true rfl, Nat.le_of_ble_eq_true rfl⟩ sc_20 ⟨rfl, by decide⟩ H50.1 (dp_0 hd rfl) (k86_20 E (dp_n hd rfl) H50 w59 slot (by omega) (by omega)) ?_
            intro v62 q65
            have q64 := q65; clear q65
            refine s_blx (lv' := [(7, vI v62), (6, vI w56), (0, vR 0), (1, vI text), (2, vI sentence), (3, vI slot), (4, vI meant), (5, vI third)]) (st' := [vI w56, vI meant]) B126_105_111 rfl ?_
            refine r_icmp (tgt := 118) (pc' := 114) D126_111 rfl rfl (by unfold inR; omega) (fun (c66 : meant = w56) => ?_) (fun (c66 : ¬ (meant = w56)) => ?_)
            · refine s_blx (lv' := [(7, vI v62), (6, vI w56), (0, vR 0), (1, vI text), (2, vI sentence), (3, vI slot), (4, vI meant), (5, vI third)]) (st' := [vI w56, vI v62, vI 0]) B126_118_123 rfl ?_
              refine r_icmp (tgt := 130) (pc' := 126) D126_123 rfl rfl (by unfold inR; omega) (fun (c67 : v62 = w56) => ?_) (fun (c67 : ¬ (v62 = w56)) => ?_)
              · refine s_blx (lv' := [(7, vI v62), (6, vI w56), (0, vR 0), (1, vI text), (2, vI sentence), (3, vI slot), (4, vI meant), (5, vI third)]) (st' := [vI v62, vI third, vI (0 + 0)]) B126_130_136 rfl ?_
                refine r_icmp (tgt := 143) (pc' := 139) D126_136 rfl rfl (by unfold inR; omega) (fun (c68 : third = v62) => ?_) (fun (c68 : ¬ (third = v62)) => ?_)
                · refine s_blx (lv' := [(7, vI v62), (6, vI w56), (0, vR 0), (1, vI text), (2, vI sentence), (3, vI slot), (4, vI meant), (5, vI third)]) (st' := [vI ((0 + 0) + 0)]) B126_143_145 rfl ?_
                  exact r_iretI D126_145 rfl (⟨H50, f54⟩)
                · refine s_blx (lv' := [(7, vI v62), (6, vI w56), (0, vR 0), (1, vI text), (2, vI sentence), (3, vI slot), (4, vI meant), (5, vI third)]) (st' := [vI 4, vI (0 + 0)]) B126_139_140 rfl ?_
                  refine r_goto (tgt := 144) D126_140 rfl ?_
                  refine s_blx (lv' := [(7, vI v62), (6, vI w56), (0, vR 0), (1, vI text), (2, vI sentence), (3, vI slot), (4, vI meant), (5, vI third)]) (st' := [vI ((0 + 0) + 4)]) B126_144_145 rfl ?_
                  exact r_iretI D126_145 rfl (⟨H50, f54⟩)
              · refine s_blx (lv' := [(7, vI v62), (6, vI w56), (0, vR 0), (1, vI text), (2, vI sentence), (3, vI slot), (4, vI meant), (5, vI third)]) (st' := [vI 2, vI 0]) B126_126_127 rfl ?_
                refine r_goto (tgt := 131) D126_127 rfl ?_
                refine s_blx (lv' := [(7, vI v62), (6, vI w56), (0, vR 0), (1, vI text), (2, vI sentence), (3, vI slot), (4, vI meant), (5, vI third)]) (st' := [vI v62, vI third, vI (0 + 2)]) B126_131_136 rfl ?_
                refine r_icmp (tgt := 143) (pc' := 139) D126_136 rfl rfl (by unfold inR; omega) (fun (c69 : third = v62) => ?_) (fun (c69 : ¬ (third = v62)) => ?_)
                · refine s_blx (lv' := [(7, vI v62), (6, vI w56), (0, vR 0), (1, vI text), (2, vI sentence), (3, vI slot), (4, vI meant), (5, vI third)]) (st' := [vI ((0 + 2) + 0)]) B126_143_145 rfl ?_
                  exact r_iretI D126_145 rfl (⟨H50, f54⟩)
                · refine s_blx (lv' := [(7, vI v62), (6, vI w56), (0, vR 0), (1, vI text), (2, vI sentence), (3, vI slot), (4, vI meant), (5, vI third)]) (st' := [vI 4, vI (0 + 2)]) B126_139_140 rfl ?_
                  refine r_goto (tgt := 144) D126_140 rfl ?_
                  refine s_blx (lv' := [(7, vI v62), (6, vI w56), (0, vR 0), (1, vI text), (2, vI sentence), (3, vI slot), (4, vI meant), (5, vI third)]) (st' := [vI ((0 + 2) + 4)]) B126_144_145 rfl ?_
                  exact r_iretI D126_145 rfl (⟨H50, f54⟩)
            · refine s_blx (lv' := [(7, vI v62), (6, vI w56), (0, vR 0), (1, vI text), (2, vI sentence), (3, vI slot), (4, vI meant), (5, vI third)]) (st' := [vI 1]) B126_114_115 rfl ?_
              refine r_goto (tgt := 119) D126_115 rfl ?_
              refine s_blx (lv' := [(7, vI v62), (6, vI w56), (0, vR 0), (1, vI text), (2, vI sentence), (3, vI slot), (4, vI meant), (5, vI third)]) (st' := [vI w56, vI v62, vI 1]) B126_119_123 rfl ?_
              refine r_icmp (tgt := 130) (pc' := 126) D126_123 rfl rfl (by unfold inR; omega) (fun (c70 : v62 = w56) => ?_) (fun (c70 : ¬ (v62 = w56)) => ?_)
              · refine s_blx (lv' := [(7, vI v62), (6, vI w56), (0, vR 0), (1, vI text), (2, vI sentence), (3, vI slot), (4, vI meant), (5, vI third)]) (st' := [vI v62, vI third, vI (1 + 0)]) B126_130_136 rfl ?_
                refine r_icmp (tgt := 143) (pc' := 139) D126_136 rfl rfl (by unfold inR; omega) (fun (c71 : third = v62) => ?_) (fun (c71 : ¬ (third = v62)) => ?_)
                · refine s_blx (lv' := [(7, vI v62), (6, vI w56), (0, vR 0), (1, vI text), (2, vI sentence), (3, vI slot), (4, vI meant), (5, vI third)]) (st' := [vI ((1 + 0) + 0)]) B126_143_145 rfl ?_
                  exact r_iretI D126_145 rfl (⟨H50, f54⟩)
                · refine s_blx (lv' := [(7, vI v62), (6, vI w56), (0, vR 0), (1, vI text), (2, vI sentence), (3, vI slot), (4, vI meant), (5, vI third)]) (st' := [vI 4, vI (1 + 0)]) B126_139_140 rfl ?_
                  refine r_goto (tgt := 144) D126_140 rfl ?_
                  refine s_blx (lv' := [(7, vI v62), (6, vI w56), (0, vR 0), (1, vI text), (2, vI sentence), (3, vI slot), (4, vI meant), (5, vI third)]) (st' := [vI ((1 + 0) + 4)]) B126_144_145 rfl ?_
                  exact r_iretI D126_145 rfl (⟨H50, f54⟩)
              · refine s_blx (lv' := [(7, vI v62), (6, vI w56), (0, vR 0), (1, vI text), (2, vI sentence), (3, vI slot), (4, vI meant), (5, vI third)]) (st' := [vI 2, vI 1]) B126_126_127 rfl ?_
                refine r_goto (tgt := 131) D126_127 rfl ?_
                refine s_blx (lv' := [(7, vI v62), (6, vI w56), (0, vR 0), (1, vI text), (2, vI sentence), (3, vI slot), (4, vI meant), (5, vI third)]) (st' := [vI v62, vI third, vI (1 + 2)]) B126_131_136 rfl ?_
                refine r_icmp (tgt := 143) (pc' := 139) D126_136 rfl rfl (by unfold inR; omega) (fun (c72 : third = v62) => ?_) (fun (c72 : ¬ (third = v62)) => ?_)
                · refine s_blx (lv' := [(7, vI v62), (6, vI w56), (0, vR 0), (1, vI text), (2, vI sentence), (3, vI slot), (4, vI meant), (5, vI third)]) (st' := [vI ((1 + 2) + 0)]) B126_143_145 rfl ?_
                  exact r_iretI D126_145 rfl (⟨H50, f54⟩)
                · refine s_blx (lv' := [(7, vI v62), (6, vI w56), (0, vR 0), (1, vI text), (2, vI sentence), (3, vI slot), (4, vI meant), (5, vI third)]) (st' := [vI 4, vI (1 + 2)]) B126_139_140 rfl ?_
                  refine r_goto (tgt := 144) D126_140 rfl ?_
                  refine s_blx (lv' := [(7, vI v62), (6, vI w56), (0, vR 0), (1, vI text), (2, vI sentence), (3, vI slot), (4, vI meant), (5, vI third)]) (st' := [vI ((1 + 2) + 4)]) B126_144_145 rfl ?_
                  exact r_iretI D126_145 rfl (⟨H50, f54⟩)
          · refine s_blx (lv' := [(0, vR 0), (1, vI text), (2, vI sentence), (3, vI slot), (4, vI meant), (5, vI third)]) (st' := [vI (-1)]) B126_47_48 rfl ?_
            exact r_iretI D126_48 rfl (⟨H, f0⟩)
      · refine s_blx (lv' := [(0, vR 0), (1, vI text), (2, vI sentence), (3, vI slot), (4, vI meant), (5, vI third)]) (st' := [vI (-1)]) B126_29_30 rfl ?_
        exact r_iretI D126_30 rfl (⟨H, f0⟩)
set_option maxRecDepth 4000 in
theorem L_k127x {base : Nat} {X : Nat → Option mC} {G : Nat → Value} (E : EnvOK base X G) {d : Nat} (hd : 7 ≤ d) {M : mH} (H : HI base M) (sentence : Int) (h0 : HB base M) (h1 : -2147483648 ≤ sentence ∧ sentence ≤ 2147483647) : ∀ mz : Nat, (∀ (x2 x3 x4 : Int) (N : mH), HI base N → Fr [(0, 4), (0, 10), (20, 16), (20, 17), (20, 18), (21, 0), (22, 0), (23, 0), (24, 0), (25, 0), (26, 0), (27, 0), (28, 0), (29, 0), (30, 0), (31, 0), (32, 0), (33, 0), (34, 0), (35, 0), (58, 2), (58, 3), (58, 4), (58, 6), (59, 0), (60, 0), (61, 0)] M N → (0 ≤ sentence ∧ sentence ≤ 15) → (0 ≤ x2) → (x2 ≤ 400) → ((-2147483648) ≤ x3) → (x3 ≤ 2147483647) → (0 ≤ x4) → (x4 ≤ 8) → (0 ≤ sentence) → (sentence ≤ 15) → (8 - x4) * 1 + 0 < (mz : Int) → sRn base X G d T127 27 [(0, vR 0), (1, vI sentence), (2, vI x2), (3, vI x3), (4, vI x4)] [] N (s_Q base (pI (fun v M' => HI base M' ∧ Fr [(0, 4), (0, 10), (20, 16), (20, 17), (20, 18), (21, 0), (22, 0), (23, 0), (24, 0), (25, 0), (26, 0), (27, 0), (28, 0), (29, 0), (30, 0), (31, 0), (32, 0), (33, 0), (34, 0), (35, 0), (58, 2), (58, 3), (58, 4), (58, 6), (59, 0), (60, 0), (61, 0)] M M' ∧ (-2147483648 ≤ v ∧ v ≤ 2147483647))))) := by
  have f0 : Fr [(0, 4), (0, 10), (20, 16), (20, 17), (20, 18), (21, 0), (22, 0), (23, 0), (24, 0), (25, 0), (26, 0), (27, 0), (28, 0), (29, 0), (30, 0), (31, 0), (32, 0), (33, 0), (34, 0), (35, 0), (58, 2), (58, 3), (58, 4), (58, 6), (59, 0), (60, 0), (61, 0)] M M := Fr.rf
  intro mz
  induction mz with
  | zero => exact fun x2 x3 x4 N _ _ z0 z1 z2 z3 z4 z5 z6 z7 z8 z9 => by omega
  | succ mz ih =>
    intro x2 x3 x4 N HN fN i0 i1 i2 i3 i4 i5 i6 i7 i8 hmu
    refine s_blx (lv' := [(0, vR 0), (1, vI sentence), (2, vI x2), (3, vI x3), (4, vI x4)]) (st' := [vR 0, vI x4]) B127_27_30 rfl ?_
    refine r_gfix (r := 1) (pc' := 33) D127_30 rfl gf_10_10_0 HN.1 ?_
    refine r_gint (ki := 12) (pc' := 36) D127_33 rfl gf_10_237_1 rfl HN.1 ?_
    intro w22 e23 r24
    have b_w22 := HN.2 1 (12) 0 8 rfl
    rw [← e23] at b_w22; clear r24
    refine r_icmp (tgt := 83) (pc' := 39) D127_36 rfl rfl (by unfold inR; omega) (fun (c25 : w22 ≤ x4) => ?_) (fun (c25 : ¬ (w22 ≤ x4)) => ?_)
    · refine s_blx (lv' := [(0, vR 0), (1, vI sentence), (2, vI x2), (3, vI x3), (4, vI x4)]) (st' := [vI x3]) B127_83_84 rfl ?_
      exact r_iretI D127_84 rfl (⟨HN, fN, by omega⟩)
    · refine s_blx (lv' := [(0, vR 0), (1, vI sentence), (2, vI x2), (3, vI x3), (4, vI x4)]) (st' := [vR 0]) B127_39_40 rfl ?_
      refine r_gfix (r := 58) (pc' := 43) D127_40 rfl gf_10_70_0 HN.1 ?_
      refine s_blx (lv' := [(0, vR 0), (1, vI sentence), (2, vI x2), (3, vI x3), (4, vI x4)]) (st' := [vR 0, vR 58]) B127_43_44 rfl ?_
      refine r_gfix (r := 20) (pc' := 47) D127_44 rfl gf_10_44_0 HN.1 ?_
      refine s_blx (lv' := [(0, vR 0), (1, vI sentence), (2, vI x2), (3, vI x3), (4, vI x4)]) (st' := [vR 0, vR 20, vR 58]) B127_47_48 rfl ?_
      refine r_gfix (r := 1) (pc' := 51) D127_48 rfl gf_10_10_0 HN.1 ?_
      refine r_gfix (r := 9) (pc' := 54) D127_51 rfl gf_10_255_1 HN.1 ?_
      refine s_blx (lv' := [(0, vR 0), (1, vI sentence), (2, vI x2), (3, vI x3), (4, vI x4)]) (st' := [vI x4, vR 9, vR 20, vR 58]) B127_54_56 rfl ?_
      have b33 := HN.2 1 12 0 8 rfl
      have g34 : gi N 1 12 = w22 := e23.symm
      obtain ⟨hb26, nh27, nc28, a29, b30, r31, r32⟩ := ((h0.fr fN rfl)) (x4) (by omega) (by omega)
      refine r_aald (v := vR hb26) (pc' := 57) D127_56 rfl sc_9 (by decide) HN.1 (by omega) a29 ?_
      refine s_blx (lv' := [(0, vR 0), (1, vI sentence), (2, vI x2), (3, vI x3), (4, vI x4)]) (st' := [vI sentence, vR (hb26), vR 20, vR 58]) B127_57_58 rfl ?_
      refine r_vI (c := 58) (args := [vR 20, vR (hb26), vI sentence]) (rest := []) (pc' := 61) D127_58 rfl ck_10_virtual_259 TE1 rfl (Nat.le_of_ble_eq_true rfl) ⟨Nat.le_of_ble_eq_true rfl, Nat.le_of_ble_eq_true rfl⟩ sc_58 ⟨rfl, by decide⟩ HN.1 (dp_0 hd rfl) (k1_58_20x E (dp_n hd rfl) HN hb26 sentence nh27 nc28 (b30) (by omega) (by omega) (by omega)) ?_
      intro v35 M36 q40
      obtain ⟨H37, f38, q39⟩ := q40
      have f41 := fN.tr (f38.up rfl)
      have hp42 := b30.fr f38 (by decide)
      refine s_blx (lv' := [(0, vR 0), (1, vI sentence), (2, vI x2), (3, vI x3), (4, vI x4)]) (st' := [vI x2, vR 0]) B127_61_64 rfl ?_
      refine r_vIp (c := 0) (args := [vI x2]) (rest := []) (pc' := 67) D127_64 rfl ck_10_virtual_325 TE140 rfl (Nat.le_of_ble_eq_true rfl) ⟨Nat.le_of_ble_eq_true rfl, Nat.le_of_ble_eq_true rfl⟩ sc_0 ⟨rfl, by decide⟩ H37.1 (dp_0 hd rfl) (k140 E (dp_n hd rfl) H37 x2 (by omega)) ?_
      intro v43 q46
      have q45 := q46; clear q46
      refine r_ifc (tgt := 77) (pc' := 70) D127_67 rfl rfl (by unfold inR; omega) (fun (c47 : v43 = 0) => ?_) (fun (c47 : ¬ (v43 = 0)) => ?_)
      · refine s_blx (lv' := [(4, vI (x4 + 1)), (0, vR 0), (1, vI sentence), (2, vI x2), (3, vI x3)]) (st' := []) B127_77_80 rfl ?_
        refine r_goto (tgt := 27) D127_80 rfl ?_
        refine r_loc (lv' := [(0, vR 0), (1, vI sentence), (2, vI x2), (3, vI x3), (4, vI (x4 + 1))]) ⟨rfl, rfl, rfl, rfl, rfl, trivial⟩ rfl rfl ?_
        exact ih x2 x3 (x4 + 1) M36 H37 f41 (by omega) (by omega) (by omega) (by omega) (by omega) (by omega) (by omega) (by omega) (by omega) (by omega)
      · refine s_blx (lv' := [(0, vR 0), (1, vI sentence), (2, vI x2), (3, vI x3), (4, vI x4)]) (st' := [vI x4, vI 1, vI x3]) B127_70_74 rfl ?_
        refine r_bin (pc' := 75) D127_74 rfl rfl ?_
        intro z48 r49 _; unfold inR at r49
        refine r_bin (pc' := 76) D127_75 rfl rfl ?_
        intro z50 r51 _; unfold inR at r51
        refine s_blx (lv' := [(4, vI (x4 + 1)), (3, vI z50), (0, vR 0), (1, vI sentence), (2, vI x2)]) (st' := []) B127_76_80 rfl ?_
        refine r_goto (tgt := 27) D127_80 rfl ?_
        refine r_loc (lv' := [(0, vR 0), (1, vI sentence), (2, vI x2), (3, vI z50), (4, vI (x4 + 1))]) ⟨rfl, rfl, rfl, rfl, rfl, trivial⟩ rfl rfl ?_
        exact ih x2 z50 (x4 + 1) M36 H37 f41 (by omega) (by omega) (by omega) (by omega) (by omega) (by omega) (by omega) (by omega) (by omega) (by omega)
set_option maxRecDepth 4000 in
theorem k127x {base : Nat} {X : Nat → Option mC} {G : Nat → Value} (E : EnvOK base X G) {d : Nat} (hd : 7 ≤ d) {M : mH} (H : HI base M) (sentence : Int) (h0 : HB base M) (h1 : -2147483648 ≤ sentence ∧ sentence ≤ 2147483647) : sOk base X G d T127 [vR 0, vI sentence] M (pI (fun v M' => HI base M' ∧ Fr [(0, 4), (0, 10), (20, 16), (20, 17), (20, 18), (21, 0), (22, 0), (23, 0), (24, 0), (25, 0), (26, 0), (27, 0), (28, 0), (29, 0), (30, 0), (31, 0), (32, 0), (33, 0), (34, 0), (35, 0), (58, 2), (58, 3), (58, 4), (58, 6), (59, 0), (60, 0), (61, 0)] M M' ∧ (-2147483648 ≤ v ∧ v ≤ 2147483647))) := by
  have f0 : Fr [(0, 4), (0, 10), (20, 16), (20, 17), (20, 18), (21, 0), (22, 0), (23, 0), (24, 0), (25, 0), (26, 0), (27, 0), (28, 0), (29, 0), (30, 0), (31, 0), (32, 0), (33, 0), (34, 0), (35, 0), (58, 2), (58, 3), (58, 4), (58, 6), (59, 0), (60, 0), (61, 0)] M M := Fr.rf
  refine sOk.of (show sRn base X G d T127 0 [(0, vR 0), (1, vI sentence)] [] M _ from ?_)
  refine s_blx (lv' := [(0, vR 0), (1, vI sentence)]) (st' := [vR 0]) B127_0_1 rfl ?_
  refine r_vI (c := 0) (args := []) (rest := []) (pc' := 4) D127_1 rfl ck_10_virtual_149 TE135 rfl (Nat.le_of_ble_eq_true rfl) ⟨Nat.le_of_ble_eq_true rfl, Nat.le_of_ble_eq_true rfl⟩ sc_0 ⟨rfl, by decide⟩ H.1 (dp_0 hd rfl) (k135 E (dp_n hd rfl) H ) ?_
  intro v1 M2 q6
  obtain ⟨H3, f4, q5⟩ := q6
  have f7 := f0.tr (f4.up rfl)
  refine s_blx (lv' := [(2, vI v1), (0, vR 0), (1, vI sentence)]) (st' := [vR 0]) B127_4_6 rfl ?_
  refine r_gfix (r := 1) (pc' := 9) D127_6 rfl gf_10_10_0 H3.1 ?_
  refine s_blx (lv' := [(2, vI v1), (0, vR 0), (1, vI sentence)]) (st' := [vI sentence, vR 1]) B127_9_10 rfl ?_
  refine r_vIp (c := 1) (args := [vI sentence]) (rest := []) (pc' := 13) D127_10 rfl ck_10_virtual_186 TE67 rfl (Nat.le_of_ble_eq_true rfl) ⟨Nat.le_of_ble_eq_true rfl, Nat.le_of_ble_eq_true rfl⟩ sc_1 ⟨rfl, by decide⟩ H3.1 (dp_0 hd rfl) (k67_1x E (dp_n hd rfl) H3 sentence (by omega)) ?_
  intro v8 q14
  obtain ⟨q10, q11, q12, q13⟩ := q14
  refine r_ifc (tgt := 18) (pc' := 16) D127_13 rfl rfl (by unfold inR; omega) (fun (c15 : v8 ≠ 0) => ?_) (fun (c15 : ¬ (v8 ≠ 0)) => ?_)
  · refine s_blx (lv' := [(2, vI v1), (0, vR 0), (1, vI sentence)]) (st' := [vR 0]) B127_18_19 rfl ?_
    refine r_vV (c := 0) (args := []) (rest := []) (pc' := 22) D127_19 rfl ck_10_virtual_252 TE138 rfl (Nat.le_of_ble_eq_true rfl) ⟨Nat.le_of_ble_eq_true rfl, Nat.le_of_ble_eq_true rfl⟩ sc_0 ⟨rfl, by decide⟩ H3.1 (dp_0 hd rfl) (k138 E (dp_n hd rfl) H3 ) ?_
    intro M17 q20
    obtain ⟨H18, f19⟩ := q20
    have f21 := f7.tr (f19.up rfl)
    refine s_blx (lv' := [(4, vI 0), (3, vI 0), (2, vI v1), (0, vR 0), (1, vI sentence)]) (st' := []) B127_22_27 rfl ?_
    refine r_loc (lv' := [(0, vR 0), (1, vI sentence), (2, vI v1), (3, vI 0), (4, vI 0)]) ⟨rfl, rfl, rfl, rfl, rfl, trivial⟩ rfl rfl ?_
    exact (L_k127x E hd H sentence h0 h1 (((8 - 0) * 1 + 0 : Int) + 1).toNat) v1 0 0 M17 H18 f21 (by omega) (by omega) (by omega) (by omega) (by omega) (by omega) (by omega) (by omega) (by omega) (by omega)
  · refine s_blx (lv' := [(2, vI v1), (0, vR 0), (1, vI sentence)]) (st' := [vI (-1)]) B127_16_17 rfl ?_
    exact r_iretI D127_17 rfl (⟨H3, f7, by omega⟩)
set_option maxRecDepth 4000 in
theorem L_k141x {base : Nat} {X : Nat → Option mC} {G : Nat → Value} (E : EnvOK base X G) {d : Nat} (hd : 6 ≤ d) {M : mH} (H : HI base M) (sentence : Int) (h0 : HB base M) (h1 : 0 ≤ sentence ∧ sentence ≤ 15) : ∀ mz : Nat, (∀ (x2 x3 : Int) (N : mH), HI base N → Fr [(58, 2), (58, 3), (58, 4), (58, 6), (59, 0), (60, 0), (61, 0), (76, 0)] M N → (0 ≤ x2) → (0 ≤ x3) → (x3 ≤ 8) → (8 - x3) * 9 + 8 < (mz : Int) → sRn base X G d T141 4 [(0, vR 0), (1, vI sentence), (2, vI x2), (3, vI x3)] [] N (s_Q base (pI (fun v M' => HI base M' ∧ Fr [(58, 2), (58, 3), (58, 4), (58, 6), (59, 0), (60, 0), (61, 0), (76, 0)] M M' ∧ (-2147483648 ≤ v ∧ v ≤ 2147483647))))) ∧ (∀ (x2 x3 x4 : Int) (N : mH), HI base N → Fr [(58, 2), (58, 3), (58, 4), (58, 6), (59, 0), (60, 0), (61, 0), (76, 0)] M N → (0 ≤ x2) → (0 ≤ x3) → (x3 ≤ 7) → (0 ≤ x4) → (x4 ≤ 7) → (8 - x3) * 9 + 0 + (7 - x4) * 1 + 0 < (mz : Int) → sRn base X G d T141 53 [(0, vR 0), (1, vI sentence), (2, vI x2), (3, vI x3), (4, vI x4)] [] N (s_Q base (pI (fun v M' => HI base M' ∧ Fr [(58, 2), (58, 3), (58, 4), (58, 6), (59, 0), (60, 0), (61, 0), (76, 0)] M M' ∧ (-2147483648 ≤ v ∧ v ≤ 2147483647))))) := by
  have f0 : Fr [(58, 2), (58, 3), (58, 4), (58, 6), (59, 0), (60, 0), (61, 0), (76, 0)] M M := Fr.rf
  intro mz
  induction mz with
  | zero => exact ⟨fun x2 x3 N _ _ z0 z1 z2 z3 => by omega, fun x2 x3 x4 N _ _ z0 z1 z2 z3 z4 z5 => by omega⟩
  | succ mz ih =>
    refine ⟨?_, ?_⟩
    · intro x2 x3 N HN fN i0 i1 i2 hmu
      refine s_blx (lv' := [(0, vR 0), (1, vI sentence), (2, vI x2), (3, vI x3)]) (st' := [vR 0, vI x3]) B141_4_6 rfl ?_
      refine r_gfix (r := 1) (pc' := 9) D141_6 rfl gf_10_10_0 HN.1 ?_
      refine r_gint (ki := 12) (pc' := 12) D141_9 rfl gf_10_237_1 rfl HN.1 ?_
      intro w1 e2 r3
      have b_w1 := HN.2 1 (12) 0 8 rfl
      rw [← e2] at b_w1; clear r3
      refine r_icmp (tgt := 96) (pc' := 15) D141_12 rfl rfl (by unfold inR; omega) (fun (c4 : w1 ≤ x3) => ?_) (fun (c4 : ¬ (w1 ≤ x3)) => ?_)
      · refine s_blx (lv' := [(0, vR 0), (1, vI sentence), (2, vI x2), (3, vI x3)]) (st' := [vI x2]) B141_96_97 rfl ?_
        refine r_norm ?_
        intro z5 r6 _; unfold inR at r6
        exact r_iretI D141_97 rfl (⟨HN, fN, by omega⟩)
      · refine s_blx (lv' := [(0, vR 0), (1, vI sentence), (2, vI x2), (3, vI x3)]) (st' := [vR 0]) B141_15_16 rfl ?_
        refine r_gfix (r := 58) (pc' := 19) D141_16 rfl gf_10_70_0 HN.1 ?_
        refine s_blx (lv' := [(0, vR 0), (1, vI sentence), (2, vI x2), (3, vI x3)]) (st' := [vR 0, vR 58]) B141_19_20 rfl ?_
        refine r_gfix (r := 20) (pc' := 23) D141_20 rfl gf_10_44_0 HN.1 ?_
        refine s_blx (lv' := [(0, vR 0), (1, vI sentence), (2, vI x2), (3, vI x3)]) (st' := [vR 0, vR 20, vR 58]) B141_23_24 rfl ?_
        refine r_gfix (r := 1) (pc' := 27) D141_24 rfl gf_10_10_0 HN.1 ?_
        refine r_gfix (r := 9) (pc' := 30) D141_27 rfl gf_10_255_1 HN.1 ?_
        refine s_blx (lv' := [(0, vR 0), (1, vI sentence), (2, vI x2), (3, vI x3)]) (st' := [vI x3, vR 9, vR 20, vR 58]) B141_30_31 rfl ?_
        have b14 := HN.2 1 12 0 8 rfl
        have g15 : gi N 1 12 = w1 := e2.symm
        obtain ⟨hb7, nh8, nc9, a10, b11, r12, r13⟩ := ((h0.fr fN rfl)) (x3) (by omega) (by omega)
        refine r_aald (v := vR hb7) (pc' := 32) D141_31 rfl sc_9 (by decide) HN.1 (by omega) a10 ?_
        refine s_blx (lv' := [(0, vR 0), (1, vI sentence), (2, vI x2), (3, vI x3)]) (st' := [vI sentence, vR (hb7), vR 20, vR 58]) B141_32_33 rfl ?_
        refine r_vI (c := 58) (args := [vR 20, vR (hb7), vI sentence]) (rest := []) (pc' := 36) D141_33 rfl ck_10_virtual_259 TE1 rfl (Nat.le_of_ble_eq_true rfl) ⟨Nat.le_of_ble_eq_true rfl, Nat.le_of_ble_eq_true rfl⟩ sc_58 ⟨rfl, by decide⟩ HN.1 (dp_0 hd rfl) (k1_58_20x E (dp_n hd rfl) HN hb7 sentence nh8 nc9 (b11) (by omega) (by omega) (by omega)) ?_
        intro v16 M17 q21
        obtain ⟨H18, f19, q20⟩ := q21
        have f22 := fN.tr (f19.up rfl)
        have hp23 := b11.fr f19 (by decide)
        refine s_blx (lv' := [(0, vR 0), (1, vI sentence), (2, vI x2), (3, vI x3)]) (st' := [vR 0]) B141_36_38 rfl ?_
        refine r_gfix (r := 76) (pc' := 41) D141_38 rfl gf_10_98_0 H18.1 ?_
        refine s_blx (lv' := [(0, vR 0), (1, vI sentence), (2, vI x2), (3, vI x3)]) (st' := [vR 0, vI x3, vR 76]) B141_41_43 rfl ?_
        refine r_gfix (r := 58) (pc' := 46) D141_43 rfl gf_10_70_0 H18.1 ?_
        refine r_glong (ki := 2) (pc' := 49) D141_46 rfl gf_10_338_58 rfl H18.1 ?_
        intro w24 e25 r26
        clear r26
        refine r_normL ?_
        intro z27 r28 _; unfold inJ at r28
        refine r_last (pc' := 50) D141_49 rfl sc_76 H18 (by omega) (by unfold inJ; omega) trivial ?_
        intro M29 u30 H31 p32
        have f33 := f22.wr u30 rfl
        have hp34 := hp23.wr u30 (by decide)
        refine s_blx (lv' := [(4, vI 0), (0, vR 0), (1, vI sentence), (2, vI x2), (3, vI x3)]) (st' := []) B141_50_53 rfl ?_
        refine r_loc (lv' := [(0, vR 0), (1, vI sentence), (2, vI x2), (3, vI x3), (4, vI 0)]) ⟨rfl, rfl, rfl, rfl, rfl, trivial⟩ rfl rfl ?_
        exact ih.2 x2 x3 0 M29 H31 f33 (by omega) (by omega) (by omega) (by omega) (by omega) (by omega)
    · intro x2 x3 x4 N HN fN i0 i1 i2 i3 i4 hmu
      refine s_blx (lv' := [(0, vR 0), (1, vI sentence), (2, vI x2), (3, vI x3), (4, vI x4)]) (st' := [vI x3, vI x4]) B141_53_56 rfl ?_
      refine r_icmp (tgt := 90) (pc' := 59) D141_56 rfl rfl (by unfold inR; omega) (fun (c35 : x3 ≤ x4) => ?_) (fun (c35 : ¬ (x3 ≤ x4)) => ?_)
      · refine s_blx (lv' := [(3, vI (x3 + 1)), (0, vR 0), (1, vI sentence), (2, vI x2), (4, vI x4)]) (st' := []) B141_90_93 rfl ?_
        refine r_goto (tgt := 4) D141_93 rfl ?_
        refine r_loc (lv' := [(0, vR 0), (1, vI sentence), (2, vI x2), (3, vI (x3 + 1))]) ⟨rfl, rfl, rfl, rfl, trivial⟩ rfl rfl ?_
        exact ih.1 x2 (x3 + 1) N HN fN (by omega) (by omega) (by omega) (by omega)
      · refine s_blx (lv' := [(0, vR 0), (1, vI sentence), (2, vI x2), (3, vI x3), (4, vI x4)]) (st' := [vR 0, vI x2]) B141_59_61 rfl ?_
        refine r_gfix (r := 76) (pc' := 64) D141_61 rfl gf_10_98_0 HN.1 ?_
        refine s_blx (lv' := [(0, vR 0), (1, vI sentence), (2, vI x2), (3, vI x3), (4, vI x4)]) (st' := [vI x4, vR 76, vI x2]) B141_64_66 rfl ?_
        refine r_lald (pc' := 67) D141_66 rfl sc_76 HN.1 (by omega) ?_
        intro w36 e37 r38
        clear r38
        refine s_blx (lv' := [(0, vR 0), (1, vI sentence), (2, vI x2), (3, vI x3), (4, vI x4)]) (st' := [vR 0, vL w36, vI x2]) B141_67_68 rfl ?_
        refine r_gfix (r := 76) (pc' := 71) D141_68 rfl gf_10_98_0 HN.1 ?_
        refine s_blx (lv' := [(0, vR 0), (1, vI sentence), (2, vI x2), (3, vI x3), (4, vI x4)]) (st' := [vI x3, vR 76, vL w36, vI x2]) B141_71_72 rfl ?_
        refine r_lald (pc' := 73) D141_72 rfl sc_76 HN.1 (by omega) ?_
        intro w39 e40 r41
        clear r41
        refine r_lcmp (pc' := 74) D141_73 rfl ?_
        intro z42 r43 r44
        refine r_ifc (tgt := 81) (pc' := 77) D141_74 rfl rfl (by unfold inR; omega) (fun (c45 : z42 ≠ 0) => ?_) (fun (c45 : ¬ (z42 ≠ 0)) => ?_)
        · refine s_blx (lv' := [(4, vI (x4 + 1)), (2, vI (x2 + 1)), (0, vR 0), (1, vI sentence), (3, vI x3)]) (st' := []) B141_81_87 rfl ?_
          refine r_goto (tgt := 53) D141_87 rfl ?_
          refine r_loc (lv' := [(0, vR 0), (1, vI sentence), (2, vI (x2 + 1)), (3, vI x3), (4, vI (x4 + 1))]) ⟨rfl, rfl, rfl, rfl, rfl, trivial⟩ rfl rfl ?_
          exact ih.2 (x2 + 1) x3 (x4 + 1) N HN fN (by omega) (by omega) (by omega) (by omega) (by omega) (by omega)
        · refine s_blx (lv' := [(0, vR 0), (1, vI sentence), (2, vI x2), (3, vI x3), (4, vI x4)]) (st' := [vI 0, vI x2]) B141_77_78 rfl ?_
          refine r_goto (tgt := 82) D141_78 rfl ?_
          refine s_blx (lv' := [(4, vI (x4 + 1)), (2, vI (x2 + 0)), (0, vR 0), (1, vI sentence), (3, vI x3)]) (st' := []) B141_82_87 rfl ?_
          refine r_goto (tgt := 53) D141_87 rfl ?_
          refine r_loc (lv' := [(0, vR 0), (1, vI sentence), (2, vI (x2 + 0)), (3, vI x3), (4, vI (x4 + 1))]) ⟨rfl, rfl, rfl, rfl, rfl, trivial⟩ rfl rfl ?_
          exact ih.2 (x2 + 0) x3 (x4 + 1) N HN fN (by omega) (by omega) (by omega) (by omega) (by omega) (by omega)
set_option maxRecDepth 4000 in
theorem k141x {base : Nat} {X : Nat → Option mC} {G : Nat → Value} (E : EnvOK base X G) {d : Nat} (hd : 6 ≤ d) {M : mH} (H : HI base M) (sentence : Int) (h0 : HB base M) (h1 : 0 ≤ sentence ∧ sentence ≤ 15) : sOk base X G d T141 [vR 0, vI sentence] M (pI (fun v M' => HI base M' ∧ Fr [(58, 2), (58, 3), (58, 4), (58, 6), (59, 0), (60, 0), (61, 0), (76, 0)] M M' ∧ (-2147483648 ≤ v ∧ v ≤ 2147483647))) := by
  have f0 : Fr [(58, 2), (58, 3), (58, 4), (58, 6), (59, 0), (60, 0), (61, 0), (76, 0)] M M := Fr.rf
  refine sOk.of (show sRn base X G d T141 0 [(0, vR 0), (1, vI sentence)] [] M _ from ?_)
  refine s_blx (lv' := [(3, vI 0), (2, vI 0), (0, vR 0), (1, vI sentence)]) (st' := []) B141_0_4 rfl ?_
  refine r_loc (lv' := [(0, vR 0), (1, vI sentence), (2, vI 0), (3, vI 0)]) ⟨rfl, rfl, rfl, rfl, trivial⟩ rfl rfl ?_
  exact (L_k141x E hd H sentence h0 h1 (((8 - 0) * 9 + 8 : Int) + 1).toNat).1 0 0 M H f0 (by omega) (by omega) (by omega) (by omega)
set_option maxRecDepth 4000 in
theorem L_k128x {base : Nat} {X : Nat → Option mC} {G : Nat → Value} (E : EnvOK base X G) {d : Nat} (hd : 7 ≤ d) {M : mH} (H : HI base M) (what : Int) (h0 : HB base M) (h1 : -2147483648 ≤ what ∧ what ≤ 2147483647) : ∀ mz : Nat, (∀ (x2 x3 x4 : Int) (N : mH), HI base N → Fr [(0, 10), (20, 16), (20, 17), (20, 18), (21, 0), (22, 0), (23, 0), (24, 0), (25, 0), (26, 0), (27, 0), (28, 0), (29, 0), (30, 0), (31, 0), (32, 0), (33, 0), (34, 0), (35, 0), (58, 2), (58, 3), (58, 4), (58, 6), (59, 0), (60, 0), (61, 0), (76, 0)] M N → (0 ≤ x2) → (x2 ≤ 2147483647) → ((-1) ≤ x3) → (x3 ≤ 15) → (0 ≤ x4) → (x4 ≤ 16) → (0 ≤ what) → (what ≤ 1) → (16 - x4) * 1 + 0 < (mz : Int) → sRn base X G d T128 22 [(0, vR 0), (1, vI what), (2, vI x2), (3, vI x3), (4, vI x4)] [] N (s_Q base (pI (fun v M' => HI base M' ∧ Fr [(0, 10), (20, 16), (20, 17), (20, 18), (21, 0), (22, 0), (23, 0), (24, 0), (25, 0), (26, 0), (27, 0), (28, 0), (29, 0), (30, 0), (31, 0), (32, 0), (33, 0), (34, 0), (35, 0), (58, 2), (58, 3), (58, 4), (58, 6), (59, 0), (60, 0), (61, 0), (76, 0)] M M' ∧ (-2147483648 ≤ v ∧ v ≤ 2147483647))))) := by
  have f0 : Fr [(0, 10), (20, 16), (20, 17), (20, 18), (21, 0), (22, 0), (23, 0), (24, 0), (25, 0), (26, 0), (27, 0), (28, 0), (29, 0), (30, 0), (31, 0), (32, 0), (33, 0), (34, 0), (35, 0), (58, 2), (58, 3), (58, 4), (58, 6), (59, 0), (60, 0), (61, 0), (76, 0)] M M := Fr.rf
  intro mz
  induction mz with
  | zero => exact fun x2 x3 x4 N _ _ z0 z1 z2 z3 z4 z5 z6 z7 z8 => by omega
  | succ mz ih =>
    intro x2 x3 x4 N HN fN i0 i1 i2 i3 i4 i5 i6 i7 hmu
    refine s_blx (lv' := [(0, vR 0), (1, vI what), (2, vI x2), (3, vI x3), (4, vI x4)]) (st' := [vR 0, vI x4]) B128_22_25 rfl ?_
    refine r_gfix (r := 1) (pc' := 28) D128_25 rfl gf_10_10_0 HN.1 ?_
    refine r_gint (ki := 10) (pc' := 31) D128_28 rfl gf_10_163_1 rfl HN.1 ?_
    intro w14 e15 r16
    have b_w14 := HN.2 1 (10) 0 16 rfl
    rw [← e15] at b_w14; clear r16
    refine r_icmp (tgt := 76) (pc' := 34) D128_31 rfl rfl (by unfold inR; omega) (fun (c17 : w14 ≤ x4) => ?_) (fun (c17 : ¬ (w14 ≤ x4)) => ?_)
    · refine s_blx (lv' := [(0, vR 0), (1, vI what), (2, vI x2), (3, vI x3), (4, vI x4)]) (st' := [vI (-1), vI x3]) B128_76_78 rfl ?_
      refine r_icmp (tgt := 85) (pc' := 81) D128_78 rfl rfl (by unfold inR; omega) (fun (c18 : x3 = (-1)) => ?_) (fun (c18 : ¬ (x3 = (-1))) => ?_)
      · refine s_blx (lv' := [(0, vR 0), (1, vI what), (2, vI x2), (3, vI x3), (4, vI x4)]) (st' := [vI x3]) B128_85_86 rfl ?_
        refine r_goto (tgt := 90) D128_86 rfl ?_
        exact r_iretI D128_90 rfl (⟨HN, fN, by omega⟩)
      · refine s_blx (lv' := [(0, vR 0), (1, vI what), (2, vI x2), (3, vI x3), (4, vI x4)]) (st' := [vI what]) B128_81_82 rfl ?_
        refine r_ifc (tgt := 89) (pc' := 85) D128_82 rfl rfl (by unfold inR; omega) (fun (c19 : what ≠ 0) => ?_) (fun (c19 : ¬ (what ≠ 0)) => ?_)
        · refine s_blx (lv' := [(0, vR 0), (1, vI what), (2, vI x2), (3, vI x3), (4, vI x4)]) (st' := [vI x2]) B128_89_90 rfl ?_
          exact r_iretI D128_90 rfl (⟨HN, fN, by omega⟩)
        · refine s_blx (lv' := [(0, vR 0), (1, vI what), (2, vI x2), (3, vI x3), (4, vI x4)]) (st' := [vI x3]) B128_85_86 rfl ?_
          refine r_goto (tgt := 90) D128_86 rfl ?_
          exact r_iretI D128_90 rfl (⟨HN, fN, by omega⟩)
    · refine s_blx (lv' := [(0, vR 0), (1, vI what), (2, vI x2), (3, vI x3), (4, vI x4)]) (st' := [vR 0]) B128_34_35 rfl ?_
      refine r_gfix (r := 1) (pc' := 38) D128_35 rfl gf_10_10_0 HN.1 ?_
      refine s_blx (lv' := [(0, vR 0), (1, vI what), (2, vI x2), (3, vI x3), (4, vI x4)]) (st' := [vI x4, vR 1]) B128_38_40 rfl ?_
      refine r_vIp (c := 1) (args := [vI x4]) (rest := []) (pc' := 43) D128_40 rfl ck_10_virtual_186 TE67 rfl (Nat.le_of_ble_eq_true rfl) ⟨Nat.le_of_ble_eq_true rfl, Nat.le_of_ble_eq_true rfl⟩ sc_1 ⟨rfl, by decide⟩ HN.1 (dp_0 hd rfl) (k67_1x E (dp_n hd rfl) HN x4 (by omega)) ?_
      intro v20 q26
      obtain ⟨q22, q23, q24, q25⟩ := q26
      refine r_ifc (tgt := 55) (pc' := 46) D128_43 rfl rfl (by unfold inR; omega) (fun (c27 : v20 = 0) => ?_) (fun (c27 : ¬ (v20 = 0)) => ?_)
      · refine s_blx (lv' := [(5, vI 0), (0, vR 0), (1, vI what), (2, vI x2), (3, vI x3), (4, vI x4)]) (st' := [vI x2, vI 0]) B128_55_61 rfl ?_
        refine r_icmp (tgt := 70) (pc' := 64) D128_61 rfl rfl (by unfold inR; omega) (fun (c28 : 0 ≤ x2) => ?_) (fun (c28 : ¬ (0 ≤ x2)) => ?_)
        · refine s_blx (lv' := [(4, vI (x4 + 1)), (5, vI 0), (0, vR 0), (1, vI what), (2, vI x2), (3, vI x3)]) (st' := []) B128_70_73 rfl ?_
          refine r_goto (tgt := 22) D128_73 rfl ?_
          refine r_loc (lv' := [(0, vR 0), (1, vI what), (2, vI x2), (3, vI x3), (4, vI (x4 + 1))]) ⟨rfl, rfl, rfl, rfl, rfl, trivial⟩ rfl rfl ?_
          exact ih x2 x3 (x4 + 1) N HN fN (by omega) (by omega) (by omega) (by omega) (by omega) (by omega) (by omega) (by omega) (by omega)
        · exfalso; omega
      · refine s_blx (lv' := [(0, vR 0), (1, vI what), (2, vI x2), (3, vI x3), (4, vI x4)]) (st' := [vI x4, vR 0]) B128_46_49 rfl ?_
        refine r_vI (c := 0) (args := [vI x4]) (rest := []) (pc' := 52) D128_49 rfl ck_10_virtual_328 TE141 rfl (Nat.le_of_ble_eq_true rfl) ⟨Nat.le_of_ble_eq_true rfl, Nat.le_of_ble_eq_true rfl⟩ sc_0 ⟨rfl, by decide⟩ HN.1 (dp_0 hd rfl) (k141x E (dp_n hd rfl) HN x4 ((h0.fr fN rfl)) (by omega)) ?_
        intro v29 M30 q34
        obtain ⟨H31, f32, q33⟩ := q34
        have f35 := fN.tr (f32.up rfl)
        refine r_goto (tgt := 56) D128_52 rfl ?_
        refine s_blx (lv' := [(5, vI v29), (0, vR 0), (1, vI what), (2, vI x2), (3, vI x3), (4, vI x4)]) (st' := [vI x2, vI v29]) B128_56_61 rfl ?_
        refine r_icmp (tgt := 70) (pc' := 64) D128_61 rfl rfl (by unfold inR; omega) (fun (c36 : v29 ≤ x2) => ?_) (fun (c36 : ¬ (v29 ≤ x2)) => ?_)
        · refine s_blx (lv' := [(4, vI (x4 + 1)), (5, vI v29), (0, vR 0), (1, vI what), (2, vI x2), (3, vI x3)]) (st' := []) B128_70_73 rfl ?_
          refine r_goto (tgt := 22) D128_73 rfl ?_
          refine r_loc (lv' := [(0, vR 0), (1, vI what), (2, vI x2), (3, vI x3), (4, vI (x4 + 1))]) ⟨rfl, rfl, rfl, rfl, rfl, trivial⟩ rfl rfl ?_
          exact ih x2 x3 (x4 + 1) M30 H31 f35 (by omega) (by omega) (by omega) (by omega) (by omega) (by omega) (by omega) (by omega) (by omega)
        · refine s_blx (lv' := [(4, vI (x4 + 1)), (3, vI x4), (2, vI v29), (5, vI v29), (0, vR 0), (1, vI what)]) (st' := []) B128_64_73 rfl ?_
          refine r_goto (tgt := 22) D128_73 rfl ?_
          refine r_loc (lv' := [(0, vR 0), (1, vI what), (2, vI v29), (3, vI x4), (4, vI (x4 + 1))]) ⟨rfl, rfl, rfl, rfl, rfl, trivial⟩ rfl rfl ?_
          exact ih v29 x4 (x4 + 1) M30 H31 f35 (by omega) (by omega) (by omega) (by omega) (by omega) (by omega) (by omega) (by omega) (by omega)
set_option maxRecDepth 4000 in
theorem k128x {base : Nat} {X : Nat → Option mC} {G : Nat → Value} (E : EnvOK base X G) {d : Nat} (hd : 7 ≤ d) {M : mH} (H : HI base M) (what : Int) (h0 : HB base M) (h1 : -2147483648 ≤ what ∧ what ≤ 2147483647) : sOk base X G d T128 [vR 0, vI what] M (pI (fun v M' => HI base M' ∧ Fr [(0, 10), (20, 16), (20, 17), (20, 18), (21, 0), (22, 0), (23, 0), (24, 0), (25, 0), (26, 0), (27, 0), (28, 0), (29, 0), (30, 0), (31, 0), (32, 0), (33, 0), (34, 0), (35, 0), (58, 2), (58, 3), (58, 4), (58, 6), (59, 0), (60, 0), (61, 0), (76, 0)] M M' ∧ (-2147483648 ≤ v ∧ v ≤ 2147483647))) := by
  have f0 : Fr [(0, 10), (20, 16), (20, 17), (20, 18), (21, 0), (22, 0), (23, 0), (24, 0), (25, 0), (26, 0), (27, 0), (28, 0), (29, 0), (30, 0), (31, 0), (32, 0), (33, 0), (34, 0), (35, 0), (58, 2), (58, 3), (58, 4), (58, 6), (59, 0), (60, 0), (61, 0), (76, 0)] M M := Fr.rf
  refine sOk.of (show sRn base X G d T128 0 [(0, vR 0), (1, vI what)] [] M _ from ?_)
  refine s_blx (lv' := [(0, vR 0), (1, vI what)]) (st' := [vI 1, vI 0, vI what]) B128_0_3 rfl ?_
  refine r_sIp (args := [vI what, vI 0, vI 1]) (rest := []) (pc' := 6) D128_3 rfl ck_10_static_102 TE142 rfl (Nat.le_of_ble_eq_true rfl) ⟨Nat.le_of_ble_eq_true rfl, Nat.le_of_ble_eq_true rfl⟩ (by decide) (dp_0 hd rfl) (k142 E (dp_n hd rfl) H what 0 1 (by omega) (by omega) (by omega)) ?_
  intro v1 q6
  obtain ⟨q3, q4, q5⟩ := q6
  refine r_ifc (tgt := 11) (pc' := 9) D128_6 rfl rfl (by unfold inR; omega) (fun (c7 : v1 ≠ 0) => ?_) (fun (c7 : ¬ (v1 ≠ 0)) => ?_)
  · refine s_blx (lv' := [(0, vR 0), (1, vI what)]) (st' := [vR 0]) B128_11_12 rfl ?_
    refine r_vV (c := 0) (args := []) (rest := []) (pc' := 15) D128_12 rfl ck_10_virtual_252 TE138 rfl (Nat.le_of_ble_eq_true rfl) ⟨Nat.le_of_ble_eq_true rfl, Nat.le_of_ble_eq_true rfl⟩ sc_0 ⟨rfl, by decide⟩ H.1 (dp_0 hd rfl) (k138 E (dp_n hd rfl) H ) ?_
    intro M9 q12
    obtain ⟨H10, f11⟩ := q12
    have f13 := f0.tr (f11.up rfl)
    refine s_blx (lv' := [(4, vI 0), (3, vI (-1)), (2, vI 0), (0, vR 0), (1, vI what)]) (st' := []) B128_15_22 rfl ?_
    refine r_loc (lv' := [(0, vR 0), (1, vI what), (2, vI 0), (3, vI (-1)), (4, vI 0)]) ⟨rfl, rfl, rfl, rfl, rfl, trivial⟩ rfl rfl ?_
    exact (L_k128x E hd H what h0 h1 (((16 - 0) * 1 + 0 : Int) + 1).toNat) 0 (-1) 0 M9 H10 f13 (by omega) (by omega) (by omega) (by omega) (by omega) (by omega) (by omega) (by omega) (by omega)
  · refine s_blx (lv' := [(0, vR 0), (1, vI what)]) (st' := [vI (-1)]) B128_9_10 rfl ?_
    exact r_iretI D128_10 rfl (⟨H, f0, by omega⟩)
