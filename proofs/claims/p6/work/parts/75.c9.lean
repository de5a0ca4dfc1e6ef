/-! The habits of the state. -/
noncomputable def HB (base : Nat) (M : mH) : Prop := ∀ t : Int, 0 ≤ t → t < gi M 1 12 → ∃ (hb : Nat) (nh nc : Int), hv M 9 t.toNat = .ref (base + hb) ∧ IsHab base hb nh nc M ∧ (0 ≤ nh ∧ nh ≤ 12) ∧ 0 ≤ nc ∧ nc ≤ 400
theorem IsHab.nc {base hb : Nat} {nh nc : Int} {M : mH} (h : IsHab base hb nh nc M) : 0 ≤ nc ∧ nc ≤ 400 := by
  have h1 := h.ic.2.2.1.2.1
  have h2 := h.ic.2.2.2.1
  omega
theorem HB.fr {base : Nat} {L : List (Nat × Nat)} {M M' : mH} (h : HB base M) (f : Fr L M M') (hc : (s_al L (fun c => decide (c < 111) && c != 9) && !s_md L 1 12) = true) : HB base M' := by
  rw [Bool.and_eq_true] at hc
  have hc9 : ∀ i, s_md L 9 i = false := fun i => s_al_ok hc.1 (by simp)
  have hl : s_al L (fun c => decide (c < 111)) = true := by
    have := hc.1
    unfold s_al at this ⊢
    rw [List.all_eq_true] at this ⊢
    intro q hq
    have := this q hq
    rw [Bool.and_eq_true] at this
    exact this.1
  intro t h1 h2
  have e : gi M' 1 12 = gi M 1 12 := f.g (i := 12) (by simpa using hc.2)
  rw [e] at h2
  obtain ⟨hb, nh, nc, a, b, c⟩ := h t h1 h2
  exact ⟨hb, nh, nc, by rw [(f.2.2 9).2.2 _ (hc9 _)]; exact a, b.fr f hl, c⟩
theorem HB.wr {base : Nat} {M M' : mH} {c i : Nat} {v : Value} (h : HB base M) (u : Wr M c i v M') (hc : c < 111 ∧ c ≠ 9 ∧ (c ≠ 1 ∨ i ≠ 12)) : HB base M' := by
  intro t h1 h2
  have e : gi M' 1 12 = gi M 1 12 := by
    unfold gi
    rw [if_pos (by decide), if_pos (by decide), u.ne]
    rcases hc.2.2 with q | q
    · exact Or.inl (Ne.symm q)
    · exact Or.inr (Ne.symm q)
  rw [e] at h2
  obtain ⟨hb, nh, nc, a, b, c⟩ := h t h1 h2
  exact ⟨hb, nh, nc, by rw [u.ne (Or.inl (Ne.symm hc.2.1))]; exact a, b.wr u hc.1, c⟩
noncomputable def T66 : mT := (8, yX8_isHabit, cX8_isHabit, 2, (some .boolean))
set_option maxRecDepth 10000 in
theorem TE66 : sy_m[66]? = some T66 := rfl
theorem B66_0_3 : s_dk T66.2.2.1 0 [.iload_n 1, .iconst 0, .aload_n 0] 3 = true := by decide +kernel
theorem gf_8_52_1 : s_gf 8 52 1 = some (12, 1) := by decide +kernel
theorem D66_3 : decode T66.2.2.1 3 = .ok (.getfield 52, 3) := by decide +kernel
theorem B66_6_8 : s_dk T66.2.2.1 6 [.iconst 1, .isub] 8 = true := by decide +kernel
theorem D66_8 : decode T66.2.2.1 8 = .ok (.invokestatic 80, 3) := by decide +kernel
theorem D66_11 : decode T66.2.2.1 11 = .ok (.ifCond .eq 16, 3) := by decide +kernel
theorem B66_27_28 : s_dk T66.2.2.1 27 [.iconst 0] 28 = true := by decide +kernel
theorem D66_28 : decode T66.2.2.1 28 = .ok (.ireturn, 1) := by decide +kernel
theorem B66_14_15 : s_dk T66.2.2.1 14 [.aload_n 0] 15 = true := by decide +kernel
theorem gf_8_48_1 : s_gf 8 48 1 = some (11, 12) := by decide +kernel
theorem D66_15 : decode T66.2.2.1 15 = .ok (.getfield 48, 3) := by decide +kernel
theorem B66_18_19 : s_dk T66.2.2.1 18 [.iload_n 1] 19 = true := by decide +kernel
theorem D66_19 : decode T66.2.2.1 19 = .ok (.aaload, 1) := by decide +kernel
theorem D66_20 : decode T66.2.2.1 20 = .ok (.ifnull 7, 3) := by decide +kernel
theorem B66_23_24 : s_dk T66.2.2.1 23 [.iconst 1] 24 = true := by decide +kernel
theorem D66_24 : decode T66.2.2.1 24 = .ok (.goto 4, 3) := by decide +kernel
noncomputable def T114 : mT := (10, yX10_run, cX10_run, 3, (some .int))
set_option maxRecDepth 10000 in
theorem TE114 : sy_m[114]? = some T114 := rfl
theorem B114_0_1 : s_dk T114.2.2.1 0 [.aload_n 0] 1 = true := by decide +kernel
theorem D114_1 : decode T114.2.2.1 1 = .ok (.getfield 10, 3) := by decide +kernel
theorem B114_4_5 : s_dk T114.2.2.1 4 [.iload_n 1] 5 = true := by decide +kernel
theorem D114_5 : decode T114.2.2.1 5 = .ok (.invokevirtual 249, 3) := by decide +kernel
theorem ck_10_virtual_249 : m_call 10 (.invokevirtual 249) = some (0, 66, 1) := by decide +kernel
theorem D114_8 : decode T114.2.2.1 8 = .ok (.ifCond .eq 14, 3) := by decide +kernel
theorem B114_22_23 : s_dk T114.2.2.1 22 [.iconst (-1)] 23 = true := by decide +kernel
theorem D114_23 : decode T114.2.2.1 23 = .ok (.ireturn, 1) := by decide +kernel
theorem B114_11_12 : s_dk T114.2.2.1 11 [.aload_n 0] 12 = true := by decide +kernel
theorem D114_12 : decode T114.2.2.1 12 = .ok (.getfield 10, 3) := by decide +kernel
theorem B114_15_16 : s_dk T114.2.2.1 15 [.iload_n 2] 16 = true := by decide +kernel
theorem D114_16 : decode T114.2.2.1 16 = .ok (.invokevirtual 186, 3) := by decide +kernel
theorem D114_19 : decode T114.2.2.1 19 = .ok (.ifCond .ne 5, 3) := by decide +kernel
theorem B114_24_25 : s_dk T114.2.2.1 24 [.aload_n 0] 25 = true := by decide +kernel
theorem D114_25 : decode T114.2.2.1 25 = .ok (.invokevirtual 252, 3) := by decide +kernel
theorem ck_10_virtual_252 : m_call 10 (.invokevirtual 252) = some (0, 138, 0) := by decide +kernel
theorem B114_28_29 : s_dk T114.2.2.1 28 [.aload_n 0] 29 = true := by decide +kernel
theorem D114_29 : decode T114.2.2.1 29 = .ok (.getfield 74, 3) := by decide +kernel
theorem B114_32_33 : s_dk T114.2.2.1 32 [.aload_n 0] 33 = true := by decide +kernel
theorem D114_33 : decode T114.2.2.1 33 = .ok (.getfield 44, 3) := by decide +kernel
theorem B114_36_37 : s_dk T114.2.2.1 36 [.aload_n 0] 37 = true := by decide +kernel
theorem D114_37 : decode T114.2.2.1 37 = .ok (.getfield 10, 3) := by decide +kernel
theorem gf_10_255_1 : s_gf 10 255 1 = some (11, 12) := by decide +kernel
theorem D114_40 : decode T114.2.2.1 40 = .ok (.getfield 255, 3) := by decide +kernel
theorem B114_43_44 : s_dk T114.2.2.1 43 [.iload_n 1] 44 = true := by decide +kernel
theorem D114_44 : decode T114.2.2.1 44 = .ok (.aaload, 1) := by decide +kernel
theorem B114_45_46 : s_dk T114.2.2.1 45 [.iload_n 2] 46 = true := by decide +kernel
theorem D114_46 : decode T114.2.2.1 46 = .ok (.invokevirtual 259, 3) := by decide +kernel
theorem ck_10_virtual_259 : m_call 10 (.invokevirtual 259) = some (0, 1, 3) := by decide +kernel
theorem D114_49 : decode T114.2.2.1 49 = .ok (.ireturn, 1) := by decide +kernel
noncomputable def T116 : mT := (10, yX10_worth, cX10_worth, 5, (some .long))
set_option maxRecDepth 10000 in
theorem TE116 : sy_m[116]? = some T116 := rfl
theorem B116_0_1 : s_dk T116.2.2.1 0 [.aload_n 0] 1 = true := by decide +kernel
theorem D116_1 : decode T116.2.2.1 1 = .ok (.getfield 10, 3) := by decide +kernel
theorem B116_4_5 : s_dk T116.2.2.1 4 [.iload_n 1] 5 = true := by decide +kernel
theorem D116_5 : decode T116.2.2.1 5 = .ok (.invokevirtual 249, 3) := by decide +kernel
theorem D116_8 : decode T116.2.2.1 8 = .ok (.ifCond .ne 7, 3) := by decide +kernel
theorem B116_15_16 : s_dk T116.2.2.1 15 [.aload_n 0] 16 = true := by decide +kernel
theorem D116_16 : decode T116.2.2.1 16 = .ok (.invokevirtual 252, 3) := by decide +kernel
theorem B116_19_24 : s_dk T116.2.2.1 19 [.lconst 0, .lstore_n 2, .iconst 0, .istore 4] 24 = true := by decide +kernel
theorem cl_10_269 : m_cl 10 269 = some (-1) := by decide +kernel
theorem D116_11 : decode T116.2.2.1 11 = .ok (.ldc2_w 269, 3) := by decide +kernel
theorem D116_14 : decode T116.2.2.1 14 = .ok (.lreturn, 1) := by decide +kernel
theorem B116_24_27 : s_dk T116.2.2.1 24 [.iload 4, .aload_n 0] 27 = true := by decide +kernel
theorem D116_27 : decode T116.2.2.1 27 = .ok (.getfield 10, 3) := by decide +kernel
theorem D116_30 : decode T116.2.2.1 30 = .ok (.getfield 163, 3) := by decide +kernel
theorem D116_33 : decode T116.2.2.1 33 = .ok (.if_icmp .ge 60, 3) := by decide +kernel
theorem B116_93_94 : s_dk T116.2.2.1 93 [.lload_n 2] 94 = true := by decide +kernel
theorem D116_94 : decode T116.2.2.1 94 = .ok (.lreturn, 1) := by decide +kernel
theorem B116_36_37 : s_dk T116.2.2.1 36 [.aload_n 0] 37 = true := by decide +kernel
theorem D116_37 : decode T116.2.2.1 37 = .ok (.getfield 10, 3) := by decide +kernel
theorem B116_40_42 : s_dk T116.2.2.1 40 [.iload 4] 42 = true := by decide +kernel
theorem D116_42 : decode T116.2.2.1 42 = .ok (.invokevirtual 186, 3) := by decide +kernel
theorem D116_45 : decode T116.2.2.1 45 = .ok (.ifCond .eq 42, 3) := by decide +kernel
theorem B116_87_90 : s_dk T116.2.2.1 87 [.iinc 4 1] 90 = true := by decide +kernel
theorem D116_90 : decode T116.2.2.1 90 = .ok (.goto (-66), 3) := by decide +kernel
theorem B116_48_50 : s_dk T116.2.2.1 48 [.lload_n 2, .aload_n 0] 50 = true := by decide +kernel
theorem D116_50 : decode T116.2.2.1 50 = .ok (.getfield 10, 3) := by decide +kernel
theorem B116_53_56 : s_dk T116.2.2.1 53 [.iconst 1, .iload 4] 56 = true := by decide +kernel
theorem D116_56 : decode T116.2.2.1 56 = .ok (.ishl, 1) := by decide +kernel
theorem D116_57 : decode T116.2.2.1 57 = .ok (.invokevirtual 201, 3) := by decide +kernel
theorem D116_60 : decode T116.2.2.1 60 = .ok (.i2l, 1) := by decide +kernel
theorem B116_61_62 : s_dk T116.2.2.1 61 [.aload_n 0] 62 = true := by decide +kernel
theorem D116_62 : decode T116.2.2.1 62 = .ok (.getfield 70, 3) := by decide +kernel
theorem B116_65_66 : s_dk T116.2.2.1 65 [.aload_n 0] 66 = true := by decide +kernel
theorem D116_66 : decode T116.2.2.1 66 = .ok (.getfield 44, 3) := by decide +kernel
theorem B116_69_70 : s_dk T116.2.2.1 69 [.aload_n 0] 70 = true := by decide +kernel
theorem D116_70 : decode T116.2.2.1 70 = .ok (.getfield 10, 3) := by decide +kernel
theorem D116_73 : decode T116.2.2.1 73 = .ok (.getfield 255, 3) := by decide +kernel
theorem B116_76_77 : s_dk T116.2.2.1 76 [.iload_n 1] 77 = true := by decide +kernel
theorem D116_77 : decode T116.2.2.1 77 = .ok (.aaload, 1) := by decide +kernel
theorem B116_78_80 : s_dk T116.2.2.1 78 [.iload 4] 80 = true := by decide +kernel
theorem D116_80 : decode T116.2.2.1 80 = .ok (.invokevirtual 259, 3) := by decide +kernel
theorem D116_83 : decode T116.2.2.1 83 = .ok (.i2l, 1) := by decide +kernel
theorem B116_84_90 : s_dk T116.2.2.1 84 [.lmul, .ladd, .lstore_n 2, .iinc 4 1] 90 = true := by decide +kernel
noncomputable def T126 : mT := (10, yX10_whose, cX10_whose, 8, (some .int))
set_option maxRecDepth 10000 in
theorem TE126 : sy_m[126]? = some T126 := rfl
theorem B126_0_1 : s_dk T126.2.2.1 0 [.aload_n 0] 1 = true := by decide +kernel
theorem D126_1 : decode T126.2.2.1 1 = .ok (.getfield 10, 3) := by decide +kernel
theorem B126_4_5 : s_dk T126.2.2.1 4 [.iload_n 1] 5 = true := by decide +kernel
theorem D126_5 : decode T126.2.2.1 5 = .ok (.invokevirtual 249, 3) := by decide +kernel
theorem D126_8 : decode T126.2.2.1 8 = .ok (.ifCond .eq 21, 3) := by decide +kernel
theorem B126_29_30 : s_dk T126.2.2.1 29 [.iconst (-1)] 30 = true := by decide +kernel
theorem D126_30 : decode T126.2.2.1 30 = .ok (.ireturn, 1) := by decide +kernel
theorem B126_11_12 : s_dk T126.2.2.1 11 [.aload_n 0] 12 = true := by decide +kernel
theorem D126_12 : decode T126.2.2.1 12 = .ok (.getfield 10, 3) := by decide +kernel
theorem B126_15_16 : s_dk T126.2.2.1 15 [.iload_n 2] 16 = true := by decide +kernel
theorem D126_16 : decode T126.2.2.1 16 = .ok (.invokevirtual 186, 3) := by decide +kernel
theorem D126_19 : decode T126.2.2.1 19 = .ok (.ifCond .eq 10, 3) := by decide +kernel
theorem B126_22_23 : s_dk T126.2.2.1 22 [.iload_n 3] 23 = true := by decide +kernel
theorem D126_23 : decode T126.2.2.1 23 = .ok (.invokestatic 135, 3) := by decide +kernel
theorem D126_26 : decode T126.2.2.1 26 = .ok (.ifCond .ne 5, 3) := by decide +kernel
theorem B126_31_33 : s_dk T126.2.2.1 31 [.iload 4] 33 = true := by decide +kernel
theorem D126_33 : decode T126.2.2.1 33 = .ok (.invokestatic 153, 3) := by decide +kernel
theorem D126_36 : decode T126.2.2.1 36 = .ok (.ifCond .eq 11, 3) := by decide +kernel
theorem B126_47_48 : s_dk T126.2.2.1 47 [.iconst (-1)] 48 = true := by decide +kernel
theorem D126_48 : decode T126.2.2.1 48 = .ok (.ireturn, 1) := by decide +kernel
theorem B126_39_41 : s_dk T126.2.2.1 39 [.iload 5] 41 = true := by decide +kernel
theorem D126_41 : decode T126.2.2.1 41 = .ok (.invokestatic 153, 3) := by decide +kernel
theorem D126_44 : decode T126.2.2.1 44 = .ok (.ifCond .ne 5, 3) := by decide +kernel
theorem B126_49_50 : s_dk T126.2.2.1 49 [.aload_n 0] 50 = true := by decide +kernel
theorem D126_50 : decode T126.2.2.1 50 = .ok (.invokevirtual 252, 3) := by decide +kernel
theorem B126_53_54 : s_dk T126.2.2.1 53 [.aload_n 0] 54 = true := by decide +kernel
theorem D126_54 : decode T126.2.2.1 54 = .ok (.getfield 70, 3) := by decide +kernel
theorem B126_57_58 : s_dk T126.2.2.1 57 [.aload_n 0] 58 = true := by decide +kernel
theorem D126_58 : decode T126.2.2.1 58 = .ok (.getfield 44, 3) := by decide +kernel
theorem B126_61_62 : s_dk T126.2.2.1 61 [.aload_n 0] 62 = true := by decide +kernel
theorem D126_62 : decode T126.2.2.1 62 = .ok (.getfield 10, 3) := by decide +kernel
theorem D126_65 : decode T126.2.2.1 65 = .ok (.getfield 255, 3) := by decide +kernel
theorem B126_68_69 : s_dk T126.2.2.1 68 [.iload_n 1] 69 = true := by decide +kernel
theorem D126_69 : decode T126.2.2.1 69 = .ok (.aaload, 1) := by decide +kernel
theorem B126_70_71 : s_dk T126.2.2.1 70 [.iload_n 2] 71 = true := by decide +kernel
theorem D126_71 : decode T126.2.2.1 71 = .ok (.invokevirtual 259, 3) := by decide +kernel
theorem B126_74_76 : s_dk T126.2.2.1 74 [.pop, .aload_n 0] 76 = true := by decide +kernel
theorem D126_76 : decode T126.2.2.1 76 = .ok (.getfield 10, 3) := by decide +kernel
theorem gf_10_316_1 : s_gf 10 316 1 = some (8, 10) := by decide +kernel
theorem D126_79 : decode T126.2.2.1 79 = .ok (.getfield 316, 3) := by decide +kernel
theorem B126_82_87 : s_dk T126.2.2.1 82 [.iload_n 2, .iconst 3, .imul, .iload_n 3, .iadd] 87 = true := by decide +kernel
theorem D126_87 : decode T126.2.2.1 87 = .ok (.iaload, 1) := by decide +kernel
theorem B126_88_91 : s_dk T126.2.2.1 88 [.istore 6, .aload_n 0] 91 = true := by decide +kernel
theorem D126_91 : decode T126.2.2.1 91 = .ok (.getfield 44, 3) := by decide +kernel
theorem B126_94_95 : s_dk T126.2.2.1 94 [.aload_n 0] 95 = true := by decide +kernel
theorem D126_95 : decode T126.2.2.1 95 = .ok (.getfield 70, 3) := by decide +kernel
theorem gf_10_319_58 : s_gf 10 319 58 = some (3, 1) := by decide +kernel
theorem D126_98 : decode T126.2.2.1 98 = .ok (.getfield 319, 3) := by decide +kernel
theorem B126_101_102 : s_dk T126.2.2.1 101 [.iload_n 3] 102 = true := by decide +kernel
theorem D126_102 : decode T126.2.2.1 102 = .ok (.invokevirtual 322, 3) := by decide +kernel
theorem ck_10_virtual_322 : m_call 10 (.invokevirtual 322) = some (0, 86, 2) := by decide +kernel
theorem B126_105_111 : s_dk T126.2.2.1 105 [.istore 7, .iload 4, .iload 6] 111 = true := by decide +kernel
theorem D126_111 : decode T126.2.2.1 111 = .ok (.if_icmp .eq 7, 3) := by decide +kernel
theorem B126_118_123 : s_dk T126.2.2.1 118 [.iconst 0, .iload 7, .iload 6] 123 = true := by decide +kernel
theorem D126_123 : decode T126.2.2.1 123 = .ok (.if_icmp .eq 7, 3) := by decide +kernel
theorem B126_130_136 : s_dk T126.2.2.1 130 [.iconst 0, .iadd, .iload 5, .iload 7] 136 = true := by decide +kernel
theorem D126_136 : decode T126.2.2.1 136 = .ok (.if_icmp .eq 7, 3) := by decide +kernel
theorem B126_143_145 : s_dk T126.2.2.1 143 [.iconst 0, .iadd] 145 = true := by decide +kernel
theorem D126_145 : decode T126.2.2.1 145 = .ok (.ireturn, 1) := by decide +kernel
theorem B126_139_140 : s_dk T126.2.2.1 139 [.iconst 4] 140 = true := by decide +kernel
theorem D126_140 : decode T126.2.2.1 140 = .ok (.goto 4, 3) := by decide +kernel
theorem B126_144_145 : s_dk T126.2.2.1 144 [.iadd] 145 = true := by decide +kernel
theorem B126_126_127 : s_dk T126.2.2.1 126 [.iconst 2] 127 = true := by decide +kernel
theorem D126_127 : decode T126.2.2.1 127 = .ok (.goto 4, 3) := by decide +kernel
theorem B126_131_136 : s_dk T126.2.2.1 131 [.iadd, .iload 5, .iload 7] 136 = true := by decide +kernel
theorem B126_114_115 : s_dk T126.2.2.1 114 [.iconst 1] 115 = true := by decide +kernel
theorem D126_115 : decode T126.2.2.1 115 = .ok (.goto 4, 3) := by decide +kernel
theorem B126_119_123 : s_dk T126.2.2.1 119 [.iload 7, .iload 6] 123 = true := by decide +kernel
noncomputable def T127 : mT := (10, yX10_read, cX10_read, 5, (some .int))
set_option maxRecDepth 10000 in
theorem TE127 : sy_m[127]? = some T127 := rfl
theorem B127_0_1 : s_dk T127.2.2.1 0 [.aload_n 0] 1 = true := by decide +kernel
theorem D127_1 : decode T127.2.2.1 1 = .ok (.invokevirtual 149, 3) := by decide +kernel
theorem ck_10_virtual_149 : m_call 10 (.invokevirtual 149) = some (0, 135, 0) := by decide +kernel
theorem B127_4_6 : s_dk T127.2.2.1 4 [.istore_n 2, .aload_n 0] 6 = true := by decide +kernel
theorem D127_6 : decode T127.2.2.1 6 = .ok (.getfield 10, 3) := by decide +kernel
theorem B127_9_10 : s_dk T127.2.2.1 9 [.iload_n 1] 10 = true := by decide +kernel
theorem D127_10 : decode T127.2.2.1 10 = .ok (.invokevirtual 186, 3) := by decide +kernel
theorem D127_13 : decode T127.2.2.1 13 = .ok (.ifCond .ne 5, 3) := by decide +kernel
theorem B127_18_19 : s_dk T127.2.2.1 18 [.aload_n 0] 19 = true := by decide +kernel
theorem D127_19 : decode T127.2.2.1 19 = .ok (.invokevirtual 252, 3) := by decide +kernel
theorem B127_22_27 : s_dk T127.2.2.1 22 [.iconst 0, .istore_n 3, .iconst 0, .istore 4] 27 = true := by decide +kernel
theorem B127_16_17 : s_dk T127.2.2.1 16 [.iconst (-1)] 17 = true := by decide +kernel
theorem D127_17 : decode T127.2.2.1 17 = .ok (.ireturn, 1) := by decide +kernel
theorem B127_27_30 : s_dk T127.2.2.1 27 [.iload 4, .aload_n 0] 30 = true := by decide +kernel
theorem D127_30 : decode T127.2.2.1 30 = .ok (.getfield 10, 3) := by decide +kernel
theorem D127_33 : decode T127.2.2.1 33 = .ok (.getfield 237, 3) := by decide +kernel
theorem D127_36 : decode T127.2.2.1 36 = .ok (.if_icmp .ge 47, 3) := by decide +kernel
theorem B127_83_84 : s_dk T127.2.2.1 83 [.iload_n 3] 84 = true := by decide +kernel
theorem D127_84 : decode T127.2.2.1 84 = .ok (.ireturn, 1) := by decide +kernel
theorem B127_39_40 : s_dk T127.2.2.1 39 [.aload_n 0] 40 = true := by decide +kernel
theorem D127_40 : decode T127.2.2.1 40 = .ok (.getfield 70, 3) := by decide +kernel
theorem B127_43_44 : s_dk T127.2.2.1 43 [.aload_n 0] 44 = true := by decide +kernel
theorem D127_44 : decode T127.2.2.1 44 = .ok (.getfield 44, 3) := by decide +kernel
theorem B127_47_48 : s_dk T127.2.2.1 47 [.aload_n 0] 48 = true := by decide +kernel
theorem D127_48 : decode T127.2.2.1 48 = .ok (.getfield 10, 3) := by decide +kernel
theorem D127_51 : decode T127.2.2.1 51 = .ok (.getfield 255, 3) := by decide +kernel
theorem B127_54_56 : s_dk T127.2.2.1 54 [.iload 4] 56 = true := by decide +kernel
theorem D127_56 : decode T127.2.2.1 56 = .ok (.aaload, 1) := by decide +kernel
theorem B127_57_58 : s_dk T127.2.2.1 57 [.iload_n 1] 58 = true := by decide +kernel
theorem D127_58 : decode T127.2.2.1 58 = .ok (.invokevirtual 259, 3) := by decide +kernel
theorem B127_61_64 : s_dk T127.2.2.1 61 [.pop, .aload_n 0, .iload_n 2] 64 = true := by decide +kernel
theorem D127_64 : decode T127.2.2.1 64 = .ok (.invokevirtual 325, 3) := by decide +kernel
theorem ck_10_virtual_325 : m_call 10 (.invokevirtual 325) = some (0, 140, 1) := by decide +kernel
theorem D127_67 : decode T127.2.2.1 67 = .ok (.ifCond .eq 10, 3) := by decide +kernel
theorem B127_77_80 : s_dk T127.2.2.1 77 [.iinc 4 1] 80 = true := by decide +kernel
theorem D127_80 : decode T127.2.2.1 80 = .ok (.goto (-53), 3) := by decide +kernel
theorem B127_70_74 : s_dk T127.2.2.1 70 [.iload_n 3, .iconst 1, .iload 4] 74 = true := by decide +kernel
theorem D127_74 : decode T127.2.2.1 74 = .ok (.ishl, 1) := by decide +kernel
theorem D127_75 : decode T127.2.2.1 75 = .ok (.ior, 1) := by decide +kernel
theorem B127_76_80 : s_dk T127.2.2.1 76 [.istore_n 3, .iinc 4 1] 80 = true := by decide +kernel
noncomputable def T141 : mT := (10, yX10_pairsApart, cX10_pairsApart, 5, (some .int))
set_option maxRecDepth 10000 in
theorem TE141 : sy_m[141]? = some T141 := rfl
theorem B141_0_4 : s_dk T141.2.2.1 0 [.iconst 0, .istore_n 2, .iconst 0, .istore_n 3] 4 = true := by decide +kernel
theorem B141_4_6 : s_dk T141.2.2.1 4 [.iload_n 3, .aload_n 0] 6 = true := by decide +kernel
theorem D141_6 : decode T141.2.2.1 6 = .ok (.getfield 10, 3) := by decide +kernel
theorem D141_9 : decode T141.2.2.1 9 = .ok (.getfield 237, 3) := by decide +kernel
theorem D141_12 : decode T141.2.2.1 12 = .ok (.if_icmp .ge 84, 3) := by decide +kernel
theorem B141_96_97 : s_dk T141.2.2.1 96 [.iload_n 2] 97 = true := by decide +kernel
theorem D141_97 : decode T141.2.2.1 97 = .ok (.ireturn, 1) := by decide +kernel
theorem B141_15_16 : s_dk T141.2.2.1 15 [.aload_n 0] 16 = true := by decide +kernel
theorem D141_16 : decode T141.2.2.1 16 = .ok (.getfield 70, 3) := by decide +kernel
theorem B141_19_20 : s_dk T141.2.2.1 19 [.aload_n 0] 20 = true := by decide +kernel
theorem D141_20 : decode T141.2.2.1 20 = .ok (.getfield 44, 3) := by decide +kernel
theorem B141_23_24 : s_dk T141.2.2.1 23 [.aload_n 0] 24 = true := by decide +kernel
theorem D141_24 : decode T141.2.2.1 24 = .ok (.getfield 10, 3) := by decide +kernel
theorem D141_27 : decode T141.2.2.1 27 = .ok (.getfield 255, 3) := by decide +kernel
theorem B141_30_31 : s_dk T141.2.2.1 30 [.iload_n 3] 31 = true := by decide +kernel
theorem D141_31 : decode T141.2.2.1 31 = .ok (.aaload, 1) := by decide +kernel
theorem B141_32_33 : s_dk T141.2.2.1 32 [.iload_n 1] 33 = true := by decide +kernel
theorem D141_33 : decode T141.2.2.1 33 = .ok (.invokevirtual 259, 3) := by decide +kernel
theorem B141_36_38 : s_dk T141.2.2.1 36 [.pop, .aload_n 0] 38 = true := by decide +kernel
theorem gf_10_98_0 : s_gf 10 98 0 = some (17, 79) := by decide +kernel
theorem D141_38 : decode T141.2.2.1 38 = .ok (.getfield 98, 3) := by decide +kernel
theorem B141_41_43 : s_dk T141.2.2.1 41 [.iload_n 3, .aload_n 0] 43 = true := by decide +kernel
theorem D141_43 : decode T141.2.2.1 43 = .ok (.getfield 70, 3) := by decide +kernel
theorem gf_10_338_58 : s_gf 10 338 58 = some (2, 2) := by decide +kernel
theorem D141_46 : decode T141.2.2.1 46 = .ok (.getfield 338, 3) := by decide +kernel
theorem D141_49 : decode T141.2.2.1 49 = .ok (.lastore, 1) := by decide +kernel
theorem B141_50_53 : s_dk T141.2.2.1 50 [.iconst 0, .istore 4] 53 = true := by decide +kernel
theorem B141_53_56 : s_dk T141.2.2.1 53 [.iload 4, .iload_n 3] 56 = true := by decide +kernel
theorem D141_56 : decode T141.2.2.1 56 = .ok (.if_icmp .ge 34, 3) := by decide +kernel
theorem B141_90_93 : s_dk T141.2.2.1 90 [.iinc 3 1] 93 = true := by decide +kernel
theorem D141_93 : decode T141.2.2.1 93 = .ok (.goto (-89), 3) := by decide +kernel
theorem B141_59_61 : s_dk T141.2.2.1 59 [.iload_n 2, .aload_n 0] 61 = true := by decide +kernel
theorem D141_61 : decode T141.2.2.1 61 = .ok (.getfield 98, 3) := by decide +kernel
theorem B141_64_66 : s_dk T141.2.2.1 64 [.iload 4] 66 = true := by decide +kernel
theorem D141_66 : decode T141.2.2.1 66 = .ok (.laload, 1) := by decide +kernel
theorem B141_67_68 : s_dk T141.2.2.1 67 [.aload_n 0] 68 = true := by decide +kernel
theorem D141_68 : decode T141.2.2.1 68 = .ok (.getfield 98, 3) := by decide +kernel
theorem B141_71_72 : s_dk T141.2.2.1 71 [.iload_n 3] 72 = true := by decide +kernel
theorem D141_72 : decode T141.2.2.1 72 = .ok (.laload, 1) := by decide +kernel
theorem D141_73 : decode T141.2.2.1 73 = .ok (.lcmp, 1) := by decide +kernel
theorem D141_74 : decode T141.2.2.1 74 = .ok (.ifCond .ne 7, 3) := by decide +kernel
theorem B141_81_87 : s_dk T141.2.2.1 81 [.iconst 1, .iadd, .istore_n 2, .iinc 4 1] 87 = true := by decide +kernel
theorem D141_87 : decode T141.2.2.1 87 = .ok (.goto (-34), 3) := by decide +kernel
theorem B141_77_78 : s_dk T141.2.2.1 77 [.iconst 0] 78 = true := by decide +kernel
theorem D141_78 : decode T141.2.2.1 78 = .ok (.goto 4, 3) := by decide +kernel
theorem B141_82_87 : s_dk T141.2.2.1 82 [.iadd, .istore_n 2, .iinc 4 1] 87 = true := by decide +kernel
noncomputable def T128 : mT := (10, yX10_parting, cX10_parting, 6, (some .int))
set_option maxRecDepth 10000 in
theorem TE128 : sy_m[128]? = some T128 := rfl
theorem B128_0_3 : s_dk T128.2.2.1 0 [.iload_n 1, .iconst 0, .iconst 1] 3 = true := by decide +kernel
theorem D128_3 : decode T128.2.2.1 3 = .ok (.invokestatic 102, 3) := by decide +kernel
theorem D128_6 : decode T128.2.2.1 6 = .ok (.ifCond .ne 5, 3) := by decide +kernel
theorem B128_11_12 : s_dk T128.2.2.1 11 [.aload_n 0] 12 = true := by decide +kernel
theorem D128_12 : decode T128.2.2.1 12 = .ok (.invokevirtual 252, 3) := by decide +kernel
theorem B128_15_22 : s_dk T128.2.2.1 15 [.iconst 0, .istore_n 2, .iconst (-1), .istore_n 3, .iconst 0, .istore 4] 22 = true := by decide +kernel
theorem B128_9_10 : s_dk T128.2.2.1 9 [.iconst (-1)] 10 = true := by decide +kernel
theorem D128_10 : decode T128.2.2.1 10 = .ok (.ireturn, 1) := by decide +kernel
theorem B128_22_25 : s_dk T128.2.2.1 22 [.iload 4, .aload_n 0] 25 = true := by decide +kernel
theorem D128_25 : decode T128.2.2.1 25 = .ok (.getfield 10, 3) := by decide +kernel
theorem D128_28 : decode T128.2.2.1 28 = .ok (.getfield 163, 3) := by decide +kernel
theorem D128_31 : decode T128.2.2.1 31 = .ok (.if_icmp .ge 45, 3) := by decide +kernel
theorem B128_76_78 : s_dk T128.2.2.1 76 [.iload_n 3, .iconst (-1)] 78 = true := by decide +kernel
theorem D128_78 : decode T128.2.2.1 78 = .ok (.if_icmp .eq 7, 3) := by decide +kernel
theorem B128_85_86 : s_dk T128.2.2.1 85 [.iload_n 3] 86 = true := by decide +kernel
theorem D128_86 : decode T128.2.2.1 86 = .ok (.goto 4, 3) := by decide +kernel
theorem D128_90 : decode T128.2.2.1 90 = .ok (.ireturn, 1) := by decide +kernel
theorem B128_34_35 : s_dk T128.2.2.1 34 [.aload_n 0] 35 = true := by decide +kernel
theorem D128_35 : decode T128.2.2.1 35 = .ok (.getfield 10, 3) := by decide +kernel
theorem B128_38_40 : s_dk T128.2.2.1 38 [.iload 4] 40 = true := by decide +kernel
theorem D128_40 : decode T128.2.2.1 40 = .ok (.invokevirtual 186, 3) := by decide +kernel
theorem D128_43 : decode T128.2.2.1 43 = .ok (.ifCond .eq 12, 3) := by decide +kernel
theorem B128_55_61 : s_dk T128.2.2.1 55 [.iconst 0, .istore 5, .iload 5, .iload_n 2] 61 = true := by decide +kernel
theorem D128_61 : decode T128.2.2.1 61 = .ok (.if_icmp .le 9, 3) := by decide +kernel
theorem B128_70_73 : s_dk T128.2.2.1 70 [.iinc 4 1] 73 = true := by decide +kernel
theorem D128_73 : decode T128.2.2.1 73 = .ok (.goto (-51), 3) := by decide +kernel
theorem B128_46_49 : s_dk T128.2.2.1 46 [.aload_n 0, .iload 4] 49 = true := by decide +kernel
theorem D128_49 : decode T128.2.2.1 49 = .ok (.invokevirtual 328, 3) := by decide +kernel
theorem ck_10_virtual_328 : m_call 10 (.invokevirtual 328) = some (0, 141, 1) := by decide +kernel
theorem D128_52 : decode T128.2.2.1 52 = .ok (.goto 4, 3) := by decide +kernel
theorem B128_56_61 : s_dk T128.2.2.1 56 [.istore 5, .iload 5, .iload_n 2] 61 = true := by decide +kernel
theorem B128_64_73 : s_dk T128.2.2.1 64 [.iload 5, .istore_n 2, .iload 4, .istore_n 3, .iinc 4 1] 73 = true := by decide +kernel
theorem B128_81_82 : s_dk T128.2.2.1 81 [.iload_n 1] 82 = true := by decide +kernel
theorem D128_82 : decode T128.2.2.1 82 = .ok (.ifCond .ne 7, 3) := by decide +kernel
theorem B128_89_90 : s_dk T128.2.2.1 89 [.iload_n 2] 90 = true := by decide +kernel
set_option maxRecDepth 4000 in
theorem k66_1x {base : Nat} {X : Nat → Option mC} {G : Nat → Value} (E : EnvOK base X G) {d : Nat} (hd : 1 ≤ d) {M : mH} (H : HI base M) (text : Int) (h0 : HB base M) (h1 : -2147483648 ≤ text ∧ text ≤ 2147483647) : sOk base X G d T66 [vR 1, vI text] M (pI (fun v M' => M' = M ∧ (v = 0 ∨ v = 1) ∧ (v = 1 → 0 ≤ text ∧ text < gi M 1 12))) := by
  refine sOk.of (show sRn base X G d T66 0 [(0, vR 1), (1, vI text)] [] M _ from ?_)
  refine s_blx (lv' := [(0, vR 1), (1, vI text)]) (st' := [vR 1, vI 0, vI text]) B66_0_3 rfl ?_
  refine r_gint (ki := 12) (pc' := 6) D66_3 rfl gf_8_52_1 rfl H.1 ?_
  intro w1 e2 r3
  have b_w1 := H.2 1 (12) 0 8 rfl
  rw [← e2] at b_w1; clear r3
  refine s_blx (lv' := [(0, vR 1), (1, vI text)]) (st' := [vI (w1 - 1), vI 0, vI text]) B66_6_8 rfl ?_
  refine r_sIp (args := [vI text, vI 0, vI (w1 - 1)]) (rest := []) (pc' := 11) D66_8 rfl ck_8_static_80 TE142 rfl (Nat.le_of_ble_eq_true rfl) ⟨Nat.le_of_ble_eq_true rfl, Nat.le_of_ble_eq_true rfl⟩ (by decide) (dp_0 hd rfl) (k142 E (dp_n hd rfl) H text 0 (w1 - 1) (by omega) (by omega) (by omega)) ?_
  intro v4 q9
  obtain ⟨q6, q7, q8⟩ := q9
  refine r_ifc (tgt := 27) (pc' := 14) D66_11 rfl rfl (by unfold inR; omega) (fun (c10 : v4 = 0) => ?_) (fun (c10 : ¬ (v4 = 0)) => ?_)
  · refine s_blx (lv' := [(0, vR 1), (1, vI text)]) (st' := [vI 0]) B66_27_28 rfl ?_
    exact r_zretI D66_28 rfl (by omega) (⟨rfl, by omega, by omega⟩)
  · refine s_blx (lv' := [(0, vR 1), (1, vI text)]) (st' := [vR 1]) B66_14_15 rfl ?_
    refine r_gfix (r := 9) (pc' := 18) D66_15 rfl gf_8_48_1 H.1 ?_
    refine s_blx (lv' := [(0, vR 1), (1, vI text)]) (st' := [vI text, vR 9]) B66_18_19 rfl ?_
    have b18 := H.2 1 12 0 8 rfl
    have g19 : gi M 1 12 = w1 := e2.symm
    obtain ⟨hb11, nh12, nc13, a14, b15, r16, r17⟩ := (h0) (text) (by omega) (by omega)
    refine r_aald (v := vR hb11) (pc' := 20) D66_19 rfl sc_9 (by decide) H.1 (by omega) a14 ?_
    refine r_ifnull (q := some (.inl hb11)) (tgt := 27) (pc' := 23) D66_20 rfl rfl (fun hq_ => ?_) (fun hq_ => ?_)
    · exact absurd hq_ (by simp)
    · refine s_blx (lv' := [(0, vR 1), (1, vI text)]) (st' := [vI 1]) B66_23_24 rfl ?_
      refine r_goto (tgt := 28) D66_24 rfl ?_
      exact r_zretI D66_28 rfl (by omega) (⟨rfl, by omega, by omega⟩)
set_option maxRecDepth 4000 in
theorem L_k141x {base : Nat} {X : Nat → Option mC} {G : Nat → Value} (E : EnvOK base X G) {d : Nat} (hd : 6 ≤ d) {M : mH} (H : HI base M) (sentence : Int) (h0 : HB base M) (h1 : 0 ≤ sentence ∧ sentence ≤ 15) : ∀ mz : Nat, (∀ (x2 x3 : Int) (N : mH), HI base N → Fr [(58, 2), (58, 3), (58, 4), (58, 6), (59, 0), (60, 0), (61, 0), (76, 0)] M N → (0 ≤ x2) → (0 ≤ x3) → (x3 ≤ 8) → (8 - x3) * 9 + 8 < (mz : Int) → sRn base X G d T141 4 [(0, vR 0), (1, vI sentence), (2, vI x2), (3, vI x3)] [] N (s_Q base (pI (fun v M' => HI base M' ∧ Fr [(58, 2), (58, 3), (58, 4), (58, 6), (59, 0), (60, 0), (61, 0), (76, 0)] M M' ∧ (-2147483648 ≤ v ∧ v ≤ 2147483647))))) ∧ (∀ (x2 x3 x4 : Int) (N : mH), HI base N → Fr [(58, 2), (58, 3), (58, 4), (58, 6), (59, 0), (60, 0), (61, 0), (76, 0)] M N → (0 ≤ x2) → (0 ≤ x3) → (x3 ≤ 7) → (0 ≤ x4) → (x4 ≤ 7) → (8 - x3) * 9 + 0 + (7 - x4) * 1 + 0 < (mz : Int) → sRn base X G d T141 53 [(0, vR 0), (1, vI sentence), (2, vI x2), (3, vI x3), (4, vI x4)] [] N (s_Q base (pI (fun v M' => HI base M' ∧ Fr [(58, 2), (58, 3), (58, 4), (58, 6), (59, 0), (60, 0), (61, 0), (76, 0)] M M' ∧ (-2147483648 ≤ v ∧ v ≤ 2147483647))))) := by
  have f0 : Fr [(58, 2), (58, 3), (58, 4), (58, 6), (59, 0), (60, 0), (61, 0), (76, 0)] M M := Fr.rf
  intro mz
  induction mz with
  | zero => exact ⟨fun x2 x3 N _ _ z0 z1 z2 z3 => by omega, fun x2 x3 x4 N _ _ z0 z1 z2 z3 z4 z5 => by omega⟩
  | succ mz ih =>
    refine ⟨?_, ?_⟩
    · intro x2 x3 N HN fN i0 i1 i2 hmu
      refine s_blx (lv' := [(0, vR 0), (1, vI sentence), (2, vI x2), (3, vI x3)]) (st' := [vR 0, vI x3]) B141_4_6 rfl ?_
      refine r_gfix (r := 1) (pc' := 9) D141_6 rfl gf_10_10_0 HN.1 ?_
      refine r_gint (ki := 12) (pc' := 12) D141_9 rfl gf_10_237_1 rfl HN.1 ?_
      intro w1 e2 r3
      have b_w1 := HN.2 1 (12) 0 8 rfl
      rw [← e2] at b_w1; clear r3
      refine r_icmp (tgt := 96) (pc' := 15) D141_12 rfl rfl (by unfold inR; omega) (fun (c4 : w1 ≤ x3) => ?_) (fun (c4 : ¬ (w1 ≤ x3)) => ?_)
      · refine s_blx (lv' := [(0, vR 0), (1, vI sentence), (2, vI x2), (3, vI x3)]) (st' := [vI x2]) B141_96_97 rfl ?_
        refine r_norm ?_
        intro z5 r6 _; unfold inR at r6
        exact r_iretI D141_97 rfl (⟨HN, fN, by omega⟩)
      · refine s_blx (lv' := [(0, vR 0), (1, vI sentence), (2, vI x2), (3, vI x3)]) (st' := [vR 0]) B141_15_16 rfl ?_
        refine r_gfix (r := 58) (pc' := 19) D141_16 rfl gf_10_70_0 HN.1 ?_
        refine s_blx (lv' := [(0, vR 0), (1, vI sentence), (2, vI x2), (3, vI x3)]) (st' := [vR 0, vR 58]) B141_19_20 rfl ?_
        refine r_gfix (r := 20) (pc' := 23) D141_20 rfl gf_10_44_0 HN.1 ?_
        refine s_blx (lv' := [(0, vR 0), (1, vI sentence), (2, vI x2), (3, vI x3)]) (st' := [vR 0, vR 20, vR 58]) B141_23_24 rfl ?_
        refine r_gfix (r := 1) (pc' := 27) D141_24 rfl gf_10_10_0 HN.1 ?_
        refine r_gfix (r := 9) (pc' := 30) D141_27 rfl gf_10_255_1 HN.1 ?_
        refine s_blx (lv' := [(0, vR 0), (1, vI sentence), (2, vI x2), (3, vI x3)]) (st' := [vI x3, vR 9, vR 20, vR 58]) B141_30_31 rfl ?_
        have b14 := HN.2 1 12 0 8 rfl
        have g15 : gi N 1 12 = w1 := e2.symm
        obtain ⟨hb7, nh8, nc9, a10, b11, r12, r13⟩ := ((h0.fr fN rfl)) (x3) (by omega) (by omega)
        refine r_aald (v := vR hb7) (pc' := 32) D141_31 rfl sc_9 (by decide) HN.1 (by omega) a10 ?_
        refine s_blx (lv' := [(0, vR 0), (1, vI sentence), (2, vI x2), (3, vI x3)]) (st' := [vI sentence, vR (hb7), vR 20, vR 58]) B141_32_33 rfl ?_
        refine r_vI (c := 58) (args := [vR 20, vR (hb7), vI sentence]) (rest := []) (pc' := 36) D141_33 rfl ck_10_virtual_259 TE1 rfl (Nat.le_of_ble_eq_true rfl) ⟨Nat.le_of_ble_eq_true rfl, Nat.le_of_ble_eq_true rfl⟩ sc_58 ⟨rfl, by decide⟩ HN.1 (dp_0 hd rfl) (k1_58_20x E (dp_n hd rfl) HN hb7 sentence nh8 nc9 (b11) (by omega) (by omega) (by omega)) ?_
        intro v16 M17 q21
        obtain ⟨H18, f19, q20⟩ := q21
        have f22 := fN.tr (f19.up rfl)
        have hp23 := b11.fr f19 (by decide)
        refine s_blx (lv' := [(0, vR 0), (1, vI sentence), (2, vI x2), (3, vI x3)]) (st' := [vR 0]) B141_36_38 rfl ?_
        refine r_gfix (r := 76) (pc' := 41) D141_38 rfl gf_10_98_0 H18.1 ?_
        refine s_blx (lv' := [(0, vR 0), (1, vI sentence), (2, vI x2), (3, vI x3)]) (st' := [vR 0, vI x3, vR 76]) B141_41_43 rfl ?_
        refine r_gfix (r := 58) (pc' := 46) D141_43 rfl gf_10_70_0 H18.1 ?_
        refine r_glong (ki := 2) (pc' := 49) D141_46 rfl gf_10_338_58 rfl H18.1 ?_
        intro w24 e25 r26
        clear r26
        refine r_normL ?_
        intro z27 r28 _; unfold inJ at r28
        refine r_last (pc' := 50) D141_49 rfl sc_76 H18 (by omega) (by unfold inJ; omega) trivial ?_
        intro M29 u30 H31 p32
        have f33 := f22.wr u30 rfl
        have hp34 := hp23.wr u30 (by decide)
        refine s_blx (lv' := [(4, vI 0), (0, vR 0), (1, vI sentence), (2, vI x2), (3, vI x3)]) (st' := []) B141_50_53 rfl ?_
        refine r_loc (lv' := [(0, vR 0), (1, vI sentence), (2, vI x2), (3, vI x3), (4, vI 0)]) ⟨rfl, rfl, rfl, rfl, rfl, trivial⟩ rfl rfl ?_
        exact ih.2 x2 x3 0 M29 H31 f33 (by omega) (by omega) (by omega) (by omega) (by omega) (by omega)
    · intro x2 x3 x4 N HN fN i0 i1 i2 i3 i4 hmu
      refine s_blx (lv' := [(0, vR 0), (1, vI sentence), (2, vI x2), (3, vI x3), (4, vI x4)]) (st' := [vI x3, vI x4]) B141_53_56 rfl ?_
      refine r_icmp (tgt := 90) (pc' := 59) D141_56 rfl rfl (by unfold inR; omega) (fun (c35 : x3 ≤ x4) => ?_) (fun (c35 : ¬ (x3 ≤ x4)) => ?_)
      · refine s_blx (lv' := [(3, vI (x3 + 1)), (0, vR 0), (1, vI sentence), (2, vI x2), (4, vI x4)]) (st' := []) B141_90_93 rfl ?_
        refine r_goto (tgt := 4) D141_93 rfl ?_
        refine r_loc (lv' := [(0, vR 0), (1, vI sentence), (2, vI x2), (3, vI (x3 + 1))]) ⟨rfl, rfl, rfl, rfl, trivial⟩ rfl rfl ?_
        exact ih.1 x2 (x3 + 1) N HN fN (by omega) (by omega) (by omega) (by omega)
      · refine s_blx (lv' := [(0, vR 0), (1, vI sentence), (2, vI x2), (3, vI x3), (4, vI x4)]) (st' := [vR 0, vI x2]) B141_59_61 rfl ?_
        refine r_gfix (r := 76) (pc' := 64) D141_61 rfl gf_10_98_0 HN.1 ?_
        refine s_blx (lv' := [(0, vR 0), (1, vI sentence), (2, vI x2), (3, vI x3), (4, vI x4)]) (st' := [vI x4, vR 76, vI x2]) B141_64_66 rfl ?_
        refine r_lald (pc' := 67) D141_66 rfl sc_76 HN.1 (by omega) ?_
        intro w36 e37 r38
        clear r38
        refine s_blx (lv' := [(0, vR 0), (1, vI sentence), (2, vI x2), (3, vI x3), (4, vI x4)]) (st' := [vR 0, vL w36, vI x2]) B141_67_68 rfl ?_
        refine r_gfix (r := 76) (pc' := 71) D141_68 rfl gf_10_98_0 HN.1 ?_
        refine s_blx (lv' := [(0, vR 0), (1, vI sentence), (2, vI x2), (3, vI x3), (4, vI x4)]) (st' := [vI x3, vR 76, vL w36, vI x2]) B141_71_72 rfl ?_
        refine r_lald (pc' := 73) D141_72 rfl sc_76 HN.1 (by omega) ?_
        intro w39 e40 r41
        clear r41
        refine r_lcmp (pc' := 74) D141_73 rfl ?_
        intro z42 r43 r44
        refine r_ifc (tgt := 81) (pc' := 77) D141_74 rfl rfl (by unfold inR; omega) (fun (c45 : z42 ≠ 0) => ?_) (fun (c45 : ¬ (z42 ≠ 0)) => ?_)
        · refine s_blx (lv' := [(4, vI (x4 + 1)), (2, vI (x2 + 1)), (0, vR 0), (1, vI sentence), (3, vI x3)]) (st' := []) B141_81_87 rfl ?_
          refine r_goto (tgt := 53) D141_87 rfl ?_
          refine r_loc (lv' := [(0, vR 0), (1, vI sentence), (2, vI (x2 + 1)), (3, vI x3), (4, vI (x4 + 1))]) ⟨rfl, rfl, rfl, rfl, rfl, trivial⟩ rfl rfl ?_
          exact ih.2 (x2 + 1) x3 (x4 + 1) N HN fN (by omega) (by omega) (by omega) (by omega) (by omega) (by omega)
        · refine s_blx (lv' := [(0, vR 0), (1, vI sentence), (2, vI x2), (3, vI x3), (4, vI x4)]) (st' := [vI 0, vI x2]) B141_77_78 rfl ?_
          refine r_goto (tgt := 82) D141_78 rfl ?_
          refine s_blx (lv' := [(4, vI (x4 + 1)), (2, vI (x2 + 0)), (0, vR 0), (1, vI sentence), (3, vI x3)]) (st' := []) B141_82_87 rfl ?_
          refine r_goto (tgt := 53) D141_87 rfl ?_
          refine r_loc (lv' := [(0, vR 0), (1, vI sentence), (2, vI (x2 + 0)), (3, vI x3), (4, vI (x4 + 1))]) ⟨rfl, rfl, rfl, rfl, rfl, trivial⟩ rfl rfl ?_
          exact ih.2 (x2 + 0) x3 (x4 + 1) N HN fN (by omega) (by omega) (by omega) (by omega) (by omega) (by omega)
set_option maxRecDepth 4000 in
theorem k141x {base : Nat} {X : Nat → Option mC} {G : Nat → Value} (E : EnvOK base X G) {d : Nat} (hd : 6 ≤ d) {M : mH} (H : HI base M) (sentence : Int) (h0 : HB base M) (h1 : 0 ≤ sentence ∧ sentence ≤ 15) : sOk base X G d T141 [vR 0, vI sentence] M (pI (fun v M' => HI base M' ∧ Fr [(58, 2), (58, 3), (58, 4), (58, 6), (59, 0), (60, 0), (61, 0), (76, 0)] M M' ∧ (-2147483648 ≤ v ∧ v ≤ 2147483647))) := by
  have f0 : Fr [(58, 2), (58, 3), (58, 4), (58, 6), (59, 0), (60, 0), (61, 0), (76, 0)] M M := Fr.rf
  refine sOk.of (show sRn base X G d T141 0 [(0, vR 0), (1, vI sentence)] [] M _ from ?_)
  refine s_blx (lv' := [(3, vI 0), (2, vI 0), (0, vR 0), (1, vI sentence)]) (st' := []) B141_0_4 rfl ?_
  refine r_loc (lv' := [(0, vR 0), (1, vI sentence), (2, vI 0), (3, vI 0)]) ⟨rfl, rfl, rfl, rfl, trivial⟩ rfl rfl ?_
  exact (L_k141x E hd H sentence h0 h1 (((8 - 0) * 9 + 8 : Int) + 1).toNat).1 0 0 M H f0 (by omega) (by omega) (by omega) (by omega)