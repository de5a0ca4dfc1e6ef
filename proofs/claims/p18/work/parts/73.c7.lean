/-! The class splits a text. -/
set_option maxRecDepth 4000 in
theorem or512N (n m : Nat) (hn : n * 512 + m < 2 ^ 31) (hm : m < 512) : (Int32.ofInt ((n : Int) * 512) ||| Int32.ofInt (m : Int)) = Int32.ofInt ((n : Int) * 512 + (m : Int)) := by
  apply Int32.toBitVec.inj
  show BitVec.ofInt 32 ((n : Int) * 512) ||| BitVec.ofInt 32 (m : Int) = BitVec.ofInt 32 ((n : Int) * 512 + (m : Int))
  rw [show (n : Int) * 512 = ((n * 512 : Nat) : Int) by omega, show ((n * 512 : Nat) : Int) + (m : Int) = ((n * 512 + m : Nat) : Int) by omega, BitVec.ofInt_natCast, BitVec.ofInt_natCast, BitVec.ofInt_natCast]
  apply BitVec.eq_of_toNat_eq
  rw [BitVec.toNat_or, BitVec.toNat_ofNat, BitVec.toNat_ofNat, BitVec.toNat_ofNat, Nat.mod_eq_of_lt (by omega), Nat.mod_eq_of_lt (by omega), Nat.mod_eq_of_lt (by omega)]
  have := Nat.shiftLeft_add_eq_or_of_lt (i := 9) (b := m) (by omega) n
  rw [Nat.shiftLeft_eq] at this
  exact this.symm
theorem or512 {a b : Int} (ha : 0 ≤ a) (hb : 0 ≤ b ∧ b < 512) (h : a * 512 + b ≤ 2147483647) : (Int32.ofInt (a * 512) ||| Int32.ofInt b) = Int32.ofInt (a * 512 + b) := by
  have := or512N a.toNat b.toNat (by omega) (by omega)
  rw [show ((a.toNat : Nat) : Int) = a by omega, show ((b.toNat : Nat) : Int) = b by omega] at this
  exact this
theorem or512_of {z a b : Int} (hz : inR z) (k : Int32.ofInt z = Int32.ofInt (a * 512) ||| Int32.ofInt b) (ha : 0 ≤ a) (hb : 0 ≤ b ∧ b < 512) (h : a * 512 + b ≤ 2147483647) : z = a * 512 + b := by
  have q := congrArg Int32.toInt k
  rw [or512 ha hb h, s_i32 hz, s_i32 (by unfold inR; omega)] at q
  exact q
/-- the ends of so many clauses -/
noncomputable def EN (n u : Int) (M : mH) : Prop := ∀ j : Int, 0 ≤ j → j < n → 0 ≤ gi M 18 j ∧ gi M 18 j ≤ u
theorem EN.of {n u : Int} {M M' : mH} (h : EN n u M) (e : ∀ j : Int, gi M' 18 j = gi M 18 j) : EN n u M' := by
  intro j h1 h2; rw [e]; exact h j h1 h2
theorem EN.fr {n u : Int} {L : List (Nat × Nat)} {M M' : mH} (h : EN n u M) (f : Fr L M M') (hc : s_al L (fun c => c != 18) = true) : EN n u M' := h.of (fun _ => f.g (s_al_ok hc (by simp)))
theorem EN.wr {n u : Int} {M M' : mH} {c i : Nat} {v : Value} (h : EN n u M) (w : Wr M c i v M') (hc : c ≠ 18) : EN n u M' := h.of (fun j => by unfold gi; rw [w.ne (Or.inl (Ne.symm hc))])
theorem EN.zero {u : Int} {M : mH} : EN 0 u M := fun j h1 h2 => by omega
theorem EN.up {n u u' : Int} {M : mH} (h : EN n u M) (hu : u ≤ u') : EN n u' M := fun j h1 h2 => by have := h j h1 h2; omega
theorem EN.put {n u x : Int} {M M' : mH} {v : Value} (h : EN n u M) (h0 : 0 ≤ n) (w : Wr M 18 n.toNat v M') (hp : gi M' 18 n = x) (hx : 0 ≤ x ∧ x ≤ u) : EN (n + 1) u M' := by
  intro j h1 h2
  by_cases e : j = n
  · rw [e, hp]; exact hx
  · rw [w.gi_ne h0 (Or.inr e)]; exact h j h1 (by omega)
noncomputable def T22 : mT := (4, yX4_isLetter, cX4_isLetter, 1, (some .boolean))
set_option maxRecDepth 10000 in
theorem TE22 : sy_m[22]? = some T22 := rfl
theorem B22_0_3 : s_dk T22.2.2.1 0 [.iload_n 0, .bipush 97] 3 = true := by decide +kernel
theorem D22_3 : decode T22.2.2.1 3 = .ok (.if_icmp .lt 13, 3) := by decide +kernel
theorem B22_16_17 : s_dk T22.2.2.1 16 [.iconst 0] 17 = true := by decide +kernel
theorem D22_17 : decode T22.2.2.1 17 = .ok (.ireturn, 1) := by decide +kernel
theorem B22_6_9 : s_dk T22.2.2.1 6 [.iload_n 0, .bipush 122] 9 = true := by decide +kernel
theorem D22_9 : decode T22.2.2.1 9 = .ok (.if_icmp .gt 7, 3) := by decide +kernel
theorem B22_12_13 : s_dk T22.2.2.1 12 [.iconst 1] 13 = true := by decide +kernel
theorem D22_13 : decode T22.2.2.1 13 = .ok (.goto 4, 3) := by decide +kernel
noncomputable def T23 : mT := (4, yX4_isDigit, cX4_isDigit, 1, (some .boolean))
set_option maxRecDepth 10000 in
theorem TE23 : sy_m[23]? = some T23 := rfl
theorem B23_0_3 : s_dk T23.2.2.1 0 [.iload_n 0, .bipush 48] 3 = true := by decide +kernel
theorem D23_3 : decode T23.2.2.1 3 = .ok (.if_icmp .lt 13, 3) := by decide +kernel
theorem B23_16_17 : s_dk T23.2.2.1 16 [.iconst 0] 17 = true := by decide +kernel
theorem D23_17 : decode T23.2.2.1 17 = .ok (.ireturn, 1) := by decide +kernel
theorem B23_6_9 : s_dk T23.2.2.1 6 [.iload_n 0, .bipush 57] 9 = true := by decide +kernel
theorem D23_9 : decode T23.2.2.1 9 = .ok (.if_icmp .gt 7, 3) := by decide +kernel
theorem B23_12_13 : s_dk T23.2.2.1 12 [.iconst 1] 13 = true := by decide +kernel
theorem D23_13 : decode T23.2.2.1 13 = .ok (.goto 4, 3) := by decide +kernel
noncomputable def T21 : mT := (4, yX4_keyword, cX4_keyword, 8, (some .int))
set_option maxRecDepth 10000 in
theorem TE21 : sy_m[21]? = some T21 := rfl
theorem B21_0_8 : s_dk T21.2.2.1 0 [.iconst 0, .istore_n 3, .iconst 0, .istore 4, .iconst 0, .istore 5] 8 = true := by decide +kernel
theorem B21_8_10 : s_dk T21.2.2.1 8 [.iload 5] 10 = true := by decide +kernel
theorem cn_4_90 : m_ci 4 90 = none := by decide +kernel
theorem D21_10 : decode T21.2.2.1 10 = .ok (.ldc 90, 2) := by decide +kernel
theorem D21_12 : decode T21.2.2.1 12 = .ok (.invokevirtual 92, 3) := by decide +kernel
theorem ck_4_virtual_92 : m_call 4 (.invokevirtual 92) = some (0, 268, 0) := by decide +kernel
theorem D21_15 : decode T21.2.2.1 15 = .ok (.if_icmp .ge 90, 3) := by decide +kernel
theorem D21_18 : decode T21.2.2.1 18 = .ok (.ldc 90, 2) := by decide +kernel
theorem B21_20_22 : s_dk T21.2.2.1 20 [.iload 5] 22 = true := by decide +kernel
theorem D21_22 : decode T21.2.2.1 22 = .ok (.invokevirtual 98, 3) := by decide +kernel
theorem ck_4_virtual_98 : m_call 4 (.invokevirtual 98) = some (0, 269, 1) := by decide +kernel
theorem B21_25_31 : s_dk T21.2.2.1 25 [.istore 6, .iload 6, .bipush 32] 31 = true := by decide +kernel
theorem D21_31 : decode T21.2.2.1 31 = .ok (.if_icmp .eq 52, 3) := by decide +kernel
theorem B21_83_88 : s_dk T21.2.2.1 83 [.iload 4, .iload_n 2, .iload_n 1, .isub] 88 = true := by decide +kernel
theorem D21_88 : decode T21.2.2.1 88 = .ok (.if_icmp .ne 5, 3) := by decide +kernel
theorem B21_93_102 : s_dk T21.2.2.1 93 [.iinc 3 1, .iconst 0, .istore 4, .iinc 5 1] 102 = true := by decide +kernel
theorem D21_102 : decode T21.2.2.1 102 = .ok (.goto (-94), 3) := by decide +kernel
theorem B21_91_92 : s_dk T21.2.2.1 91 [.iload_n 3] 92 = true := by decide +kernel
theorem D21_92 : decode T21.2.2.1 92 = .ok (.ireturn, 1) := by decide +kernel
theorem B21_34_36 : s_dk T21.2.2.1 34 [.iload 4] 36 = true := by decide +kernel
theorem D21_36 : decode T21.2.2.1 36 = .ok (.ifCond .lt 26, 3) := by decide +kernel
theorem B21_39_44 : s_dk T21.2.2.1 39 [.iload_n 1, .iload 4, .iadd, .iload_n 2] 44 = true := by decide +kernel
theorem D21_44 : decode T21.2.2.1 44 = .ok (.if_icmp .ge 18, 3) := by decide +kernel
theorem B21_62_67 : s_dk T21.2.2.1 62 [.iconst 0, .istore 7, .iload 7] 67 = true := by decide +kernel
theorem D21_67 : decode T21.2.2.1 67 = .ok (.ifCond .eq 10, 3) := by decide +kernel
theorem B21_77_80 : s_dk T21.2.2.1 77 [.iconst (-1), .istore 4] 80 = true := by decide +kernel
theorem D21_80 : decode T21.2.2.1 80 = .ok (.goto 19, 3) := by decide +kernel
theorem B21_99_102 : s_dk T21.2.2.1 99 [.iinc 5 1] 102 = true := by decide +kernel
theorem B21_47_52 : s_dk T21.2.2.1 47 [.aload_n 0, .iload_n 1, .iload 4, .iadd] 52 = true := by decide +kernel
theorem D21_52 : decode T21.2.2.1 52 = .ok (.iaload, 1) := by decide +kernel
theorem B21_53_55 : s_dk T21.2.2.1 53 [.iload 6] 55 = true := by decide +kernel
theorem D21_55 : decode T21.2.2.1 55 = .ok (.if_icmp .ne 7, 3) := by decide +kernel
theorem B21_58_59 : s_dk T21.2.2.1 58 [.iconst 1] 59 = true := by decide +kernel
theorem D21_59 : decode T21.2.2.1 59 = .ok (.goto 4, 3) := by decide +kernel
theorem B21_63_67 : s_dk T21.2.2.1 63 [.istore 7, .iload 7] 67 = true := by decide +kernel
theorem B21_70_74 : s_dk T21.2.2.1 70 [.iload 4, .iconst 1, .iadd] 74 = true := by decide +kernel
theorem D21_74 : decode T21.2.2.1 74 = .ok (.goto 4, 3) := by decide +kernel
theorem B21_78_80 : s_dk T21.2.2.1 78 [.istore 4] 80 = true := by decide +kernel
theorem B21_105_107 : s_dk T21.2.2.1 105 [.bipush 23] 107 = true := by decide +kernel
theorem D21_107 : decode T21.2.2.1 107 = .ok (.ireturn, 1) := by decide +kernel
noncomputable def T19 : mT := (4, yX4_tokenEnd, cX4_tokenEnd, 5, (some .int))
set_option maxRecDepth 10000 in
theorem TE19 : sy_m[19]? = some T19 := rfl
theorem B19_0_6 : s_dk T19.2.2.1 0 [.iload_n 1, .iconst 1, .iadd, .istore_n 3, .aload_n 0, .iload_n 1] 6 = true := by decide +kernel
theorem D19_6 : decode T19.2.2.1 6 = .ok (.iaload, 1) := by decide +kernel
theorem D19_7 : decode T19.2.2.1 7 = .ok (.invokestatic 78, 3) := by decide +kernel
theorem ck_4_static_78 : m_call 4 (.invokestatic 78) = some (1, 22, 1) := by decide +kernel
theorem B19_10_14 : s_dk T19.2.2.1 10 [.istore 4, .iload 4] 14 = true := by decide +kernel
theorem D19_14 : decode T19.2.2.1 14 = .ok (.ifCond .ne 12, 3) := by decide +kernel
theorem B19_17_19 : s_dk T19.2.2.1 17 [.aload_n 0, .iload_n 1] 19 = true := by decide +kernel
theorem D19_19 : decode T19.2.2.1 19 = .ok (.iaload, 1) := by decide +kernel
theorem D19_20 : decode T19.2.2.1 20 = .ok (.invokestatic 82, 3) := by decide +kernel
theorem ck_4_static_82 : m_call 4 (.invokestatic 82) = some (1, 23, 1) := by decide +kernel
theorem D19_23 : decode T19.2.2.1 23 = .ok (.ifCond .eq 40, 3) := by decide +kernel
theorem B19_63_64 : s_dk T19.2.2.1 63 [.iload_n 3] 64 = true := by decide +kernel
theorem D19_64 : decode T19.2.2.1 64 = .ok (.ireturn, 1) := by decide +kernel
theorem B19_26_28 : s_dk T19.2.2.1 26 [.iload_n 3, .iload_n 2] 28 = true := by decide +kernel
theorem D19_28 : decode T19.2.2.1 28 = .ok (.if_icmp .ge 35, 3) := by decide +kernel
theorem B19_31_33 : s_dk T19.2.2.1 31 [.iload 4] 33 = true := by decide +kernel
theorem D19_33 : decode T19.2.2.1 33 = .ok (.ifCond .eq 15, 3) := by decide +kernel
theorem B19_36_38 : s_dk T19.2.2.1 36 [.aload_n 0, .iload_n 3] 38 = true := by decide +kernel
theorem D19_38 : decode T19.2.2.1 38 = .ok (.iaload, 1) := by decide +kernel
theorem D19_39 : decode T19.2.2.1 39 = .ok (.invokestatic 78, 3) := by decide +kernel
theorem D19_42 : decode T19.2.2.1 42 = .ok (.ifCond .eq 21, 3) := by decide +kernel
theorem D19_45 : decode T19.2.2.1 45 = .ok (.goto 12, 3) := by decide +kernel
theorem B19_57_60 : s_dk T19.2.2.1 57 [.iinc 3 1] 60 = true := by decide +kernel
theorem D19_60 : decode T19.2.2.1 60 = .ok (.goto (-34), 3) := by decide +kernel
theorem B19_48_50 : s_dk T19.2.2.1 48 [.aload_n 0, .iload_n 3] 50 = true := by decide +kernel
theorem D19_50 : decode T19.2.2.1 50 = .ok (.iaload, 1) := by decide +kernel
theorem D19_51 : decode T19.2.2.1 51 = .ok (.invokestatic 82, 3) := by decide +kernel
theorem D19_54 : decode T19.2.2.1 54 = .ok (.ifCond .eq 9, 3) := by decide +kernel
noncomputable def T20 : mT := (4, yX4_tokenOf, cX4_tokenOf, 5, (some .int))
set_option maxRecDepth 10000 in
theorem TE20 : sy_m[20]? = some T20 := rfl
theorem B20_0_2 : s_dk T20.2.2.1 0 [.aload_n 0, .iload_n 1] 2 = true := by decide +kernel
theorem D20_2 : decode T20.2.2.1 2 = .ok (.iaload, 1) := by decide +kernel
theorem D20_3 : decode T20.2.2.1 3 = .ok (.invokestatic 78, 3) := by decide +kernel
theorem D20_6 : decode T20.2.2.1 6 = .ok (.ifCond .eq 10, 3) := by decide +kernel
theorem B20_16_18 : s_dk T20.2.2.1 16 [.aload_n 0, .iload_n 1] 18 = true := by decide +kernel
theorem D20_18 : decode T20.2.2.1 18 = .ok (.iaload, 1) := by decide +kernel
theorem D20_19 : decode T20.2.2.1 19 = .ok (.invokestatic 82, 3) := by decide +kernel
theorem D20_22 : decode T20.2.2.1 22 = .ok (.ifCond .ne 10, 3) := by decide +kernel
theorem B20_32_37 : s_dk T20.2.2.1 32 [.iconst 0, .istore_n 3, .iload_n 1, .istore 4] 37 = true := by decide +kernel
theorem B20_25_29 : s_dk T20.2.2.1 25 [.bipush 100, .aload_n 0, .iload_n 1] 29 = true := by decide +kernel
theorem D20_29 : decode T20.2.2.1 29 = .ok (.iaload, 1) := by decide +kernel
theorem B20_30_31 : s_dk T20.2.2.1 30 [.iadd] 31 = true := by decide +kernel
theorem D20_31 : decode T20.2.2.1 31 = .ok (.ireturn, 1) := by decide +kernel
theorem B20_9_12 : s_dk T20.2.2.1 9 [.aload_n 0, .iload_n 1, .iload_n 2] 12 = true := by decide +kernel
theorem D20_12 : decode T20.2.2.1 12 = .ok (.invokestatic 85, 3) := by decide +kernel
theorem ck_4_static_85 : m_call 4 (.invokestatic 85) = some (1, 21, 3) := by decide +kernel
theorem D20_15 : decode T20.2.2.1 15 = .ok (.ireturn, 1) := by decide +kernel
theorem B20_37_40 : s_dk T20.2.2.1 37 [.iload 4, .iload_n 2] 40 = true := by decide +kernel
theorem D20_40 : decode T20.2.2.1 40 = .ok (.if_icmp .ge 27, 3) := by decide +kernel
theorem B20_67_68 : s_dk T20.2.2.1 67 [.iload_n 3] 68 = true := by decide +kernel
theorem ci_4_89 : m_ci 4 89 = some (100000) := by decide +kernel
theorem D20_68 : decode T20.2.2.1 68 = .ok (.ldc 89, 2) := by decide +kernel
theorem D20_70 : decode T20.2.2.1 70 = .ok (.if_icmp .le 8, 3) := by decide +kernel
theorem B20_78_81 : s_dk T20.2.2.1 78 [.iload_n 3, .bipush 9] 81 = true := by decide +kernel
theorem D20_81 : decode T20.2.2.1 81 = .ok (.ishl, 1) := by decide +kernel
theorem B20_82_84 : s_dk T20.2.2.1 82 [.bipush 21] 84 = true := by decide +kernel
theorem D20_84 : decode T20.2.2.1 84 = .ok (.ior, 1) := by decide +kernel
theorem D20_85 : decode T20.2.2.1 85 = .ok (.ireturn, 1) := by decide +kernel
theorem B20_43_50 : s_dk T20.2.2.1 43 [.iload_n 3, .bipush 10, .imul, .aload_n 0, .iload 4] 50 = true := by decide +kernel
theorem D20_50 : decode T20.2.2.1 50 = .ok (.iaload, 1) := by decide +kernel
theorem B20_51_55 : s_dk T20.2.2.1 51 [.iadd, .bipush 48, .isub] 55 = true := by decide +kernel
theorem ci_4_88 : m_ci 4 88 = some (100001) := by decide +kernel
theorem D20_55 : decode T20.2.2.1 55 = .ok (.ldc 88, 2) := by decide +kernel
theorem D20_57 : decode T20.2.2.1 57 = .ok (.invokestatic 46, 3) := by decide +kernel
theorem B20_60_64 : s_dk T20.2.2.1 60 [.istore_n 3, .iinc 4 1] 64 = true := by decide +kernel
theorem D20_64 : decode T20.2.2.1 64 = .ok (.goto (-27), 3) := by decide +kernel
theorem B20_73_75 : s_dk T20.2.2.1 73 [.bipush 23] 75 = true := by decide +kernel
theorem D20_75 : decode T20.2.2.1 75 = .ok (.goto 10, 3) := by decide +kernel
noncomputable def T18 : mT := (4, yX4_splitTokens, cX4_splitTokens, 7, none)
set_option maxRecDepth 10000 in
theorem TE18 : sy_m[18]? = some T18 := rfl
theorem B18_0_8 : s_dk T18.2.2.1 0 [.iconst 0, .istore_n 3, .iconst 0, .istore 4, .iconst 0, .istore 5] 8 = true := by decide +kernel
theorem B18_8_13 : s_dk T18.2.2.1 8 [.iload 5, .sipush 400] 13 = true := by decide +kernel
theorem D18_13 : decode T18.2.2.1 13 = .ok (.if_icmp .ge 62, 3) := by decide +kernel
theorem B18_16_19 : s_dk T18.2.2.1 16 [.iload 4, .iload_n 2] 19 = true := by decide +kernel
theorem D18_19 : decode T18.2.2.1 19 = .ok (.if_icmp .ge 56, 3) := by decide +kernel
theorem B18_75_76 : s_dk T18.2.2.1 75 [.aload_n 0] 76 = true := by decide +kernel
theorem D18_76 : decode T18.2.2.1 76 = .ok (.getfield 15, 3) := by decide +kernel
theorem B18_79_81 : s_dk T18.2.2.1 79 [.iload_n 3, .iload_n 2] 81 = true := by decide +kernel
theorem D18_81 : decode T18.2.2.1 81 = .ok (.iastore, 1) := by decide +kernel
theorem B18_82_83 : s_dk T18.2.2.1 82 [.aload_n 0] 83 = true := by decide +kernel
theorem D18_83 : decode T18.2.2.1 83 = .ok (.getfield 9, 3) := by decide +kernel
theorem B18_86_89 : s_dk T18.2.2.1 86 [.iload_n 3, .bipush 22] 89 = true := by decide +kernel
theorem D18_89 : decode T18.2.2.1 89 = .ok (.iastore, 1) := by decide +kernel
theorem D18_90 : decode T18.2.2.1 90 = .ok (.return_, 1) := by decide +kernel
theorem B18_22_26 : s_dk T18.2.2.1 22 [.aload_n 1, .iload 4, .iload_n 2] 26 = true := by decide +kernel
theorem D18_26 : decode T18.2.2.1 26 = .ok (.invokestatic 71, 3) := by decide +kernel
theorem ck_4_static_71 : m_call 4 (.invokestatic 71) = some (1, 19, 3) := by decide +kernel
theorem B18_29_34 : s_dk T18.2.2.1 29 [.istore 6, .aload_n 1, .iload 4] 34 = true := by decide +kernel
theorem D18_34 : decode T18.2.2.1 34 = .ok (.iaload, 1) := by decide +kernel
theorem B18_35_37 : s_dk T18.2.2.1 35 [.bipush 32] 37 = true := by decide +kernel
theorem D18_37 : decode T18.2.2.1 37 = .ok (.if_icmp .eq 28, 3) := by decide +kernel
theorem B18_65_72 : s_dk T18.2.2.1 65 [.iload 6, .istore 4, .iinc 5 1] 72 = true := by decide +kernel
theorem D18_72 : decode T18.2.2.1 72 = .ok (.goto (-64), 3) := by decide +kernel
theorem B18_40_41 : s_dk T18.2.2.1 40 [.aload_n 0] 41 = true := by decide +kernel
theorem D18_41 : decode T18.2.2.1 41 = .ok (.getfield 15, 3) := by decide +kernel
theorem B18_44_47 : s_dk T18.2.2.1 44 [.iload_n 3, .iload 4] 47 = true := by decide +kernel
theorem D18_47 : decode T18.2.2.1 47 = .ok (.iastore, 1) := by decide +kernel
theorem B18_48_49 : s_dk T18.2.2.1 48 [.aload_n 0] 49 = true := by decide +kernel
theorem D18_49 : decode T18.2.2.1 49 = .ok (.getfield 9, 3) := by decide +kernel
theorem B18_52_58 : s_dk T18.2.2.1 52 [.iload_n 3, .aload_n 1, .iload 4, .iload 6] 58 = true := by decide +kernel
theorem D18_58 : decode T18.2.2.1 58 = .ok (.invokestatic 75, 3) := by decide +kernel
theorem ck_4_static_75 : m_call 4 (.invokestatic 75) = some (1, 20, 3) := by decide +kernel
theorem D18_61 : decode T18.2.2.1 61 = .ok (.iastore, 1) := by decide +kernel
theorem B18_62_72 : s_dk T18.2.2.1 62 [.iinc 3 1, .iload 6, .istore 4, .iinc 5 1] 72 = true := by decide +kernel
noncomputable def T24 : mT := (4, yX4_takesClauses, cX4_takesClauses, 2, (some .boolean))
set_option maxRecDepth 10000 in
theorem TE24 : sy_m[24]? = some T24 := rfl
theorem B24_0_2 : s_dk T24.2.2.1 0 [.iconst 0, .istore_n 1] 2 = true := by decide +kernel
theorem B24_2_5 : s_dk T24.2.2.1 2 [.iload_n 1, .bipush 12] 5 = true := by decide +kernel
theorem D24_5 : decode T24.2.2.1 5 = .ok (.if_icmp .ge 98, 3) := by decide +kernel
theorem B24_8_9 : s_dk T24.2.2.1 8 [.aload_n 0] 9 = true := by decide +kernel
theorem D24_9 : decode T24.2.2.1 9 = .ok (.getfield 22, 3) := by decide +kernel
theorem B24_12_13 : s_dk T24.2.2.1 12 [.iconst 5] 13 = true := by decide +kernel
theorem D24_13 : decode T24.2.2.1 13 = .ok (.if_icmp .le 8, 3) := by decide +kernel
theorem B24_21_22 : s_dk T24.2.2.1 21 [.aload_n 0] 22 = true := by decide +kernel
theorem gf_4_28_14 : s_gf 4 28 14 = some (5, 20) := by decide +kernel
theorem D24_22 : decode T24.2.2.1 22 = .ok (.getfield 28, 3) := by decide +kernel
theorem B24_25_27 : s_dk T24.2.2.1 25 [.iload_n 1, .aload_n 0] 27 = true := by decide +kernel
theorem D24_27 : decode T24.2.2.1 27 = .ok (.getfield 22, 3) := by decide +kernel
theorem D24_30 : decode T24.2.2.1 30 = .ok (.iastore, 1) := by decide +kernel
theorem B24_31_32 : s_dk T24.2.2.1 31 [.aload_n 0] 32 = true := by decide +kernel
theorem D24_32 : decode T24.2.2.1 32 = .ok (.invokevirtual 105, 3) := by decide +kernel
theorem B24_35_36 : s_dk T24.2.2.1 35 [.aload_n 0] 36 = true := by decide +kernel
theorem D24_36 : decode T24.2.2.1 36 = .ok (.getfield 22, 3) := by decide +kernel
theorem B24_39_41 : s_dk T24.2.2.1 39 [.bipush 6] 41 = true := by decide +kernel
theorem D24_41 : decode T24.2.2.1 41 = .ok (.if_icmp .ne 17, 3) := by decide +kernel
theorem B24_58_59 : s_dk T24.2.2.1 58 [.aload_n 0] 59 = true := by decide +kernel
theorem gf_4_31_14 : s_gf 4 31 14 = some (6, 21) := by decide +kernel
theorem D24_59 : decode T24.2.2.1 59 = .ok (.getfield 31, 3) := by decide +kernel
theorem B24_62_64 : s_dk T24.2.2.1 62 [.iload_n 1, .aload_n 0] 64 = true := by decide +kernel
theorem D24_64 : decode T24.2.2.1 64 = .ok (.getfield 40, 3) := by decide +kernel
theorem D24_67 : decode T24.2.2.1 67 = .ok (.iastore, 1) := by decide +kernel
theorem B24_68_72 : s_dk T24.2.2.1 68 [.aload_n 0, .iload_n 1, .iconst 1, .iadd] 72 = true := by decide +kernel
theorem pf_4_34_14 : s_pf 4 34 14 = some (7, 1) := by decide +kernel
theorem D24_72 : decode T24.2.2.1 72 = .ok (.putfield 34, 3) := by decide +kernel
theorem B24_75_76 : s_dk T24.2.2.1 75 [.aload_n 0] 76 = true := by decide +kernel
theorem D24_76 : decode T24.2.2.1 76 = .ok (.getfield 22, 3) := by decide +kernel
theorem B24_79_81 : s_dk T24.2.2.1 79 [.bipush 22] 81 = true := by decide +kernel
theorem D24_81 : decode T24.2.2.1 81 = .ok (.if_icmp .ne 5, 3) := by decide +kernel
theorem B24_86_89 : s_dk T24.2.2.1 86 [.aload_n 0, .bipush 59] 89 = true := by decide +kernel
theorem D24_89 : decode T24.2.2.1 89 = .ok (.invokevirtual 111, 3) := by decide +kernel
theorem D24_92 : decode T24.2.2.1 92 = .ok (.ifCond .ne 5, 3) := by decide +kernel
theorem B24_97_100 : s_dk T24.2.2.1 97 [.iinc 1 1] 100 = true := by decide +kernel
theorem D24_100 : decode T24.2.2.1 100 = .ok (.goto (-98), 3) := by decide +kernel
theorem B24_95_96 : s_dk T24.2.2.1 95 [.iconst 0] 96 = true := by decide +kernel
theorem D24_96 : decode T24.2.2.1 96 = .ok (.ireturn, 1) := by decide +kernel
theorem B24_84_85 : s_dk T24.2.2.1 84 [.iconst 1] 85 = true := by decide +kernel
theorem D24_85 : decode T24.2.2.1 85 = .ok (.ireturn, 1) := by decide +kernel
theorem B24_44_45 : s_dk T24.2.2.1 44 [.aload_n 0] 45 = true := by decide +kernel
theorem D24_45 : decode T24.2.2.1 45 = .ok (.invokevirtual 105, 3) := by decide +kernel
theorem B24_48_50 : s_dk T24.2.2.1 48 [.aload_n 0, .iconst 0] 50 = true := by decide +kernel
theorem D24_50 : decode T24.2.2.1 50 = .ok (.invokevirtual 108, 3) := by decide +kernel
theorem D24_53 : decode T24.2.2.1 53 = .ok (.ifCond .ne 5, 3) := by decide +kernel
theorem B24_56_57 : s_dk T24.2.2.1 56 [.iconst 0] 57 = true := by decide +kernel
theorem D24_57 : decode T24.2.2.1 57 = .ok (.ireturn, 1) := by decide +kernel
theorem B24_16_17 : s_dk T24.2.2.1 16 [.aload_n 0] 17 = true := by decide +kernel
theorem D24_17 : decode T24.2.2.1 17 = .ok (.invokevirtual 102, 3) := by decide +kernel
theorem D24_20 : decode T24.2.2.1 20 = .ok (.ireturn, 1) := by decide +kernel
theorem B24_103_104 : s_dk T24.2.2.1 103 [.aload_n 0] 104 = true := by decide +kernel
theorem D24_104 : decode T24.2.2.1 104 = .ok (.invokevirtual 102, 3) := by decide +kernel
theorem D24_107 : decode T24.2.2.1 107 = .ok (.ireturn, 1) := by decide +kernel
set_option maxRecDepth 4000 in
theorem k22 {base : Nat} {X : Nat → Option mC} {G : Nat → Value} (E : EnvOK base X G) {d : Nat} (hd : 0 ≤ d) {M : mH} (H : HI base M) (sign : Int) (h0 : -2147483648 ≤ sign ∧ sign ≤ 2147483647) : sOk base X G d T22 [vI sign] M (pI (fun v M' => M' = M ∧ (v = 0 ∨ v = 1) ∧ (v = 1 → 97 ≤ sign ∧ sign ≤ 122) ∧ (v = 0 → sign < 97 ∨ 122 < sign))) := by
  refine sOk.of (show sRn base X G d T22 0 [(0, vI sign)] [] M _ from ?_)
  refine s_blx (lv' := [(0, vI sign)]) (st' := [vI 97, vI sign]) B22_0_3 rfl ?_
  refine r_icmp (tgt := 16) (pc' := 6) D22_3 rfl rfl (by unfold inR; omega) (fun (c1 : sign < 97) => ?_) (fun (c1 : ¬ (sign < 97)) => ?_)
  · refine s_blx (lv' := [(0, vI sign)]) (st' := [vI 0]) B22_16_17 rfl ?_
    exact r_zretI D22_17 rfl (by omega) (⟨rfl, by omega, by omega, by omega⟩)
  · refine s_blx (lv' := [(0, vI sign)]) (st' := [vI 122, vI sign]) B22_6_9 rfl ?_
    refine r_icmp (tgt := 16) (pc' := 12) D22_9 rfl rfl (by unfold inR; omega) (fun (c2 : 122 < sign) => ?_) (fun (c2 : ¬ (122 < sign)) => ?_)
    · refine s_blx (lv' := [(0, vI sign)]) (st' := [vI 0]) B22_16_17 rfl ?_
      exact r_zretI D22_17 rfl (by omega) (⟨rfl, by omega, by omega, by omega⟩)
    · refine s_blx (lv' := [(0, vI sign)]) (st' := [vI 1]) B22_12_13 rfl ?_
      refine r_goto (tgt := 17) D22_13 rfl ?_
      exact r_zretI D22_17 rfl (by omega) (⟨rfl, by omega, by omega, by omega⟩)
set_option maxRecDepth 4000 in
theorem k23 {base : Nat} {X : Nat → Option mC} {G : Nat → Value} (E : EnvOK base X G) {d : Nat} (hd : 0 ≤ d) {M : mH} (H : HI base M) (sign : Int) (h0 : -2147483648 ≤ sign ∧ sign ≤ 2147483647) : sOk base X G d T23 [vI sign] M (pI (fun v M' => M' = M ∧ (v = 0 ∨ v = 1) ∧ (v = 1 → 48 ≤ sign ∧ sign ≤ 57) ∧ (v = 0 → sign < 48 ∨ 57 < sign))) := by
  refine sOk.of (show sRn base X G d T23 0 [(0, vI sign)] [] M _ from ?_)
  refine s_blx (lv' := [(0, vI sign)]) (st' := [vI 48, vI sign]) B23_0_3 rfl ?_
  refine r_icmp (tgt := 16) (pc' := 6) D23_3 rfl rfl (by unfold inR; omega) (fun (c1 : sign < 48) => ?_) (fun (c1 : ¬ (sign < 48)) => ?_)
  · refine s_blx (lv' := [(0, vI sign)]) (st' := [vI 0]) B23_16_17 rfl ?_
    exact r_zretI D23_17 rfl (by omega) (⟨rfl, by omega, by omega, by omega⟩)
  · refine s_blx (lv' := [(0, vI sign)]) (st' := [vI 57, vI sign]) B23_6_9 rfl ?_
    refine r_icmp (tgt := 16) (pc' := 12) D23_9 rfl rfl (by unfold inR; omega) (fun (c2 : 57 < sign) => ?_) (fun (c2 : ¬ (57 < sign)) => ?_)
    · refine s_blx (lv' := [(0, vI sign)]) (st' := [vI 0]) B23_16_17 rfl ?_
      exact r_zretI D23_17 rfl (by omega) (⟨rfl, by omega, by omega, by omega⟩)
    · refine s_blx (lv' := [(0, vI sign)]) (st' := [vI 1]) B23_12_13 rfl ?_
      refine r_goto (tgt := 17) D23_13 rfl ?_
      exact r_zretI D23_17 rfl (by omega) (⟨rfl, by omega, by omega, by omega⟩)
set_option maxRecDepth 4000 in
theorem L_k21_13 {base : Nat} {X : Nat → Option mC} {G : Nat → Value} (E : EnvOK base X G) {d : Nat} (hd : 4 ≤ d) {M : mH} (H : HI base M) (from_ : Int) (to_ : Int) (h0 : 0 ≤ from_ ∧ from_ ≤ 399) (h1 : from_ < to_ ∧ to_ ≤ 400) : ∀ mz : Nat, (∀ (x3 x4 x5 : Int), (0 ≤ x3 ∧ x3 ≤ x5) → (-1 ≤ x4 ∧ x4 ≤ x5) → (0 ≤ x5 ∧ x5 ≤ 104) → (0 ≤ x3) → (x3 ≤ 105) → ((-1) ≤ x4) → (x4 ≤ 105) → (0 ≤ x5) → (x5 ≤ 104) → (104 - x5) * 1 + 0 < (mz : Int) → sRn base X G d T21 8 [(0, vR 13), (1, vI from_), (2, vI to_), (3, vI x3), (4, vI x4), (5, vI x5)] [] M (s_Q base (pI (fun v M' => M' = M ∧ (0 ≤ v ∧ v ≤ 105))))) := by
  intro mz
  induction mz with
  | zero => exact fun x3 x4 x5 z0 z1 z2 z3 z4 z5 z6 z7 z8 z9 => by omega
  | succ mz ih =>
    intro x3 x4 x5 i0 i1 i2 i3 i4 i5 i6 i7 i8 hmu
    obtain ⟨su, sb, sf, s9, su_lt, s10, sb_lt, sX, sF⟩ := E.2.2.2
    refine s_blx (lv' := [(0, vR 13), (1, vI from_), (2, vI to_), (3, vI x3), (4, vI x4), (5, vI x5)]) (st' := [vI x5]) B21_8_10 rfl ?_
    refine r_ldcS (pc' := 12) D21_10 rfl rfl cn_4_90 s9 ?_
    refine r_callS (args := []) (rest := [vI x5]) (pc' := 15) D21_12 rfl ck_4_virtual_92 TE268 rfl (Nat.le_of_ble_eq_true rfl) ⟨Nat.le_of_ble_eq_true rfl, Nat.le_of_ble_eq_true rfl⟩ rfl s9 (dp_0 hd rfl) (k268 E (dp_n hd rfl) s9 s10 sb_lt sX) ?_
    intro rr1 MM2 pp3
    obtain ⟨w4, hr_, hM_, hw_⟩ := pp3; subst hr_; rw [hM_, hw_]
    show sRn _ _ _ _ _ 15 _ (vI 104 :: [vI x5]) _ _
    refine r_icmp (tgt := 105) (pc' := 18) D21_15 rfl rfl (by unfold inR; omega) (fun (c5 : 104 ≤ x5) => ?_) (fun (c5 : ¬ (104 ≤ x5)) => ?_)
    · refine s_blx (lv' := [(0, vR 13), (1, vI from_), (2, vI to_), (3, vI x3), (4, vI x4), (5, vI x5)]) (st' := [vI 23]) B21_105_107 rfl ?_
      exact r_iretI D21_107 rfl (⟨rfl, by omega⟩)
    · refine r_ldcS (pc' := 20) D21_18 rfl rfl cn_4_90 s9 ?_
      refine s_blx (lv' := [(0, vR 13), (1, vI from_), (2, vI to_), (3, vI x3), (4, vI x4), (5, vI x5)]) (st' := [vI x5, vA su]) B21_20_22 rfl ?_
      refine r_callS (args := [vI x5]) (rest := []) (pc' := 25) D21_22 rfl ck_4_virtual_98 TE269 rfl (Nat.le_of_ble_eq_true rfl) ⟨Nat.le_of_ble_eq_true rfl, Nat.le_of_ble_eq_true rfl⟩ rfl s9 (dp_0 hd rfl) (k269 E (dp_n hd rfl) (by omega) s9 s10 sb_lt sX sF) ?_
      intro rr6 MM7 pp8
      obtain ⟨w9, hr_, hM_, hw1, hw2⟩ := pp8; subst hr_; rw [hM_]
      show sRn _ _ _ _ _ 25 _ (vI w9 :: []) _ _
      refine s_blx (lv' := [(6, vI w9), (0, vR 13), (1, vI from_), (2, vI to_), (3, vI x3), (4, vI x4), (5, vI x5)]) (st' := [vI 32, vI w9]) B21_25_31 rfl ?_
      refine r_icmp (tgt := 83) (pc' := 34) D21_31 rfl rfl (by unfold inR; omega) (fun (c10 : w9 = 32) => ?_) (fun (c10 : ¬ (w9 = 32)) => ?_)
      · refine s_blx (lv' := [(6, vI w9), (0, vR 13), (1, vI from_), (2, vI to_), (3, vI x3), (4, vI x4), (5, vI x5)]) (st' := [vI (to_ - from_), vI x4]) B21_83_88 rfl ?_
        refine r_icmp (tgt := 93) (pc' := 91) D21_88 rfl rfl (by unfold inR; omega) (fun (c11 : x4 ≠ (to_ - from_)) => ?_) (fun (c11 : ¬ (x4 ≠ (to_ - from_))) => ?_)
        · refine s_blx (lv' := [(5, vI (x5 + 1)), (4, vI 0), (3, vI (x3 + 1)), (6, vI w9), (0, vR 13), (1, vI from_), (2, vI to_)]) (st' := []) B21_93_102 rfl ?_
          refine r_goto (tgt := 8) D21_102 rfl ?_
          refine r_loc (lv' := [(0, vR 13), (1, vI from_), (2, vI to_), (3, vI (x3 + 1)), (4, vI 0), (5, vI (x5 + 1))]) ⟨rfl, rfl, rfl, rfl, rfl, rfl, trivial⟩ rfl rfl ?_
          exact ih (x3 + 1) 0 (x5 + 1) (by omega) (by omega) (by omega) (by omega) (by omega) (by omega) (by omega) (by omega) (by omega) (by omega)
        · refine s_blx (lv' := [(6, vI w9), (0, vR 13), (1, vI from_), (2, vI to_), (3, vI x3), (4, vI x4), (5, vI x5)]) (st' := [vI x3]) B21_91_92 rfl ?_
          exact r_iretI D21_92 rfl (⟨rfl, by omega⟩)
      · refine s_blx (lv' := [(6, vI w9), (0, vR 13), (1, vI from_), (2, vI to_), (3, vI x3), (4, vI x4), (5, vI x5)]) (st' := [vI x4]) B21_34_36 rfl ?_
        refine r_ifc (tgt := 62) (pc' := 39) D21_36 rfl rfl (by unfold inR; omega) (fun (c12 : x4 < 0) => ?_) (fun (c12 : ¬ (x4 < 0)) => ?_)
        · refine s_blx (lv' := [(7, vI 0), (6, vI w9), (0, vR 13), (1, vI from_), (2, vI to_), (3, vI x3), (4, vI x4), (5, vI x5)]) (st' := [vI 0]) B21_62_67 rfl ?_
          refine r_ifc (tgt := 77) (pc' := 70) D21_67 rfl rfl (by unfold inR; omega) (fun (c13 : 0 = 0) => ?_) (fun (c13 : ¬ (0 = 0)) => ?_)
          · refine s_blx (lv' := [(4, vI (-1)), (7, vI 0), (6, vI w9), (0, vR 13), (1, vI from_), (2, vI to_), (3, vI x3), (5, vI x5)]) (st' := []) B21_77_80 rfl ?_
            refine r_goto (tgt := 99) D21_80 rfl ?_
            refine s_blx (lv' := [(5, vI (x5 + 1)), (4, vI (-1)), (7, vI 0), (6, vI w9), (0, vR 13), (1, vI from_), (2, vI to_), (3, vI x3)]) (st' := []) B21_99_102 rfl ?_
            refine r_goto (tgt := 8) D21_102 rfl ?_
            refine r_loc (lv' := [(0, vR 13), (1, vI from_), (2, vI to_), (3, vI x3), (4, vI (-1)), (5, vI (x5 + 1))]) ⟨rfl, rfl, rfl, rfl, rfl, rfl, trivial⟩ rfl rfl ?_
            exact ih x3 (-1) (x5 + 1) (by omega) (by omega) (by omega) (by omega) (by omega) (by omega) (by omega) (by omega) (by omega) (by omega)
          · exfalso; omega
        · refine s_blx (lv' := [(6, vI w9), (0, vR 13), (1, vI from_), (2, vI to_), (3, vI x3), (4, vI x4), (5, vI x5)]) (st' := [vI to_, vI (from_ + x4)]) B21_39_44 rfl ?_
          refine r_icmp (tgt := 62) (pc' := 47) D21_44 rfl rfl (by unfold inR; omega) (fun (c14 : to_ ≤ (from_ + x4)) => ?_) (fun (c14 : ¬ (to_ ≤ (from_ + x4))) => ?_)
          · refine s_blx (lv' := [(7, vI 0), (6, vI w9), (0, vR 13), (1, vI from_), (2, vI to_), (3, vI x3), (4, vI x4), (5, vI x5)]) (st' := [vI 0]) B21_62_67 rfl ?_
            refine r_ifc (tgt := 77) (pc' := 70) D21_67 rfl rfl (by unfold inR; omega) (fun (c15 : 0 = 0) => ?_) (fun (c15 : ¬ (0 = 0)) => ?_)
            · refine s_blx (lv' := [(4, vI (-1)), (7, vI 0), (6, vI w9), (0, vR 13), (1, vI from_), (2, vI to_), (3, vI x3), (5, vI x5)]) (st' := []) B21_77_80 rfl ?_
              refine r_goto (tgt := 99) D21_80 rfl ?_
              refine s_blx (lv' := [(5, vI (x5 + 1)), (4, vI (-1)), (7, vI 0), (6, vI w9), (0, vR 13), (1, vI from_), (2, vI to_), (3, vI x3)]) (st' := []) B21_99_102 rfl ?_
              refine r_goto (tgt := 8) D21_102 rfl ?_
              refine r_loc (lv' := [(0, vR 13), (1, vI from_), (2, vI to_), (3, vI x3), (4, vI (-1)), (5, vI (x5 + 1))]) ⟨rfl, rfl, rfl, rfl, rfl, rfl, trivial⟩ rfl rfl ?_
              exact ih x3 (-1) (x5 + 1) (by omega) (by omega) (by omega) (by omega) (by omega) (by omega) (by omega) (by omega) (by omega) (by omega)
            · exfalso; omega
          · refine s_blx (lv' := [(6, vI w9), (0, vR 13), (1, vI from_), (2, vI to_), (3, vI x3), (4, vI x4), (5, vI x5)]) (st' := [vI (from_ + x4), vR 13]) B21_47_52 rfl ?_
            refine r_iald (pc' := 53) D21_52 rfl sc_13 H.1 (by omega) ?_
            intro w16 e17 r18
            have b_w16 := H.2 13 (from_ + x4) 0 255 rfl
            rw [← e17] at b_w16; clear r18
            refine s_blx (lv' := [(6, vI w9), (0, vR 13), (1, vI from_), (2, vI to_), (3, vI x3), (4, vI x4), (5, vI x5)]) (st' := [vI w9, vI w16]) B21_53_55 rfl ?_
            refine r_icmp (tgt := 62) (pc' := 58) D21_55 rfl rfl (by unfold inR; omega) (fun (c19 : w16 ≠ w9) => ?_) (fun (c19 : ¬ (w16 ≠ w9)) => ?_)
            · refine s_blx (lv' := [(7, vI 0), (6, vI w9), (0, vR 13), (1, vI from_), (2, vI to_), (3, vI x3), (4, vI x4), (5, vI x5)]) (st' := [vI 0]) B21_62_67 rfl ?_
              refine r_ifc (tgt := 77) (pc' := 70) D21_67 rfl rfl (by unfold inR; omega) (fun (c20 : 0 = 0) => ?_) (fun (c20 : ¬ (0 = 0)) => ?_)
              · refine s_blx (lv' := [(4, vI (-1)), (7, vI 0), (6, vI w9), (0, vR 13), (1, vI from_), (2, vI to_), (3, vI x3), (5, vI x5)]) (st' := []) B21_77_80 rfl ?_
                refine r_goto (tgt := 99) D21_80 rfl ?_
                refine s_blx (lv' := [(5, vI (x5 + 1)), (4, vI (-1)), (7, vI 0), (6, vI w9), (0, vR 13), (1, vI from_), (2, vI to_), (3, vI x3)]) (st' := []) B21_99_102 rfl ?_
                refine r_goto (tgt := 8) D21_102 rfl ?_
                refine r_loc (lv' := [(0, vR 13), (1, vI from_), (2, vI to_), (3, vI x3), (4, vI (-1)), (5, vI (x5 + 1))]) ⟨rfl, rfl, rfl, rfl, rfl, rfl, trivial⟩ rfl rfl ?_
                exact ih x3 (-1) (x5 + 1) (by omega) (by omega) (by omega) (by omega) (by omega) (by omega) (by omega) (by omega) (by omega) (by omega)
              · exfalso; omega
            · refine s_blx (lv' := [(6, vI w9), (0, vR 13), (1, vI from_), (2, vI to_), (3, vI x3), (4, vI x4), (5, vI x5)]) (st' := [vI 1]) B21_58_59 rfl ?_
              refine r_goto (tgt := 63) D21_59 rfl ?_
              refine s_blx (lv' := [(7, vI 1), (6, vI w9), (0, vR 13), (1, vI from_), (2, vI to_), (3, vI x3), (4, vI x4), (5, vI x5)]) (st' := [vI 1]) B21_63_67 rfl ?_
              refine r_ifc (tgt := 77) (pc' := 70) D21_67 rfl rfl (by unfold inR; omega) (fun (c21 : 1 = 0) => ?_) (fun (c21 : ¬ (1 = 0)) => ?_)
              · exfalso; omega
              · refine s_blx (lv' := [(7, vI 1), (6, vI w9), (0, vR 13), (1, vI from_), (2, vI to_), (3, vI x3), (4, vI x4), (5, vI x5)]) (st' := [vI (x4 + 1)]) B21_70_74 rfl ?_
                refine r_goto (tgt := 78) D21_74 rfl ?_
                refine s_blx (lv' := [(4, vI (x4 + 1)), (7, vI 1), (6, vI w9), (0, vR 13), (1, vI from_), (2, vI to_), (3, vI x3), (5, vI x5)]) (st' := []) B21_78_80 rfl ?_
                refine r_goto (tgt := 99) D21_80 rfl ?_
                refine s_blx (lv' := [(5, vI (x5 + 1)), (4, vI (x4 + 1)), (7, vI 1), (6, vI w9), (0, vR 13), (1, vI from_), (2, vI to_), (3, vI x3)]) (st' := []) B21_99_102 rfl ?_
                refine r_goto (tgt := 8) D21_102 rfl ?_
                refine r_loc (lv' := [(0, vR 13), (1, vI from_), (2, vI to_), (3, vI x3), (4, vI (x4 + 1)), (5, vI (x5 + 1))]) ⟨rfl, rfl, rfl, rfl, rfl, rfl, trivial⟩ rfl rfl ?_
                exact ih x3 (x4 + 1) (x5 + 1) (by omega) (by omega) (by omega) (by omega) (by omega) (by omega) (by omega) (by omega) (by omega) (by omega)
set_option maxRecDepth 4000 in
theorem k21_13 {base : Nat} {X : Nat → Option mC} {G : Nat → Value} (E : EnvOK base X G) {d : Nat} (hd : 4 ≤ d) {M : mH} (H : HI base M) (from_ : Int) (to_ : Int) (h0 : 0 ≤ from_ ∧ from_ ≤ 399) (h1 : from_ < to_ ∧ to_ ≤ 400) : sOk base X G d T21 [vR 13, vI from_, vI to_] M (pI (fun v M' => M' = M ∧ (0 ≤ v ∧ v ≤ 105))) := by
  refine sOk.of (show sRn base X G d T21 0 [(0, vR 13), (1, vI from_), (2, vI to_)] [] M _ from ?_)
  obtain ⟨su, sb, sf, s9, su_lt, s10, sb_lt, sX, sF⟩ := E.2.2.2
  refine s_blx (lv' := [(5, vI 0), (4, vI 0), (3, vI 0), (0, vR 13), (1, vI from_), (2, vI to_)]) (st' := []) B21_0_8 rfl ?_
  refine r_loc (lv' := [(0, vR 13), (1, vI from_), (2, vI to_), (3, vI 0), (4, vI 0), (5, vI 0)]) ⟨rfl, rfl, rfl, rfl, rfl, rfl, trivial⟩ rfl rfl ?_
  exact (L_k21_13 E hd H from_ to_ h0 h1 (((104 - 0) * 1 + 0 : Int) + 1).toNat) 0 0 0 (by omega) (by omega) (by omega) (by omega) (by omega) (by omega) (by omega) (by omega) (by omega) (by omega)
set_option maxRecDepth 4000 in
theorem L_k19_13 {base : Nat} {X : Nat → Option mC} {G : Nat → Value} (E : EnvOK base X G) {d : Nat} (hd : 1 ≤ d) {M : mH} (H : HI base M) (from_ : Int) (length : Int) (h0 : 0 ≤ from_ ∧ from_ ≤ 399) (h1 : from_ < length ∧ length ≤ 400) : ∀ mz : Nat, (∀ (x3 x4 : Int), (∀ j : Int, from_ ≤ j → j < x3 → 48 ≤ gi M 13 from_ → gi M 13 from_ ≤ 57 → 48 ≤ gi M 13 j ∧ gi M 13 j ≤ 57) → (from_ < x3 ∧ x3 ≤ length) → (0 ≤ x4 ∧ x4 ≤ 1) → (x4 = 1 → 97 ≤ gi M 13 from_) → (1 ≤ x3) → (x3 ≤ 400) → (0 ≤ x4) → (x4 ≤ 1) → (400 - x3) * 1 + 0 < (mz : Int) → sRn base X G d T19 26 [(0, vR 13), (2, vI length), (3, vI x3), (4, vI x4)] [] M (s_Q base (pI (fun v M' => M' = M ∧ (from_ < v ∧ v ≤ length) ∧ (∀ j : Int, from_ ≤ j → j < v → 48 ≤ gi M 13 from_ → gi M 13 from_ ≤ 57 → 48 ≤ gi M 13 j ∧ gi M 13 j ≤ 57))))) := by
  intro mz
  induction mz with
  | zero => exact fun x3 x4 z0 z1 z2 z3 z4 z5 z6 z7 z8 => by omega
  | succ mz ih =>
    intro x3 x4 i0 i1 i2 i3 i4 i5 i6 i7 hmu
    refine s_blx (lv' := [(0, vR 13), (2, vI length), (3, vI x3), (4, vI x4)]) (st' := [vI length, vI x3]) B19_26_28 rfl ?_
    refine r_icmp (tgt := 63) (pc' := 31) D19_28 rfl rfl (by unfold inR; omega) (fun (c22 : length ≤ x3) => ?_) (fun (c22 : ¬ (length ≤ x3)) => ?_)
    · refine s_blx (lv' := [(0, vR 13), (2, vI length), (3, vI x3), (4, vI x4)]) (st' := [vI x3]) B19_63_64 rfl ?_
      exact r_iretI D19_64 rfl (⟨rfl, by omega, by first | exact i0 | exact fun j a b _ _ => by rw [show j = from_ by omega]; omega⟩)
    · refine s_blx (lv' := [(0, vR 13), (2, vI length), (3, vI x3), (4, vI x4)]) (st' := [vI x4]) B19_31_33 rfl ?_
      refine r_ifc (tgt := 48) (pc' := 36) D19_33 rfl rfl (by unfold inR; omega) (fun (c23 : x4 = 0) => ?_) (fun (c23 : ¬ (x4 = 0)) => ?_)
      · refine s_blx (lv' := [(0, vR 13), (2, vI length), (3, vI x3), (4, vI x4)]) (st' := [vI x3, vR 13]) B19_48_50 rfl ?_
        refine r_iald (pc' := 51) D19_50 rfl sc_13 H.1 (by omega) ?_
        intro w24 e25 r26
        have b_w24 := H.2 13 (x3) 0 255 rfl
        rw [← e25] at b_w24; clear r26
        refine r_sIp (args := [vI w24]) (rest := []) (pc' := 54) D19_51 rfl ck_4_static_82 TE23 rfl (Nat.le_of_ble_eq_true rfl) ⟨Nat.le_of_ble_eq_true rfl, Nat.le_of_ble_eq_true rfl⟩ (by decide) (dp_0 hd rfl) (k23 E (dp_n hd rfl) H w24 (by omega)) ?_
        intro v27 q32
        obtain ⟨q29, q30, q31⟩ := q32
        refine r_ifc (tgt := 63) (pc' := 57) D19_54 rfl rfl (by unfold inR; omega) (fun (c33 : v27 = 0) => ?_) (fun (c33 : ¬ (v27 = 0)) => ?_)
        · refine s_blx (lv' := [(0, vR 13), (2, vI length), (3, vI x3), (4, vI x4)]) (st' := [vI x3]) B19_63_64 rfl ?_
          exact r_iretI D19_64 rfl (⟨rfl, by omega, by first | exact i0 | exact fun j a b _ _ => by rw [show j = from_ by omega]; omega⟩)
        · refine s_blx (lv' := [(3, vI (x3 + 1)), (0, vR 13), (2, vI length), (4, vI x4)]) (st' := []) B19_57_60 rfl ?_
          refine r_goto (tgt := 26) D19_60 rfl ?_
          refine r_loc (lv' := [(0, vR 13), (2, vI length), (3, vI (x3 + 1)), (4, vI x4)]) ⟨rfl, rfl, rfl, rfl, trivial⟩ rfl rfl ?_
          exact ih (x3 + 1) x4 (fun j a b c d => if e : j = x3 then (by rw [e]; omega) else i0 j a (by omega) c d) (by omega) (by omega) (by omega) (by omega) (by omega) (by omega) (by omega) (by omega)
      · refine s_blx (lv' := [(0, vR 13), (2, vI length), (3, vI x3), (4, vI x4)]) (st' := [vI x3, vR 13]) B19_36_38 rfl ?_
        refine r_iald (pc' := 39) D19_38 rfl sc_13 H.1 (by omega) ?_
        intro w34 e35 r36
        have b_w34 := H.2 13 (x3) 0 255 rfl
        rw [← e35] at b_w34; clear r36
        refine r_sIp (args := [vI w34]) (rest := []) (pc' := 42) D19_39 rfl ck_4_static_78 TE22 rfl (Nat.le_of_ble_eq_true rfl) ⟨Nat.le_of_ble_eq_true rfl, Nat.le_of_ble_eq_true rfl⟩ (by decide) (dp_0 hd rfl) (k22 E (dp_n hd rfl) H w34 (by omega)) ?_
        intro v37 q42
        obtain ⟨q39, q40, q41⟩ := q42
        refine r_ifc (tgt := 63) (pc' := 45) D19_42 rfl rfl (by unfold inR; omega) (fun (c43 : v37 = 0) => ?_) (fun (c43 : ¬ (v37 = 0)) => ?_)
        · refine s_blx (lv' := [(0, vR 13), (2, vI length), (3, vI x3), (4, vI x4)]) (st' := [vI x3]) B19_63_64 rfl ?_
          exact r_iretI D19_64 rfl (⟨rfl, by omega, by first | exact i0 | exact fun j a b _ _ => by rw [show j = from_ by omega]; omega⟩)
        · refine r_goto (tgt := 57) D19_45 rfl ?_
          refine s_blx (lv' := [(3, vI (x3 + 1)), (0, vR 13), (2, vI length), (4, vI x4)]) (st' := []) B19_57_60 rfl ?_
          refine r_goto (tgt := 26) D19_60 rfl ?_
          refine r_loc (lv' := [(0, vR 13), (2, vI length), (3, vI (x3 + 1)), (4, vI x4)]) ⟨rfl, rfl, rfl, rfl, trivial⟩ rfl rfl ?_
          exact ih (x3 + 1) x4 (fun j a b c d => if e : j = x3 then (by rw [e]; omega) else i0 j a (by omega) c d) (by omega) (by omega) (by omega) (by omega) (by omega) (by omega) (by omega) (by omega)
set_option maxRecDepth 4000 in
theorem k19_13 {base : Nat} {X : Nat → Option mC} {G : Nat → Value} (E : EnvOK base X G) {d : Nat} (hd : 1 ≤ d) {M : mH} (H : HI base M) (from_ : Int) (length : Int) (h0 : 0 ≤ from_ ∧ from_ ≤ 399) (h1 : from_ < length ∧ length ≤ 400) : sOk base X G d T19 [vR 13, vI from_, vI length] M (pI (fun v M' => M' = M ∧ (from_ < v ∧ v ≤ length) ∧ (∀ j : Int, from_ ≤ j → j < v → 48 ≤ gi M 13 from_ → gi M 13 from_ ≤ 57 → 48 ≤ gi M 13 j ∧ gi M 13 j ≤ 57))) := by
  refine sOk.of (show sRn base X G d T19 0 [(0, vR 13), (1, vI from_), (2, vI length)] [] M _ from ?_)
  refine s_blx (lv' := [(3, vI (from_ + 1)), (0, vR 13), (1, vI from_), (2, vI length)]) (st' := [vI from_, vR 13]) B19_0_6 rfl ?_
  refine r_iald (pc' := 7) D19_6 rfl sc_13 H.1 (by omega) ?_
  intro w1 e2 r3
  have b_w1 := H.2 13 (from_) 0 255 rfl
  rw [← e2] at b_w1; clear r3
  refine r_sIp (args := [vI w1]) (rest := []) (pc' := 10) D19_7 rfl ck_4_static_78 TE22 rfl (Nat.le_of_ble_eq_true rfl) ⟨Nat.le_of_ble_eq_true rfl, Nat.le_of_ble_eq_true rfl⟩ (by decide) (dp_0 hd rfl) (k22 E (dp_n hd rfl) H w1 (by omega)) ?_
  intro v4 q9
  obtain ⟨q6, q7, q8⟩ := q9
  refine s_blx (lv' := [(4, vI v4), (3, vI (from_ + 1)), (0, vR 13), (1, vI from_), (2, vI length)]) (st' := [vI v4]) B19_10_14 rfl ?_
  refine r_ifc (tgt := 26) (pc' := 17) D19_14 rfl rfl (by unfold inR; omega) (fun (c10 : v4 ≠ 0) => ?_) (fun (c10 : ¬ (v4 ≠ 0)) => ?_)
  · refine r_loc (lv' := [(0, vR 13), (2, vI length), (3, vI (from_ + 1)), (4, vI v4)]) ⟨rfl, rfl, rfl, rfl, trivial⟩ rfl rfl ?_
    exact (L_k19_13 E hd H from_ length h0 h1 (((400 - (from_ + 1)) * 1 + 0 : Int) + 1).toNat) (from_ + 1) v4 (fun j a b _ _ => by rw [show j = from_ by omega]; omega) (by omega) (by omega) (by omega) (by omega) (by omega) (by omega) (by omega) (by omega)
  · refine s_blx (lv' := [(4, vI v4), (3, vI (from_ + 1)), (0, vR 13), (1, vI from_), (2, vI length)]) (st' := [vI from_, vR 13]) B19_17_19 rfl ?_
    refine r_iald (pc' := 20) D19_19 rfl sc_13 H.1 (by omega) ?_
    intro w11 e12 r13
    have e14 : w1 = w11 := (e12.trans (e2.symm)).symm
    subst e14
    refine r_sIp (args := [vI w1]) (rest := []) (pc' := 23) D19_20 rfl ck_4_static_82 TE23 rfl (Nat.le_of_ble_eq_true rfl) ⟨Nat.le_of_ble_eq_true rfl, Nat.le_of_ble_eq_true rfl⟩ (by decide) (dp_0 hd rfl) (k23 E (dp_n hd rfl) H w1 (by omega)) ?_
    intro v15 q20
    obtain ⟨q17, q18, q19⟩ := q20
    refine r_ifc (tgt := 63) (pc' := 26) D19_23 rfl rfl (by unfold inR; omega) (fun (c21 : v15 = 0) => ?_) (fun (c21 : ¬ (v15 = 0)) => ?_)
    · refine s_blx (lv' := [(4, vI v4), (3, vI (from_ + 1)), (0, vR 13), (1, vI from_), (2, vI length)]) (st' := [vI (from_ + 1)]) B19_63_64 rfl ?_
      exact r_iretI D19_64 rfl (⟨rfl, by omega, by first | exact i0 | exact fun j a b _ _ => by rw [show j = from_ by omega]; omega⟩)
    · refine r_loc (lv' := [(0, vR 13), (2, vI length), (3, vI (from_ + 1)), (4, vI v4)]) ⟨rfl, rfl, rfl, rfl, trivial⟩ rfl rfl ?_
      exact (L_k19_13 E hd H from_ length h0 h1 (((400 - (from_ + 1)) * 1 + 0 : Int) + 1).toNat) (from_ + 1) v4 (fun j a b _ _ => by rw [show j = from_ by omega]; omega) (by omega) (by omega) (by omega) (by omega) (by omega) (by omega) (by omega) (by omega)
set_option maxRecDepth 4000 in
theorem L_k20_13 {base : Nat} {X : Nat → Option mC} {G : Nat → Value} (E : EnvOK base X G) {d : Nat} (hd : 5 ≤ d) {M : mH} (H : HI base M) (from_ : Int) (to_ : Int) (h0 : 0 ≤ from_ ∧ from_ ≤ 399) (h1 : from_ < to_ ∧ to_ ≤ 400) (h2 : ∀ j : Int, from_ ≤ j → j < to_ → 48 ≤ gi M 13 from_ → gi M 13 from_ ≤ 57 → 48 ≤ gi M 13 j ∧ gi M 13 j ≤ 57) : ∀ mz : Nat, (∀ (x3 x4 : Int), (48 ≤ gi M 13 from_ ∧ gi M 13 from_ ≤ 57) → (0 ≤ x3 ∧ x3 ≤ 100001) → (from_ ≤ x4 ∧ x4 ≤ to_) → ((-48) ≤ x3) → (x3 ≤ 100001) → (0 ≤ x4) → (x4 ≤ 400) → (400 - x4) * 1 + 0 < (mz : Int) → sRn base X G d T20 37 [(0, vR 13), (2, vI to_), (3, vI x3), (4, vI x4)] [] M (s_Q base (pI (fun v M' => M' = M ∧ (0 ≤ v ∧ v ≤ 60000000))))) := by
  intro mz
  induction mz with
  | zero => exact fun x3 x4 z0 z1 z2 z3 z4 z5 z6 z7 => by omega
  | succ mz ih =>
    intro x3 x4 i0 i1 i2 i3 i4 i5 i6 hmu
    refine s_blx (lv' := [(0, vR 13), (2, vI to_), (3, vI x3), (4, vI x4)]) (st' := [vI to_, vI x4]) B20_37_40 rfl ?_
    refine r_icmp (tgt := 67) (pc' := 43) D20_40 rfl rfl (by unfold inR; omega) (fun (c30 : to_ ≤ x4) => ?_) (fun (c30 : ¬ (to_ ≤ x4)) => ?_)
    · refine s_blx (lv' := [(0, vR 13), (2, vI to_), (3, vI x3), (4, vI x4)]) (st' := [vI x3]) B20_67_68 rfl ?_
      refine r_ldc (e := 100000) (pc' := 70) D20_68 rfl ci_4_89 (by decide) ?_
      refine r_icmp (tgt := 78) (pc' := 73) D20_70 rfl rfl (by unfold inR; omega) (fun (c31 : x3 ≤ 100000) => ?_) (fun (c31 : ¬ (x3 ≤ 100000)) => ?_)
      · refine s_blx (lv' := [(0, vR 13), (2, vI to_), (3, vI x3), (4, vI x4)]) (st' := [vI 9, vI x3]) B20_78_81 rfl ?_
        refine r_shl9 (pc' := 82) D20_81 rfl ?_
        refine s_blx (lv' := [(0, vR 13), (2, vI to_), (3, vI x3), (4, vI x4)]) (st' := [vI 21, vI (x3 * 512)]) B20_82_84 rfl ?_
        refine r_bin (pc' := 85) D20_84 rfl rfl ?_
        intro z32 r33 kq; unfold inR at r33
        have kz := or512_of (by unfold inR; omega) kq (by omega) (by omega) (by omega)
        exact r_iretI D20_85 rfl (⟨rfl, by omega⟩)
      · refine s_blx (lv' := [(0, vR 13), (2, vI to_), (3, vI x3), (4, vI x4)]) (st' := [vI 23]) B20_73_75 rfl ?_
        refine r_goto (tgt := 85) D20_75 rfl ?_
        exact r_iretI D20_85 rfl (⟨rfl, by omega⟩)
    · refine s_blx (lv' := [(0, vR 13), (2, vI to_), (3, vI x3), (4, vI x4)]) (st' := [vI x4, vR 13, vI (x3 * 10)]) B20_43_50 rfl ?_
      refine r_iald (pc' := 51) D20_50 rfl sc_13 H.1 (by omega) ?_
      intro w34 e35 r36
      have b_w34 := H.2 13 (x4) 0 255 rfl
      rw [← e35] at b_w34; clear r36
      have kdg := h2 x4 (by omega) (by omega) (by omega) (by omega)
      refine s_blx (lv' := [(0, vR 13), (2, vI to_), (3, vI x3), (4, vI x4)]) (st' := [vI (((x3 * 10) + w34) - 48)]) B20_51_55 rfl ?_
      refine r_ldc (e := 100001) (pc' := 57) D20_55 rfl ci_4_88 (by decide) ?_
      refine r_min (pc' := 60) D20_57 rfl mc_4_static_46 sp_4_46 (Nat.le_of_ble_eq_true rfl) (by unfold inR; omega) ?_
      intro z37 r38 r39 r40
      refine s_blx (lv' := [(4, vI (x4 + 1)), (3, vI z37), (0, vR 13), (2, vI to_)]) (st' := []) B20_60_64 rfl ?_
      refine r_goto (tgt := 37) D20_64 rfl ?_
      refine r_loc (lv' := [(0, vR 13), (2, vI to_), (3, vI z37), (4, vI (x4 + 1))]) ⟨rfl, rfl, rfl, rfl, trivial⟩ rfl rfl ?_
      exact ih z37 (x4 + 1) (by omega) (by omega) (by omega) (by omega) (by omega) (by omega) (by omega) (by omega)
set_option maxRecDepth 4000 in
theorem k20_13 {base : Nat} {X : Nat → Option mC} {G : Nat → Value} (E : EnvOK base X G) {d : Nat} (hd : 5 ≤ d) {M : mH} (H : HI base M) (from_ : Int) (to_ : Int) (h0 : 0 ≤ from_ ∧ from_ ≤ 399) (h1 : from_ < to_ ∧ to_ ≤ 400) (h2 : ∀ j : Int, from_ ≤ j → j < to_ → 48 ≤ gi M 13 from_ → gi M 13 from_ ≤ 57 → 48 ≤ gi M 13 j ∧ gi M 13 j ≤ 57) : sOk base X G d T20 [vR 13, vI from_, vI to_] M (pI (fun v M' => M' = M ∧ (0 ≤ v ∧ v ≤ 60000000))) := by
  refine sOk.of (show sRn base X G d T20 0 [(0, vR 13), (1, vI from_), (2, vI to_)] [] M _ from ?_)
  refine s_blx (lv' := [(0, vR 13), (1, vI from_), (2, vI to_)]) (st' := [vI from_, vR 13]) B20_0_2 rfl ?_
  refine r_iald (pc' := 3) D20_2 rfl sc_13 H.1 (by omega) ?_
  intro w1 e2 r3
  have b_w1 := H.2 13 (from_) 0 255 rfl
  rw [← e2] at b_w1; clear r3
  refine r_sIp (args := [vI w1]) (rest := []) (pc' := 6) D20_3 rfl ck_4_static_78 TE22 rfl (Nat.le_of_ble_eq_true rfl) ⟨Nat.le_of_ble_eq_true rfl, Nat.le_of_ble_eq_true rfl⟩ (by decide) (dp_0 hd rfl) (k22 E (dp_n hd rfl) H w1 (by omega)) ?_
  intro v4 q9
  obtain ⟨q6, q7, q8⟩ := q9
  refine r_ifc (tgt := 16) (pc' := 9) D20_6 rfl rfl (by unfold inR; omega) (fun (c10 : v4 = 0) => ?_) (fun (c10 : ¬ (v4 = 0)) => ?_)
  · refine s_blx (lv' := [(0, vR 13), (1, vI from_), (2, vI to_)]) (st' := [vI from_, vR 13]) B20_16_18 rfl ?_
    refine r_iald (pc' := 19) D20_18 rfl sc_13 H.1 (by omega) ?_
    intro w11 e12 r13
    have e14 : w1 = w11 := (e12.trans (e2.symm)).symm
    subst e14
    refine r_sIp (args := [vI w1]) (rest := []) (pc' := 22) D20_19 rfl ck_4_static_82 TE23 rfl (Nat.le_of_ble_eq_true rfl) ⟨Nat.le_of_ble_eq_true rfl, Nat.le_of_ble_eq_true rfl⟩ (by decide) (dp_0 hd rfl) (k23 E (dp_n hd rfl) H w1 (by omega)) ?_
    intro v15 q20
    obtain ⟨q17, q18, q19⟩ := q20
    refine r_ifc (tgt := 32) (pc' := 25) D20_22 rfl rfl (by unfold inR; omega) (fun (c21 : v15 ≠ 0) => ?_) (fun (c21 : ¬ (v15 ≠ 0)) => ?_)
    · refine s_blx (lv' := [(4, vI from_), (3, vI 0), (0, vR 13), (1, vI from_), (2, vI to_)]) (st' := []) B20_32_37 rfl ?_
      refine r_loc (lv' := [(0, vR 13), (2, vI to_), (3, vI 0), (4, vI from_)]) ⟨rfl, rfl, rfl, rfl, trivial⟩ rfl rfl ?_
      exact (L_k20_13 E hd H from_ to_ h0 h1 h2 (((400 - from_) * 1 + 0 : Int) + 1).toNat) 0 from_ (by omega) (by omega) (by omega) (by omega) (by omega) (by omega) (by omega) (by omega)
    · refine s_blx (lv' := [(0, vR 13), (1, vI from_), (2, vI to_)]) (st' := [vI from_, vR 13, vI 100]) B20_25_29 rfl ?_
      refine r_iald (pc' := 30) D20_29 rfl sc_13 H.1 (by omega) ?_
      intro w22 e23 r24
      have e25 : w1 = w22 := (e23.trans (e2.symm)).symm
      subst e25
      refine s_blx (lv' := [(0, vR 13), (1, vI from_), (2, vI to_)]) (st' := [vI (100 + w1)]) B20_30_31 rfl ?_
      exact r_iretI D20_31 rfl (⟨rfl, by omega⟩)
  · refine s_blx (lv' := [(0, vR 13), (1, vI from_), (2, vI to_)]) (st' := [vI to_, vI from_, vR 13]) B20_9_12 rfl ?_
    refine r_sIp (args := [vR 13, vI from_, vI to_]) (rest := []) (pc' := 15) D20_12 rfl ck_4_static_85 TE21 rfl (Nat.le_of_ble_eq_true rfl) ⟨Nat.le_of_ble_eq_true rfl, Nat.le_of_ble_eq_true rfl⟩ (by decide) (dp_0 hd rfl) (k21_13 E (dp_n hd rfl) H from_ to_ (by omega) (by omega)) ?_
    intro v26 q29
    have q28 := q29; clear q29
    exact r_iretI D20_15 rfl (⟨rfl, by omega⟩)
set_option maxRecDepth 4000 in
theorem L_k18_14_13 {base : Nat} {X : Nat → Option mC} {G : Nat → Value} (E : EnvOK base X G) {d : Nat} (hd : 6 ≤ d) {M : mH} (H : HI base M) (length : Int) (h0 : 0 ≤ length ∧ length ≤ 400) : ∀ mz : Nat, (∀ (x3 x4 x5 : Int) (N : mH), HI base N → Fr [(15, 0), (16, 0)] M N → (0 ≤ x3 ∧ x3 ≤ x4) → (x4 ≤ length) → (0 ≤ x5 ∧ x5 ≤ 400) → (0 ≤ x3) → (x3 ≤ 401) → (0 ≤ x4) → (x4 ≤ 400) → (0 ≤ x5) → (x5 ≤ 400) → (400 - x5) * 1 + 0 < (mz : Int) → sRn base X G d T18 8 [(0, vR 14), (1, vR 13), (2, vI length), (3, vI x3), (4, vI x4), (5, vI x5)] [] N (s_Q base (pV (fun M' => HI base M' ∧ Fr [(15, 0), (16, 0)] M M' ∧ (∃ c : Int, 0 ≤ c ∧ c ≤ 400 ∧ gi M' 15 c = 22))))) := by
  have f0 : Fr [(15, 0), (16, 0)] M M := Fr.rf
  intro mz
  induction mz with
  | zero => exact fun x3 x4 x5 N _ _ z0 z1 z2 z3 z4 z5 z6 z7 z8 z9 => by omega
  | succ mz ih =>
    intro x3 x4 x5 N HN fN i0 i1 i2 i3 i4 i5 i6 i7 i8 hmu
    refine s_blx (lv' := [(0, vR 14), (1, vR 13), (2, vI length), (3, vI x3), (4, vI x4), (5, vI x5)]) (st' := [vI 400, vI x5]) B18_8_13 rfl ?_
    refine r_icmp (tgt := 75) (pc' := 16) D18_13 rfl rfl (by unfold inR; omega) (fun (c1 : 400 ≤ x5) => ?_) (fun (c1 : ¬ (400 ≤ x5)) => ?_)
    · refine s_blx (lv' := [(0, vR 14), (1, vR 13), (2, vI length), (3, vI x3), (4, vI x4), (5, vI x5)]) (st' := [vR 14]) B18_75_76 rfl ?_
      refine r_gfix (r := 16) (pc' := 79) D18_76 rfl gf_4_15_14 HN.1 ?_
      refine s_blx (lv' := [(0, vR 14), (1, vR 13), (2, vI length), (3, vI x3), (4, vI x4), (5, vI x5)]) (st' := [vI length, vI x3, vR 16]) B18_79_81 rfl ?_
      refine r_iast (pc' := 82) D18_81 rfl sc_16 HN (by omega) (by unfold inR; omega) trivial ?_
      intro M2 u3 H4 p5
      have f6 := fN.wr u3 rfl
      refine s_blx (lv' := [(0, vR 14), (1, vR 13), (2, vI length), (3, vI x3), (4, vI x4), (5, vI x5)]) (st' := [vR 14]) B18_82_83 rfl ?_
      refine r_gfix (r := 15) (pc' := 86) D18_83 rfl gf_4_9_14 H4.1 ?_
      refine s_blx (lv' := [(0, vR 14), (1, vR 13), (2, vI length), (3, vI x3), (4, vI x4), (5, vI x5)]) (st' := [vI 22, vI x3, vR 15]) B18_86_89 rfl ?_
      refine r_iast (pc' := 90) D18_89 rfl sc_15 H4 (by omega) (by unfold inR; omega) (show 0 ≤ 22 ∧ 22 ≤ 60000000 by omega) ?_
      intro M7 u8 H9 p10
      have f11 := f6.wr u8 rfl
      have kp := p10
      exact r_retV D18_90 rfl (⟨H9, f11, ⟨x3, by omega, by omega, kp⟩⟩)
    · refine s_blx (lv' := [(0, vR 14), (1, vR 13), (2, vI length), (3, vI x3), (4, vI x4), (5, vI x5)]) (st' := [vI length, vI x4]) B18_16_19 rfl ?_
      refine r_icmp (tgt := 75) (pc' := 22) D18_19 rfl rfl (by unfold inR; omega) (fun (c12 : length ≤ x4) => ?_) (fun (c12 : ¬ (length ≤ x4)) => ?_)
      · refine s_blx (lv' := [(0, vR 14), (1, vR 13), (2, vI length), (3, vI x3), (4, vI x4), (5, vI x5)]) (st' := [vR 14]) B18_75_76 rfl ?_
        refine r_gfix (r := 16) (pc' := 79) D18_76 rfl gf_4_15_14 HN.1 ?_
        refine s_blx (lv' := [(0, vR 14), (1, vR 13), (2, vI length), (3, vI x3), (4, vI x4), (5, vI x5)]) (st' := [vI length, vI x3, vR 16]) B18_79_81 rfl ?_
        refine r_iast (pc' := 82) D18_81 rfl sc_16 HN (by omega) (by unfold inR; omega) trivial ?_
        intro M13 u14 H15 p16
        have f17 := fN.wr u14 rfl
        refine s_blx (lv' := [(0, vR 14), (1, vR 13), (2, vI length), (3, vI x3), (4, vI x4), (5, vI x5)]) (st' := [vR 14]) B18_82_83 rfl ?_
        refine r_gfix (r := 15) (pc' := 86) D18_83 rfl gf_4_9_14 H15.1 ?_
        refine s_blx (lv' := [(0, vR 14), (1, vR 13), (2, vI length), (3, vI x3), (4, vI x4), (5, vI x5)]) (st' := [vI 22, vI x3, vR 15]) B18_86_89 rfl ?_
        refine r_iast (pc' := 90) D18_89 rfl sc_15 H15 (by omega) (by unfold inR; omega) (show 0 ≤ 22 ∧ 22 ≤ 60000000 by omega) ?_
        intro M18 u19 H20 p21
        have f22 := f17.wr u19 rfl
        have kp := p21
        exact r_retV D18_90 rfl (⟨H20, f22, ⟨x3, by omega, by omega, kp⟩⟩)
      · refine s_blx (lv' := [(0, vR 14), (1, vR 13), (2, vI length), (3, vI x3), (4, vI x4), (5, vI x5)]) (st' := [vI length, vI x4, vR 13]) B18_22_26 rfl ?_
        refine r_sIp (args := [vR 13, vI x4, vI length]) (rest := []) (pc' := 29) D18_26 rfl ck_4_static_71 TE19 rfl (Nat.le_of_ble_eq_true rfl) ⟨Nat.le_of_ble_eq_true rfl, Nat.le_of_ble_eq_true rfl⟩ (by decide) (dp_0 hd rfl) (k19_13 E (dp_n hd rfl) HN x4 length (by omega) (by omega)) ?_
        intro v23 q27
        obtain ⟨q25, q26⟩ := q27
        have kte := q26; clear q26
        refine s_blx (lv' := [(6, vI v23), (0, vR 14), (1, vR 13), (2, vI length), (3, vI x3), (4, vI x4), (5, vI x5)]) (st' := [vI x4, vR 13]) B18_29_34 rfl ?_
        refine r_iald (pc' := 35) D18_34 rfl sc_13 HN.1 (by omega) ?_
        intro w28 e29 r30
        have b_w28 := HN.2 13 (x4) 0 255 rfl
        rw [← e29] at b_w28; clear r30
        refine s_blx (lv' := [(6, vI v23), (0, vR 14), (1, vR 13), (2, vI length), (3, vI x3), (4, vI x4), (5, vI x5)]) (st' := [vI 32, vI w28]) B18_35_37 rfl ?_
        refine r_icmp (tgt := 65) (pc' := 40) D18_37 rfl rfl (by unfold inR; omega) (fun (c31 : w28 = 32) => ?_) (fun (c31 : ¬ (w28 = 32)) => ?_)
        · refine s_blx (lv' := [(5, vI (x5 + 1)), (4, vI v23), (6, vI v23), (0, vR 14), (1, vR 13), (2, vI length), (3, vI x3)]) (st' := []) B18_65_72 rfl ?_
          refine r_goto (tgt := 8) D18_72 rfl ?_
          refine r_loc (lv' := [(0, vR 14), (1, vR 13), (2, vI length), (3, vI x3), (4, vI v23), (5, vI (x5 + 1))]) ⟨rfl, rfl, rfl, rfl, rfl, rfl, trivial⟩ rfl rfl ?_
          exact ih x3 v23 (x5 + 1) N HN fN (by omega) (by omega) (by omega) (by omega) (by omega) (by omega) (by omega) (by omega) (by omega) (by omega)
        · refine s_blx (lv' := [(6, vI v23), (0, vR 14), (1, vR 13), (2, vI length), (3, vI x3), (4, vI x4), (5, vI x5)]) (st' := [vR 14]) B18_40_41 rfl ?_
          refine r_gfix (r := 16) (pc' := 44) D18_41 rfl gf_4_15_14 HN.1 ?_
          refine s_blx (lv' := [(6, vI v23), (0, vR 14), (1, vR 13), (2, vI length), (3, vI x3), (4, vI x4), (5, vI x5)]) (st' := [vI x4, vI x3, vR 16]) B18_44_47 rfl ?_
          refine r_iast (pc' := 48) D18_47 rfl sc_16 HN (by omega) (by unfold inR; omega) trivial ?_
          intro M32 u33 H34 p35
          have f36 := fN.wr u33 rfl
          have k13 : ∀ j : Int, gi M32 13 j = gi N 13 j := fun j => u33.gi_ne (by omega) (Or.inl (by decide))
          refine s_blx (lv' := [(6, vI v23), (0, vR 14), (1, vR 13), (2, vI length), (3, vI x3), (4, vI x4), (5, vI x5)]) (st' := [vR 14]) B18_48_49 rfl ?_
          refine r_gfix (r := 15) (pc' := 52) D18_49 rfl gf_4_9_14 H34.1 ?_
          refine s_blx (lv' := [(6, vI v23), (0, vR 14), (1, vR 13), (2, vI length), (3, vI x3), (4, vI x4), (5, vI x5)]) (st' := [vI v23, vI x4, vR 13, vI x3, vR 15]) B18_52_58 rfl ?_
          have g37 : gi M32 13 x4 = w28 := (u33.gi_ne (by omega) (Or.inl (by decide))).trans (e29.symm)
          refine r_sIp (args := [vR 13, vI x4, vI v23]) (rest := [vI x3, vR 15]) (pc' := 61) D18_58 rfl ck_4_static_75 TE20 rfl (Nat.le_of_ble_eq_true rfl) ⟨Nat.le_of_ble_eq_true rfl, Nat.le_of_ble_eq_true rfl⟩ (by decide) (dp_0 hd rfl) (k20_13 E (dp_n hd rfl) H34 x4 v23 (by omega) (by omega) (fun j a b c d => by rw [k13] at c d ⊢; exact kte j a b c d)) ?_
          intro v38 q41
          have q40 := q41; clear q41
          refine r_iast (pc' := 62) D18_61 rfl sc_15 H34 (by omega) (by unfold inR; omega) (show 0 ≤ v38 ∧ v38 ≤ 60000000 by omega) ?_
          intro M42 u43 H44 p45
          have f46 := f36.wr u43 rfl
          refine s_blx (lv' := [(5, vI (x5 + 1)), (4, vI v23), (3, vI (x3 + 1)), (6, vI v23), (0, vR 14), (1, vR 13), (2, vI length)]) (st' := []) B18_62_72 rfl ?_
          refine r_goto (tgt := 8) D18_72 rfl ?_
          refine r_loc (lv' := [(0, vR 14), (1, vR 13), (2, vI length), (3, vI (x3 + 1)), (4, vI v23), (5, vI (x5 + 1))]) ⟨rfl, rfl, rfl, rfl, rfl, rfl, trivial⟩ rfl rfl ?_
          exact ih (x3 + 1) v23 (x5 + 1) M42 H44 f46 (by omega) (by omega) (by omega) (by omega) (by omega) (by omega) (by omega) (by omega) (by omega) (by omega)
set_option maxRecDepth 4000 in
theorem k18_14_13 {base : Nat} {X : Nat → Option mC} {G : Nat → Value} (E : EnvOK base X G) {d : Nat} (hd : 6 ≤ d) {M : mH} (H : HI base M) (length : Int) (h0 : 0 ≤ length ∧ length ≤ 400) : sOk base X G d T18 [vR 14, vR 13, vI length] M (pV (fun M' => HI base M' ∧ Fr [(15, 0), (16, 0)] M M' ∧ (∃ c : Int, 0 ≤ c ∧ c ≤ 400 ∧ gi M' 15 c = 22))) := by
  have f0 : Fr [(15, 0), (16, 0)] M M := Fr.rf
  refine sOk.of (show sRn base X G d T18 0 [(0, vR 14), (1, vR 13), (2, vI length)] [] M _ from ?_)
  refine s_blx (lv' := [(5, vI 0), (4, vI 0), (3, vI 0), (0, vR 14), (1, vR 13), (2, vI length)]) (st' := []) B18_0_8 rfl ?_
  refine r_loc (lv' := [(0, vR 14), (1, vR 13), (2, vI length), (3, vI 0), (4, vI 0), (5, vI 0)]) ⟨rfl, rfl, rfl, rfl, rfl, rfl, trivial⟩ rfl rfl ?_
  exact (L_k18_14_13 E hd H length h0 (((400 - 0) * 1 + 0 : Int) + 1).toNat) 0 0 0 M H f0 (by omega) (by omega) (by omega) (by omega) (by omega) (by omega) (by omega) (by omega) (by omega) (by omega)
set_option maxRecDepth 4000 in
theorem L_k24_14x {base : Nat} {X : Nat → Option mC} {G : Nat → Value} (E : EnvOK base X G) {d : Nat} (hd : 58 ≤ d) {M : mH} (H : HI base M) (ct : Int) (at_ : Int) (kd : Int) (us : Int) (h0 : gi M 15 ct = 22) (h1 : 0 ≤ ct ∧ ct ≤ 400) (h2 : gi M 14 2 = at_) (h3 : gi M 14 3 = kd) (h4 : 0 ≤ at_ ∧ at_ ≤ ct) (h5 : at_ = ct → kd = 22) (h6 : 0 ≤ kd ∧ kd ≤ 511) (h7 : gi M 14 9 = us) (h8 : 0 ≤ us ∧ us ≤ at_) (h9 : CD us M) : ∀ mz : Nat, (∀ (x1 a0 k0 u0 : Int) (N : mH), HI base N → Fr [(14, 3), (14, 4), (14, 5), (14, 8), (14, 10), (14, 11), (17, 0), (18, 0), (19, 0)] M N → (gi N 14 2 = a0) → (gi N 14 3 = k0) → (gi N 14 9 = u0) → (at_ ≤ a0 ∧ a0 ≤ ct) → (a0 = ct → k0 = 22) → (0 ≤ k0 ∧ k0 ≤ 511) → (us ≤ u0 ∧ u0 - us ≤ a0 - at_) → (gi N 15 ct = 22) → (CD u0 N) → (CZ us (gi M 19) N) → (EN x1 u0 N) → (0 ≤ x1 ∧ x1 ≤ 12) → (0 ≤ x1) → (x1 ≤ 12) → (12 - x1) * 1 + 0 < (mz : Int) → sRn base X G d T24 2 [(0, vR 14), (1, vI x1)] [] N (s_Q base (pI (fun v M' => HI base M' ∧ Fr [(14, 3), (14, 4), (14, 5), (14, 8), (14, 10), (14, 11), (17, 0), (18, 0), (19, 0)] M M' ∧ (v = 0 ∨ v = 1) ∧ (at_ ≤ gi M' 14 2 ∧ gi M' 14 2 ≤ ct) ∧ (gi M' 14 2 = ct → gi M' 14 3 = 22) ∧ (0 ≤ gi M' 14 3 ∧ gi M' 14 3 ≤ 511) ∧ (us ≤ gi M' 14 9 ∧ gi M' 14 9 - us ≤ gi M' 14 2 - at_) ∧ (CD (gi M' 14 9) M') ∧ (∀ j : Int, 0 ≤ j → j < us → gi M' 19 j = gi M 19 j) ∧ (v = 1 → EN (gi M' 14 7) (gi M' 14 9) M'))))) := by
  have f0 : Fr [(14, 3), (14, 4), (14, 5), (14, 8), (14, 10), (14, 11), (17, 0), (18, 0), (19, 0)] M M := Fr.rf
  intro mz
  induction mz with
  | zero => exact fun x1 a0 k0 u0 N _ _ z0 z1 z2 z3 z4 z5 z6 z7 z8 z9 z10 z11 z12 z13 z14 => by omega
  | succ mz ih =>
    intro x1 a0 k0 u0 N HN fN i0 i1 i2 i3 i4 i5 i6 i7 i8 i9 i10 i11 i12 i13 hmu
    refine s_blx (lv' := [(0, vR 14), (1, vI x1)]) (st' := [vI 12, vI x1]) B24_2_5 rfl ?_
    refine r_icmp (tgt := 103) (pc' := 8) D24_5 rfl rfl (by unfold inR; omega) (fun (c5 : 12 ≤ x1) => ?_) (fun (c5 : ¬ (12 ≤ x1)) => ?_)
    · refine s_blx (lv' := [(0, vR 14), (1, vI x1)]) (st' := [vR 14]) B24_103_104 rfl ?_
      refine r_vI (c := 14) (args := []) (rest := []) (pc' := 107) D24_104 rfl ck_4_virtual_102 TE36 rfl (Nat.le_of_ble_eq_true rfl) ⟨Nat.le_of_ble_eq_true rfl, Nat.le_of_ble_eq_true rfl⟩ sc_14 ⟨rfl, by decide⟩ HN.1 (dp_0 hd rfl) (k36_14x E (dp_n hd rfl) HN ) ?_
      intro v6 M7 q12
      obtain ⟨H8, f9, q10, q11⟩ := q12
      have f13 := fN.tr (f9.up rfl)
      have hp14 := i8.fr f9 (by decide)
      have hp15 := i9.fr f9 (by decide)
      have hp16 := i10.fr f9 (by decide)
      have g17 : gi M7 14 2 = a0 := (f9.g rfl).trans (i0)
      have g18 : gi M7 14 3 = k0 := (f9.g rfl).trans (i1)
      have g19 : gi M7 14 9 = u0 := (f9.g rfl).trans (i2)
      have g20 : gi M7 14 7 = gi N 14 7 := (f9.g rfl).trans (rfl)
      exact r_zretI D24_107 rfl (by omega) (⟨H8, f13, by omega, by rw [g17]; omega, by rw [g17, g18]; omega, by rw [g18]; omega, by rw [g17, g19]; omega, by rw [((f9.g rfl).trans (i2))]; exact hp14, hp15, fun h => absurd h (by omega)⟩)
    · refine s_blx (lv' := [(0, vR 14), (1, vI x1)]) (st' := [vR 14]) B24_8_9 rfl ?_
      refine r_gint (ki := 3) (pc' := 12) D24_9 rfl gf_4_22_14 rfl HN.1 ?_
      intro w21 e22 r23
      have e24 : k0 = w21 := (e22.trans (i1)).symm
      subst e24
      refine s_blx (lv' := [(0, vR 14), (1, vI x1)]) (st' := [vI 5, vI k0]) B24_12_13 rfl ?_
      refine r_icmp (tgt := 21) (pc' := 16) D24_13 rfl rfl (by unfold inR; omega) (fun (c25 : k0 ≤ 5) => ?_) (fun (c25 : ¬ (k0 ≤ 5)) => ?_)
      · refine s_blx (lv' := [(0, vR 14), (1, vI x1)]) (st' := [vR 14]) B24_21_22 rfl ?_
        refine r_gfix (r := 17) (pc' := 25) D24_22 rfl gf_4_28_14 HN.1 ?_
        refine s_blx (lv' := [(0, vR 14), (1, vI x1)]) (st' := [vR 14, vI x1, vR 17]) B24_25_27 rfl ?_
        refine r_gint (ki := 3) (pc' := 30) D24_27 rfl gf_4_22_14 rfl HN.1 ?_
        intro w26 e27 r28
        have e29 : k0 = w26 := (e27.trans (i1)).symm
        subst e29
        refine r_iast (pc' := 31) D24_30 rfl sc_17 HN (by omega) (by unfold inR; omega) trivial ?_
        intro M30 u31 H32 p33
        have f34 := fN.wr u31 rfl
        have hp35 := i8.wr u31 (by decide)
        have hp36 := i9.wr u31 (by decide)
        have hp37 := i10.wr u31 (by decide)
        refine s_blx (lv' := [(0, vR 14), (1, vI x1)]) (st' := [vR 14]) B24_31_32 rfl ?_
        have g38 : gi M30 15 ct = gi N 15 ct := (u31.gi_ne (by omega) (Or.inl (by decide))).trans (rfl)
        have g39 : gi M30 14 2 = a0 := (u31.gi_ne (by omega) (Or.inl (by decide))).trans (i0)
        have g40 : gi M30 14 3 = k0 := (u31.gi_ne (by omega) (Or.inl (by decide))).trans (i1)
        refine r_vV (c := 14) (args := []) (rest := []) (pc' := 35) D24_32 rfl ck_4_virtual_105 TE35 rfl (Nat.le_of_ble_eq_true rfl) ⟨Nat.le_of_ble_eq_true rfl, Nat.le_of_ble_eq_true rfl⟩ sc_14 ⟨rfl, by decide⟩ H32.1 (dp_0 hd rfl) (k35_14x E (dp_n hd rfl) H32 ct a0 k0 (by omega) (by omega) (by omega) (by omega) (by omega) (by omega) (by omega) (by omega)) ?_
        intro M42 q49
        obtain ⟨H43, f44, q45, q46, q47, q48⟩ := q49
        have f50 := f34.tr (f44.up rfl)
        have hp51 := hp35.fr f44 (by decide)
        have hp52 := hp36.fr f44 (by decide)
        have hp53 := hp37.fr f44 (by decide)
        obtain ⟨t54, ht55⟩ : ∃ q, q = gi M42 14 2 := ⟨_, rfl⟩
        have b_t54 := H43.2 14 2 0 400 rfl
        rw [← ht55] at b_t54
        obtain ⟨t56, ht57⟩ : ∃ q, q = gi M42 14 3 := ⟨_, rfl⟩
        have b_t56 := H43.2 14 3 0 511 rfl
        rw [← ht57] at b_t56
        rw [← ht55] at q45
        rw [← ht57] at q47
        rw [← ht57] at q48
        refine s_blx (lv' := [(0, vR 14), (1, vI x1)]) (st' := [vR 14]) B24_35_36 rfl ?_
        refine r_gint (ki := 3) (pc' := 39) D24_36 rfl gf_4_22_14 rfl H43.1 ?_
        intro w58 e59 r60
        have e61 : t56 = w58 := (e59.trans (ht57.symm)).symm
        subst e61
        refine s_blx (lv' := [(0, vR 14), (1, vI x1)]) (st' := [vI 6, vI t56]) B24_39_41 rfl ?_
        refine r_icmp (tgt := 58) (pc' := 44) D24_41 rfl rfl (by unfold inR; omega) (fun (c62 : t56 ≠ 6) => ?_) (fun (c62 : ¬ (t56 ≠ 6)) => ?_)
        · refine s_blx (lv' := [(0, vR 14), (1, vI x1)]) (st' := [vR 14]) B24_58_59 rfl ?_
          refine r_gfix (r := 18) (pc' := 62) D24_59 rfl gf_4_31_14 H43.1 ?_
          refine s_blx (lv' := [(0, vR 14), (1, vI x1)]) (st' := [vR 14, vI x1, vR 18]) B24_62_64 rfl ?_
          refine r_gint (ki := 9) (pc' := 67) D24_64 rfl gf_4_40_14 rfl H43.1 ?_
          intro w63 e64 r65
          have e66 : u0 = w63 := (e64.trans ((f44.g rfl).trans ((u31.gi_ne (by omega) (Or.inl (by decide))).trans (i2)))).symm
          subst e66
          refine r_iast (pc' := 68) D24_67 rfl sc_18 H43 (by omega) (by unfold inR; omega) (show 0 ≤ u0 ∧ u0 ≤ 400 by omega) ?_
          intro M67 u68 H69 p70
          have f71 := f50.wr u68 rfl
          have hp72 := hp51.wr u68 (by decide)
          have hp73 := hp52.wr u68 (by decide)
          have ken := (hp53.up (show u0 ≤ u0 by omega)).put (by omega) u68 p70 (by omega)
          refine s_blx (lv' := [(0, vR 14), (1, vI x1)]) (st' := [vI (x1 + 1), vR 14]) B24_68_72 rfl ?_
          refine r_pint (ki := 7) (pc' := 75) D24_72 rfl pf_4_34_14 rfl H69 (by unfold inR; omega) (show 0 ≤ (x1 + 1) ∧ (x1 + 1) ≤ 12 by omega) ?_
          intro M74 u75 H76 p77
          have f78 := f71.wr u75 rfl
          have hp79 := hp72.wr u75 (by decide)
          have hp80 := hp73.wr u75 (by decide)
          have hp81 := ken.wr u75 (by decide)
          refine s_blx (lv' := [(0, vR 14), (1, vI x1)]) (st' := [vR 14]) B24_75_76 rfl ?_
          refine r_gint (ki := 3) (pc' := 79) D24_76 rfl gf_4_22_14 rfl H76.1 ?_
          intro w82 e83 r84
          have e85 : t56 = w82 := (e83.trans ((u75.gi_ne (by decide) (Or.inr (by decide))).trans ((u68.gi_ne (by omega) (Or.inl (by decide))).trans (ht57.symm)))).symm
          subst e85
          refine s_blx (lv' := [(0, vR 14), (1, vI x1)]) (st' := [vI 22, vI t56]) B24_79_81 rfl ?_
          refine r_icmp (tgt := 86) (pc' := 84) D24_81 rfl rfl (by unfold inR; omega) (fun (c86 : t56 ≠ 22) => ?_) (fun (c86 : ¬ (t56 ≠ 22)) => ?_)
          · refine s_blx (lv' := [(0, vR 14), (1, vI x1)]) (st' := [vI 59, vR 14]) B24_86_89 rfl ?_
            have g87 : gi M74 15 ct = gi N 15 ct := (u75.gi_ne (by decide) (Or.inl (by decide))).trans ((u68.gi_ne (by omega) (Or.inl (by decide))).trans ((f44.g rfl).trans ((u31.gi_ne (by omega) (Or.inl (by decide))).trans (rfl))))
            have g88 : gi M74 14 2 = t54 := (u75.gi_ne (by decide) (Or.inr (by decide))).trans ((u68.gi_ne (by omega) (Or.inl (by decide))).trans (ht55.symm))
            have g89 : gi M74 14 3 = t56 := (u75.gi_ne (by decide) (Or.inr (by decide))).trans ((u68.gi_ne (by omega) (Or.inl (by decide))).trans (ht57.symm))
            refine r_vI (c := 14) (args := [vI 59]) (rest := []) (pc' := 92) D24_89 rfl ck_4_virtual_111 TE34 rfl (Nat.le_of_ble_eq_true rfl) ⟨Nat.le_of_ble_eq_true rfl, Nat.le_of_ble_eq_true rfl⟩ sc_14 ⟨rfl, by decide⟩ H76.1 (dp_0 hd rfl) (k34_14x E (dp_n hd rfl) H76 59 ct t54 t56 (by omega) (by omega) (by omega) (by omega) (by omega) (by omega) (by omega) (by omega)) ?_
            intro v90 M91 q98
            obtain ⟨H92, f93, q94, q95, q96, q97⟩ := q98
            have f99 := f78.tr (f93.up rfl)
            have hp100 := hp79.fr f93 (by decide)
            have hp101 := hp80.fr f93 (by decide)
            have hp102 := hp81.fr f93 (by decide)
            obtain ⟨t103, ht104⟩ : ∃ q, q = gi M91 14 2 := ⟨_, rfl⟩
            have b_t103 := H92.2 14 2 0 400 rfl
            rw [← ht104] at b_t103
            obtain ⟨t105, ht106⟩ : ∃ q, q = gi M91 14 3 := ⟨_, rfl⟩
            have b_t105 := H92.2 14 3 0 511 rfl
            rw [← ht106] at b_t105
            rw [← ht104] at q95
            rw [← ht104, ← ht106] at q96
            rw [← ht106] at q97
            refine r_ifc (tgt := 97) (pc' := 95) D24_92 rfl rfl (by unfold inR; omega) (fun (c107 : v90 ≠ 0) => ?_) (fun (c107 : ¬ (v90 ≠ 0)) => ?_)
            · refine s_blx (lv' := [(1, vI (x1 + 1)), (0, vR 14)]) (st' := []) B24_97_100 rfl ?_
              refine r_goto (tgt := 2) D24_100 rfl ?_
              refine r_loc (lv' := [(0, vR 14), (1, vI (x1 + 1))]) ⟨rfl, rfl, trivial⟩ rfl rfl ?_
              have g108 : gi M91 14 2 = t103 := ht104.symm
              have g109 : gi M91 14 3 = t105 := ht106.symm
              have g110 : gi M91 14 9 = u0 := (f93.g rfl).trans ((u75.gi_ne (by decide) (Or.inr (by decide))).trans ((u68.gi_ne (by omega) (Or.inl (by decide))).trans ((f44.g rfl).trans ((u31.gi_ne (by omega) (Or.inl (by decide))).trans (i2)))))
              have g111 : gi M91 15 ct = gi N 15 ct := (f93.g rfl).trans ((u75.gi_ne (by decide) (Or.inl (by decide))).trans ((u68.gi_ne (by omega) (Or.inl (by decide))).trans ((f44.g rfl).trans ((u31.gi_ne (by omega) (Or.inl (by decide))).trans (rfl)))))
              exact ih (x1 + 1) t103 t105 u0 M91 H92 f99 (by omega) (by omega) (by omega) (by omega) (by omega) (by omega) (by omega) (by omega) (hp100) (hp101) (hp102) (by omega) (by omega) (by omega) (by omega)
            · refine s_blx (lv' := [(0, vR 14), (1, vI x1)]) (st' := [vI 0]) B24_95_96 rfl ?_
              have g112 : gi M91 14 2 = t103 := ht104.symm
              have g113 : gi M91 14 3 = t105 := ht106.symm
              have g114 : gi M91 14 9 = u0 := (f93.g rfl).trans ((u75.gi_ne (by decide) (Or.inr (by decide))).trans ((u68.gi_ne (by omega) (Or.inl (by decide))).trans ((f44.g rfl).trans ((u31.gi_ne (by omega) (Or.inl (by decide))).trans (i2)))))
              have g115 : gi M91 14 7 = x1 + 1 := (f93.g rfl).trans (p77)
              exact r_zretI D24_96 rfl (by omega) (⟨H92, f99, by omega, by rw [g112]; omega, by rw [g112, g113]; omega, by rw [g113]; omega, by rw [g112, g114]; omega, by rw [((f93.g rfl).trans ((u75.gi_ne (by decide) (Or.inr (by decide))).trans ((u68.gi_ne (by omega) (Or.inl (by decide))).trans ((f44.g rfl).trans ((u31.gi_ne (by omega) (Or.inl (by decide))).trans (i2))))))]; exact hp100, hp101, fun h => absurd h (by omega)⟩)
          · refine s_blx (lv' := [(0, vR 14), (1, vI x1)]) (st' := [vI 1]) B24_84_85 rfl ?_
            have g116 : gi M74 14 2 = t54 := (u75.gi_ne (by decide) (Or.inr (by decide))).trans ((u68.gi_ne (by omega) (Or.inl (by decide))).trans (ht55.symm))
            have g117 : gi M74 14 3 = t56 := (u75.gi_ne (by decide) (Or.inr (by decide))).trans ((u68.gi_ne (by omega) (Or.inl (by decide))).trans (ht57.symm))
            have g118 : gi M74 14 9 = u0 := (u75.gi_ne (by decide) (Or.inr (by decide))).trans ((u68.gi_ne (by omega) (Or.inl (by decide))).trans ((f44.g rfl).trans ((u31.gi_ne (by omega) (Or.inl (by decide))).trans (i2))))
            have g119 : gi M74 14 7 = x1 + 1 := p77
            exact r_zretI D24_85 rfl (by omega) (⟨H76, f78, by omega, by rw [g116]; omega, by rw [g116, g117]; omega, by rw [g117]; omega, by rw [g116, g118]; omega, by rw [((u75.gi_ne (by decide) (Or.inr (by decide))).trans ((u68.gi_ne (by omega) (Or.inl (by decide))).trans ((f44.g rfl).trans ((u31.gi_ne (by omega) (Or.inl (by decide))).trans (i2)))))]; exact hp79, hp80, fun _ => by rw [(p77), ((u75.gi_ne (by decide) (Or.inr (by decide))).trans ((u68.gi_ne (by omega) (Or.inl (by decide))).trans ((f44.g rfl).trans ((u31.gi_ne (by omega) (Or.inl (by decide))).trans (i2)))))]; exact hp81⟩)
        · refine s_blx (lv' := [(0, vR 14), (1, vI x1)]) (st' := [vR 14]) B24_44_45 rfl ?_
          have g120 : gi M42 15 ct = gi N 15 ct := (f44.g rfl).trans ((u31.gi_ne (by omega) (Or.inl (by decide))).trans (rfl))
          have g121 : gi M42 14 2 = t54 := ht55.symm
          have g122 : gi M42 14 3 = t56 := ht57.symm
          refine r_vV (c := 14) (args := []) (rest := []) (pc' := 48) D24_45 rfl ck_4_virtual_105 TE35 rfl (Nat.le_of_ble_eq_true rfl) ⟨Nat.le_of_ble_eq_true rfl, Nat.le_of_ble_eq_true rfl⟩ sc_14 ⟨rfl, by decide⟩ H43.1 (dp_0 hd rfl) (k35_14x E (dp_n hd rfl) H43 ct t54 t56 (by omega) (by omega) (by omega) (by omega) (by omega) (by omega) (by omega) (by omega)) ?_
          intro M124 q131
          obtain ⟨H125, f126, q127, q128, q129, q130⟩ := q131
          have f132 := f50.tr (f126.up rfl)
          have hp133 := hp51.fr f126 (by decide)
          have hp134 := hp52.fr f126 (by decide)
          have hp135 := hp53.fr f126 (by decide)
          obtain ⟨t136, ht137⟩ : ∃ q, q = gi M124 14 2 := ⟨_, rfl⟩
          have b_t136 := H125.2 14 2 0 400 rfl
          rw [← ht137] at b_t136
          obtain ⟨t138, ht139⟩ : ∃ q, q = gi M124 14 3 := ⟨_, rfl⟩
          have b_t138 := H125.2 14 3 0 511 rfl
          rw [← ht139] at b_t138
          rw [← ht137] at q127
          rw [← ht139] at q129
          rw [← ht139] at q130
          refine s_blx (lv' := [(0, vR 14), (1, vI x1)]) (st' := [vI 0, vR 14]) B24_48_50 rfl ?_
          have g140 : gi M124 15 ct = gi N 15 ct := (f126.g rfl).trans ((f44.g rfl).trans ((u31.gi_ne (by omega) (Or.inl (by decide))).trans (rfl)))
          have g141 : gi M124 14 2 = t136 := ht137.symm
          have g142 : gi M124 14 3 = t138 := ht139.symm
          have g143 : gi M124 14 9 = u0 := (f126.g rfl).trans ((f44.g rfl).trans ((u31.gi_ne (by omega) (Or.inl (by decide))).trans (i2)))
          refine r_vI (c := 14) (args := [vI 0]) (rest := []) (pc' := 53) D24_50 rfl ck_4_virtual_108 TE25 rfl (Nat.le_of_ble_eq_true rfl) ⟨Nat.le_of_ble_eq_true rfl, Nat.le_of_ble_eq_true rfl⟩ sc_14 ⟨rfl, by decide⟩ H125.1 (dp_0 hd rfl) (k25_14x E (dp_n hd rfl) H125 0 ct t136 t138 u0 (by omega) (by omega) (by omega) (by omega) (by omega) (by omega) (by omega) (by omega) (by omega) (by omega) (hp133)) ?_
          intro v144 M145 q155
          obtain ⟨H146, f147, q148, q149, q150, q151, q152, q153, q154⟩ := q155
          have f156 := f132.tr (f147.up rfl)
          have hp157 := hp134.sm q154 (by omega)
          have hp158 := hp135.fr f147 (by decide)
          obtain ⟨t159, ht160⟩ : ∃ q, q = gi M145 14 2 := ⟨_, rfl⟩
          have b_t159 := H146.2 14 2 0 400 rfl
          rw [← ht160] at b_t159
          obtain ⟨t161, ht162⟩ : ∃ q, q = gi M145 14 3 := ⟨_, rfl⟩
          have b_t161 := H146.2 14 3 0 511 rfl
          rw [← ht162] at b_t161
          obtain ⟨t163, ht164⟩ : ∃ q, q = gi M145 14 9 := ⟨_, rfl⟩
          have b_t163 := H146.2 14 9 0 400 rfl
          rw [← ht164] at b_t163
          rw [← ht160] at q149
          rw [← ht160, ← ht162] at q150
          rw [← ht162] at q151
          rw [← ht160, ← ht164] at q152
          rw [← ht164] at q153
          refine r_ifc (tgt := 58) (pc' := 56) D24_53 rfl rfl (by unfold inR; omega) (fun (c165 : v144 ≠ 0) => ?_) (fun (c165 : ¬ (v144 ≠ 0)) => ?_)
          · refine s_blx (lv' := [(0, vR 14), (1, vI x1)]) (st' := [vR 14]) B24_58_59 rfl ?_
            refine r_gfix (r := 18) (pc' := 62) D24_59 rfl gf_4_31_14 H146.1 ?_
            refine s_blx (lv' := [(0, vR 14), (1, vI x1)]) (st' := [vR 14, vI x1, vR 18]) B24_62_64 rfl ?_
            refine r_gint (ki := 9) (pc' := 67) D24_64 rfl gf_4_40_14 rfl H146.1 ?_
            intro w166 e167 r168
            have e169 : t163 = w166 := (e167.trans (ht164.symm)).symm
            subst e169
            refine r_iast (pc' := 68) D24_67 rfl sc_18 H146 (by omega) (by unfold inR; omega) (show 0 ≤ t163 ∧ t163 ≤ 400 by omega) ?_
            intro M170 u171 H172 p173
            have f174 := f156.wr u171 rfl
            have hp175 := hp157.wr u171 (by decide)
            have hp176 := q153.wr u171 (by decide)
            have ken := (hp158.up (show u0 ≤ t163 by omega)).put (by omega) u171 p173 (by omega)
            refine s_blx (lv' := [(0, vR 14), (1, vI x1)]) (st' := [vI (x1 + 1), vR 14]) B24_68_72 rfl ?_
            refine r_pint (ki := 7) (pc' := 75) D24_72 rfl pf_4_34_14 rfl H172 (by unfold inR; omega) (show 0 ≤ (x1 + 1) ∧ (x1 + 1) ≤ 12 by omega) ?_
            intro M177 u178 H179 p180
            have f181 := f174.wr u178 rfl
            have hp182 := hp175.wr u178 (by decide)
            have hp183 := hp176.wr u178 (by decide)
            have hp184 := ken.wr u178 (by decide)
            refine s_blx (lv' := [(0, vR 14), (1, vI x1)]) (st' := [vR 14]) B24_75_76 rfl ?_
            refine r_gint (ki := 3) (pc' := 79) D24_76 rfl gf_4_22_14 rfl H179.1 ?_
            intro w185 e186 r187
            have e188 : t161 = w185 := (e186.trans ((u178.gi_ne (by decide) (Or.inr (by decide))).trans ((u171.gi_ne (by omega) (Or.inl (by decide))).trans (ht162.symm)))).symm
            subst e188
            refine s_blx (lv' := [(0, vR 14), (1, vI x1)]) (st' := [vI 22, vI t161]) B24_79_81 rfl ?_
            refine r_icmp (tgt := 86) (pc' := 84) D24_81 rfl rfl (by unfold inR; omega) (fun (c189 : t161 ≠ 22) => ?_) (fun (c189 : ¬ (t161 ≠ 22)) => ?_)
            · refine s_blx (lv' := [(0, vR 14), (1, vI x1)]) (st' := [vI 59, vR 14]) B24_86_89 rfl ?_
              have g190 : gi M177 15 ct = gi N 15 ct := (u178.gi_ne (by decide) (Or.inl (by decide))).trans ((u171.gi_ne (by omega) (Or.inl (by decide))).trans ((f147.g rfl).trans ((f126.g rfl).trans ((f44.g rfl).trans ((u31.gi_ne (by omega) (Or.inl (by decide))).trans (rfl))))))
              have g191 : gi M177 14 2 = t159 := (u178.gi_ne (by decide) (Or.inr (by decide))).trans ((u171.gi_ne (by omega) (Or.inl (by decide))).trans (ht160.symm))
              have g192 : gi M177 14 3 = t161 := (u178.gi_ne (by decide) (Or.inr (by decide))).trans ((u171.gi_ne (by omega) (Or.inl (by decide))).trans (ht162.symm))
              refine r_vI (c := 14) (args := [vI 59]) (rest := []) (pc' := 92) D24_89 rfl ck_4_virtual_111 TE34 rfl (Nat.le_of_ble_eq_true rfl) ⟨Nat.le_of_ble_eq_true rfl, Nat.le_of_ble_eq_true rfl⟩ sc_14 ⟨rfl, by decide⟩ H179.1 (dp_0 hd rfl) (k34_14x E (dp_n hd rfl) H179 59 ct t159 t161 (by omega) (by omega) (by omega) (by omega) (by omega) (by omega) (by omega) (by omega)) ?_
              intro v193 M194 q201
              obtain ⟨H195, f196, q197, q198, q199, q200⟩ := q201
              have f202 := f181.tr (f196.up rfl)
              have hp203 := hp182.fr f196 (by decide)
              have hp204 := hp183.fr f196 (by decide)
              have hp205 := hp184.fr f196 (by decide)
              obtain ⟨t206, ht207⟩ : ∃ q, q = gi M194 14 2 := ⟨_, rfl⟩
              have b_t206 := H195.2 14 2 0 400 rfl
              rw [← ht207] at b_t206
              obtain ⟨t208, ht209⟩ : ∃ q, q = gi M194 14 3 := ⟨_, rfl⟩
              have b_t208 := H195.2 14 3 0 511 rfl
              rw [← ht209] at b_t208
              rw [← ht207] at q198
              rw [← ht207, ← ht209] at q199
              rw [← ht209] at q200
              refine r_ifc (tgt := 97) (pc' := 95) D24_92 rfl rfl (by unfold inR; omega) (fun (c210 : v193 ≠ 0) => ?_) (fun (c210 : ¬ (v193 ≠ 0)) => ?_)
              · refine s_blx (lv' := [(1, vI (x1 + 1)), (0, vR 14)]) (st' := []) B24_97_100 rfl ?_
                refine r_goto (tgt := 2) D24_100 rfl ?_
                refine r_loc (lv' := [(0, vR 14), (1, vI (x1 + 1))]) ⟨rfl, rfl, trivial⟩ rfl rfl ?_
                have g211 : gi M194 14 2 = t206 := ht207.symm
                have g212 : gi M194 14 3 = t208 := ht209.symm
                have g213 : gi M194 14 9 = t163 := (f196.g rfl).trans ((u178.gi_ne (by decide) (Or.inr (by decide))).trans ((u171.gi_ne (by omega) (Or.inl (by decide))).trans (ht164.symm)))
                have g214 : gi M194 15 ct = gi N 15 ct := (f196.g rfl).trans ((u178.gi_ne (by decide) (Or.inl (by decide))).trans ((u171.gi_ne (by omega) (Or.inl (by decide))).trans ((f147.g rfl).trans ((f126.g rfl).trans ((f44.g rfl).trans ((u31.gi_ne (by omega) (Or.inl (by decide))).trans (rfl)))))))
                exact ih (x1 + 1) t206 t208 t163 M194 H195 f202 (by omega) (by omega) (by omega) (by omega) (by omega) (by omega) (by omega) (by omega) (hp204) (hp203) (hp205) (by omega) (by omega) (by omega) (by omega)
              · refine s_blx (lv' := [(0, vR 14), (1, vI x1)]) (st' := [vI 0]) B24_95_96 rfl ?_
                have g215 : gi M194 14 2 = t206 := ht207.symm
                have g216 : gi M194 14 3 = t208 := ht209.symm
                have g217 : gi M194 14 9 = t163 := (f196.g rfl).trans ((u178.gi_ne (by decide) (Or.inr (by decide))).trans ((u171.gi_ne (by omega) (Or.inl (by decide))).trans (ht164.symm)))
                have g218 : gi M194 14 7 = x1 + 1 := (f196.g rfl).trans (p180)
                exact r_zretI D24_96 rfl (by omega) (⟨H195, f202, by omega, by rw [g215]; omega, by rw [g215, g216]; omega, by rw [g216]; omega, by rw [g215, g217]; omega, by rw [((f196.g rfl).trans ((u178.gi_ne (by decide) (Or.inr (by decide))).trans ((u171.gi_ne (by omega) (Or.inl (by decide))).trans (ht164.symm))))]; exact hp204, hp203, fun h => absurd h (by omega)⟩)
            · refine s_blx (lv' := [(0, vR 14), (1, vI x1)]) (st' := [vI 1]) B24_84_85 rfl ?_
              have g219 : gi M177 14 2 = t159 := (u178.gi_ne (by decide) (Or.inr (by decide))).trans ((u171.gi_ne (by omega) (Or.inl (by decide))).trans (ht160.symm))
              have g220 : gi M177 14 3 = t161 := (u178.gi_ne (by decide) (Or.inr (by decide))).trans ((u171.gi_ne (by omega) (Or.inl (by decide))).trans (ht162.symm))
              have g221 : gi M177 14 9 = t163 := (u178.gi_ne (by decide) (Or.inr (by decide))).trans ((u171.gi_ne (by omega) (Or.inl (by decide))).trans (ht164.symm))
              have g222 : gi M177 14 7 = x1 + 1 := p180
              exact r_zretI D24_85 rfl (by omega) (⟨H179, f181, by omega, by rw [g219]; omega, by rw [g219, g220]; omega, by rw [g220]; omega, by rw [g219, g221]; omega, by rw [((u178.gi_ne (by decide) (Or.inr (by decide))).trans ((u171.gi_ne (by omega) (Or.inl (by decide))).trans (ht164.symm)))]; exact hp183, hp182, fun _ => by rw [(p180), ((u178.gi_ne (by decide) (Or.inr (by decide))).trans ((u171.gi_ne (by omega) (Or.inl (by decide))).trans (ht164.symm)))]; exact hp184⟩)
          · refine s_blx (lv' := [(0, vR 14), (1, vI x1)]) (st' := [vI 0]) B24_56_57 rfl ?_
            have g223 : gi M145 14 2 = t159 := ht160.symm
            have g224 : gi M145 14 3 = t161 := ht162.symm
            have g225 : gi M145 14 9 = t163 := ht164.symm
            have g226 : gi M145 14 7 = gi N 14 7 := (f147.g rfl).trans ((f126.g rfl).trans ((f44.g rfl).trans ((u31.gi_ne (by omega) (Or.inl (by decide))).trans (rfl))))
            exact r_zretI D24_57 rfl (by omega) (⟨H146, f156, by omega, by rw [g223]; omega, by rw [g223, g224]; omega, by rw [g224]; omega, by rw [g223, g225]; omega, by rw [(ht164.symm)]; exact q153, hp157, fun h => absurd h (by omega)⟩)
      · refine s_blx (lv' := [(0, vR 14), (1, vI x1)]) (st' := [vR 14]) B24_16_17 rfl ?_
        refine r_vI (c := 14) (args := []) (rest := []) (pc' := 20) D24_17 rfl ck_4_virtual_102 TE36 rfl (Nat.le_of_ble_eq_true rfl) ⟨Nat.le_of_ble_eq_true rfl, Nat.le_of_ble_eq_true rfl⟩ sc_14 ⟨rfl, by decide⟩ HN.1 (dp_0 hd rfl) (k36_14x E (dp_n hd rfl) HN ) ?_
        intro v227 M228 q233
        obtain ⟨H229, f230, q231, q232⟩ := q233
        have f234 := fN.tr (f230.up rfl)
        have hp235 := i8.fr f230 (by decide)
        have hp236 := i9.fr f230 (by decide)
        have hp237 := i10.fr f230 (by decide)
        have g238 : gi M228 14 2 = a0 := (f230.g rfl).trans (i0)
        have g239 : gi M228 14 3 = k0 := (f230.g rfl).trans (i1)
        have g240 : gi M228 14 9 = u0 := (f230.g rfl).trans (i2)
        have g241 : gi M228 14 7 = gi N 14 7 := (f230.g rfl).trans (rfl)
        exact r_zretI D24_20 rfl (by omega) (⟨H229, f234, by omega, by rw [g238]; omega, by rw [g238, g239]; omega, by rw [g239]; omega, by rw [g238, g240]; omega, by rw [((f230.g rfl).trans (i2))]; exact hp235, hp236, fun h => absurd h (by omega)⟩)
set_option maxRecDepth 4000 in
theorem k24_14x {base : Nat} {X : Nat → Option mC} {G : Nat → Value} (E : EnvOK base X G) {d : Nat} (hd : 58 ≤ d) {M : mH} (H : HI base M) (ct : Int) (at_ : Int) (kd : Int) (us : Int) (h0 : gi M 15 ct = 22) (h1 : 0 ≤ ct ∧ ct ≤ 400) (h2 : gi M 14 2 = at_) (h3 : gi M 14 3 = kd) (h4 : 0 ≤ at_ ∧ at_ ≤ ct) (h5 : at_ = ct → kd = 22) (h6 : 0 ≤ kd ∧ kd ≤ 511) (h7 : gi M 14 9 = us) (h8 : 0 ≤ us ∧ us ≤ at_) (h9 : CD us M) : sOk base X G d T24 [vR 14] M (pI (fun v M' => HI base M' ∧ Fr [(14, 3), (14, 4), (14, 5), (14, 8), (14, 10), (14, 11), (17, 0), (18, 0), (19, 0)] M M' ∧ (v = 0 ∨ v = 1) ∧ (at_ ≤ gi M' 14 2 ∧ gi M' 14 2 ≤ ct) ∧ (gi M' 14 2 = ct → gi M' 14 3 = 22) ∧ (0 ≤ gi M' 14 3 ∧ gi M' 14 3 ≤ 511) ∧ (us ≤ gi M' 14 9 ∧ gi M' 14 9 - us ≤ gi M' 14 2 - at_) ∧ (CD (gi M' 14 9) M') ∧ (∀ j : Int, 0 ≤ j → j < us → gi M' 19 j = gi M 19 j) ∧ (v = 1 → EN (gi M' 14 7) (gi M' 14 9) M'))) := by
  have f0 : Fr [(14, 3), (14, 4), (14, 5), (14, 8), (14, 10), (14, 11), (17, 0), (18, 0), (19, 0)] M M := Fr.rf
  refine sOk.of (show sRn base X G d T24 0 [(0, vR 14)] [] M _ from ?_)
  refine s_blx (lv' := [(1, vI 0), (0, vR 14)]) (st' := []) B24_0_2 rfl ?_
  refine r_loc (lv' := [(0, vR 14), (1, vI 0)]) ⟨rfl, rfl, trivial⟩ rfl rfl ?_
  have g1 : gi M 14 2 = at_ := h2
  have g2 : gi M 14 3 = kd := h3
  have g3 : gi M 14 9 = us := h7
  have g4 : gi M 15 ct = gi M 15 ct := rfl
  exact (L_k24_14x E hd H ct at_ kd us h0 h1 h2 h3 h4 h5 h6 h7 h8 h9 (((12 - 0) * 1 + 0 : Int) + 1).toNat) 0 at_ kd us M H f0 (by omega) (by omega) (by omega) (by omega) (by omega) (by omega) (by omega) (by omega) (h9) ((CZ.refl (n := us) (M := M))) ((EN.zero (u := us) (M := M))) (by omega) (by omega) (by omega) (by omega)
