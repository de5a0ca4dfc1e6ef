/-! The class reads a text: its code. -/
theorem or16N (n m : Nat) (hn : n * 16 + m < 2 ^ 31) (hm : m < 16) : (Int32.ofInt ((n : Int) * 16) ||| Int32.ofInt (m : Int)) = Int32.ofInt ((n : Int) * 16 + (m : Int)) := by
  apply Int32.toBitVec.inj
  show BitVec.ofInt 32 ((n : Int) * 16) ||| BitVec.ofInt 32 (m : Int) = BitVec.ofInt 32 ((n : Int) * 16 + (m : Int))
  rw [show (n : Int) * 16 = ((n * 16 : Nat) : Int) by omega, show ((n * 16 : Nat) : Int) + (m : Int) = ((n * 16 + m : Nat) : Int) by omega, BitVec.ofInt_natCast, BitVec.ofInt_natCast, BitVec.ofInt_natCast]
  apply BitVec.eq_of_toNat_eq
  rw [BitVec.toNat_or, BitVec.toNat_ofNat, BitVec.toNat_ofNat, BitVec.toNat_ofNat, Nat.mod_eq_of_lt (by omega), Nat.mod_eq_of_lt (by omega), Nat.mod_eq_of_lt (by omega)]
  have := Nat.shiftLeft_add_eq_or_of_lt (i := 4) (b := m) (by omega) n
  rw [Nat.shiftLeft_eq] at this
  exact this.symm
theorem or16 {a b : Int} (ha : 0 ≤ a) (hb : 0 ≤ b ∧ b < 16) (h : a * 16 + b ≤ 2147483647) : (Int32.ofInt (a * 16) ||| Int32.ofInt b) = Int32.ofInt (a * 16 + b) := by
  have := or16N a.toNat b.toNat (by omega) (by omega)
  rw [show ((a.toNat : Nat) : Int) = a by omega, show ((b.toNat : Nat) : Int) = b by omega] at this
  exact this
theorem or16' {a b : Int} (ha : 0 ≤ a) (hb : 0 ≤ b ∧ b < 16) (h : a * 16 + b ≤ 2147483647) : (Int32.ofInt b ||| Int32.ofInt (a * 16)) = Int32.ofInt (a * 16 + b) := by
  rw [Int32.or_comm]; exact or16 ha hb h
theorem sh4 (x : Int32) : x <<< ((Int32.ofInt 4) &&& 31) = x * 16 := by
  have h : (Int32.ofInt 4 &&& 31) = 4 := by decide
  rw [h]
  apply Int32.toBitVec.inj
  rw [Int32.toBitVec_shiftLeft, Int32.toBitVec_mul]
  show x.toBitVec <<< (4#32).smod 32#32 = x.toBitVec * 16#32
  rw [show (4#32).smod 32#32 = 4#32 by decide]
  show x.toBitVec <<< (4#32).toNat = x.toBitVec * 16#32
  rw [BitVec.shiftLeft_eq_mul_twoPow]
  rfl
theorem sh9 (x : Int32) : x <<< ((Int32.ofInt 9) &&& 31) = x * 512 := by
  have h : (Int32.ofInt 9 &&& 31) = 9 := by decide
  rw [h]
  apply Int32.toBitVec.inj
  rw [Int32.toBitVec_shiftLeft, Int32.toBitVec_mul]
  show x.toBitVec <<< (9#32).smod 32#32 = x.toBitVec * 512#32
  rw [show (9#32).smod 32#32 = 9#32 by decide]
  show x.toBitVec <<< (9#32).toNat = x.toBitVec * 512#32
  rw [BitVec.shiftLeft_eq_mul_twoPow]
  rfl
theorem sh4i (a : Int) : Int32.ofInt a <<< ((Int32.ofInt 4) &&& 31) = Int32.ofInt (a * 16) := by
  rw [sh4, Int32.ofInt_mul]; rfl
theorem sh9i (a : Int) : Int32.ofInt a <<< ((Int32.ofInt 9) &&& 31) = Int32.ofInt (a * 512) := by
  rw [sh9, Int32.ofInt_mul]; rfl
theorem sr4 (x : Int32) : (x >>> ((Int32.ofInt 4) &&& 31)).toInt = x.toInt / 16 := by
  have h : (Int32.ofInt 4 &&& 31) = 4 := by decide
  rw [h]
  show (x.toBitVec.sshiftRight' ((4#32).smod 32#32)).toInt = x.toBitVec.toInt / 16
  rw [show (4#32).smod 32#32 = 4#32 by decide]
  show (x.toBitVec.sshiftRight (4#32).toNat).toInt = x.toBitVec.toInt / 16
  rw [BitVec.toInt_sshiftRight, Int.shiftRight_eq_div_pow]
  rfl
theorem sr9 (x : Int32) : (x >>> ((Int32.ofInt 9) &&& 31)).toInt = x.toInt / 512 := by
  have h : (Int32.ofInt 9 &&& 31) = 9 := by decide
  rw [h]
  show (x.toBitVec.sshiftRight' ((9#32).smod 32#32)).toInt = x.toBitVec.toInt / 512
  rw [show (9#32).smod 32#32 = 9#32 by decide]
  show (x.toBitVec.sshiftRight (9#32).toNat).toInt = x.toBitVec.toInt / 512
  rw [BitVec.toInt_sshiftRight, Int.shiftRight_eq_div_pow]
  rfl
section
variable {base : Nat} {X : Nat → Option mC} {G : Nat → Value} {d : Nat} {t : mT} {pc pc' : Nat} {lv : sL} {st : List mV} {M : mH} {Q : Option Value → mH → Prop}
theorem r_shl4 {a : Int} (hd : decode t.2.2.1 pc = .ok (.ishl, 1)) (hn : pc + 1 = pc') (h : sRn base X G d t pc' lv (vI (a * 16) :: st) M Q) : sRn base X G d t pc lv (vI 4 :: vI a :: st) M Q := by
  subst hn
  refine r_B (st := st) (v := .int (Int32.ofInt a <<< (Int32.ofInt 4 &&& 31))) hd rfl rfl rfl rfl rfl rfl rfl ?_
  rw [sh4i]; exact h
theorem r_shl9 {a : Int} (hd : decode t.2.2.1 pc = .ok (.ishl, 1)) (hn : pc + 1 = pc') (h : sRn base X G d t pc' lv (vI (a * 512) :: st) M Q) : sRn base X G d t pc lv (vI 9 :: vI a :: st) M Q := by
  subst hn
  refine r_B (st := st) (v := .int (Int32.ofInt a <<< (Int32.ofInt 9 &&& 31))) hd rfl rfl rfl rfl rfl rfl rfl ?_
  rw [sh9i]; exact h
theorem r_shr4 {a : Int} (hd : decode t.2.2.1 pc = .ok (.ishr, 1)) (hn : pc + 1 = pc') (ha : inR a) (h : sRn base X G d t pc' lv (vI (a / 16) :: st) M Q) : sRn base X G d t pc lv (vI 4 :: vI a :: st) M Q := by
  subst hn
  refine r_B (st := st) (v := .int (Int32.ofInt a >>> (Int32.ofInt 4 &&& 31))) hd rfl rfl rfl rfl rfl rfl rfl ?_
  have e : Int32.ofInt a >>> (Int32.ofInt 4 &&& 31) = Int32.ofInt (a / 16) := by rw [← Int32.ofInt_toInt (Int32.ofInt a >>> (Int32.ofInt 4 &&& 31)), sr4, s_i32 ha]
  rw [e]; exact h
theorem r_shr9 {a : Int} (hd : decode t.2.2.1 pc = .ok (.ishr, 1)) (hn : pc + 1 = pc') (ha : inR a) (h : sRn base X G d t pc' lv (vI (a / 512) :: st) M Q) : sRn base X G d t pc lv (vI 9 :: vI a :: st) M Q := by
  subst hn
  refine r_B (st := st) (v := .int (Int32.ofInt a >>> (Int32.ofInt 9 &&& 31))) hd rfl rfl rfl rfl rfl rfl rfl ?_
  have e : Int32.ofInt a >>> (Int32.ofInt 9 &&& 31) = Int32.ofInt (a / 512) := by rw [← Int32.ofInt_toInt (Int32.ofInt a >>> (Int32.ofInt 9 &&& 31)), sr9, s_i32 ha]
  rw [e]; exact h
end
theorem or16_of {z a b : Int} (hz : inR z) (k : Int32.ofInt z = Int32.ofInt (a * 16) ||| Int32.ofInt b) (ha : 0 ≤ a) (hb : 0 ≤ b ∧ b < 16) (h : a * 16 + b ≤ 2147483647) : z = a * 16 + b := by
  have q := congrArg Int32.toInt k
  rw [or16 ha hb h, s_i32 hz, s_i32 (by unfold inR; omega)] at q
  exact q
theorem or16_of' {z a b : Int} (hz : inR z) (k : Int32.ofInt z = Int32.ofInt b ||| Int32.ofInt (a * 16)) (ha : 0 ≤ a) (hb : 0 ≤ b ∧ b < 16) (h : a * 16 + b ≤ 2147483647) : z = a * 16 + b := by
  have q := congrArg Int32.toInt k
  rw [or16' ha hb h, s_i32 hz, s_i32 (by unfold inR; omega)] at q
  exact q
/-- so much of the code can be run -/
noncomputable def CD (n : Int) (M : mH) : Prop := ∀ j : Int, 0 ≤ j → j < n → 0 ≤ gi M 19 j ∧ (gi M 19 j % 16 = 1 → gi M 19 j / 16 ≤ 10)
theorem CD.of {n : Int} {M M' : mH} (h : CD n M) (e : ∀ j : Int, gi M' 19 j = gi M 19 j) : CD n M' := by
  intro j h1 h2; rw [e]; exact h j h1 h2
theorem CD.fr {n : Int} {L : List (Nat × Nat)} {M M' : mH} (h : CD n M) (f : Fr L M M') (hc : s_al L (fun c => c != 19) = true) : CD n M' := h.of (fun _ => f.g (s_al_ok hc (by simp)))
theorem CD.wr {n : Int} {M M' : mH} {c i : Nat} {v : Value} (h : CD n M) (u : Wr M c i v M') (hc : c ≠ 19) : CD n M' := h.of (fun j => by unfold gi; rw [u.ne (Or.inl (Ne.symm hc))])
theorem CD.zero {M : mH} : CD 0 M := fun j h1 h2 => by omega
theorem CD.put {n x : Int} {M M' : mH} {v : Value} (h : CD n M) (h0 : 0 ≤ n) (u : Wr M 19 n.toNat v M') (hp : gi M' 19 n = x) (hx : 0 ≤ x ∧ (x % 16 = 1 → x / 16 ≤ 10)) : CD (n + 1) M' := by
  intro j h1 h2
  by_cases e : j = n
  · rw [e, hp]; exact hx
  · rw [u.gi_ne h0 (Or.inr e)]; exact h j h1 (by omega)
theorem CD.set {n i x : Int} {M M' : mH} {v : Value} (h : CD n M) (h0 : 0 ≤ i) (u : Wr M 19 i.toNat v M') (hp : gi M' 19 i = x) (hx : 0 ≤ x ∧ (x % 16 = 1 → x / 16 ≤ 10)) : CD n M' := by
  intro j h1 h2
  by_cases e : j = i
  · rw [e, hp]; exact hx
  · rw [u.gi_ne h0 (Or.inr e)]; exact h j h1 h2
/-- the code so far is as it was -/
noncomputable def CZ (n : Int) (Z : Int → Int) (M : mH) : Prop := ∀ j : Int, 0 ≤ j → j < n → gi M 19 j = Z j
theorem CZ.of {n : Int} {Z : Int → Int} {M M' : mH} (h : CZ n Z M) (e : ∀ j : Int, gi M' 19 j = gi M 19 j) : CZ n Z M' := by
  intro j h1 h2; rw [e]; exact h j h1 h2
theorem CZ.fr {n : Int} {Z : Int → Int} {L : List (Nat × Nat)} {M M' : mH} (h : CZ n Z M) (f : Fr L M M') (hc : s_al L (fun c => c != 19) = true) : CZ n Z M' := h.of (fun _ => f.g (s_al_ok hc (by simp)))
theorem CZ.wr {n : Int} {Z : Int → Int} {M M' : mH} {c i : Nat} {v : Value} (h : CZ n Z M) (u : Wr M c i v M') (hc : c ≠ 19) : CZ n Z M' := h.of (fun j => by unfold gi; rw [u.ne (Or.inl (Ne.symm hc))])
theorem CZ.sm {n m : Int} {Z : Int → Int} {M M' : mH} (h : CZ n Z M) (e : ∀ j : Int, 0 ≤ j → j < m → gi M' 19 j = gi M 19 j) (hm : n ≤ m) : CZ n Z M' := by
  intro j h1 h2; rw [e j h1 (by omega)]; exact h j h1 h2
theorem CZ.sj {n i : Int} {Z : Int → Int} {M M' : mH} (h : CZ n Z M) (e : ∀ j : Int, 0 ≤ j → j ≠ i → gi M' 19 j = gi M 19 j) (hm : n ≤ i) : CZ n Z M' := by
  intro j h1 h2; rw [e j h1 (by omega)]; exact h j h1 h2
theorem CZ.refl {n : Int} {M : mH} : CZ n (gi M 19) M := fun _ _ _ => rfl
noncomputable def T36 : mT := (4, yX4_fail, cX4_fail, 1, (some .boolean))
set_option maxRecDepth 10000 in
theorem TE36 : sy_m[36]? = some T36 := rfl
theorem B36_0_2 : s_dk T36.2.2.1 0 [.aload_n 0, .aload_n 0] 2 = true := by decide +kernel
theorem gf_4_15_14 : s_gf 4 15 14 = some (1, 19) := by decide +kernel
theorem D36_2 : decode T36.2.2.1 2 = .ok (.getfield 15, 3) := by decide +kernel
theorem B36_5_6 : s_dk T36.2.2.1 5 [.aload_n 0] 6 = true := by decide +kernel
theorem gf_4_18_14 : s_gf 4 18 14 = some (2, 1) := by decide +kernel
theorem D36_6 : decode T36.2.2.1 6 = .ok (.getfield 18, 3) := by decide +kernel
theorem D36_9 : decode T36.2.2.1 9 = .ok (.iaload, 1) := by decide +kernel
theorem pf_4_43_14 : s_pf 4 43 14 = some (10, 1) := by decide +kernel
theorem D36_10 : decode T36.2.2.1 10 = .ok (.putfield 43, 3) := by decide +kernel
theorem B36_13_14 : s_dk T36.2.2.1 13 [.iconst 0] 14 = true := by decide +kernel
theorem D36_14 : decode T36.2.2.1 14 = .ok (.ireturn, 1) := by decide +kernel
noncomputable def T35 : mT := (4, yX4_advance, cX4_advance, 1, none)
set_option maxRecDepth 10000 in
theorem TE35 : sy_m[35]? = some T35 := rfl
theorem B35_0_2 : s_dk T35.2.2.1 0 [.aload_n 0, .aload_n 0] 2 = true := by decide +kernel
theorem D35_2 : decode T35.2.2.1 2 = .ok (.getfield 18, 3) := by decide +kernel
theorem B35_5_10 : s_dk T35.2.2.1 5 [.iconst 1, .iadd, .sipush 400] 10 = true := by decide +kernel
theorem D35_10 : decode T35.2.2.1 10 = .ok (.invokestatic 46, 3) := by decide +kernel
theorem mc_4_static_46 : m_call 4 (.invokestatic 46) = none := by decide +kernel
theorem sp_4_46 : m_sp 4 46 = some 3 := by decide +kernel
theorem pf_4_18_14 : s_pf 4 18 14 = some (2, 1) := by decide +kernel
theorem D35_13 : decode T35.2.2.1 13 = .ok (.putfield 18, 3) := by decide +kernel
theorem B35_16_18 : s_dk T35.2.2.1 16 [.aload_n 0, .aload_n 0] 18 = true := by decide +kernel
theorem gf_4_9_14 : s_gf 4 9 14 = some (0, 18) := by decide +kernel
theorem D35_18 : decode T35.2.2.1 18 = .ok (.getfield 9, 3) := by decide +kernel
theorem B35_21_22 : s_dk T35.2.2.1 21 [.aload_n 0] 22 = true := by decide +kernel
theorem D35_22 : decode T35.2.2.1 22 = .ok (.getfield 18, 3) := by decide +kernel
theorem D35_25 : decode T35.2.2.1 25 = .ok (.iaload, 1) := by decide +kernel
theorem B35_26_29 : s_dk T35.2.2.1 26 [.sipush 511] 29 = true := by decide +kernel
theorem D35_29 : decode T35.2.2.1 29 = .ok (.iand, 1) := by decide +kernel
theorem pf_4_22_14 : s_pf 4 22 14 = some (3, 1) := by decide +kernel
theorem D35_30 : decode T35.2.2.1 30 = .ok (.putfield 22, 3) := by decide +kernel
theorem D35_33 : decode T35.2.2.1 33 = .ok (.return_, 1) := by decide +kernel
noncomputable def T37 : mT := (4, yX4_put, cX4_put, 4, (some .int))
set_option maxRecDepth 10000 in
theorem TE37 : sy_m[37]? = some T37 := rfl
theorem B37_0_1 : s_dk T37.2.2.1 0 [.aload_n 0] 1 = true := by decide +kernel
theorem gf_4_40_14 : s_gf 4 40 14 = some (9, 1) := by decide +kernel
theorem D37_1 : decode T37.2.2.1 1 = .ok (.getfield 40, 3) := by decide +kernel
theorem B37_4_7 : s_dk T37.2.2.1 4 [.sipush 399] 7 = true := by decide +kernel
theorem D37_7 : decode T37.2.2.1 7 = .ok (.invokestatic 46, 3) := by decide +kernel
theorem B37_10_12 : s_dk T37.2.2.1 10 [.istore_n 3, .aload_n 0] 12 = true := by decide +kernel
theorem gf_4_37_14 : s_gf 4 37 14 = some (8, 22) := by decide +kernel
theorem D37_12 : decode T37.2.2.1 12 = .ok (.getfield 37, 3) := by decide +kernel
theorem B37_15_18 : s_dk T37.2.2.1 15 [.iload_n 3, .iload_n 2, .iconst 4] 18 = true := by decide +kernel
theorem D37_18 : decode T37.2.2.1 18 = .ok (.ishl, 1) := by decide +kernel
theorem B37_19_20 : s_dk T37.2.2.1 19 [.iload_n 1] 20 = true := by decide +kernel
theorem D37_20 : decode T37.2.2.1 20 = .ok (.ior, 1) := by decide +kernel
theorem D37_21 : decode T37.2.2.1 21 = .ok (.iastore, 1) := by decide +kernel
theorem B37_22_26 : s_dk T37.2.2.1 22 [.aload_n 0, .iload_n 3, .iconst 1, .iadd] 26 = true := by decide +kernel
theorem pf_4_40_14 : s_pf 4 40 14 = some (9, 1) := by decide +kernel
theorem D37_26 : decode T37.2.2.1 26 = .ok (.putfield 40, 3) := by decide +kernel
theorem B37_29_30 : s_dk T37.2.2.1 29 [.iload_n 3] 30 = true := by decide +kernel
theorem D37_30 : decode T37.2.2.1 30 = .ok (.ireturn, 1) := by decide +kernel
noncomputable def T38 : mT := (4, yX4_aim, cX4_aim, 2, none)
set_option maxRecDepth 10000 in
theorem TE38 : sy_m[38]? = some T38 := rfl
theorem B38_0_1 : s_dk T38.2.2.1 0 [.aload_n 0] 1 = true := by decide +kernel
theorem D38_1 : decode T38.2.2.1 1 = .ok (.getfield 37, 3) := by decide +kernel
theorem B38_4_6 : s_dk T38.2.2.1 4 [.iload_n 1, .dup2] 6 = true := by decide +kernel
theorem D38_6 : decode T38.2.2.1 6 = .ok (.iaload, 1) := by decide +kernel
theorem B38_7_8 : s_dk T38.2.2.1 7 [.aload_n 0] 8 = true := by decide +kernel
theorem D38_8 : decode T38.2.2.1 8 = .ok (.getfield 40, 3) := by decide +kernel
theorem B38_11_12 : s_dk T38.2.2.1 11 [.iconst 4] 12 = true := by decide +kernel
theorem D38_12 : decode T38.2.2.1 12 = .ok (.ishl, 1) := by decide +kernel
theorem D38_13 : decode T38.2.2.1 13 = .ok (.ior, 1) := by decide +kernel
theorem D38_14 : decode T38.2.2.1 14 = .ok (.iastore, 1) := by decide +kernel
theorem D38_15 : decode T38.2.2.1 15 = .ok (.return_, 1) := by decide +kernel
noncomputable def T34 : mT := (4, yX4_takesSign, cX4_takesSign, 2, (some .boolean))
set_option maxRecDepth 10000 in
theorem TE34 : sy_m[34]? = some T34 := rfl
theorem B34_0_1 : s_dk T34.2.2.1 0 [.aload_n 0] 1 = true := by decide +kernel
theorem gf_4_22_14 : s_gf 4 22 14 = some (3, 1) := by decide +kernel
theorem D34_1 : decode T34.2.2.1 1 = .ok (.getfield 22, 3) := by decide +kernel
theorem B34_4_8 : s_dk T34.2.2.1 4 [.bipush 100, .iload_n 1, .iadd] 8 = true := by decide +kernel
theorem D34_8 : decode T34.2.2.1 8 = .ok (.if_icmp .eq 8, 3) := by decide +kernel
theorem B34_16_17 : s_dk T34.2.2.1 16 [.aload_n 0] 17 = true := by decide +kernel
theorem D34_17 : decode T34.2.2.1 17 = .ok (.invokevirtual 105, 3) := by decide +kernel
theorem ck_4_virtual_105 : m_call 4 (.invokevirtual 105) = some (0, 35, 0) := by decide +kernel
theorem B34_20_21 : s_dk T34.2.2.1 20 [.iconst 1] 21 = true := by decide +kernel
theorem D34_21 : decode T34.2.2.1 21 = .ok (.ireturn, 1) := by decide +kernel
theorem B34_11_12 : s_dk T34.2.2.1 11 [.aload_n 0] 12 = true := by decide +kernel
theorem D34_12 : decode T34.2.2.1 12 = .ok (.invokevirtual 102, 3) := by decide +kernel
theorem ck_4_virtual_102 : m_call 4 (.invokevirtual 102) = some (0, 36, 0) := by decide +kernel
theorem D34_15 : decode T34.2.2.1 15 = .ok (.ireturn, 1) := by decide +kernel
noncomputable def T32 : mT := (4, yX4_takesBracket, cX4_takesBracket, 2, (some .boolean))
set_option maxRecDepth 10000 in
theorem TE32 : sy_m[32]? = some T32 := rfl
theorem B32_0_3 : s_dk T32.2.2.1 0 [.iload_n 1, .bipush 8] 3 = true := by decide +kernel
theorem D32_3 : decode T32.2.2.1 3 = .ok (.if_icmp .lt 8, 3) := by decide +kernel
theorem B32_11_12 : s_dk T32.2.2.1 11 [.aload_n 0] 12 = true := by decide +kernel
theorem D32_12 : decode T32.2.2.1 12 = .ok (.invokevirtual 105, 3) := by decide +kernel
theorem B32_15_16 : s_dk T32.2.2.1 15 [.iconst 1] 16 = true := by decide +kernel
theorem D32_16 : decode T32.2.2.1 16 = .ok (.ireturn, 1) := by decide +kernel
theorem B32_6_7 : s_dk T32.2.2.1 6 [.aload_n 0] 7 = true := by decide +kernel
theorem D32_7 : decode T32.2.2.1 7 = .ok (.invokevirtual 102, 3) := by decide +kernel
theorem D32_10 : decode T32.2.2.1 10 = .ok (.ireturn, 1) := by decide +kernel
noncomputable def T33 : mT := (4, yX4_takesPart, cX4_takesPart, 3, (some .boolean))
set_option maxRecDepth 10000 in
theorem TE33 : sy_m[33]? = some T33 := rfl
theorem B33_0_1 : s_dk T33.2.2.1 0 [.aload_n 0] 1 = true := by decide +kernel
theorem gf_4_25_14 : s_gf 4 25 14 = some (4, 1) := by decide +kernel
theorem D33_1 : decode T33.2.2.1 1 = .ok (.getfield 25, 3) := by decide +kernel
theorem B33_4_6 : s_dk T33.2.2.1 4 [.bipush 50] 6 = true := by decide +kernel
theorem D33_6 : decode T33.2.2.1 6 = .ok (.if_icmp .lt 8, 3) := by decide +kernel
theorem B33_14_16 : s_dk T33.2.2.1 14 [.aload_n 0, .dup] 16 = true := by decide +kernel
theorem D33_16 : decode T33.2.2.1 16 = .ok (.getfield 25, 3) := by decide +kernel
theorem B33_19_21 : s_dk T33.2.2.1 19 [.iconst 1, .iadd] 21 = true := by decide +kernel
theorem pf_4_25_14 : s_pf 4 25 14 = some (4, 1) := by decide +kernel
theorem D33_21 : decode T33.2.2.1 21 = .ok (.putfield 25, 3) := by decide +kernel
theorem B33_24_27 : s_dk T33.2.2.1 24 [.aload_n 0, .iload_n 1, .iload_n 2] 27 = true := by decide +kernel
theorem D33_27 : decode T33.2.2.1 27 = .ok (.invokevirtual 118, 3) := by decide +kernel
theorem ck_4_virtual_118 : m_call 4 (.invokevirtual 118) = some (0, 37, 2) := by decide +kernel
theorem B33_30_32 : s_dk T33.2.2.1 30 [.pop, .aload_n 0] 32 = true := by decide +kernel
theorem D33_32 : decode T33.2.2.1 32 = .ok (.invokevirtual 105, 3) := by decide +kernel
theorem B33_35_36 : s_dk T33.2.2.1 35 [.iconst 1] 36 = true := by decide +kernel
theorem D33_36 : decode T33.2.2.1 36 = .ok (.ireturn, 1) := by decide +kernel
theorem B33_9_10 : s_dk T33.2.2.1 9 [.aload_n 0] 10 = true := by decide +kernel
theorem D33_10 : decode T33.2.2.1 10 = .ok (.invokevirtual 102, 3) := by decide +kernel
theorem D33_13 : decode T33.2.2.1 13 = .ok (.ireturn, 1) := by decide +kernel
noncomputable def T31 : mT := (4, yX4_takesFactor, cX4_takesFactor, 2, (some .boolean))
set_option maxRecDepth 10000 in
theorem TE31 : sy_m[31]? = some T31 := rfl
theorem B31_0_1 : s_dk T31.2.2.1 0 [.aload_n 0] 1 = true := by decide +kernel
theorem D31_1 : decode T31.2.2.1 1 = .ok (.getfield 22, 3) := by decide +kernel
theorem B31_4_7 : s_dk T31.2.2.1 4 [.sipush 191] 7 = true := by decide +kernel
theorem D31_7 : decode T31.2.2.1 7 = .ok (.if_icmp .ne 36, 3) := by decide +kernel
theorem B31_43_44 : s_dk T31.2.2.1 43 [.aload_n 0] 44 = true := by decide +kernel
theorem D31_44 : decode T31.2.2.1 44 = .ok (.getfield 22, 3) := by decide +kernel
theorem B31_47_49 : s_dk T31.2.2.1 47 [.bipush 21] 49 = true := by decide +kernel
theorem D31_49 : decode T31.2.2.1 49 = .ok (.if_icmp .ne 21, 3) := by decide +kernel
theorem B31_70_71 : s_dk T31.2.2.1 70 [.aload_n 0] 71 = true := by decide +kernel
theorem D31_71 : decode T31.2.2.1 71 = .ok (.getfield 22, 3) := by decide +kernel
theorem B31_74_76 : s_dk T31.2.2.1 74 [.bipush 12] 76 = true := by decide +kernel
theorem D31_76 : decode T31.2.2.1 76 = .ok (.if_icmp .lt 25, 3) := by decide +kernel
theorem B31_101_102 : s_dk T31.2.2.1 101 [.aload_n 0] 102 = true := by decide +kernel
theorem D31_102 : decode T31.2.2.1 102 = .ok (.invokevirtual 102, 3) := by decide +kernel
theorem D31_105 : decode T31.2.2.1 105 = .ok (.ireturn, 1) := by decide +kernel
theorem B31_79_80 : s_dk T31.2.2.1 79 [.aload_n 0] 80 = true := by decide +kernel
theorem D31_80 : decode T31.2.2.1 80 = .ok (.getfield 22, 3) := by decide +kernel
theorem B31_83_85 : s_dk T31.2.2.1 83 [.bipush 21] 85 = true := by decide +kernel
theorem D31_85 : decode T31.2.2.1 85 = .ok (.if_icmp .ge 16, 3) := by decide +kernel
theorem B31_88_91 : s_dk T31.2.2.1 88 [.aload_n 0, .iconst 1, .aload_n 0] 91 = true := by decide +kernel
theorem D31_91 : decode T31.2.2.1 91 = .ok (.getfield 22, 3) := by decide +kernel
theorem B31_94_97 : s_dk T31.2.2.1 94 [.bipush 10, .isub] 97 = true := by decide +kernel
theorem D31_97 : decode T31.2.2.1 97 = .ok (.invokevirtual 131, 3) := by decide +kernel
theorem ck_4_virtual_131 : m_call 4 (.invokevirtual 131) = some (0, 33, 2) := by decide +kernel
theorem D31_100 : decode T31.2.2.1 100 = .ok (.ireturn, 1) := by decide +kernel
theorem B31_52_55 : s_dk T31.2.2.1 52 [.aload_n 0, .iconst 0, .aload_n 0] 55 = true := by decide +kernel
theorem D31_55 : decode T31.2.2.1 55 = .ok (.getfield 9, 3) := by decide +kernel
theorem B31_58_59 : s_dk T31.2.2.1 58 [.aload_n 0] 59 = true := by decide +kernel
theorem D31_59 : decode T31.2.2.1 59 = .ok (.getfield 18, 3) := by decide +kernel
theorem D31_62 : decode T31.2.2.1 62 = .ok (.iaload, 1) := by decide +kernel
theorem B31_63_65 : s_dk T31.2.2.1 63 [.bipush 9] 65 = true := by decide +kernel
theorem D31_65 : decode T31.2.2.1 65 = .ok (.ishr, 1) := by decide +kernel
theorem D31_66 : decode T31.2.2.1 66 = .ok (.invokevirtual 131, 3) := by decide +kernel
theorem D31_69 : decode T31.2.2.1 69 = .ok (.ireturn, 1) := by decide +kernel
theorem B31_10_12 : s_dk T31.2.2.1 10 [.aload_n 0, .iload_n 1] 12 = true := by decide +kernel
theorem D31_12 : decode T31.2.2.1 12 = .ok (.invokevirtual 128, 3) := by decide +kernel
theorem ck_4_virtual_128 : m_call 4 (.invokevirtual 128) = some (0, 32, 1) := by decide +kernel
theorem D31_15 : decode T31.2.2.1 15 = .ok (.ifCond .eq 26, 3) := by decide +kernel
theorem B31_41_42 : s_dk T31.2.2.1 41 [.iconst 0] 42 = true := by decide +kernel
theorem D31_42 : decode T31.2.2.1 42 = .ok (.ireturn, 1) := by decide +kernel
theorem B31_18_22 : s_dk T31.2.2.1 18 [.aload_n 0, .iload_n 1, .iconst 1, .iadd] 22 = true := by decide +kernel
theorem D31_22 : decode T31.2.2.1 22 = .ok (.invokevirtual 138, 3) := by decide +kernel
theorem ck_4_virtual_138 : m_call 4 (.invokevirtual 138) = some (0, 29, 1) := by decide +kernel
noncomputable def T29 : mT := (4, yX4_takesSum, cX4_takesSum, 5, (some .boolean))
set_option maxRecDepth 10000 in
theorem TE29 : sy_m[29]? = some T29 := rfl
theorem D31_25 : decode T31.2.2.1 25 = .ok (.ifCond .eq 16, 3) := by decide +kernel
theorem B31_28_31 : s_dk T31.2.2.1 28 [.aload_n 0, .bipush 93] 31 = true := by decide +kernel
theorem D31_31 : decode T31.2.2.1 31 = .ok (.invokevirtual 111, 3) := by decide +kernel
theorem ck_4_virtual_111 : m_call 4 (.invokevirtual 111) = some (0, 34, 1) := by decide +kernel
theorem D31_34 : decode T31.2.2.1 34 = .ok (.ifCond .eq 7, 3) := by decide +kernel
theorem B31_37_38 : s_dk T31.2.2.1 37 [.iconst 1] 38 = true := by decide +kernel
theorem D31_38 : decode T31.2.2.1 38 = .ok (.goto 4, 3) := by decide +kernel
noncomputable def T30 : mT := (4, yX4_takesTerm, cX4_takesTerm, 5, (some .boolean))
set_option maxRecDepth 10000 in
theorem TE30 : sy_m[30]? = some T30 := rfl
theorem B30_0_2 : s_dk T30.2.2.1 0 [.aload_n 0, .iload_n 1] 2 = true := by decide +kernel
theorem D30_2 : decode T30.2.2.1 2 = .ok (.invokevirtual 144, 3) := by decide +kernel
theorem ck_4_virtual_144 : m_call 4 (.invokevirtual 144) = some (0, 31, 1) := by decide +kernel
theorem B30_5_8 : s_dk T30.2.2.1 5 [.istore_n 2, .iconst 0, .istore_n 3] 8 = true := by decide +kernel
theorem B30_8_12 : s_dk T30.2.2.1 8 [.iload_n 3, .sipush 400] 12 = true := by decide +kernel
theorem D30_12 : decode T30.2.2.1 12 = .ok (.if_icmp .ge 68, 3) := by decide +kernel
theorem B30_15_16 : s_dk T30.2.2.1 15 [.iload_n 2] 16 = true := by decide +kernel
theorem D30_16 : decode T30.2.2.1 16 = .ok (.ifCond .eq 64, 3) := by decide +kernel
theorem B30_80_81 : s_dk T30.2.2.1 80 [.iload_n 2] 81 = true := by decide +kernel
theorem D30_81 : decode T30.2.2.1 81 = .ok (.ireturn, 1) := by decide +kernel
theorem B30_19_20 : s_dk T30.2.2.1 19 [.aload_n 0] 20 = true := by decide +kernel
theorem D30_20 : decode T30.2.2.1 20 = .ok (.getfield 22, 3) := by decide +kernel
theorem B30_23_26 : s_dk T30.2.2.1 23 [.sipush 142] 26 = true := by decide +kernel
theorem D30_26 : decode T30.2.2.1 26 = .ok (.if_icmp .eq 13, 3) := by decide +kernel
theorem B30_39_40 : s_dk T30.2.2.1 39 [.aload_n 0] 40 = true := by decide +kernel
theorem D30_40 : decode T30.2.2.1 40 = .ok (.getfield 22, 3) := by decide +kernel
theorem B30_43_46 : s_dk T30.2.2.1 43 [.sipush 142] 46 = true := by decide +kernel
theorem D30_46 : decode T30.2.2.1 46 = .ok (.if_icmp .ne 7, 3) := by decide +kernel
theorem B30_49_50 : s_dk T30.2.2.1 49 [.iconst 4] 50 = true := by decide +kernel
theorem D30_50 : decode T30.2.2.1 50 = .ok (.goto 4, 3) := by decide +kernel
theorem B30_54_57 : s_dk T30.2.2.1 54 [.istore 4, .aload_n 0] 57 = true := by decide +kernel
theorem D30_57 : decode T30.2.2.1 57 = .ok (.invokevirtual 105, 3) := by decide +kernel
theorem B30_60_62 : s_dk T30.2.2.1 60 [.aload_n 0, .iload_n 1] 62 = true := by decide +kernel
theorem D30_62 : decode T30.2.2.1 62 = .ok (.invokevirtual 144, 3) := by decide +kernel
theorem B30_65_70 : s_dk T30.2.2.1 65 [.istore_n 2, .aload_n 0, .iload 4, .iconst 0] 70 = true := by decide +kernel
theorem D30_70 : decode T30.2.2.1 70 = .ok (.invokevirtual 118, 3) := by decide +kernel
theorem B30_73_77 : s_dk T30.2.2.1 73 [.pop, .iinc 3 1] 77 = true := by decide +kernel
theorem D30_77 : decode T30.2.2.1 77 = .ok (.goto (-69), 3) := by decide +kernel
theorem B30_29_30 : s_dk T30.2.2.1 29 [.aload_n 0] 30 = true := by decide +kernel
theorem D30_30 : decode T30.2.2.1 30 = .ok (.getfield 22, 3) := by decide +kernel
theorem B30_33_36 : s_dk T30.2.2.1 33 [.sipush 147] 36 = true := by decide +kernel
theorem D30_36 : decode T30.2.2.1 36 = .ok (.if_icmp .ne 44, 3) := by decide +kernel
theorem B30_53_57 : s_dk T30.2.2.1 53 [.iconst 5, .istore 4, .aload_n 0] 57 = true := by decide +kernel
theorem B29_0_2 : s_dk T29.2.2.1 0 [.aload_n 0, .iload_n 1] 2 = true := by decide +kernel
theorem D29_2 : decode T29.2.2.1 2 = .ok (.invokevirtual 141, 3) := by decide +kernel
theorem ck_4_virtual_141 : m_call 4 (.invokevirtual 141) = some (0, 30, 1) := by decide +kernel
theorem B29_5_8 : s_dk T29.2.2.1 5 [.istore_n 2, .iconst 0, .istore_n 3] 8 = true := by decide +kernel
theorem B29_8_12 : s_dk T29.2.2.1 8 [.iload_n 3, .sipush 400] 12 = true := by decide +kernel
theorem D29_12 : decode T29.2.2.1 12 = .ok (.if_icmp .ge 68, 3) := by decide +kernel
theorem B29_15_16 : s_dk T29.2.2.1 15 [.iload_n 2] 16 = true := by decide +kernel
theorem D29_16 : decode T29.2.2.1 16 = .ok (.ifCond .eq 64, 3) := by decide +kernel
theorem B29_80_81 : s_dk T29.2.2.1 80 [.iload_n 2] 81 = true := by decide +kernel
theorem D29_81 : decode T29.2.2.1 81 = .ok (.ireturn, 1) := by decide +kernel
theorem B29_19_20 : s_dk T29.2.2.1 19 [.aload_n 0] 20 = true := by decide +kernel
theorem D29_20 : decode T29.2.2.1 20 = .ok (.getfield 22, 3) := by decide +kernel
theorem B29_23_26 : s_dk T29.2.2.1 23 [.sipush 143] 26 = true := by decide +kernel
theorem D29_26 : decode T29.2.2.1 26 = .ok (.if_icmp .eq 13, 3) := by decide +kernel
theorem B29_39_40 : s_dk T29.2.2.1 39 [.aload_n 0] 40 = true := by decide +kernel
theorem D29_40 : decode T29.2.2.1 40 = .ok (.getfield 22, 3) := by decide +kernel
theorem B29_43_46 : s_dk T29.2.2.1 43 [.sipush 143] 46 = true := by decide +kernel
theorem D29_46 : decode T29.2.2.1 46 = .ok (.if_icmp .ne 7, 3) := by decide +kernel
theorem B29_49_50 : s_dk T29.2.2.1 49 [.iconst 2] 50 = true := by decide +kernel
theorem D29_50 : decode T29.2.2.1 50 = .ok (.goto 4, 3) := by decide +kernel
theorem B29_54_57 : s_dk T29.2.2.1 54 [.istore 4, .aload_n 0] 57 = true := by decide +kernel
theorem D29_57 : decode T29.2.2.1 57 = .ok (.invokevirtual 105, 3) := by decide +kernel
theorem B29_60_62 : s_dk T29.2.2.1 60 [.aload_n 0, .iload_n 1] 62 = true := by decide +kernel
theorem D29_62 : decode T29.2.2.1 62 = .ok (.invokevirtual 141, 3) := by decide +kernel
theorem B29_65_70 : s_dk T29.2.2.1 65 [.istore_n 2, .aload_n 0, .iload 4, .iconst 0] 70 = true := by decide +kernel
theorem D29_70 : decode T29.2.2.1 70 = .ok (.invokevirtual 118, 3) := by decide +kernel
theorem B29_73_77 : s_dk T29.2.2.1 73 [.pop, .iinc 3 1] 77 = true := by decide +kernel
theorem D29_77 : decode T29.2.2.1 77 = .ok (.goto (-69), 3) := by decide +kernel
theorem B29_29_30 : s_dk T29.2.2.1 29 [.aload_n 0] 30 = true := by decide +kernel
theorem D29_30 : decode T29.2.2.1 30 = .ok (.getfield 22, 3) := by decide +kernel
theorem B29_33_36 : s_dk T29.2.2.1 33 [.sipush 145] 36 = true := by decide +kernel
theorem D29_36 : decode T29.2.2.1 36 = .ok (.if_icmp .ne 44, 3) := by decide +kernel
theorem B29_53_57 : s_dk T29.2.2.1 53 [.iconst 3, .istore 4, .aload_n 0] 57 = true := by decide +kernel
set_option maxRecDepth 4000 in
theorem k36_14x {base : Nat} {X : Nat → Option mC} {G : Nat → Value} (E : EnvOK base X G) {d : Nat} (hd : 0 ≤ d) {M : mH} (H : HI base M) : sOk base X G d T36 [vR 14] M (pI (fun v M' => HI base M' ∧ Fr [(14, 11)] M M' ∧ (v = 0 ∨ v = 1) ∧ (v = 0))) := by
  have f0 : Fr [(14, 11)] M M := Fr.rf
  refine sOk.of (show sRn base X G d T36 0 [(0, vR 14)] [] M _ from ?_)
  refine s_blx (lv' := [(0, vR 14)]) (st' := [vR 14, vR 14]) B36_0_2 rfl ?_
  refine r_gfix (r := 16) (pc' := 5) D36_2 rfl gf_4_15_14 H.1 ?_
  refine s_blx (lv' := [(0, vR 14)]) (st' := [vR 14, vR 16, vR 14]) B36_5_6 rfl ?_
  refine r_gint (ki := 2) (pc' := 9) D36_6 rfl gf_4_18_14 rfl H.1 ?_
  intro w1 e2 r3
  have b_w1 := H.2 14 (2) 0 400 rfl
  rw [← e2] at b_w1; clear r3
  refine r_iald (pc' := 10) D36_9 rfl sc_16 H.1 (by omega) ?_
  intro w4 e5 r6
  unfold inR at r6
  refine r_pint (ki := 10) (pc' := 13) D36_10 rfl pf_4_43_14 rfl H (by unfold inR; omega) trivial ?_
  intro M7 u8 H9 p10
  have f11 := f0.wr u8 rfl
  refine s_blx (lv' := [(0, vR 14)]) (st' := [vI 0]) B36_13_14 rfl ?_
  exact r_zretI D36_14 rfl (by omega) (⟨H9, f11, by omega, by omega⟩)
set_option maxRecDepth 4000 in
theorem k35_14x {base : Nat} {X : Nat → Option mC} {G : Nat → Value} (E : EnvOK base X G) {d : Nat} (hd : 0 ≤ d) {M : mH} (H : HI base M) (ct : Int) (at_ : Int) (kd : Int) (h0 : gi M 15 ct = 22) (h1 : 0 ≤ ct ∧ ct ≤ 400) (h2 : gi M 14 2 = at_) (h3 : gi M 14 3 = kd) (h4 : 0 ≤ at_ ∧ at_ ≤ ct) (h5 : at_ = ct → kd = 22) (h6 : 0 ≤ kd ∧ kd ≤ 511) (h7 : kd ≠ 22) : sOk base X G d T35 [vR 14] M (pV (fun M' => HI base M' ∧ Fr [(14, 3), (14, 4)] M M' ∧ (gi M' 14 2 = at_ + 1) ∧ (at_ + 1 ≤ ct) ∧ (at_ + 1 = ct → gi M' 14 3 = 22) ∧ (0 ≤ gi M' 14 3 ∧ gi M' 14 3 ≤ 511))) := by
  have f0 : Fr [(14, 3), (14, 4)] M M := Fr.rf
  refine sOk.of (show sRn base X G d T35 0 [(0, vR 14)] [] M _ from ?_)
  refine s_blx (lv' := [(0, vR 14)]) (st' := [vR 14, vR 14]) B35_0_2 rfl ?_
  refine r_gint (ki := 2) (pc' := 5) D35_2 rfl gf_4_18_14 rfl H.1 ?_
  intro w1 e2 r3
  have e4 : at_ = w1 := (e2.trans (h2)).symm
  subst e4
  refine s_blx (lv' := [(0, vR 14)]) (st' := [vI 400, vI (at_ + 1), vR 14]) B35_5_10 rfl ?_
  refine r_min (pc' := 13) D35_10 rfl mc_4_static_46 sp_4_46 (Nat.le_of_ble_eq_true rfl) (by unfold inR; omega) ?_
  intro z5 r6 r7 r8
  refine r_pint (ki := 2) (pc' := 16) D35_13 rfl pf_4_18_14 rfl H (by unfold inR; omega) (show 0 ≤ z5 ∧ z5 ≤ 400 by omega) ?_
  intro M9 u10 H11 p12
  have f13 := f0.wr u10 rfl
  refine s_blx (lv' := [(0, vR 14)]) (st' := [vR 14, vR 14]) B35_16_18 rfl ?_
  refine r_gfix (r := 15) (pc' := 21) D35_18 rfl gf_4_9_14 H11.1 ?_
  refine s_blx (lv' := [(0, vR 14)]) (st' := [vR 14, vR 15, vR 14]) B35_21_22 rfl ?_
  refine r_gint (ki := 2) (pc' := 25) D35_22 rfl gf_4_18_14 rfl H11.1 ?_
  intro w14 e15 r16
  have e17 : z5 = w14 := (e15.trans (p12)).symm
  subst e17
  refine r_iald (pc' := 26) D35_25 rfl sc_15 H11.1 (by omega) ?_
  intro w18 e19 r20
  have b_w18 := H11.2 15 (z5) 0 60000000 rfl
  rw [← e19] at b_w18; clear r20
  have kt : at_ + 1 = ct → w18 = 22 := fun h => by rw [e19, show z5 = ct by omega]; exact (((u10.gi_ne (by decide) (Or.inl (by decide))).trans (rfl))).trans h0
  refine s_blx (lv' := [(0, vR 14)]) (st' := [vI 511, vI w18, vR 14]) B35_26_29 rfl ?_
  refine r_and511 (pc' := 30) D35_29 rfl ?_
  refine r_pint (ki := 3) (pc' := 33) D35_30 rfl pf_4_22_14 rfl H11 (by unfold inR; omega) (show 0 ≤ (w18 % 512) ∧ (w18 % 512) ≤ 511 by omega) ?_
  intro M21 u22 H23 p24
  have f25 := f13.wr u22 rfl
  have g26 : gi M21 14 2 = z5 := (u22.gi_ne (by decide) (Or.inr (by decide))).trans (p12)
  have g27 : gi M21 14 3 = w18 % 512 := p24
  exact r_retV D35_33 rfl (⟨H23, f25, by rw [g26]; omega, by omega, by rw [g27]; omega, by rw [g27]; omega⟩)
set_option maxRecDepth 4000 in
theorem k37_14x {base : Nat} {X : Nat → Option mC} {G : Nat → Value} (E : EnvOK base X G) {d : Nat} (hd : 0 ≤ d) {M : mH} (H : HI base M) (operation : Int) (operand : Int) (us : Int) (h0 : gi M 14 9 = us) (h1 : 0 ≤ us ∧ us ≤ 399) (h2 : 0 ≤ operation ∧ operation ≤ 15) (h3 : 0 ≤ operand ∧ operand ≤ 120000) (h4 : operation = 1 → operand ≤ 10) (h5 : CD us M) : sOk base X G d T37 [vR 14, vI operation, vI operand] M (pI (fun v M' => HI base M' ∧ Fr [(14, 10), (19, 0)] M M' ∧ (v = us) ∧ (gi M' 14 9 = us + 1) ∧ (gi M' 19 us = operand * 16 + operation) ∧ (CD (gi M' 14 9) M') ∧ (∀ j : Int, 0 ≤ j → j < us → gi M' 19 j = gi M 19 j))) := by
  have f0 : Fr [(14, 10), (19, 0)] M M := Fr.rf
  refine sOk.of (show sRn base X G d T37 0 [(0, vR 14), (1, vI operation), (2, vI operand)] [] M _ from ?_)
  refine s_blx (lv' := [(0, vR 14), (1, vI operation), (2, vI operand)]) (st' := [vR 14]) B37_0_1 rfl ?_
  refine r_gint (ki := 9) (pc' := 4) D37_1 rfl gf_4_40_14 rfl H.1 ?_
  intro w1 e2 r3
  have e4 : us = w1 := (e2.trans (h0)).symm
  subst e4
  refine s_blx (lv' := [(0, vR 14), (1, vI operation), (2, vI operand)]) (st' := [vI 399, vI us]) B37_4_7 rfl ?_
  refine r_min (pc' := 10) D37_7 rfl mc_4_static_46 sp_4_46 (Nat.le_of_ble_eq_true rfl) (by unfold inR; omega) ?_
  intro z5 r6 r7 r8
  refine s_blx (lv' := [(3, vI z5), (0, vR 14), (1, vI operation), (2, vI operand)]) (st' := [vR 14]) B37_10_12 rfl ?_
  refine r_gfix (r := 19) (pc' := 15) D37_12 rfl gf_4_37_14 H.1 ?_
  refine s_blx (lv' := [(3, vI z5), (0, vR 14), (1, vI operation), (2, vI operand)]) (st' := [vI 4, vI operand, vI z5, vR 19]) B37_15_18 rfl ?_
  refine r_shl4 (pc' := 19) D37_18 rfl ?_
  refine s_blx (lv' := [(3, vI z5), (0, vR 14), (1, vI operation), (2, vI operand)]) (st' := [vI operation, vI (operand * 16), vI z5, vR 19]) B37_19_20 rfl ?_
  refine r_bin (pc' := 21) D37_20 rfl rfl ?_
  intro z9 r10 kq; unfold inR at r10
  have kz := or16_of (by unfold inR; omega) kq (by omega) (by omega) (by omega)
  refine r_iast (pc' := 22) D37_21 rfl sc_19 H (by omega) (by unfold inR; omega) trivial ?_
  intro M11 u12 H13 p14
  have f15 := f0.wr u12 rfl
  have ku := u12
  have kp := p14
  have kuz : z5 = us := by omega
  rw [kuz] at ku kp
  have kcd := h5.put (by omega) ku kp (by omega)
  refine s_blx (lv' := [(3, vI z5), (0, vR 14), (1, vI operation), (2, vI operand)]) (st' := [vI (z5 + 1), vR 14]) B37_22_26 rfl ?_
  refine r_pint (ki := 9) (pc' := 29) D37_26 rfl pf_4_40_14 rfl H13 (by unfold inR; omega) (show 0 ≤ (z5 + 1) ∧ (z5 + 1) ≤ 400 by omega) ?_
  intro M16 u17 H18 p19
  have f20 := f15.wr u17 rfl
  have hp21 := kcd.wr u17 (by decide)
  refine s_blx (lv' := [(3, vI z5), (0, vR 14), (1, vI operation), (2, vI operand)]) (st' := [vI z5]) B37_29_30 rfl ?_
  have g22 : gi M16 14 9 = z5 + 1 := p19
  exact r_iretI D37_30 rfl (⟨H18, f20, by omega, by rw [g22]; omega, by rw [u17.gi_ne (by omega) (Or.inl (by decide)), kp]; omega, by rw [(p19), show (z5 + 1) = us + 1 by omega]; exact hp21, fun j a b => by rw [u17.gi_ne (by omega) (Or.inl (by decide)), ku.gi_ne (by omega) (Or.inr (by omega))]⟩)
set_option maxRecDepth 4000 in
theorem k38_14x {base : Nat} {X : Nat → Option mC} {G : Nat → Value} (E : EnvOK base X G) {d : Nat} (hd : 0 ≤ d) {M : mH} (H : HI base M) (jump : Int) (us : Int) (h0 : gi M 14 9 = us) (h1 : 0 ≤ us ∧ us ≤ 400) (h2 : 0 ≤ jump ∧ jump < us) (h3 : gi M 19 jump = 10 ∨ gi M 19 jump = 11) (h4 : CD us M) : sOk base X G d T38 [vR 14, vI jump] M (pV (fun M' => HI base M' ∧ Fr [(19, 0)] M M' ∧ (CD us M') ∧ (∀ j : Int, 0 ≤ j → j ≠ jump → gi M' 19 j = gi M 19 j))) := by
  have f0 : Fr [(19, 0)] M M := Fr.rf
  refine sOk.of (show sRn base X G d T38 0 [(0, vR 14), (1, vI jump)] [] M _ from ?_)
  refine s_blx (lv' := [(0, vR 14), (1, vI jump)]) (st' := [vR 14]) B38_0_1 rfl ?_
  refine r_gfix (r := 19) (pc' := 4) D38_1 rfl gf_4_37_14 H.1 ?_
  refine s_blx (lv' := [(0, vR 14), (1, vI jump)]) (st' := [vI jump, vR 19, vI jump, vR 19]) B38_4_6 rfl ?_
  refine r_iald (pc' := 7) D38_6 rfl sc_19 H.1 (by omega) ?_
  intro w1 e2 r3
  unfold inR at r3
  have kw : w1 = 10 ∨ w1 = 11 := by omega
  refine s_blx (lv' := [(0, vR 14), (1, vI jump)]) (st' := [vR 14, vI w1, vI jump, vR 19]) B38_7_8 rfl ?_
  refine r_gint (ki := 9) (pc' := 11) D38_8 rfl gf_4_40_14 rfl H.1 ?_
  intro w4 e5 r6
  have e7 : us = w4 := (e5.trans (h0)).symm
  subst e7
  refine s_blx (lv' := [(0, vR 14), (1, vI jump)]) (st' := [vI 4, vI us, vI w1, vI jump, vR 19]) B38_11_12 rfl ?_
  refine r_shl4 (pc' := 13) D38_12 rfl ?_
  refine r_bin (pc' := 14) D38_13 rfl rfl ?_
  intro z8 r9 kq; unfold inR at r9
  have kz := or16_of' (by unfold inR; omega) kq (by omega) (by omega) (by omega)
  refine r_iast (pc' := 15) D38_14 rfl sc_19 H (by omega) (by unfold inR; omega) trivial ?_
  intro M10 u11 H12 p13
  have f14 := f0.wr u11 rfl
  have ku := u11
  have kcd := h4.set (by omega) u11 p13 (by omega)
  exact r_retV D38_15 rfl (⟨H12, f14, kcd, fun j a b => ku.gi_ne (by omega) (Or.inr b)⟩)
set_option maxRecDepth 4000 in
theorem k34_14x {base : Nat} {X : Nat → Option mC} {G : Nat → Value} (E : EnvOK base X G) {d : Nat} (hd : 1 ≤ d) {M : mH} (H : HI base M) (sign : Int) (ct : Int) (at_ : Int) (kd : Int) (h0 : gi M 15 ct = 22) (h1 : 0 ≤ ct ∧ ct ≤ 400) (h2 : gi M 14 2 = at_) (h3 : gi M 14 3 = kd) (h4 : 0 ≤ at_ ∧ at_ ≤ ct) (h5 : at_ = ct → kd = 22) (h6 : 0 ≤ kd ∧ kd ≤ 511) (h7 : 0 ≤ sign ∧ sign ≤ 127) : sOk base X G d T34 [vR 14, vI sign] M (pI (fun v M' => HI base M' ∧ Fr [(14, 3), (14, 4), (14, 11)] M M' ∧ (v = 0 ∨ v = 1) ∧ (at_ ≤ gi M' 14 2 ∧ gi M' 14 2 ≤ ct) ∧ (gi M' 14 2 = ct → gi M' 14 3 = 22) ∧ (0 ≤ gi M' 14 3 ∧ gi M' 14 3 ≤ 511))) := by
  have f0 : Fr [(14, 3), (14, 4), (14, 11)] M M := Fr.rf
  refine sOk.of (show sRn base X G d T34 0 [(0, vR 14), (1, vI sign)] [] M _ from ?_)
  refine s_blx (lv' := [(0, vR 14), (1, vI sign)]) (st' := [vR 14]) B34_0_1 rfl ?_
  refine r_gint (ki := 3) (pc' := 4) D34_1 rfl gf_4_22_14 rfl H.1 ?_
  intro w1 e2 r3
  have e4 : kd = w1 := (e2.trans (h3)).symm
  subst e4
  refine s_blx (lv' := [(0, vR 14), (1, vI sign)]) (st' := [vI (100 + sign), vI kd]) B34_4_8 rfl ?_
  refine r_icmp (tgt := 16) (pc' := 11) D34_8 rfl rfl (by unfold inR; omega) (fun (c5 : kd = (100 + sign)) => ?_) (fun (c5 : ¬ (kd = (100 + sign))) => ?_)
  · refine s_blx (lv' := [(0, vR 14), (1, vI sign)]) (st' := [vR 14]) B34_16_17 rfl ?_
    have g6 : gi M 14 2 = at_ := h2
    have g7 : gi M 14 3 = kd := h3
    refine r_vV (c := 14) (args := []) (rest := []) (pc' := 20) D34_17 rfl ck_4_virtual_105 TE35 rfl (Nat.le_of_ble_eq_true rfl) ⟨Nat.le_of_ble_eq_true rfl, Nat.le_of_ble_eq_true rfl⟩ sc_14 ⟨rfl, by decide⟩ H.1 (dp_0 hd rfl) (k35_14x E (dp_n hd rfl) H ct at_ kd (by omega) (by omega) (by omega) (by omega) (by omega) (by omega) (by omega) (by omega)) ?_
    intro M9 q16
    obtain ⟨H10, f11, q12, q13, q14, q15⟩ := q16
    have f17 := f0.tr (f11.up rfl)
    obtain ⟨t18, ht19⟩ : ∃ q, q = gi M9 14 2 := ⟨_, rfl⟩
    have b_t18 := H10.2 14 2 0 400 rfl
    rw [← ht19] at b_t18
    obtain ⟨t20, ht21⟩ : ∃ q, q = gi M9 14 3 := ⟨_, rfl⟩
    have b_t20 := H10.2 14 3 0 511 rfl
    rw [← ht21] at b_t20
    rw [← ht19] at q12
    rw [← ht21] at q14
    rw [← ht21] at q15
    refine s_blx (lv' := [(0, vR 14), (1, vI sign)]) (st' := [vI 1]) B34_20_21 rfl ?_
    have g22 : gi M9 14 2 = t18 := ht19.symm
    have g23 : gi M9 14 3 = t20 := ht21.symm
    exact r_zretI D34_21 rfl (by omega) (⟨H10, f17, by omega, by rw [g22]; omega, by rw [g22, g23]; omega, by rw [g23]; omega⟩)
  · refine s_blx (lv' := [(0, vR 14), (1, vI sign)]) (st' := [vR 14]) B34_11_12 rfl ?_
    refine r_vI (c := 14) (args := []) (rest := []) (pc' := 15) D34_12 rfl ck_4_virtual_102 TE36 rfl (Nat.le_of_ble_eq_true rfl) ⟨Nat.le_of_ble_eq_true rfl, Nat.le_of_ble_eq_true rfl⟩ sc_14 ⟨rfl, by decide⟩ H.1 (dp_0 hd rfl) (k36_14x E (dp_n hd rfl) H ) ?_
    intro v24 M25 q30
    obtain ⟨H26, f27, q28, q29⟩ := q30
    have f31 := f0.tr (f27.up rfl)
    have g32 : gi M25 14 2 = at_ := (f27.g rfl).trans (h2)
    have g33 : gi M25 14 3 = kd := (f27.g rfl).trans (h3)
    exact r_zretI D34_15 rfl (by omega) (⟨H26, f31, by omega, by rw [g32]; omega, by rw [g32, g33]; omega, by rw [g33]; omega⟩)
set_option maxRecDepth 4000 in
theorem k32_14x {base : Nat} {X : Nat → Option mC} {G : Nat → Value} (E : EnvOK base X G) {d : Nat} (hd : 1 ≤ d) {M : mH} (H : HI base M) (depth : Int) (ct : Int) (at_ : Int) (kd : Int) (h0 : gi M 15 ct = 22) (h1 : 0 ≤ ct ∧ ct ≤ 400) (h2 : gi M 14 2 = at_) (h3 : gi M 14 3 = kd) (h4 : 0 ≤ at_ ∧ at_ ≤ ct) (h5 : at_ = ct → kd = 22) (h6 : 0 ≤ kd ∧ kd ≤ 511) (h7 : 0 ≤ depth ∧ depth ≤ 8) (h8 : kd ≠ 22) : sOk base X G d T32 [vR 14, vI depth] M (pI (fun v M' => HI base M' ∧ Fr [(14, 3), (14, 4), (14, 11)] M M' ∧ (v = 0 ∨ v = 1) ∧ (at_ ≤ gi M' 14 2 ∧ gi M' 14 2 ≤ ct) ∧ (gi M' 14 2 = ct → gi M' 14 3 = 22) ∧ (0 ≤ gi M' 14 3 ∧ gi M' 14 3 ≤ 511) ∧ (v = 1 → depth ≤ 7))) := by
  have f0 : Fr [(14, 3), (14, 4), (14, 11)] M M := Fr.rf
  refine sOk.of (show sRn base X G d T32 0 [(0, vR 14), (1, vI depth)] [] M _ from ?_)
  refine s_blx (lv' := [(0, vR 14), (1, vI depth)]) (st' := [vI 8, vI depth]) B32_0_3 rfl ?_
  refine r_icmp (tgt := 11) (pc' := 6) D32_3 rfl rfl (by unfold inR; omega) (fun (c1 : depth < 8) => ?_) (fun (c1 : ¬ (depth < 8)) => ?_)
  · refine s_blx (lv' := [(0, vR 14), (1, vI depth)]) (st' := [vR 14]) B32_11_12 rfl ?_
    have g2 : gi M 14 2 = at_ := h2
    have g3 : gi M 14 3 = kd := h3
    refine r_vV (c := 14) (args := []) (rest := []) (pc' := 15) D32_12 rfl ck_4_virtual_105 TE35 rfl (Nat.le_of_ble_eq_true rfl) ⟨Nat.le_of_ble_eq_true rfl, Nat.le_of_ble_eq_true rfl⟩ sc_14 ⟨rfl, by decide⟩ H.1 (dp_0 hd rfl) (k35_14x E (dp_n hd rfl) H ct at_ kd (by omega) (by omega) (by omega) (by omega) (by omega) (by omega) (by omega) (by omega)) ?_
    intro M5 q12
    obtain ⟨H6, f7, q8, q9, q10, q11⟩ := q12
    have f13 := f0.tr (f7.up rfl)
    obtain ⟨t14, ht15⟩ : ∃ q, q = gi M5 14 2 := ⟨_, rfl⟩
    have b_t14 := H6.2 14 2 0 400 rfl
    rw [← ht15] at b_t14
    obtain ⟨t16, ht17⟩ : ∃ q, q = gi M5 14 3 := ⟨_, rfl⟩
    have b_t16 := H6.2 14 3 0 511 rfl
    rw [← ht17] at b_t16
    rw [← ht15] at q8
    rw [← ht17] at q10
    rw [← ht17] at q11
    refine s_blx (lv' := [(0, vR 14), (1, vI depth)]) (st' := [vI 1]) B32_15_16 rfl ?_
    have g18 : gi M5 14 2 = t14 := ht15.symm
    have g19 : gi M5 14 3 = t16 := ht17.symm
    exact r_zretI D32_16 rfl (by omega) (⟨H6, f13, by omega, by rw [g18]; omega, by rw [g18, g19]; omega, by rw [g19]; omega, by omega⟩)
  · refine s_blx (lv' := [(0, vR 14), (1, vI depth)]) (st' := [vR 14]) B32_6_7 rfl ?_
    refine r_vI (c := 14) (args := []) (rest := []) (pc' := 10) D32_7 rfl ck_4_virtual_102 TE36 rfl (Nat.le_of_ble_eq_true rfl) ⟨Nat.le_of_ble_eq_true rfl, Nat.le_of_ble_eq_true rfl⟩ sc_14 ⟨rfl, by decide⟩ H.1 (dp_0 hd rfl) (k36_14x E (dp_n hd rfl) H ) ?_
    intro v20 M21 q26
    obtain ⟨H22, f23, q24, q25⟩ := q26
    have f27 := f0.tr (f23.up rfl)
    have g28 : gi M21 14 2 = at_ := (f23.g rfl).trans (h2)
    have g29 : gi M21 14 3 = kd := (f23.g rfl).trans (h3)
    exact r_zretI D32_10 rfl (by omega) (⟨H22, f27, by omega, by rw [g28]; omega, by rw [g28, g29]; omega, by rw [g29]; omega, by omega⟩)
set_option maxRecDepth 4000 in
theorem k33_14x {base : Nat} {X : Nat → Option mC} {G : Nat → Value} (E : EnvOK base X G) {d : Nat} (hd : 1 ≤ d) {M : mH} (H : HI base M) (operation : Int) (operand : Int) (ct : Int) (at_ : Int) (kd : Int) (us : Int) (h0 : gi M 15 ct = 22) (h1 : 0 ≤ ct ∧ ct ≤ 400) (h2 : gi M 14 2 = at_) (h3 : gi M 14 3 = kd) (h4 : 0 ≤ at_ ∧ at_ ≤ ct) (h5 : at_ = ct → kd = 22) (h6 : 0 ≤ kd ∧ kd ≤ 511) (h7 : gi M 14 9 = us) (h8 : 0 ≤ us ∧ us ≤ at_) (h9 : kd ≠ 22) (h10 : 0 ≤ operation ∧ operation ≤ 1) (h11 : 0 ≤ operand ∧ operand ≤ 120000) (h12 : operation = 1 → operand ≤ 10) (h13 : CD us M) : sOk base X G d T33 [vR 14, vI operation, vI operand] M (pI (fun v M' => HI base M' ∧ Fr [(14, 3), (14, 4), (14, 5), (14, 10), (14, 11), (19, 0)] M M' ∧ (v = 0 ∨ v = 1) ∧ (at_ ≤ gi M' 14 2 ∧ gi M' 14 2 ≤ ct) ∧ (gi M' 14 2 = ct → gi M' 14 3 = 22) ∧ (0 ≤ gi M' 14 3 ∧ gi M' 14 3 ≤ 511) ∧ (us ≤ gi M' 14 9 ∧ gi M' 14 9 - us ≤ gi M' 14 2 - at_) ∧ (CD (gi M' 14 9) M') ∧ (∀ j : Int, 0 ≤ j → j < us → gi M' 19 j = gi M 19 j))) := by
  have f0 : Fr [(14, 3), (14, 4), (14, 5), (14, 10), (14, 11), (19, 0)] M M := Fr.rf
  refine sOk.of (show sRn base X G d T33 0 [(0, vR 14), (1, vI operation), (2, vI operand)] [] M _ from ?_)
  refine s_blx (lv' := [(0, vR 14), (1, vI operation), (2, vI operand)]) (st' := [vR 14]) B33_0_1 rfl ?_
  refine r_gint (ki := 4) (pc' := 4) D33_1 rfl gf_4_25_14 rfl H.1 ?_
  intro w1 e2 r3
  have b_w1 := H.2 14 (4) 0 50 rfl
  rw [← e2] at b_w1; clear r3
  refine s_blx (lv' := [(0, vR 14), (1, vI operation), (2, vI operand)]) (st' := [vI 50, vI w1]) B33_4_6 rfl ?_
  refine r_icmp (tgt := 14) (pc' := 9) D33_6 rfl rfl (by unfold inR; omega) (fun (c4 : w1 < 50) => ?_) (fun (c4 : ¬ (w1 < 50)) => ?_)
  · refine s_blx (lv' := [(0, vR 14), (1, vI operation), (2, vI operand)]) (st' := [vR 14, vR 14]) B33_14_16 rfl ?_
    refine r_gint (ki := 4) (pc' := 19) D33_16 rfl gf_4_25_14 rfl H.1 ?_
    intro w5 e6 r7
    have e8 : w1 = w5 := (e6.trans (e2.symm)).symm
    subst e8
    refine s_blx (lv' := [(0, vR 14), (1, vI operation), (2, vI operand)]) (st' := [vI (w1 + 1), vR 14]) B33_19_21 rfl ?_
    refine r_pint (ki := 4) (pc' := 24) D33_21 rfl pf_4_25_14 rfl H (by unfold inR; omega) (show 0 ≤ (w1 + 1) ∧ (w1 + 1) ≤ 50 by omega) ?_
    intro M9 u10 H11 p12
    have f13 := f0.wr u10 rfl
    have hp14 := h13.wr u10 (by decide)
    have hp15 := (CZ.refl (n := us) (M := M)).wr u10 (by decide)
    refine s_blx (lv' := [(0, vR 14), (1, vI operation), (2, vI operand)]) (st' := [vI operand, vI operation, vR 14]) B33_24_27 rfl ?_
    have g16 : gi M9 14 9 = us := (u10.gi_ne (by decide) (Or.inr (by decide))).trans (h7)
    refine r_vI (c := 14) (args := [vI operation, vI operand]) (rest := []) (pc' := 30) D33_27 rfl ck_4_virtual_118 TE37 rfl (Nat.le_of_ble_eq_true rfl) ⟨Nat.le_of_ble_eq_true rfl, Nat.le_of_ble_eq_true rfl⟩ sc_14 ⟨rfl, by decide⟩ H11.1 (dp_0 hd rfl) (k37_14x E (dp_n hd rfl) H11 operation operand us (by omega) (by omega) (by omega) (by omega) (by omega) (hp14)) ?_
    intro v17 M18 q26
    obtain ⟨H19, f20, q21, q22, q23, q24, q25⟩ := q26
    have f27 := f13.tr (f20.up rfl)
    have hp28 := hp15.sm q25 (by omega)
    obtain ⟨t29, ht30⟩ : ∃ q, q = gi M18 14 9 := ⟨_, rfl⟩
    have b_t29 := H19.2 14 9 0 400 rfl
    rw [← ht30] at b_t29
    rw [← ht30] at q22
    rw [← ht30] at q24
    refine s_blx (lv' := [(0, vR 14), (1, vI operation), (2, vI operand)]) (st' := [vR 14]) B33_30_32 rfl ?_
    have g31 : gi M18 15 ct = gi M 15 ct := (f20.g rfl).trans ((u10.gi_ne (by decide) (Or.inl (by decide))).trans (rfl))
    have g32 : gi M18 14 2 = at_ := (f20.g rfl).trans ((u10.gi_ne (by decide) (Or.inr (by decide))).trans (h2))
    have g33 : gi M18 14 3 = kd := (f20.g rfl).trans ((u10.gi_ne (by decide) (Or.inr (by decide))).trans (h3))
    refine r_vV (c := 14) (args := []) (rest := []) (pc' := 35) D33_32 rfl ck_4_virtual_105 TE35 rfl (Nat.le_of_ble_eq_true rfl) ⟨Nat.le_of_ble_eq_true rfl, Nat.le_of_ble_eq_true rfl⟩ sc_14 ⟨rfl, by decide⟩ H19.1 (dp_0 hd rfl) (k35_14x E (dp_n hd rfl) H19 ct at_ kd (by omega) (by omega) (by omega) (by omega) (by omega) (by omega) (by omega) (by omega)) ?_
    intro M35 q42
    obtain ⟨H36, f37, q38, q39, q40, q41⟩ := q42
    have f43 := f27.tr (f37.up rfl)
    have hp44 := hp28.fr f37 (by decide)
    have hp45 := q24.fr f37 (by decide)
    obtain ⟨t46, ht47⟩ : ∃ q, q = gi M35 14 2 := ⟨_, rfl⟩
    have b_t46 := H36.2 14 2 0 400 rfl
    rw [← ht47] at b_t46
    obtain ⟨t48, ht49⟩ : ∃ q, q = gi M35 14 3 := ⟨_, rfl⟩
    have b_t48 := H36.2 14 3 0 511 rfl
    rw [← ht49] at b_t48
    rw [← ht47] at q38
    rw [← ht49] at q40
    rw [← ht49] at q41
    refine s_blx (lv' := [(0, vR 14), (1, vI operation), (2, vI operand)]) (st' := [vI 1]) B33_35_36 rfl ?_
    have g50 : gi M35 14 2 = t46 := ht47.symm
    have g51 : gi M35 14 3 = t48 := ht49.symm
    have g52 : gi M35 14 9 = t29 := (f37.g rfl).trans (ht30.symm)
    exact r_zretI D33_36 rfl (by omega) (⟨H36, f43, by omega, by rw [g50]; omega, by rw [g50, g51]; omega, by rw [g51]; omega, by rw [g50, g52]; omega, by rw [((f37.g rfl).trans (ht30.symm))]; exact hp45, hp44⟩)
  · refine s_blx (lv' := [(0, vR 14), (1, vI operation), (2, vI operand)]) (st' := [vR 14]) B33_9_10 rfl ?_
    refine r_vI (c := 14) (args := []) (rest := []) (pc' := 13) D33_10 rfl ck_4_virtual_102 TE36 rfl (Nat.le_of_ble_eq_true rfl) ⟨Nat.le_of_ble_eq_true rfl, Nat.le_of_ble_eq_true rfl⟩ sc_14 ⟨rfl, by decide⟩ H.1 (dp_0 hd rfl) (k36_14x E (dp_n hd rfl) H ) ?_
    intro v53 M54 q59
    obtain ⟨H55, f56, q57, q58⟩ := q59
    have f60 := f0.tr (f56.up rfl)
    have hp61 := h13.fr f56 (by decide)
    have hp62 := (CZ.refl (n := us) (M := M)).fr f56 (by decide)
    have g63 : gi M54 14 2 = at_ := (f56.g rfl).trans (h2)
    have g64 : gi M54 14 3 = kd := (f56.g rfl).trans (h3)
    have g65 : gi M54 14 9 = us := (f56.g rfl).trans (h7)
    exact r_zretI D33_13 rfl (by omega) (⟨H55, f60, by omega, by rw [g63]; omega, by rw [g63, g64]; omega, by rw [g64]; omega, by rw [g63, g65]; omega, by rw [((f56.g rfl).trans (h7))]; exact hp61, hp62⟩)
set_option maxRecDepth 4000 in
theorem k31_14x {base : Nat} {X : Nat → Option mC} {G : Nat → Value} (E : EnvOK base X G) {rr : Nat} (ihr : ∀ {d : Nat} (_ : 2 + 3 * rr ≤ d) {M : mH} (_ : HI base M) (depth : Int) (ct : Int) (at_ : Int) (kd : Int) (us : Int), (gi M 15 ct = 22) → (0 ≤ ct ∧ ct ≤ 400) → (gi M 14 2 = at_) → (gi M 14 3 = kd) → (0 ≤ at_ ∧ at_ ≤ ct) → (at_ = ct → kd = 22) → (0 ≤ kd ∧ kd ≤ 511) → (gi M 14 9 = us) → (0 ≤ us ∧ us ≤ at_) → (0 ≤ depth ∧ depth ≤ 8) → (CD us M) → 8 - depth < ((rr : Nat) : Int) → sOk base X G d T29 [vR 14, vI depth] M (pI (fun v M' => HI base M' ∧ Fr [(14, 3), (14, 4), (14, 5), (14, 10), (14, 11), (19, 0)] M M' ∧ (v = 0 ∨ v = 1) ∧ (at_ ≤ gi M' 14 2 ∧ gi M' 14 2 ≤ ct) ∧ (gi M' 14 2 = ct → gi M' 14 3 = 22) ∧ (0 ≤ gi M' 14 3 ∧ gi M' 14 3 ≤ 511) ∧ (us ≤ gi M' 14 9 ∧ gi M' 14 9 - us ≤ gi M' 14 2 - at_) ∧ (CD (gi M' 14 9) M') ∧ (∀ j : Int, 0 ≤ j → j < us → gi M' 19 j = gi M 19 j)))) {d : Nat} (hd : 3 + 3 * rr ≤ d) {M : mH} (H : HI base M) (depth : Int) (ct : Int) (at_ : Int) (kd : Int) (us : Int) (h0 : gi M 15 ct = 22) (h1 : 0 ≤ ct ∧ ct ≤ 400) (h2 : gi M 14 2 = at_) (h3 : gi M 14 3 = kd) (h4 : 0 ≤ at_ ∧ at_ ≤ ct) (h5 : at_ = ct → kd = 22) (h6 : 0 ≤ kd ∧ kd ≤ 511) (h7 : gi M 14 9 = us) (h8 : 0 ≤ us ∧ us ≤ at_) (h9 : 0 ≤ depth ∧ depth ≤ 8) (h10 : CD us M) (h11 : 8 - depth < (rr : Int) + 1) : sOk base X G d T31 [vR 14, vI depth] M (pI (fun v M' => HI base M' ∧ Fr [(14, 3), (14, 4), (14, 5), (14, 10), (14, 11), (19, 0)] M M' ∧ (v = 0 ∨ v = 1) ∧ (at_ ≤ gi M' 14 2 ∧ gi M' 14 2 ≤ ct) ∧ (gi M' 14 2 = ct → gi M' 14 3 = 22) ∧ (0 ≤ gi M' 14 3 ∧ gi M' 14 3 ≤ 511) ∧ (us ≤ gi M' 14 9 ∧ gi M' 14 9 - us ≤ gi M' 14 2 - at_) ∧ (CD (gi M' 14 9) M') ∧ (∀ j : Int, 0 ≤ j → j < us → gi M' 19 j = gi M 19 j))) := by
  have f0 : Fr [(14, 3), (14, 4), (14, 5), (14, 10), (14, 11), (19, 0)] M M := Fr.rf
  refine sOk.of (show sRn base X G d T31 0 [(0, vR 14), (1, vI depth)] [] M _ from ?_)
  refine s_blx (lv' := [(0, vR 14), (1, vI depth)]) (st' := [vR 14]) B31_0_1 rfl ?_
  refine r_gint (ki := 3) (pc' := 4) D31_1 rfl gf_4_22_14 rfl H.1 ?_
  intro w1 e2 r3
  have e4 : kd = w1 := (e2.trans (h3)).symm
  subst e4
  refine s_blx (lv' := [(0, vR 14), (1, vI depth)]) (st' := [vI 191, vI kd]) B31_4_7 rfl ?_
  refine r_icmp (tgt := 43) (pc' := 10) D31_7 rfl rfl (by unfold inR; omega) (fun (c5 : kd ≠ 191) => ?_) (fun (c5 : ¬ (kd ≠ 191)) => ?_)
  · refine s_blx (lv' := [(0, vR 14), (1, vI depth)]) (st' := [vR 14]) B31_43_44 rfl ?_
    refine r_gint (ki := 3) (pc' := 47) D31_44 rfl gf_4_22_14 rfl H.1 ?_
    intro w6 e7 r8
    have e9 : kd = w6 := (e7.trans (h3)).symm
    subst e9
    refine s_blx (lv' := [(0, vR 14), (1, vI depth)]) (st' := [vI 21, vI kd]) B31_47_49 rfl ?_
    refine r_icmp (tgt := 70) (pc' := 52) D31_49 rfl rfl (by unfold inR; omega) (fun (c10 : kd ≠ 21) => ?_) (fun (c10 : ¬ (kd ≠ 21)) => ?_)
    · refine s_blx (lv' := [(0, vR 14), (1, vI depth)]) (st' := [vR 14]) B31_70_71 rfl ?_
      refine r_gint (ki := 3) (pc' := 74) D31_71 rfl gf_4_22_14 rfl H.1 ?_
      intro w11 e12 r13
      have e14 : kd = w11 := (e12.trans (h3)).symm
      subst e14
      refine s_blx (lv' := [(0, vR 14), (1, vI depth)]) (st' := [vI 12, vI kd]) B31_74_76 rfl ?_
      refine r_icmp (tgt := 101) (pc' := 79) D31_76 rfl rfl (by unfold inR; omega) (fun (c15 : kd < 12) => ?_) (fun (c15 : ¬ (kd < 12)) => ?_)
      · refine s_blx (lv' := [(0, vR 14), (1, vI depth)]) (st' := [vR 14]) B31_101_102 rfl ?_
        refine r_vI (c := 14) (args := []) (rest := []) (pc' := 105) D31_102 rfl ck_4_virtual_102 TE36 rfl (Nat.le_of_ble_eq_true rfl) ⟨Nat.le_of_ble_eq_true rfl, Nat.le_of_ble_eq_true rfl⟩ sc_14 ⟨rfl, by decide⟩ H.1 (by omega) (k36_14x E (by omega) H ) ?_
        intro v16 M17 q22
        obtain ⟨H18, f19, q20, q21⟩ := q22
        have f23 := f0.tr (f19.up rfl)
        have hp24 := h10.fr f19 (by decide)
        have hp25 := (CZ.refl (n := us) (M := M)).fr f19 (by decide)
        have g26 : gi M17 14 2 = at_ := (f19.g rfl).trans (h2)
        have g27 : gi M17 14 3 = kd := (f19.g rfl).trans (h3)
        have g28 : gi M17 14 9 = us := (f19.g rfl).trans (h7)
        exact r_zretI D31_105 rfl (by omega) (⟨H18, f23, by omega, by rw [g26]; omega, by rw [g26, g27]; omega, by rw [g27]; omega, by rw [g26, g28]; omega, by rw [((f19.g rfl).trans (h7))]; exact hp24, hp25⟩)
      · refine s_blx (lv' := [(0, vR 14), (1, vI depth)]) (st' := [vR 14]) B31_79_80 rfl ?_
        refine r_gint (ki := 3) (pc' := 83) D31_80 rfl gf_4_22_14 rfl H.1 ?_
        intro w29 e30 r31
        have e32 : kd = w29 := (e30.trans (h3)).symm
        subst e32
        refine s_blx (lv' := [(0, vR 14), (1, vI depth)]) (st' := [vI 21, vI kd]) B31_83_85 rfl ?_
        refine r_icmp (tgt := 101) (pc' := 88) D31_85 rfl rfl (by unfold inR; omega) (fun (c33 : 21 ≤ kd) => ?_) (fun (c33 : ¬ (21 ≤ kd)) => ?_)
        · refine s_blx (lv' := [(0, vR 14), (1, vI depth)]) (st' := [vR 14]) B31_101_102 rfl ?_
          refine r_vI (c := 14) (args := []) (rest := []) (pc' := 105) D31_102 rfl ck_4_virtual_102 TE36 rfl (Nat.le_of_ble_eq_true rfl) ⟨Nat.le_of_ble_eq_true rfl, Nat.le_of_ble_eq_true rfl⟩ sc_14 ⟨rfl, by decide⟩ H.1 (by omega) (k36_14x E (by omega) H ) ?_
          intro v34 M35 q40
          obtain ⟨H36, f37, q38, q39⟩ := q40
          have f41 := f0.tr (f37.up rfl)
          have hp42 := h10.fr f37 (by decide)
          have hp43 := (CZ.refl (n := us) (M := M)).fr f37 (by decide)
          have g44 : gi M35 14 2 = at_ := (f37.g rfl).trans (h2)
          have g45 : gi M35 14 3 = kd := (f37.g rfl).trans (h3)
          have g46 : gi M35 14 9 = us := (f37.g rfl).trans (h7)
          exact r_zretI D31_105 rfl (by omega) (⟨H36, f41, by omega, by rw [g44]; omega, by rw [g44, g45]; omega, by rw [g45]; omega, by rw [g44, g46]; omega, by rw [((f37.g rfl).trans (h7))]; exact hp42, hp43⟩)
        · refine s_blx (lv' := [(0, vR 14), (1, vI depth)]) (st' := [vR 14, vI 1, vR 14]) B31_88_91 rfl ?_
          refine r_gint (ki := 3) (pc' := 94) D31_91 rfl gf_4_22_14 rfl H.1 ?_
          intro w47 e48 r49
          have e50 : kd = w47 := (e48.trans (h3)).symm
          subst e50
          refine s_blx (lv' := [(0, vR 14), (1, vI depth)]) (st' := [vI (kd - 10), vI 1, vR 14]) B31_94_97 rfl ?_
          have g51 : gi M 14 2 = at_ := h2
          have g52 : gi M 14 3 = kd := h3
          have g53 : gi M 14 9 = us := h7
          refine r_vI (c := 14) (args := [vI 1, vI (kd - 10)]) (rest := []) (pc' := 100) D31_97 rfl ck_4_virtual_131 TE33 rfl (Nat.le_of_ble_eq_true rfl) ⟨Nat.le_of_ble_eq_true rfl, Nat.le_of_ble_eq_true rfl⟩ sc_14 ⟨rfl, by decide⟩ H.1 (by omega) (k33_14x E (by omega) H 1 (kd - 10) ct at_ kd us (by omega) (by omega) (by omega) (by omega) (by omega) (by omega) (by omega) (by omega) (by omega) (by omega) (by omega) (by omega) (by omega) (h10)) ?_
          intro v54 M55 q65
          obtain ⟨H56, f57, q58, q59, q60, q61, q62, q63, q64⟩ := q65
          have f66 := f0.tr (f57.up rfl)
          have hp67 := (CZ.refl (n := us) (M := M)).sm q64 (by omega)
          obtain ⟨t68, ht69⟩ : ∃ q, q = gi M55 14 2 := ⟨_, rfl⟩
          have b_t68 := H56.2 14 2 0 400 rfl
          rw [← ht69] at b_t68
          obtain ⟨t70, ht71⟩ : ∃ q, q = gi M55 14 3 := ⟨_, rfl⟩
          have b_t70 := H56.2 14 3 0 511 rfl
          rw [← ht71] at b_t70
          obtain ⟨t72, ht73⟩ : ∃ q, q = gi M55 14 9 := ⟨_, rfl⟩
          have b_t72 := H56.2 14 9 0 400 rfl
          rw [← ht73] at b_t72
          rw [← ht69] at q59
          rw [← ht69, ← ht71] at q60
          rw [← ht71] at q61
          rw [← ht69, ← ht73] at q62
          rw [← ht73] at q63
          have g74 : gi M55 14 2 = t68 := ht69.symm
          have g75 : gi M55 14 3 = t70 := ht71.symm
          have g76 : gi M55 14 9 = t72 := ht73.symm
          exact r_zretI D31_100 rfl (by omega) (⟨H56, f66, by omega, by rw [g74]; omega, by rw [g74, g75]; omega, by rw [g75]; omega, by rw [g74, g76]; omega, by rw [(ht73.symm)]; exact q63, hp67⟩)
    · refine s_blx (lv' := [(0, vR 14), (1, vI depth)]) (st' := [vR 14, vI 0, vR 14]) B31_52_55 rfl ?_
      refine r_gfix (r := 15) (pc' := 58) D31_55 rfl gf_4_9_14 H.1 ?_
      refine s_blx (lv' := [(0, vR 14), (1, vI depth)]) (st' := [vR 14, vR 15, vI 0, vR 14]) B31_58_59 rfl ?_
      refine r_gint (ki := 2) (pc' := 62) D31_59 rfl gf_4_18_14 rfl H.1 ?_
      intro w77 e78 r79
      have e80 : at_ = w77 := (e78.trans (h2)).symm
      subst e80
      refine r_iald (pc' := 63) D31_62 rfl sc_15 H.1 (by omega) ?_
      intro w81 e82 r83
      have b_w81 := H.2 15 (at_) 0 60000000 rfl
      rw [← e82] at b_w81; clear r83
      refine s_blx (lv' := [(0, vR 14), (1, vI depth)]) (st' := [vI 9, vI w81, vI 0, vR 14]) B31_63_65 rfl ?_
      refine r_shr9 (pc' := 66) D31_65 rfl (by unfold inR; omega) ?_
      have g84 : gi M 14 2 = at_ := h2
      have g85 : gi M 14 3 = kd := h3
      have g86 : gi M 14 9 = us := h7
      refine r_vI (c := 14) (args := [vI 0, vI (w81 / 512)]) (rest := []) (pc' := 69) D31_66 rfl ck_4_virtual_131 TE33 rfl (Nat.le_of_ble_eq_true rfl) ⟨Nat.le_of_ble_eq_true rfl, Nat.le_of_ble_eq_true rfl⟩ sc_14 ⟨rfl, by decide⟩ H.1 (by omega) (k33_14x E (by omega) H 0 (w81 / 512) ct at_ kd us (by omega) (by omega) (by omega) (by omega) (by omega) (by omega) (by omega) (by omega) (by omega) (by omega) (by omega) (by omega) (by omega) (h10)) ?_
      intro v87 M88 q98
      obtain ⟨H89, f90, q91, q92, q93, q94, q95, q96, q97⟩ := q98
      have f99 := f0.tr (f90.up rfl)
      have hp100 := (CZ.refl (n := us) (M := M)).sm q97 (by omega)
      obtain ⟨t101, ht102⟩ : ∃ q, q = gi M88 14 2 := ⟨_, rfl⟩
      have b_t101 := H89.2 14 2 0 400 rfl
      rw [← ht102] at b_t101
      obtain ⟨t103, ht104⟩ : ∃ q, q = gi M88 14 3 := ⟨_, rfl⟩
      have b_t103 := H89.2 14 3 0 511 rfl
      rw [← ht104] at b_t103
      obtain ⟨t105, ht106⟩ : ∃ q, q = gi M88 14 9 := ⟨_, rfl⟩
      have b_t105 := H89.2 14 9 0 400 rfl
      rw [← ht106] at b_t105
      rw [← ht102] at q92
      rw [← ht102, ← ht104] at q93
      rw [← ht104] at q94
      rw [← ht102, ← ht106] at q95
      rw [← ht106] at q96
      have g107 : gi M88 14 2 = t101 := ht102.symm
      have g108 : gi M88 14 3 = t103 := ht104.symm
      have g109 : gi M88 14 9 = t105 := ht106.symm
      exact r_zretI D31_69 rfl (by omega) (⟨H89, f99, by omega, by rw [g107]; omega, by rw [g107, g108]; omega, by rw [g108]; omega, by rw [g107, g109]; omega, by rw [(ht106.symm)]; exact q96, hp100⟩)
  · refine s_blx (lv' := [(0, vR 14), (1, vI depth)]) (st' := [vI depth, vR 14]) B31_10_12 rfl ?_
    have g110 : gi M 14 2 = at_ := h2
    have g111 : gi M 14 3 = kd := h3
    refine r_vI (c := 14) (args := [vI depth]) (rest := []) (pc' := 15) D31_12 rfl ck_4_virtual_128 TE32 rfl (Nat.le_of_ble_eq_true rfl) ⟨Nat.le_of_ble_eq_true rfl, Nat.le_of_ble_eq_true rfl⟩ sc_14 ⟨rfl, by decide⟩ H.1 (by omega) (k32_14x E (by omega) H depth ct at_ kd (by omega) (by omega) (by omega) (by omega) (by omega) (by omega) (by omega) (by omega) (by omega)) ?_
    intro v112 M113 q121
    obtain ⟨H114, f115, q116, q117, q118, q119, q120⟩ := q121
    have f122 := f0.tr (f115.up rfl)
    have hp123 := h10.fr f115 (by decide)
    have hp124 := (CZ.refl (n := us) (M := M)).fr f115 (by decide)
    obtain ⟨t125, ht126⟩ : ∃ q, q = gi M113 14 2 := ⟨_, rfl⟩
    have b_t125 := H114.2 14 2 0 400 rfl
    rw [← ht126] at b_t125
    obtain ⟨t127, ht128⟩ : ∃ q, q = gi M113 14 3 := ⟨_, rfl⟩
    have b_t127 := H114.2 14 3 0 511 rfl
    rw [← ht128] at b_t127
    rw [← ht126] at q117
    rw [← ht126, ← ht128] at q118
    rw [← ht128] at q119
    refine r_ifc (tgt := 41) (pc' := 18) D31_15 rfl rfl (by unfold inR; omega) (fun (c129 : v112 = 0) => ?_) (fun (c129 : ¬ (v112 = 0)) => ?_)
    · refine s_blx (lv' := [(0, vR 14), (1, vI depth)]) (st' := [vI 0]) B31_41_42 rfl ?_
      have g130 : gi M113 14 2 = t125 := ht126.symm
      have g131 : gi M113 14 3 = t127 := ht128.symm
      have g132 : gi M113 14 9 = us := (f115.g rfl).trans (h7)
      exact r_zretI D31_42 rfl (by omega) (⟨H114, f122, by omega, by rw [g130]; omega, by rw [g130, g131]; omega, by rw [g131]; omega, by rw [g130, g132]; omega, by rw [((f115.g rfl).trans (h7))]; exact hp123, hp124⟩)
    · refine s_blx (lv' := [(0, vR 14), (1, vI depth)]) (st' := [vI (depth + 1), vR 14]) B31_18_22 rfl ?_
      have g133 : gi M113 15 ct = gi M 15 ct := (f115.g rfl).trans (rfl)
      have g134 : gi M113 14 2 = t125 := ht126.symm
      have g135 : gi M113 14 3 = t127 := ht128.symm
      have g136 : gi M113 14 9 = us := (f115.g rfl).trans (h7)
      refine r_vI (c := 14) (args := [vI (depth + 1)]) (rest := []) (pc' := 25) D31_22 rfl ck_4_virtual_138 TE29 rfl (Nat.le_of_ble_eq_true rfl) ⟨Nat.le_of_ble_eq_true rfl, Nat.le_of_ble_eq_true rfl⟩ sc_14 ⟨rfl, by decide⟩ H114.1 (by omega) (ihr (by omega) H114 (depth + 1) ct t125 t127 us (by omega) (by omega) (by omega) (by omega) (by omega) (by omega) (by omega) (by omega) (by omega) (by omega) (hp123) (by omega)) ?_
      intro v137 M138 q148
      obtain ⟨H139, f140, q141, q142, q143, q144, q145, q146, q147⟩ := q148
      have f149 := f122.tr (f140.up rfl)
      have hp150 := hp124.sm q147 (by omega)
      obtain ⟨t151, ht152⟩ : ∃ q, q = gi M138 14 2 := ⟨_, rfl⟩
      have b_t151 := H139.2 14 2 0 400 rfl
      rw [← ht152] at b_t151
      obtain ⟨t153, ht154⟩ : ∃ q, q = gi M138 14 3 := ⟨_, rfl⟩
      have b_t153 := H139.2 14 3 0 511 rfl
      rw [← ht154] at b_t153
      obtain ⟨t155, ht156⟩ : ∃ q, q = gi M138 14 9 := ⟨_, rfl⟩
      have b_t155 := H139.2 14 9 0 400 rfl
      rw [← ht156] at b_t155
      rw [← ht152] at q142
      rw [← ht152, ← ht154] at q143
      rw [← ht154] at q144
      rw [← ht152, ← ht156] at q145
      rw [← ht156] at q146
      refine r_ifc (tgt := 41) (pc' := 28) D31_25 rfl rfl (by unfold inR; omega) (fun (c157 : v137 = 0) => ?_) (fun (c157 : ¬ (v137 = 0)) => ?_)
      · refine s_blx (lv' := [(0, vR 14), (1, vI depth)]) (st' := [vI 0]) B31_41_42 rfl ?_
        have g158 : gi M138 14 2 = t151 := ht152.symm
        have g159 : gi M138 14 3 = t153 := ht154.symm
        have g160 : gi M138 14 9 = t155 := ht156.symm
        exact r_zretI D31_42 rfl (by omega) (⟨H139, f149, by omega, by rw [g158]; omega, by rw [g158, g159]; omega, by rw [g159]; omega, by rw [g158, g160]; omega, by rw [(ht156.symm)]; exact q146, hp150⟩)
      · refine s_blx (lv' := [(0, vR 14), (1, vI depth)]) (st' := [vI 93, vR 14]) B31_28_31 rfl ?_
        have g161 : gi M138 15 ct = gi M 15 ct := (f140.g rfl).trans ((f115.g rfl).trans (rfl))
        have g162 : gi M138 14 2 = t151 := ht152.symm
        have g163 : gi M138 14 3 = t153 := ht154.symm
        refine r_vI (c := 14) (args := [vI 93]) (rest := []) (pc' := 34) D31_31 rfl ck_4_virtual_111 TE34 rfl (Nat.le_of_ble_eq_true rfl) ⟨Nat.le_of_ble_eq_true rfl, Nat.le_of_ble_eq_true rfl⟩ sc_14 ⟨rfl, by decide⟩ H139.1 (by omega) (k34_14x E (by omega) H139 93 ct t151 t153 (by omega) (by omega) (by omega) (by omega) (by omega) (by omega) (by omega) (by omega)) ?_
        intro v164 M165 q172
        obtain ⟨H166, f167, q168, q169, q170, q171⟩ := q172
        have f173 := f149.tr (f167.up rfl)
        have hp174 := hp150.fr f167 (by decide)
        have hp175 := q146.fr f167 (by decide)
        obtain ⟨t176, ht177⟩ : ∃ q, q = gi M165 14 2 := ⟨_, rfl⟩
        have b_t176 := H166.2 14 2 0 400 rfl
        rw [← ht177] at b_t176
        obtain ⟨t178, ht179⟩ : ∃ q, q = gi M165 14 3 := ⟨_, rfl⟩
        have b_t178 := H166.2 14 3 0 511 rfl
        rw [← ht179] at b_t178
        rw [← ht177] at q169
        rw [← ht177, ← ht179] at q170
        rw [← ht179] at q171
        refine r_ifc (tgt := 41) (pc' := 37) D31_34 rfl rfl (by unfold inR; omega) (fun (c180 : v164 = 0) => ?_) (fun (c180 : ¬ (v164 = 0)) => ?_)
        · refine s_blx (lv' := [(0, vR 14), (1, vI depth)]) (st' := [vI 0]) B31_41_42 rfl ?_
          have g181 : gi M165 14 2 = t176 := ht177.symm
          have g182 : gi M165 14 3 = t178 := ht179.symm
          have g183 : gi M165 14 9 = t155 := (f167.g rfl).trans (ht156.symm)
          exact r_zretI D31_42 rfl (by omega) (⟨H166, f173, by omega, by rw [g181]; omega, by rw [g181, g182]; omega, by rw [g182]; omega, by rw [g181, g183]; omega, by rw [((f167.g rfl).trans (ht156.symm))]; exact hp175, hp174⟩)
        · refine s_blx (lv' := [(0, vR 14), (1, vI depth)]) (st' := [vI 1]) B31_37_38 rfl ?_
          refine r_goto (tgt := 42) D31_38 rfl ?_
          have g184 : gi M165 14 2 = t176 := ht177.symm
          have g185 : gi M165 14 3 = t178 := ht179.symm
          have g186 : gi M165 14 9 = t155 := (f167.g rfl).trans (ht156.symm)
          exact r_zretI D31_42 rfl (by omega) (⟨H166, f173, by omega, by rw [g184]; omega, by rw [g184, g185]; omega, by rw [g185]; omega, by rw [g184, g186]; omega, by rw [((f167.g rfl).trans (ht156.symm))]; exact hp175, hp174⟩)
set_option maxRecDepth 4000 in
theorem L_k30_14x {base : Nat} {X : Nat → Option mC} {G : Nat → Value} (E : EnvOK base X G) {rr : Nat} (ihr : ∀ {d : Nat} (_ : 2 + 3 * rr ≤ d) {M : mH} (_ : HI base M) (depth : Int) (ct : Int) (at_ : Int) (kd : Int) (us : Int), (gi M 15 ct = 22) → (0 ≤ ct ∧ ct ≤ 400) → (gi M 14 2 = at_) → (gi M 14 3 = kd) → (0 ≤ at_ ∧ at_ ≤ ct) → (at_ = ct → kd = 22) → (0 ≤ kd ∧ kd ≤ 511) → (gi M 14 9 = us) → (0 ≤ us ∧ us ≤ at_) → (0 ≤ depth ∧ depth ≤ 8) → (CD us M) → 8 - depth < ((rr : Nat) : Int) → sOk base X G d T29 [vR 14, vI depth] M (pI (fun v M' => HI base M' ∧ Fr [(14, 3), (14, 4), (14, 5), (14, 10), (14, 11), (19, 0)] M M' ∧ (v = 0 ∨ v = 1) ∧ (at_ ≤ gi M' 14 2 ∧ gi M' 14 2 ≤ ct) ∧ (gi M' 14 2 = ct → gi M' 14 3 = 22) ∧ (0 ≤ gi M' 14 3 ∧ gi M' 14 3 ≤ 511) ∧ (us ≤ gi M' 14 9 ∧ gi M' 14 9 - us ≤ gi M' 14 2 - at_) ∧ (CD (gi M' 14 9) M') ∧ (∀ j : Int, 0 ≤ j → j < us → gi M' 19 j = gi M 19 j)))) {d : Nat} (hd : 4 + 3 * rr ≤ d) {M : mH} (H : HI base M) (depth : Int) (ct : Int) (at_ : Int) (kd : Int) (us : Int) (h0 : gi M 15 ct = 22) (h1 : 0 ≤ ct ∧ ct ≤ 400) (h2 : gi M 14 2 = at_) (h3 : gi M 14 3 = kd) (h4 : 0 ≤ at_ ∧ at_ ≤ ct) (h5 : at_ = ct → kd = 22) (h6 : 0 ≤ kd ∧ kd ≤ 511) (h7 : gi M 14 9 = us) (h8 : 0 ≤ us ∧ us ≤ at_) (h9 : 0 ≤ depth ∧ depth ≤ 8) (h10 : CD us M) (h11 : 8 - depth < (rr : Int) + 1) : ∀ mz : Nat, (∀ (x2 x3 a0 k0 u0 : Int) (N : mH), HI base N → Fr [(14, 3), (14, 4), (14, 5), (14, 10), (14, 11), (19, 0)] M N → (gi N 14 2 = a0) → (gi N 14 3 = k0) → (gi N 14 9 = u0) → (at_ ≤ a0 ∧ a0 ≤ ct) → (a0 = ct → k0 = 22) → (0 ≤ k0 ∧ k0 ≤ 511) → (us ≤ u0 ∧ u0 - us ≤ a0 - at_) → (gi N 15 ct = 22) → (CD u0 N) → (CZ us (gi M 19) N) → (0 ≤ x2 ∧ x2 ≤ 1) → (0 ≤ x2) → (x2 ≤ 1) → (0 ≤ x3) → (x3 ≤ 400) → (400 - x3) * 1 + 0 < (mz : Int) → sRn base X G d T30 8 [(0, vR 14), (1, vI depth), (2, vI x2), (3, vI x3)] [] N (s_Q base (pI (fun v M' => HI base M' ∧ Fr [(14, 3), (14, 4), (14, 5), (14, 10), (14, 11), (19, 0)] M M' ∧ (v = 0 ∨ v = 1) ∧ (at_ ≤ gi M' 14 2 ∧ gi M' 14 2 ≤ ct) ∧ (gi M' 14 2 = ct → gi M' 14 3 = 22) ∧ (0 ≤ gi M' 14 3 ∧ gi M' 14 3 ≤ 511) ∧ (us ≤ gi M' 14 9 ∧ gi M' 14 9 - us ≤ gi M' 14 2 - at_) ∧ (CD (gi M' 14 9) M') ∧ (∀ j : Int, 0 ≤ j → j < us → gi M' 19 j = gi M 19 j))))) := by
  have f0 : Fr [(14, 3), (14, 4), (14, 5), (14, 10), (14, 11), (19, 0)] M M := Fr.rf
  intro mz
  induction mz with
  | zero => exact fun x2 x3 a0 k0 u0 N _ _ z0 z1 z2 z3 z4 z5 z6 z7 z8 z9 z10 z11 z12 z13 z14 z15 => by omega
  | succ mz ih =>
    intro x2 x3 a0 k0 u0 N HN fN i0 i1 i2 i3 i4 i5 i6 i7 i8 i9 i10 i11 i12 i13 i14 hmu
    refine s_blx (lv' := [(0, vR 14), (1, vI depth), (2, vI x2), (3, vI x3)]) (st' := [vI 400, vI x3]) B30_8_12 rfl ?_
    refine r_icmp (tgt := 80) (pc' := 15) D30_12 rfl rfl (by unfold inR; omega) (fun (c28 : 400 ≤ x3) => ?_) (fun (c28 : ¬ (400 ≤ x3)) => ?_)
    · refine s_blx (lv' := [(0, vR 14), (1, vI depth), (2, vI x2), (3, vI x3)]) (st' := [vI x2]) B30_80_81 rfl ?_
      have g29 : gi N 14 2 = a0 := i0
      have g30 : gi N 14 3 = k0 := i1
      have g31 : gi N 14 9 = u0 := i2
      exact r_zretI D30_81 rfl (by omega) (⟨HN, fN, by omega, by rw [g29]; omega, by rw [g29, g30]; omega, by rw [g30]; omega, by rw [g29, g31]; omega, by rw [(i2)]; exact i8, i9⟩)
    · refine s_blx (lv' := [(0, vR 14), (1, vI depth), (2, vI x2), (3, vI x3)]) (st' := [vI x2]) B30_15_16 rfl ?_
      refine r_ifc (tgt := 80) (pc' := 19) D30_16 rfl rfl (by unfold inR; omega) (fun (c32 : x2 = 0) => ?_) (fun (c32 : ¬ (x2 = 0)) => ?_)
      · refine s_blx (lv' := [(0, vR 14), (1, vI depth), (2, vI x2), (3, vI x3)]) (st' := [vI x2]) B30_80_81 rfl ?_
        have g33 : gi N 14 2 = a0 := i0
        have g34 : gi N 14 3 = k0 := i1
        have g35 : gi N 14 9 = u0 := i2
        exact r_zretI D30_81 rfl (by omega) (⟨HN, fN, by omega, by rw [g33]; omega, by rw [g33, g34]; omega, by rw [g34]; omega, by rw [g33, g35]; omega, by rw [(i2)]; exact i8, i9⟩)
      · refine s_blx (lv' := [(0, vR 14), (1, vI depth), (2, vI x2), (3, vI x3)]) (st' := [vR 14]) B30_19_20 rfl ?_
        refine r_gint (ki := 3) (pc' := 23) D30_20 rfl gf_4_22_14 rfl HN.1 ?_
        intro w36 e37 r38
        have e39 : k0 = w36 := (e37.trans (i1)).symm
        subst e39
        refine s_blx (lv' := [(0, vR 14), (1, vI depth), (2, vI x2), (3, vI x3)]) (st' := [vI 142, vI k0]) B30_23_26 rfl ?_
        refine r_icmp (tgt := 39) (pc' := 29) D30_26 rfl rfl (by unfold inR; omega) (fun (c40 : k0 = 142) => ?_) (fun (c40 : ¬ (k0 = 142)) => ?_)
        · refine s_blx (lv' := [(0, vR 14), (1, vI depth), (2, vI x2), (3, vI x3)]) (st' := [vR 14]) B30_39_40 rfl ?_
          refine r_gint (ki := 3) (pc' := 43) D30_40 rfl gf_4_22_14 rfl HN.1 ?_
          intro w41 e42 r43
          have e44 : k0 = w41 := (e42.trans (i1)).symm
          subst e44
          refine s_blx (lv' := [(0, vR 14), (1, vI depth), (2, vI x2), (3, vI x3)]) (st' := [vI 142, vI k0]) B30_43_46 rfl ?_
          refine r_icmp (tgt := 53) (pc' := 49) D30_46 rfl rfl (by unfold inR; omega) (fun (c45 : k0 ≠ 142) => ?_) (fun (c45 : ¬ (k0 ≠ 142)) => ?_)
          · exfalso; omega
          · refine s_blx (lv' := [(0, vR 14), (1, vI depth), (2, vI x2), (3, vI x3)]) (st' := [vI 4]) B30_49_50 rfl ?_
            refine r_goto (tgt := 54) D30_50 rfl ?_
            refine s_blx (lv' := [(4, vI 4), (0, vR 14), (1, vI depth), (2, vI x2), (3, vI x3)]) (st' := [vR 14]) B30_54_57 rfl ?_
            have g46 : gi N 14 2 = a0 := i0
            have g47 : gi N 14 3 = k0 := i1
            refine r_vV (c := 14) (args := []) (rest := []) (pc' := 60) D30_57 rfl ck_4_virtual_105 TE35 rfl (Nat.le_of_ble_eq_true rfl) ⟨Nat.le_of_ble_eq_true rfl, Nat.le_of_ble_eq_true rfl⟩ sc_14 ⟨rfl, by decide⟩ HN.1 (by omega) (k35_14x E (by omega) HN ct a0 k0 (by omega) (by omega) (by omega) (by omega) (by omega) (by omega) (by omega) (by omega)) ?_
            intro M49 q56
            obtain ⟨H50, f51, q52, q53, q54, q55⟩ := q56
            have f57 := fN.tr (f51.up rfl)
            have hp58 := i8.fr f51 (by decide)
            have hp59 := i9.fr f51 (by decide)
            obtain ⟨t60, ht61⟩ : ∃ q, q = gi M49 14 2 := ⟨_, rfl⟩
            have b_t60 := H50.2 14 2 0 400 rfl
            rw [← ht61] at b_t60
            obtain ⟨t62, ht63⟩ : ∃ q, q = gi M49 14 3 := ⟨_, rfl⟩
            have b_t62 := H50.2 14 3 0 511 rfl
            rw [← ht63] at b_t62
            rw [← ht61] at q52
            rw [← ht63] at q54
            rw [← ht63] at q55
            refine s_blx (lv' := [(4, vI 4), (0, vR 14), (1, vI depth), (2, vI x2), (3, vI x3)]) (st' := [vI depth, vR 14]) B30_60_62 rfl ?_
            have g64 : gi M49 15 ct = gi N 15 ct := (f51.g rfl).trans (rfl)
            have g65 : gi M49 14 2 = t60 := ht61.symm
            have g66 : gi M49 14 3 = t62 := ht63.symm
            have g67 : gi M49 14 9 = u0 := (f51.g rfl).trans (i2)
            refine r_vI (c := 14) (args := [vI depth]) (rest := []) (pc' := 65) D30_62 rfl ck_4_virtual_144 TE31 rfl (Nat.le_of_ble_eq_true rfl) ⟨Nat.le_of_ble_eq_true rfl, Nat.le_of_ble_eq_true rfl⟩ sc_14 ⟨rfl, by decide⟩ H50.1 (by omega) (k31_14x E ihr (by omega) H50 depth ct t60 t62 u0 (by omega) (by omega) (by omega) (by omega) (by omega) (by omega) (by omega) (by omega) (by omega) (by omega) (hp58) (by omega)) ?_
            intro v68 M69 q79
            obtain ⟨H70, f71, q72, q73, q74, q75, q76, q77, q78⟩ := q79
            have f80 := f57.tr (f71.up rfl)
            have hp81 := hp59.sm q78 (by omega)
            obtain ⟨t82, ht83⟩ : ∃ q, q = gi M69 14 2 := ⟨_, rfl⟩
            have b_t82 := H70.2 14 2 0 400 rfl
            rw [← ht83] at b_t82
            obtain ⟨t84, ht85⟩ : ∃ q, q = gi M69 14 3 := ⟨_, rfl⟩
            have b_t84 := H70.2 14 3 0 511 rfl
            rw [← ht85] at b_t84
            obtain ⟨t86, ht87⟩ : ∃ q, q = gi M69 14 9 := ⟨_, rfl⟩
            have b_t86 := H70.2 14 9 0 400 rfl
            rw [← ht87] at b_t86
            rw [← ht83] at q73
            rw [← ht83, ← ht85] at q74
            rw [← ht85] at q75
            rw [← ht83, ← ht87] at q76
            rw [← ht87] at q77
            refine s_blx (lv' := [(2, vI v68), (4, vI 4), (0, vR 14), (1, vI depth), (3, vI x3)]) (st' := [vI 0, vI 4, vR 14]) B30_65_70 rfl ?_
            have g88 : gi M69 14 9 = t86 := ht87.symm
            refine r_vI (c := 14) (args := [vI 4, vI 0]) (rest := []) (pc' := 73) D30_70 rfl ck_4_virtual_118 TE37 rfl (Nat.le_of_ble_eq_true rfl) ⟨Nat.le_of_ble_eq_true rfl, Nat.le_of_ble_eq_true rfl⟩ sc_14 ⟨rfl, by decide⟩ H70.1 (by omega) (k37_14x E (by omega) H70 4 0 t86 (by omega) (by omega) (by omega) (by omega) (by omega) (q77)) ?_
            intro v89 M90 q98
            obtain ⟨H91, f92, q93, q94, q95, q96, q97⟩ := q98
            have f99 := f80.tr (f92.up rfl)
            have hp100 := hp81.sm q97 (by omega)
            obtain ⟨t101, ht102⟩ : ∃ q, q = gi M90 14 9 := ⟨_, rfl⟩
            have b_t101 := H91.2 14 9 0 400 rfl
            rw [← ht102] at b_t101
            rw [← ht102] at q94
            rw [← ht102] at q96
            refine s_blx (lv' := [(3, vI (x3 + 1)), (2, vI v68), (4, vI 4), (0, vR 14), (1, vI depth)]) (st' := []) B30_73_77 rfl ?_
            refine r_goto (tgt := 8) D30_77 rfl ?_
            refine r_loc (lv' := [(0, vR 14), (1, vI depth), (2, vI v68), (3, vI (x3 + 1))]) ⟨rfl, rfl, rfl, rfl, trivial⟩ rfl rfl ?_
            have g103 : gi M90 14 2 = t82 := (f92.g rfl).trans (ht83.symm)
            have g104 : gi M90 14 3 = t84 := (f92.g rfl).trans (ht85.symm)
            have g105 : gi M90 14 9 = t101 := ht102.symm
            have g106 : gi M90 15 ct = gi N 15 ct := (f92.g rfl).trans ((f71.g rfl).trans ((f51.g rfl).trans (rfl)))
            exact ih v68 (x3 + 1) t82 t84 t101 M90 H91 f99 (by omega) (by omega) (by omega) (by omega) (by omega) (by omega) (by omega) (by omega) (q96) (hp100) (by omega) (by omega) (by omega) (by omega) (by omega) (by omega)
        · refine s_blx (lv' := [(0, vR 14), (1, vI depth), (2, vI x2), (3, vI x3)]) (st' := [vR 14]) B30_29_30 rfl ?_
          refine r_gint (ki := 3) (pc' := 33) D30_30 rfl gf_4_22_14 rfl HN.1 ?_
          intro w107 e108 r109
          have e110 : k0 = w107 := (e108.trans (i1)).symm
          subst e110
          refine s_blx (lv' := [(0, vR 14), (1, vI depth), (2, vI x2), (3, vI x3)]) (st' := [vI 147, vI k0]) B30_33_36 rfl ?_
          refine r_icmp (tgt := 80) (pc' := 39) D30_36 rfl rfl (by unfold inR; omega) (fun (c111 : k0 ≠ 147) => ?_) (fun (c111 : ¬ (k0 ≠ 147)) => ?_)
          · refine s_blx (lv' := [(0, vR 14), (1, vI depth), (2, vI x2), (3, vI x3)]) (st' := [vI x2]) B30_80_81 rfl ?_
            have g112 : gi N 14 2 = a0 := i0
            have g113 : gi N 14 3 = k0 := i1
            have g114 : gi N 14 9 = u0 := i2
            exact r_zretI D30_81 rfl (by omega) (⟨HN, fN, by omega, by rw [g112]; omega, by rw [g112, g113]; omega, by rw [g113]; omega, by rw [g112, g114]; omega, by rw [(i2)]; exact i8, i9⟩)
          · refine s_blx (lv' := [(0, vR 14), (1, vI depth), (2, vI x2), (3, vI x3)]) (st' := [vR 14]) B30_39_40 rfl ?_
            refine r_gint (ki := 3) (pc' := 43) D30_40 rfl gf_4_22_14 rfl HN.1 ?_
            intro w115 e116 r117
            have e118 : k0 = w115 := (e116.trans (i1)).symm
            subst e118
            refine s_blx (lv' := [(0, vR 14), (1, vI depth), (2, vI x2), (3, vI x3)]) (st' := [vI 142, vI k0]) B30_43_46 rfl ?_
            refine r_icmp (tgt := 53) (pc' := 49) D30_46 rfl rfl (by unfold inR; omega) (fun (c119 : k0 ≠ 142) => ?_) (fun (c119 : ¬ (k0 ≠ 142)) => ?_)
            · refine s_blx (lv' := [(4, vI 5), (0, vR 14), (1, vI depth), (2, vI x2), (3, vI x3)]) (st' := [vR 14]) B30_53_57 rfl ?_
              have g120 : gi N 14 2 = a0 := i0
              have g121 : gi N 14 3 = k0 := i1
              refine r_vV (c := 14) (args := []) (rest := []) (pc' := 60) D30_57 rfl ck_4_virtual_105 TE35 rfl (Nat.le_of_ble_eq_true rfl) ⟨Nat.le_of_ble_eq_true rfl, Nat.le_of_ble_eq_true rfl⟩ sc_14 ⟨rfl, by decide⟩ HN.1 (by omega) (k35_14x E (by omega) HN ct a0 k0 (by omega) (by omega) (by omega) (by omega) (by omega) (by omega) (by omega) (by omega)) ?_
              intro M123 q130
              obtain ⟨H124, f125, q126, q127, q128, q129⟩ := q130
              have f131 := fN.tr (f125.up rfl)
              have hp132 := i8.fr f125 (by decide)
              have hp133 := i9.fr f125 (by decide)
              obtain ⟨t134, ht135⟩ : ∃ q, q = gi M123 14 2 := ⟨_, rfl⟩
              have b_t134 := H124.2 14 2 0 400 rfl
              rw [← ht135] at b_t134
              obtain ⟨t136, ht137⟩ : ∃ q, q = gi M123 14 3 := ⟨_, rfl⟩
              have b_t136 := H124.2 14 3 0 511 rfl
              rw [← ht137] at b_t136
              rw [← ht135] at q126
              rw [← ht137] at q128
              rw [← ht137] at q129
              refine s_blx (lv' := [(4, vI 5), (0, vR 14), (1, vI depth), (2, vI x2), (3, vI x3)]) (st' := [vI depth, vR 14]) B30_60_62 rfl ?_
              have g138 : gi M123 15 ct = gi N 15 ct := (f125.g rfl).trans (rfl)
              have g139 : gi M123 14 2 = t134 := ht135.symm
              have g140 : gi M123 14 3 = t136 := ht137.symm
              have g141 : gi M123 14 9 = u0 := (f125.g rfl).trans (i2)
              refine r_vI (c := 14) (args := [vI depth]) (rest := []) (pc' := 65) D30_62 rfl ck_4_virtual_144 TE31 rfl (Nat.le_of_ble_eq_true rfl) ⟨Nat.le_of_ble_eq_true rfl, Nat.le_of_ble_eq_true rfl⟩ sc_14 ⟨rfl, by decide⟩ H124.1 (by omega) (k31_14x E ihr (by omega) H124 depth ct t134 t136 u0 (by omega) (by omega) (by omega) (by omega) (by omega) (by omega) (by omega) (by omega) (by omega) (by omega) (hp132) (by omega)) ?_
              intro v142 M143 q153
              obtain ⟨H144, f145, q146, q147, q148, q149, q150, q151, q152⟩ := q153
              have f154 := f131.tr (f145.up rfl)
              have hp155 := hp133.sm q152 (by omega)
              obtain ⟨t156, ht157⟩ : ∃ q, q = gi M143 14 2 := ⟨_, rfl⟩
              have b_t156 := H144.2 14 2 0 400 rfl
              rw [← ht157] at b_t156
              obtain ⟨t158, ht159⟩ : ∃ q, q = gi M143 14 3 := ⟨_, rfl⟩
              have b_t158 := H144.2 14 3 0 511 rfl
              rw [← ht159] at b_t158
              obtain ⟨t160, ht161⟩ : ∃ q, q = gi M143 14 9 := ⟨_, rfl⟩
              have b_t160 := H144.2 14 9 0 400 rfl
              rw [← ht161] at b_t160
              rw [← ht157] at q147
              rw [← ht157, ← ht159] at q148
              rw [← ht159] at q149
              rw [← ht157, ← ht161] at q150
              rw [← ht161] at q151
              refine s_blx (lv' := [(2, vI v142), (4, vI 5), (0, vR 14), (1, vI depth), (3, vI x3)]) (st' := [vI 0, vI 5, vR 14]) B30_65_70 rfl ?_
              have g162 : gi M143 14 9 = t160 := ht161.symm
              refine r_vI (c := 14) (args := [vI 5, vI 0]) (rest := []) (pc' := 73) D30_70 rfl ck_4_virtual_118 TE37 rfl (Nat.le_of_ble_eq_true rfl) ⟨Nat.le_of_ble_eq_true rfl, Nat.le_of_ble_eq_true rfl⟩ sc_14 ⟨rfl, by decide⟩ H144.1 (by omega) (k37_14x E (by omega) H144 5 0 t160 (by omega) (by omega) (by omega) (by omega) (by omega) (q151)) ?_
              intro v163 M164 q172
              obtain ⟨H165, f166, q167, q168, q169, q170, q171⟩ := q172
              have f173 := f154.tr (f166.up rfl)
              have hp174 := hp155.sm q171 (by omega)
              obtain ⟨t175, ht176⟩ : ∃ q, q = gi M164 14 9 := ⟨_, rfl⟩
              have b_t175 := H165.2 14 9 0 400 rfl
              rw [← ht176] at b_t175
              rw [← ht176] at q168
              rw [← ht176] at q170
              refine s_blx (lv' := [(3, vI (x3 + 1)), (2, vI v142), (4, vI 5), (0, vR 14), (1, vI depth)]) (st' := []) B30_73_77 rfl ?_
              refine r_goto (tgt := 8) D30_77 rfl ?_
              refine r_loc (lv' := [(0, vR 14), (1, vI depth), (2, vI v142), (3, vI (x3 + 1))]) ⟨rfl, rfl, rfl, rfl, trivial⟩ rfl rfl ?_
              have g177 : gi M164 14 2 = t156 := (f166.g rfl).trans (ht157.symm)
              have g178 : gi M164 14 3 = t158 := (f166.g rfl).trans (ht159.symm)
              have g179 : gi M164 14 9 = t175 := ht176.symm
              have g180 : gi M164 15 ct = gi N 15 ct := (f166.g rfl).trans ((f145.g rfl).trans ((f125.g rfl).trans (rfl)))
              exact ih v142 (x3 + 1) t156 t158 t175 M164 H165 f173 (by omega) (by omega) (by omega) (by omega) (by omega) (by omega) (by omega) (by omega) (q170) (hp174) (by omega) (by omega) (by omega) (by omega) (by omega) (by omega)
            · exfalso; omega
set_option maxRecDepth 4000 in
theorem k30_14x {base : Nat} {X : Nat → Option mC} {G : Nat → Value} (E : EnvOK base X G) {rr : Nat} (ihr : ∀ {d : Nat} (_ : 2 + 3 * rr ≤ d) {M : mH} (_ : HI base M) (depth : Int) (ct : Int) (at_ : Int) (kd : Int) (us : Int), (gi M 15 ct = 22) → (0 ≤ ct ∧ ct ≤ 400) → (gi M 14 2 = at_) → (gi M 14 3 = kd) → (0 ≤ at_ ∧ at_ ≤ ct) → (at_ = ct → kd = 22) → (0 ≤ kd ∧ kd ≤ 511) → (gi M 14 9 = us) → (0 ≤ us ∧ us ≤ at_) → (0 ≤ depth ∧ depth ≤ 8) → (CD us M) → 8 - depth < ((rr : Nat) : Int) → sOk base X G d T29 [vR 14, vI depth] M (pI (fun v M' => HI base M' ∧ Fr [(14, 3), (14, 4), (14, 5), (14, 10), (14, 11), (19, 0)] M M' ∧ (v = 0 ∨ v = 1) ∧ (at_ ≤ gi M' 14 2 ∧ gi M' 14 2 ≤ ct) ∧ (gi M' 14 2 = ct → gi M' 14 3 = 22) ∧ (0 ≤ gi M' 14 3 ∧ gi M' 14 3 ≤ 511) ∧ (us ≤ gi M' 14 9 ∧ gi M' 14 9 - us ≤ gi M' 14 2 - at_) ∧ (CD (gi M' 14 9) M') ∧ (∀ j : Int, 0 ≤ j → j < us → gi M' 19 j = gi M 19 j)))) {d : Nat} (hd : 4 + 3 * rr ≤ d) {M : mH} (H : HI base M) (depth : Int) (ct : Int) (at_ : Int) (kd : Int) (us : Int) (h0 : gi M 15 ct = 22) (h1 : 0 ≤ ct ∧ ct ≤ 400) (h2 : gi M 14 2 = at_) (h3 : gi M 14 3 = kd) (h4 : 0 ≤ at_ ∧ at_ ≤ ct) (h5 : at_ = ct → kd = 22) (h6 : 0 ≤ kd ∧ kd ≤ 511) (h7 : gi M 14 9 = us) (h8 : 0 ≤ us ∧ us ≤ at_) (h9 : 0 ≤ depth ∧ depth ≤ 8) (h10 : CD us M) (h11 : 8 - depth < (rr : Int) + 1) : sOk base X G d T30 [vR 14, vI depth] M (pI (fun v M' => HI base M' ∧ Fr [(14, 3), (14, 4), (14, 5), (14, 10), (14, 11), (19, 0)] M M' ∧ (v = 0 ∨ v = 1) ∧ (at_ ≤ gi M' 14 2 ∧ gi M' 14 2 ≤ ct) ∧ (gi M' 14 2 = ct → gi M' 14 3 = 22) ∧ (0 ≤ gi M' 14 3 ∧ gi M' 14 3 ≤ 511) ∧ (us ≤ gi M' 14 9 ∧ gi M' 14 9 - us ≤ gi M' 14 2 - at_) ∧ (CD (gi M' 14 9) M') ∧ (∀ j : Int, 0 ≤ j → j < us → gi M' 19 j = gi M 19 j))) := by
  have f0 : Fr [(14, 3), (14, 4), (14, 5), (14, 10), (14, 11), (19, 0)] M M := Fr.rf
  refine sOk.of (show sRn base X G d T30 0 [(0, vR 14), (1, vI depth)] [] M _ from ?_)
  refine s_blx (lv' := [(0, vR 14), (1, vI depth)]) (st' := [vI depth, vR 14]) B30_0_2 rfl ?_
  have g1 : gi M 14 2 = at_ := h2
  have g2 : gi M 14 3 = kd := h3
  have g3 : gi M 14 9 = us := h7
  refine r_vI (c := 14) (args := [vI depth]) (rest := []) (pc' := 5) D30_2 rfl ck_4_virtual_144 TE31 rfl (Nat.le_of_ble_eq_true rfl) ⟨Nat.le_of_ble_eq_true rfl, Nat.le_of_ble_eq_true rfl⟩ sc_14 ⟨rfl, by decide⟩ H.1 (by omega) (k31_14x E ihr (by omega) H depth ct at_ kd us (by omega) (by omega) (by omega) (by omega) (by omega) (by omega) (by omega) (by omega) (by omega) (by omega) (h10) (by omega)) ?_
  intro v4 M5 q15
  obtain ⟨H6, f7, q8, q9, q10, q11, q12, q13, q14⟩ := q15
  have f16 := f0.tr (f7.up rfl)
  have hp17 := (CZ.refl (n := us) (M := M)).sm q14 (by omega)
  obtain ⟨t18, ht19⟩ : ∃ q, q = gi M5 14 2 := ⟨_, rfl⟩
  have b_t18 := H6.2 14 2 0 400 rfl
  rw [← ht19] at b_t18
  obtain ⟨t20, ht21⟩ : ∃ q, q = gi M5 14 3 := ⟨_, rfl⟩
  have b_t20 := H6.2 14 3 0 511 rfl
  rw [← ht21] at b_t20
  obtain ⟨t22, ht23⟩ : ∃ q, q = gi M5 14 9 := ⟨_, rfl⟩
  have b_t22 := H6.2 14 9 0 400 rfl
  rw [← ht23] at b_t22
  rw [← ht19] at q9
  rw [← ht19, ← ht21] at q10
  rw [← ht21] at q11
  rw [← ht19, ← ht23] at q12
  rw [← ht23] at q13
  refine s_blx (lv' := [(3, vI 0), (2, vI v4), (0, vR 14), (1, vI depth)]) (st' := []) B30_5_8 rfl ?_
  refine r_loc (lv' := [(0, vR 14), (1, vI depth), (2, vI v4), (3, vI 0)]) ⟨rfl, rfl, rfl, rfl, trivial⟩ rfl rfl ?_
  have g24 : gi M5 14 2 = t18 := ht19.symm
  have g25 : gi M5 14 3 = t20 := ht21.symm
  have g26 : gi M5 14 9 = t22 := ht23.symm
  have g27 : gi M5 15 ct = gi M 15 ct := (f7.g rfl).trans (rfl)
  exact (L_k30_14x E ihr hd H depth ct at_ kd us h0 h1 h2 h3 h4 h5 h6 h7 h8 h9 h10 h11 (((400 - 0) * 1 + 0 : Int) + 1).toNat) v4 0 t18 t20 t22 M5 H6 f16 (by omega) (by omega) (by omega) (by omega) (by omega) (by omega) (by omega) (by omega) (q13) (hp17) (by omega) (by omega) (by omega) (by omega) (by omega) (by omega)
set_option maxRecDepth 4000 in
theorem L_k29_14x {base : Nat} {X : Nat → Option mC} {G : Nat → Value} (E : EnvOK base X G) {rr : Nat} (ihr : ∀ {d : Nat} (_ : 2 + 3 * rr ≤ d) {M : mH} (_ : HI base M) (depth : Int) (ct : Int) (at_ : Int) (kd : Int) (us : Int), (gi M 15 ct = 22) → (0 ≤ ct ∧ ct ≤ 400) → (gi M 14 2 = at_) → (gi M 14 3 = kd) → (0 ≤ at_ ∧ at_ ≤ ct) → (at_ = ct → kd = 22) → (0 ≤ kd ∧ kd ≤ 511) → (gi M 14 9 = us) → (0 ≤ us ∧ us ≤ at_) → (0 ≤ depth ∧ depth ≤ 8) → (CD us M) → 8 - depth < ((rr : Nat) : Int) → sOk base X G d T29 [vR 14, vI depth] M (pI (fun v M' => HI base M' ∧ Fr [(14, 3), (14, 4), (14, 5), (14, 10), (14, 11), (19, 0)] M M' ∧ (v = 0 ∨ v = 1) ∧ (at_ ≤ gi M' 14 2 ∧ gi M' 14 2 ≤ ct) ∧ (gi M' 14 2 = ct → gi M' 14 3 = 22) ∧ (0 ≤ gi M' 14 3 ∧ gi M' 14 3 ≤ 511) ∧ (us ≤ gi M' 14 9 ∧ gi M' 14 9 - us ≤ gi M' 14 2 - at_) ∧ (CD (gi M' 14 9) M') ∧ (∀ j : Int, 0 ≤ j → j < us → gi M' 19 j = gi M 19 j)))) {d : Nat} (hd : 2 + 3 * (rr + 1) ≤ d) {M : mH} (H : HI base M) (depth : Int) (ct : Int) (at_ : Int) (kd : Int) (us : Int) (h0 : gi M 15 ct = 22) (h1 : 0 ≤ ct ∧ ct ≤ 400) (h2 : gi M 14 2 = at_) (h3 : gi M 14 3 = kd) (h4 : 0 ≤ at_ ∧ at_ ≤ ct) (h5 : at_ = ct → kd = 22) (h6 : 0 ≤ kd ∧ kd ≤ 511) (h7 : gi M 14 9 = us) (h8 : 0 ≤ us ∧ us ≤ at_) (h9 : 0 ≤ depth ∧ depth ≤ 8) (h10 : CD us M) (hrr : 8 - depth < ((rr + 1 : Nat) : Int)) : ∀ mz : Nat, (∀ (x2 x3 a0 k0 u0 : Int) (N : mH), HI base N → Fr [(14, 3), (14, 4), (14, 5), (14, 10), (14, 11), (19, 0)] M N → (gi N 14 2 = a0) → (gi N 14 3 = k0) → (gi N 14 9 = u0) → (at_ ≤ a0 ∧ a0 ≤ ct) → (a0 = ct → k0 = 22) → (0 ≤ k0 ∧ k0 ≤ 511) → (us ≤ u0 ∧ u0 - us ≤ a0 - at_) → (gi N 15 ct = 22) → (CD u0 N) → (CZ us (gi M 19) N) → (0 ≤ x2 ∧ x2 ≤ 1) → (0 ≤ x2) → (x2 ≤ 1) → (0 ≤ x3) → (x3 ≤ 400) → (400 - x3) * 1 + 0 < (mz : Int) → sRn base X G d T29 8 [(0, vR 14), (1, vI depth), (2, vI x2), (3, vI x3)] [] N (s_Q base (pI (fun v M' => HI base M' ∧ Fr [(14, 3), (14, 4), (14, 5), (14, 10), (14, 11), (19, 0)] M M' ∧ (v = 0 ∨ v = 1) ∧ (at_ ≤ gi M' 14 2 ∧ gi M' 14 2 ≤ ct) ∧ (gi M' 14 2 = ct → gi M' 14 3 = 22) ∧ (0 ≤ gi M' 14 3 ∧ gi M' 14 3 ≤ 511) ∧ (us ≤ gi M' 14 9 ∧ gi M' 14 9 - us ≤ gi M' 14 2 - at_) ∧ (CD (gi M' 14 9) M') ∧ (∀ j : Int, 0 ≤ j → j < us → gi M' 19 j = gi M 19 j))))) := by
  have f0 : Fr [(14, 3), (14, 4), (14, 5), (14, 10), (14, 11), (19, 0)] M M := Fr.rf
  intro mz
  induction mz with
  | zero => exact fun x2 x3 a0 k0 u0 N _ _ z0 z1 z2 z3 z4 z5 z6 z7 z8 z9 z10 z11 z12 z13 z14 z15 => by omega
  | succ mz ih =>
    intro x2 x3 a0 k0 u0 N HN fN i0 i1 i2 i3 i4 i5 i6 i7 i8 i9 i10 i11 i12 i13 i14 hmu
    refine s_blx (lv' := [(0, vR 14), (1, vI depth), (2, vI x2), (3, vI x3)]) (st' := [vI 400, vI x3]) B29_8_12 rfl ?_
    refine r_icmp (tgt := 80) (pc' := 15) D29_12 rfl rfl (by unfold inR; omega) (fun (c28 : 400 ≤ x3) => ?_) (fun (c28 : ¬ (400 ≤ x3)) => ?_)
    · refine s_blx (lv' := [(0, vR 14), (1, vI depth), (2, vI x2), (3, vI x3)]) (st' := [vI x2]) B29_80_81 rfl ?_
      have g29 : gi N 14 2 = a0 := i0
      have g30 : gi N 14 3 = k0 := i1
      have g31 : gi N 14 9 = u0 := i2
      exact r_zretI D29_81 rfl (by omega) (⟨HN, fN, by omega, by rw [g29]; omega, by rw [g29, g30]; omega, by rw [g30]; omega, by rw [g29, g31]; omega, by rw [(i2)]; exact i8, i9⟩)
    · refine s_blx (lv' := [(0, vR 14), (1, vI depth), (2, vI x2), (3, vI x3)]) (st' := [vI x2]) B29_15_16 rfl ?_
      refine r_ifc (tgt := 80) (pc' := 19) D29_16 rfl rfl (by unfold inR; omega) (fun (c32 : x2 = 0) => ?_) (fun (c32 : ¬ (x2 = 0)) => ?_)
      · refine s_blx (lv' := [(0, vR 14), (1, vI depth), (2, vI x2), (3, vI x3)]) (st' := [vI x2]) B29_80_81 rfl ?_
        have g33 : gi N 14 2 = a0 := i0
        have g34 : gi N 14 3 = k0 := i1
        have g35 : gi N 14 9 = u0 := i2
        exact r_zretI D29_81 rfl (by omega) (⟨HN, fN, by omega, by rw [g33]; omega, by rw [g33, g34]; omega, by rw [g34]; omega, by rw [g33, g35]; omega, by rw [(i2)]; exact i8, i9⟩)
      · refine s_blx (lv' := [(0, vR 14), (1, vI depth), (2, vI x2), (3, vI x3)]) (st' := [vR 14]) B29_19_20 rfl ?_
        refine r_gint (ki := 3) (pc' := 23) D29_20 rfl gf_4_22_14 rfl HN.1 ?_
        intro w36 e37 r38
        have e39 : k0 = w36 := (e37.trans (i1)).symm
        subst e39
        refine s_blx (lv' := [(0, vR 14), (1, vI depth), (2, vI x2), (3, vI x3)]) (st' := [vI 143, vI k0]) B29_23_26 rfl ?_
        refine r_icmp (tgt := 39) (pc' := 29) D29_26 rfl rfl (by unfold inR; omega) (fun (c40 : k0 = 143) => ?_) (fun (c40 : ¬ (k0 = 143)) => ?_)
        · refine s_blx (lv' := [(0, vR 14), (1, vI depth), (2, vI x2), (3, vI x3)]) (st' := [vR 14]) B29_39_40 rfl ?_
          refine r_gint (ki := 3) (pc' := 43) D29_40 rfl gf_4_22_14 rfl HN.1 ?_
          intro w41 e42 r43
          have e44 : k0 = w41 := (e42.trans (i1)).symm
          subst e44
          refine s_blx (lv' := [(0, vR 14), (1, vI depth), (2, vI x2), (3, vI x3)]) (st' := [vI 143, vI k0]) B29_43_46 rfl ?_
          refine r_icmp (tgt := 53) (pc' := 49) D29_46 rfl rfl (by unfold inR; omega) (fun (c45 : k0 ≠ 143) => ?_) (fun (c45 : ¬ (k0 ≠ 143)) => ?_)
          · exfalso; omega
          · refine s_blx (lv' := [(0, vR 14), (1, vI depth), (2, vI x2), (3, vI x3)]) (st' := [vI 2]) B29_49_50 rfl ?_
            refine r_goto (tgt := 54) D29_50 rfl ?_
            refine s_blx (lv' := [(4, vI 2), (0, vR 14), (1, vI depth), (2, vI x2), (3, vI x3)]) (st' := [vR 14]) B29_54_57 rfl ?_
            have g46 : gi N 14 2 = a0 := i0
            have g47 : gi N 14 3 = k0 := i1
            refine r_vV (c := 14) (args := []) (rest := []) (pc' := 60) D29_57 rfl ck_4_virtual_105 TE35 rfl (Nat.le_of_ble_eq_true rfl) ⟨Nat.le_of_ble_eq_true rfl, Nat.le_of_ble_eq_true rfl⟩ sc_14 ⟨rfl, by decide⟩ HN.1 (by omega) (k35_14x E (by omega) HN ct a0 k0 (by omega) (by omega) (by omega) (by omega) (by omega) (by omega) (by omega) (by omega)) ?_
            intro M49 q56
            obtain ⟨H50, f51, q52, q53, q54, q55⟩ := q56
            have f57 := fN.tr (f51.up rfl)
            have hp58 := i8.fr f51 (by decide)
            have hp59 := i9.fr f51 (by decide)
            obtain ⟨t60, ht61⟩ : ∃ q, q = gi M49 14 2 := ⟨_, rfl⟩
            have b_t60 := H50.2 14 2 0 400 rfl
            rw [← ht61] at b_t60
            obtain ⟨t62, ht63⟩ : ∃ q, q = gi M49 14 3 := ⟨_, rfl⟩
            have b_t62 := H50.2 14 3 0 511 rfl
            rw [← ht63] at b_t62
            rw [← ht61] at q52
            rw [← ht63] at q54
            rw [← ht63] at q55
            refine s_blx (lv' := [(4, vI 2), (0, vR 14), (1, vI depth), (2, vI x2), (3, vI x3)]) (st' := [vI depth, vR 14]) B29_60_62 rfl ?_
            have g64 : gi M49 15 ct = gi N 15 ct := (f51.g rfl).trans (rfl)
            have g65 : gi M49 14 2 = t60 := ht61.symm
            have g66 : gi M49 14 3 = t62 := ht63.symm
            have g67 : gi M49 14 9 = u0 := (f51.g rfl).trans (i2)
            refine r_vI (c := 14) (args := [vI depth]) (rest := []) (pc' := 65) D29_62 rfl ck_4_virtual_141 TE30 rfl (Nat.le_of_ble_eq_true rfl) ⟨Nat.le_of_ble_eq_true rfl, Nat.le_of_ble_eq_true rfl⟩ sc_14 ⟨rfl, by decide⟩ H50.1 (by omega) (k30_14x E ihr (by omega) H50 depth ct t60 t62 u0 (by omega) (by omega) (by omega) (by omega) (by omega) (by omega) (by omega) (by omega) (by omega) (by omega) (hp58) (by omega)) ?_
            intro v68 M69 q79
            obtain ⟨H70, f71, q72, q73, q74, q75, q76, q77, q78⟩ := q79
            have f80 := f57.tr (f71.up rfl)
            have hp81 := hp59.sm q78 (by omega)
            obtain ⟨t82, ht83⟩ : ∃ q, q = gi M69 14 2 := ⟨_, rfl⟩
            have b_t82 := H70.2 14 2 0 400 rfl
            rw [← ht83] at b_t82
            obtain ⟨t84, ht85⟩ : ∃ q, q = gi M69 14 3 := ⟨_, rfl⟩
            have b_t84 := H70.2 14 3 0 511 rfl
            rw [← ht85] at b_t84
            obtain ⟨t86, ht87⟩ : ∃ q, q = gi M69 14 9 := ⟨_, rfl⟩
            have b_t86 := H70.2 14 9 0 400 rfl
            rw [← ht87] at b_t86
            rw [← ht83] at q73
            rw [← ht83, ← ht85] at q74
            rw [← ht85] at q75
            rw [← ht83, ← ht87] at q76
            rw [← ht87] at q77
            refine s_blx (lv' := [(2, vI v68), (4, vI 2), (0, vR 14), (1, vI depth), (3, vI x3)]) (st' := [vI 0, vI 2, vR 14]) B29_65_70 rfl ?_
            have g88 : gi M69 14 9 = t86 := ht87.symm
            refine r_vI (c := 14) (args := [vI 2, vI 0]) (rest := []) (pc' := 73) D29_70 rfl ck_4_virtual_118 TE37 rfl (Nat.le_of_ble_eq_true rfl) ⟨Nat.le_of_ble_eq_true rfl, Nat.le_of_ble_eq_true rfl⟩ sc_14 ⟨rfl, by decide⟩ H70.1 (by omega) (k37_14x E (by omega) H70 2 0 t86 (by omega) (by omega) (by omega) (by omega) (by omega) (q77)) ?_
            intro v89 M90 q98
            obtain ⟨H91, f92, q93, q94, q95, q96, q97⟩ := q98
            have f99 := f80.tr (f92.up rfl)
            have hp100 := hp81.sm q97 (by omega)
            obtain ⟨t101, ht102⟩ : ∃ q, q = gi M90 14 9 := ⟨_, rfl⟩
            have b_t101 := H91.2 14 9 0 400 rfl
            rw [← ht102] at b_t101
            rw [← ht102] at q94
            rw [← ht102] at q96
            refine s_blx (lv' := [(3, vI (x3 + 1)), (2, vI v68), (4, vI 2), (0, vR 14), (1, vI depth)]) (st' := []) B29_73_77 rfl ?_
            refine r_goto (tgt := 8) D29_77 rfl ?_
            refine r_loc (lv' := [(0, vR 14), (1, vI depth), (2, vI v68), (3, vI (x3 + 1))]) ⟨rfl, rfl, rfl, rfl, trivial⟩ rfl rfl ?_
            have g103 : gi M90 14 2 = t82 := (f92.g rfl).trans (ht83.symm)
            have g104 : gi M90 14 3 = t84 := (f92.g rfl).trans (ht85.symm)
            have g105 : gi M90 14 9 = t101 := ht102.symm
            have g106 : gi M90 15 ct = gi N 15 ct := (f92.g rfl).trans ((f71.g rfl).trans ((f51.g rfl).trans (rfl)))
            exact ih v68 (x3 + 1) t82 t84 t101 M90 H91 f99 (by omega) (by omega) (by omega) (by omega) (by omega) (by omega) (by omega) (by omega) (q96) (hp100) (by omega) (by omega) (by omega) (by omega) (by omega) (by omega)
        · refine s_blx (lv' := [(0, vR 14), (1, vI depth), (2, vI x2), (3, vI x3)]) (st' := [vR 14]) B29_29_30 rfl ?_
          refine r_gint (ki := 3) (pc' := 33) D29_30 rfl gf_4_22_14 rfl HN.1 ?_
          intro w107 e108 r109
          have e110 : k0 = w107 := (e108.trans (i1)).symm
          subst e110
          refine s_blx (lv' := [(0, vR 14), (1, vI depth), (2, vI x2), (3, vI x3)]) (st' := [vI 145, vI k0]) B29_33_36 rfl ?_
          refine r_icmp (tgt := 80) (pc' := 39) D29_36 rfl rfl (by unfold inR; omega) (fun (c111 : k0 ≠ 145) => ?_) (fun (c111 : ¬ (k0 ≠ 145)) => ?_)
          · refine s_blx (lv' := [(0, vR 14), (1, vI depth), (2, vI x2), (3, vI x3)]) (st' := [vI x2]) B29_80_81 rfl ?_
            have g112 : gi N 14 2 = a0 := i0
            have g113 : gi N 14 3 = k0 := i1
            have g114 : gi N 14 9 = u0 := i2
            exact r_zretI D29_81 rfl (by omega) (⟨HN, fN, by omega, by rw [g112]; omega, by rw [g112, g113]; omega, by rw [g113]; omega, by rw [g112, g114]; omega, by rw [(i2)]; exact i8, i9⟩)
          · refine s_blx (lv' := [(0, vR 14), (1, vI depth), (2, vI x2), (3, vI x3)]) (st' := [vR 14]) B29_39_40 rfl ?_
            refine r_gint (ki := 3) (pc' := 43) D29_40 rfl gf_4_22_14 rfl HN.1 ?_
            intro w115 e116 r117
            have e118 : k0 = w115 := (e116.trans (i1)).symm
            subst e118
            refine s_blx (lv' := [(0, vR 14), (1, vI depth), (2, vI x2), (3, vI x3)]) (st' := [vI 143, vI k0]) B29_43_46 rfl ?_
            refine r_icmp (tgt := 53) (pc' := 49) D29_46 rfl rfl (by unfold inR; omega) (fun (c119 : k0 ≠ 143) => ?_) (fun (c119 : ¬ (k0 ≠ 143)) => ?_)
            · refine s_blx (lv' := [(4, vI 3), (0, vR 14), (1, vI depth), (2, vI x2), (3, vI x3)]) (st' := [vR 14]) B29_53_57 rfl ?_
              have g120 : gi N 14 2 = a0 := i0
              have g121 : gi N 14 3 = k0 := i1
              refine r_vV (c := 14) (args := []) (rest := []) (pc' := 60) D29_57 rfl ck_4_virtual_105 TE35 rfl (Nat.le_of_ble_eq_true rfl) ⟨Nat.le_of_ble_eq_true rfl, Nat.le_of_ble_eq_true rfl⟩ sc_14 ⟨rfl, by decide⟩ HN.1 (by omega) (k35_14x E (by omega) HN ct a0 k0 (by omega) (by omega) (by omega) (by omega) (by omega) (by omega) (by omega) (by omega)) ?_
              intro M123 q130
              obtain ⟨H124, f125, q126, q127, q128, q129⟩ := q130
              have f131 := fN.tr (f125.up rfl)
              have hp132 := i8.fr f125 (by decide)
              have hp133 := i9.fr f125 (by decide)
              obtain ⟨t134, ht135⟩ : ∃ q, q = gi M123 14 2 := ⟨_, rfl⟩
              have b_t134 := H124.2 14 2 0 400 rfl
              rw [← ht135] at b_t134
              obtain ⟨t136, ht137⟩ : ∃ q, q = gi M123 14 3 := ⟨_, rfl⟩
              have b_t136 := H124.2 14 3 0 511 rfl
              rw [← ht137] at b_t136
              rw [← ht135] at q126
              rw [← ht137] at q128
              rw [← ht137] at q129
              refine s_blx (lv' := [(4, vI 3), (0, vR 14), (1, vI depth), (2, vI x2), (3, vI x3)]) (st' := [vI depth, vR 14]) B29_60_62 rfl ?_
              have g138 : gi M123 15 ct = gi N 15 ct := (f125.g rfl).trans (rfl)
              have g139 : gi M123 14 2 = t134 := ht135.symm
              have g140 : gi M123 14 3 = t136 := ht137.symm
              have g141 : gi M123 14 9 = u0 := (f125.g rfl).trans (i2)
              refine r_vI (c := 14) (args := [vI depth]) (rest := []) (pc' := 65) D29_62 rfl ck_4_virtual_141 TE30 rfl (Nat.le_of_ble_eq_true rfl) ⟨Nat.le_of_ble_eq_true rfl, Nat.le_of_ble_eq_true rfl⟩ sc_14 ⟨rfl, by decide⟩ H124.1 (by omega) (k30_14x E ihr (by omega) H124 depth ct t134 t136 u0 (by omega) (by omega) (by omega) (by omega) (by omega) (by omega) (by omega) (by omega) (by omega) (by omega) (hp132) (by omega)) ?_
              intro v142 M143 q153
              obtain ⟨H144, f145, q146, q147, q148, q149, q150, q151, q152⟩ := q153
              have f154 := f131.tr (f145.up rfl)
              have hp155 := hp133.sm q152 (by omega)
              obtain ⟨t156, ht157⟩ : ∃ q, q = gi M143 14 2 := ⟨_, rfl⟩
              have b_t156 := H144.2 14 2 0 400 rfl
              rw [← ht157] at b_t156
              obtain ⟨t158, ht159⟩ : ∃ q, q = gi M143 14 3 := ⟨_, rfl⟩
              have b_t158 := H144.2 14 3 0 511 rfl
              rw [← ht159] at b_t158
              obtain ⟨t160, ht161⟩ : ∃ q, q = gi M143 14 9 := ⟨_, rfl⟩
              have b_t160 := H144.2 14 9 0 400 rfl
              rw [← ht161] at b_t160
              rw [← ht157] at q147
              rw [← ht157, ← ht159] at q148
              rw [← ht159] at q149
              rw [← ht157, ← ht161] at q150
              rw [← ht161] at q151
              refine s_blx (lv' := [(2, vI v142), (4, vI 3), (0, vR 14), (1, vI depth), (3, vI x3)]) (st' := [vI 0, vI 3, vR 14]) B29_65_70 rfl ?_
              have g162 : gi M143 14 9 = t160 := ht161.symm
              refine r_vI (c := 14) (args := [vI 3, vI 0]) (rest := []) (pc' := 73) D29_70 rfl ck_4_virtual_118 TE37 rfl (Nat.le_of_ble_eq_true rfl) ⟨Nat.le_of_ble_eq_true rfl, Nat.le_of_ble_eq_true rfl⟩ sc_14 ⟨rfl, by decide⟩ H144.1 (by omega) (k37_14x E (by omega) H144 3 0 t160 (by omega) (by omega) (by omega) (by omega) (by omega) (q151)) ?_
              intro v163 M164 q172
              obtain ⟨H165, f166, q167, q168, q169, q170, q171⟩ := q172
              have f173 := f154.tr (f166.up rfl)
              have hp174 := hp155.sm q171 (by omega)
              obtain ⟨t175, ht176⟩ : ∃ q, q = gi M164 14 9 := ⟨_, rfl⟩
              have b_t175 := H165.2 14 9 0 400 rfl
              rw [← ht176] at b_t175
              rw [← ht176] at q168
              rw [← ht176] at q170
              refine s_blx (lv' := [(3, vI (x3 + 1)), (2, vI v142), (4, vI 3), (0, vR 14), (1, vI depth)]) (st' := []) B29_73_77 rfl ?_
              refine r_goto (tgt := 8) D29_77 rfl ?_
              refine r_loc (lv' := [(0, vR 14), (1, vI depth), (2, vI v142), (3, vI (x3 + 1))]) ⟨rfl, rfl, rfl, rfl, trivial⟩ rfl rfl ?_
              have g177 : gi M164 14 2 = t156 := (f166.g rfl).trans (ht157.symm)
              have g178 : gi M164 14 3 = t158 := (f166.g rfl).trans (ht159.symm)
              have g179 : gi M164 14 9 = t175 := ht176.symm
              have g180 : gi M164 15 ct = gi N 15 ct := (f166.g rfl).trans ((f145.g rfl).trans ((f125.g rfl).trans (rfl)))
              exact ih v142 (x3 + 1) t156 t158 t175 M164 H165 f173 (by omega) (by omega) (by omega) (by omega) (by omega) (by omega) (by omega) (by omega) (q170) (hp174) (by omega) (by omega) (by omega) (by omega) (by omega) (by omega)
            · exfalso; omega
set_option maxRecDepth 4000 in
theorem k29_14xr {base : Nat} {X : Nat → Option mC} {G : Nat → Value} (E : EnvOK base X G) : ∀ rr : Nat, ∀ {d : Nat} (_ : 2 + 3 * rr ≤ d) {M : mH} (_ : HI base M) (depth : Int) (ct : Int) (at_ : Int) (kd : Int) (us : Int), (gi M 15 ct = 22) → (0 ≤ ct ∧ ct ≤ 400) → (gi M 14 2 = at_) → (gi M 14 3 = kd) → (0 ≤ at_ ∧ at_ ≤ ct) → (at_ = ct → kd = 22) → (0 ≤ kd ∧ kd ≤ 511) → (gi M 14 9 = us) → (0 ≤ us ∧ us ≤ at_) → (0 ≤ depth ∧ depth ≤ 8) → (CD us M) → 8 - depth < ((rr : Nat) : Int) → sOk base X G d T29 [vR 14, vI depth] M (pI (fun v M' => HI base M' ∧ Fr [(14, 3), (14, 4), (14, 5), (14, 10), (14, 11), (19, 0)] M M' ∧ (v = 0 ∨ v = 1) ∧ (at_ ≤ gi M' 14 2 ∧ gi M' 14 2 ≤ ct) ∧ (gi M' 14 2 = ct → gi M' 14 3 = 22) ∧ (0 ≤ gi M' 14 3 ∧ gi M' 14 3 ≤ 511) ∧ (us ≤ gi M' 14 9 ∧ gi M' 14 9 - us ≤ gi M' 14 2 - at_) ∧ (CD (gi M' 14 9) M') ∧ (∀ j : Int, 0 ≤ j → j < us → gi M' 19 j = gi M 19 j))) := by
  intro rr
  induction rr with
  | zero => intro d hd M H depth ct at_ kd us h0 h1 h2 h3 h4 h5 h6 h7 h8 h9 h10 hrr; exfalso; omega
  | succ rr ihr =>
  intro d hd M H depth ct at_ kd us h0 h1 h2 h3 h4 h5 h6 h7 h8 h9 h10 hrr
  have f0 : Fr [(14, 3), (14, 4), (14, 5), (14, 10), (14, 11), (19, 0)] M M := Fr.rf
  refine sOk.of (show sRn base X G d T29 0 [(0, vR 14), (1, vI depth)] [] M _ from ?_)
  refine s_blx (lv' := [(0, vR 14), (1, vI depth)]) (st' := [vI depth, vR 14]) B29_0_2 rfl ?_
  have g1 : gi M 14 2 = at_ := h2
  have g2 : gi M 14 3 = kd := h3
  have g3 : gi M 14 9 = us := h7
  refine r_vI (c := 14) (args := [vI depth]) (rest := []) (pc' := 5) D29_2 rfl ck_4_virtual_141 TE30 rfl (Nat.le_of_ble_eq_true rfl) ⟨Nat.le_of_ble_eq_true rfl, Nat.le_of_ble_eq_true rfl⟩ sc_14 ⟨rfl, by decide⟩ H.1 (by omega) (k30_14x E ihr (by omega) H depth ct at_ kd us (by omega) (by omega) (by omega) (by omega) (by omega) (by omega) (by omega) (by omega) (by omega) (by omega) (h10) (by omega)) ?_
  intro v4 M5 q15
  obtain ⟨H6, f7, q8, q9, q10, q11, q12, q13, q14⟩ := q15
  have f16 := f0.tr (f7.up rfl)
  have hp17 := (CZ.refl (n := us) (M := M)).sm q14 (by omega)
  obtain ⟨t18, ht19⟩ : ∃ q, q = gi M5 14 2 := ⟨_, rfl⟩
  have b_t18 := H6.2 14 2 0 400 rfl
  rw [← ht19] at b_t18
  obtain ⟨t20, ht21⟩ : ∃ q, q = gi M5 14 3 := ⟨_, rfl⟩
  have b_t20 := H6.2 14 3 0 511 rfl
  rw [← ht21] at b_t20
  obtain ⟨t22, ht23⟩ : ∃ q, q = gi M5 14 9 := ⟨_, rfl⟩
  have b_t22 := H6.2 14 9 0 400 rfl
  rw [← ht23] at b_t22
  rw [← ht19] at q9
  rw [← ht19, ← ht21] at q10
  rw [← ht21] at q11
  rw [← ht19, ← ht23] at q12
  rw [← ht23] at q13
  refine s_blx (lv' := [(3, vI 0), (2, vI v4), (0, vR 14), (1, vI depth)]) (st' := []) B29_5_8 rfl ?_
  refine r_loc (lv' := [(0, vR 14), (1, vI depth), (2, vI v4), (3, vI 0)]) ⟨rfl, rfl, rfl, rfl, trivial⟩ rfl rfl ?_
  have g24 : gi M5 14 2 = t18 := ht19.symm
  have g25 : gi M5 14 3 = t20 := ht21.symm
  have g26 : gi M5 14 9 = t22 := ht23.symm
  have g27 : gi M5 15 ct = gi M 15 ct := (f7.g rfl).trans (rfl)
  exact (L_k29_14x E ihr hd H depth ct at_ kd us h0 h1 h2 h3 h4 h5 h6 h7 h8 h9 h10 hrr (((400 - 0) * 1 + 0 : Int) + 1).toNat) v4 0 t18 t20 t22 M5 H6 f16 (by omega) (by omega) (by omega) (by omega) (by omega) (by omega) (by omega) (by omega) (q13) (hp17) (by omega) (by omega) (by omega) (by omega) (by omega) (by omega)
theorem k29_14x {base : Nat} {X : Nat → Option mC} {G : Nat → Value} (E : EnvOK base X G) {d : Nat} (hd : 29 ≤ d) {M : mH} (H : HI base M) (depth : Int) (ct : Int) (at_ : Int) (kd : Int) (us : Int) (h0 : gi M 15 ct = 22) (h1 : 0 ≤ ct ∧ ct ≤ 400) (h2 : gi M 14 2 = at_) (h3 : gi M 14 3 = kd) (h4 : 0 ≤ at_ ∧ at_ ≤ ct) (h5 : at_ = ct → kd = 22) (h6 : 0 ≤ kd ∧ kd ≤ 511) (h7 : gi M 14 9 = us) (h8 : 0 ≤ us ∧ us ≤ at_) (h9 : 0 ≤ depth ∧ depth ≤ 8) (h10 : CD us M) : sOk base X G d T29 [vR 14, vI depth] M (pI (fun v M' => HI base M' ∧ Fr [(14, 3), (14, 4), (14, 5), (14, 10), (14, 11), (19, 0)] M M' ∧ (v = 0 ∨ v = 1) ∧ (at_ ≤ gi M' 14 2 ∧ gi M' 14 2 ≤ ct) ∧ (gi M' 14 2 = ct → gi M' 14 3 = 22) ∧ (0 ≤ gi M' 14 3 ∧ gi M' 14 3 ≤ 511) ∧ (us ≤ gi M' 14 9 ∧ gi M' 14 9 - us ≤ gi M' 14 2 - at_) ∧ (CD (gi M' 14 9) M') ∧ (∀ j : Int, 0 ≤ j → j < us → gi M' 19 j = gi M 19 j))) := k29_14xr E 9 (by omega) H depth ct at_ kd us h0 h1 h2 h3 h4 h5 h6 h7 h8 h9 h10 (by omega)
