noncomputable def T201 : mT := (11, yX11_plansOf, cX11_plansOf, 6, none)
set_option maxRecDepth 10000 in
theorem TE201 : sy_m[201]? = some T201 := rfl
theorem B201_0_7 : s_dk T201.2.2.1 0 [.iconst 0, .istore_n 2, .iconst 0, .istore_n 3, .iconst (-1), .istore 4] 7 = true := by decide +kernel
theorem B201_7_10 : s_dk T201.2.2.1 7 [.iload 4, .iconst 4] 10 = true := by decide +kernel
theorem D201_10 : decode T201.2.2.1 10 = .ok (.if_icmp .eq 114, 3) := by decide +kernel
theorem B201_13_16 : s_dk T201.2.2.1 13 [.iload_n 3, .aload_n 0, .iload_n 1] 16 = true := by decide +kernel
theorem D201_16 : decode T201.2.2.1 16 = .ok (.invokevirtual 144, 3) := by decide +kernel
theorem D201_19 : decode T201.2.2.1 19 = .ok (.if_icmp .lt 7, 3) := by decide +kernel
theorem B201_26_33 : s_dk T201.2.2.1 26 [.iconst 0, .istore 5, .aload_n 0, .iload_n 1, .iload 5] 33 = true := by decide +kernel
theorem D201_33 : decode T201.2.2.1 33 = .ok (.ifCond .eq 11, 3) := by decide +kernel
theorem B201_44_49 : s_dk T201.2.2.1 44 [.iload_n 3, .iconst 1, .iadd, .iload 5] 49 = true := by decide +kernel
theorem D201_49 : decode T201.2.2.1 49 = .ok (.invokevirtual 253, 3) := by decide +kernel
theorem B201_52_53 : s_dk T201.2.2.1 52 [.aload_n 0] 53 = true := by decide +kernel
theorem D201_53 : decode T201.2.2.1 53 = .ok (.getfield 44, 3) := by decide +kernel
theorem B201_56_61 : s_dk T201.2.2.1 56 [.sipush 1111, .iload 5] 61 = true := by decide +kernel
theorem D201_61 : decode T201.2.2.1 61 = .ok (.ifCond .eq 10, 3) := by decide +kernel
theorem B201_71_78 : s_dk T201.2.2.1 71 [.bipush 9, .aload_n 0, .iload_n 1, .iload_n 3, .iconst 1, .iadd] 78 = true := by decide +kernel
theorem D201_78 : decode T201.2.2.1 78 = .ok (.invokevirtual 267, 3) := by decide +kernel
theorem B201_81_89 : s_dk T201.2.2.1 81 [.imul, .iload_n 3, .iadd, .iconst 1, .iadd, .imul, .iload_n 2, .iadd] 89 = true := by decide +kernel
theorem D201_89 : decode T201.2.2.1 89 = .ok (.iaload, 1) := by decide +kernel
theorem B201_90_93 : s_dk T201.2.2.1 90 [.istore 4, .aload_n 0] 93 = true := by decide +kernel
theorem D201_93 : decode T201.2.2.1 93 = .ok (.getfield 56, 3) := by decide +kernel
theorem B201_96_104 : s_dk T201.2.2.1 96 [.bipush 24, .iload_n 1, .imul, .iload_n 3, .iadd, .iload 4] 104 = true := by decide +kernel
theorem D201_104 : decode T201.2.2.1 104 = .ok (.iastore, 1) := by decide +kernel
theorem B201_105_109 : s_dk T201.2.2.1 105 [.aload_n 0, .iload_n 2, .iload 4] 109 = true := by decide +kernel
theorem D201_109 : decode T201.2.2.1 109 = .ok (.invokevirtual 240, 3) := by decide +kernel
theorem B201_112_114 : s_dk T201.2.2.1 112 [.pop, .aload_n 0] 114 = true := by decide +kernel
theorem D201_114 : decode T201.2.2.1 114 = .ok (.getfield 215, 3) := by decide +kernel
theorem B201_117_121 : s_dk T201.2.2.1 117 [.istore_n 2, .iinc 3 1] 121 = true := by decide +kernel
theorem D201_121 : decode T201.2.2.1 121 = .ok (.goto (-114), 3) := by decide +kernel
theorem B201_22_23 : s_dk T201.2.2.1 22 [.iconst 1] 23 = true := by decide +kernel
theorem D201_23 : decode T201.2.2.1 23 = .ok (.goto 4, 3) := by decide +kernel
theorem B201_27_33 : s_dk T201.2.2.1 27 [.istore 5, .aload_n 0, .iload_n 1, .iload 5] 33 = true := by decide +kernel
theorem B201_36_38 : s_dk T201.2.2.1 36 [.aload_n 0, .iload_n 1] 38 = true := by decide +kernel
theorem D201_38 : decode T201.2.2.1 38 = .ok (.invokevirtual 144, 3) := by decide +kernel
theorem D201_41 : decode T201.2.2.1 41 = .ok (.goto 6, 3) := by decide +kernel
theorem B201_47_49 : s_dk T201.2.2.1 47 [.iload 5] 49 = true := by decide +kernel
theorem B201_64_68 : s_dk T201.2.2.1 64 [.bipush 9, .iload_n 1, .imul] 68 = true := by decide +kernel
theorem D201_68 : decode T201.2.2.1 68 = .ok (.goto 18, 3) := by decide +kernel
theorem B201_86_89 : s_dk T201.2.2.1 86 [.imul, .iload_n 2, .iadd] 89 = true := by decide +kernel
theorem B201_124_125 : s_dk T201.2.2.1 124 [.aload_n 0] 125 = true := by decide +kernel
theorem D201_125 : decode T201.2.2.1 125 = .ok (.getfield 59, 3) := by decide +kernel
theorem B201_128_130 : s_dk T201.2.2.1 128 [.iload_n 1, .iload_n 3] 130 = true := by decide +kernel
theorem D201_130 : decode T201.2.2.1 130 = .ok (.iastore, 1) := by decide +kernel
theorem D201_131 : decode T201.2.2.1 131 = .ok (.return_, 1) := by decide +kernel
noncomputable def T202 : mT := (11, yX11_best, cX11_best, 5, (some .long))
set_option maxRecDepth 10000 in
theorem TE202 : sy_m[202]? = some T202 := rfl
theorem B202_0_2 : s_dk T202.2.2.1 0 [.aload_n 0, .iconst 1] 2 = true := by decide +kernel
theorem pf_11_234_77 : s_pf 11 234 77 = some (24, 2) := by decide +kernel
theorem D202_2 : decode T202.2.2.1 2 = .ok (.putfield 234, 3) := by decide +kernel
theorem B202_5_6 : s_dk T202.2.2.1 5 [.aload_n 0] 6 = true := by decide +kernel
theorem D202_6 : decode T202.2.2.1 6 = .ok (.invokevirtual 283, 3) := by decide +kernel
theorem B202_9_12 : s_dk T202.2.2.1 9 [.lstore_n 1, .aload_n 0, .iconst 0] 12 = true := by decide +kernel
theorem D202_12 : decode T202.2.2.1 12 = .ok (.putfield 234, 3) := by decide +kernel
theorem B202_15_17 : s_dk T202.2.2.1 15 [.aload_n 0, .iconst 1] 17 = true := by decide +kernel
theorem pf_11_287_77 : s_pf 11 287 77 = some (23, 2) := by decide +kernel
theorem D202_17 : decode T202.2.2.1 17 = .ok (.putfield 287, 3) := by decide +kernel
theorem B202_20_22 : s_dk T202.2.2.1 20 [.iconst 0, .istore_n 3] 22 = true := by decide +kernel
theorem B202_22_25 : s_dk T202.2.2.1 22 [.iload_n 3, .bipush 16] 25 = true := by decide +kernel
theorem D202_25 : decode T202.2.2.1 25 = .ok (.if_icmp .ge 140, 3) := by decide +kernel
theorem B202_28_29 : s_dk T202.2.2.1 28 [.aload_n 0] 29 = true := by decide +kernel
theorem D202_29 : decode T202.2.2.1 29 = .ok (.getfield 47, 3) := by decide +kernel
theorem B202_32_35 : s_dk T202.2.2.1 32 [.iload_n 3, .iload_n 3, .aload_n 0] 35 = true := by decide +kernel
theorem D202_35 : decode T202.2.2.1 35 = .ok (.getfield 13, 3) := by decide +kernel
theorem B202_38_41 : s_dk T202.2.2.1 38 [.sipush 469] 41 = true := by decide +kernel
theorem D202_41 : decode T202.2.2.1 41 = .ok (.iaload, 1) := by decide +kernel
theorem D202_42 : decode T202.2.2.1 42 = .ok (.if_icmp .ge 15, 3) := by decide +kernel
theorem B202_57_58 : s_dk T202.2.2.1 57 [.iconst 0] 58 = true := by decide +kernel
theorem D202_58 : decode T202.2.2.1 58 = .ok (.bastore, 1) := by decide +kernel
theorem B202_59_60 : s_dk T202.2.2.1 59 [.aload_n 0] 60 = true := by decide +kernel
theorem D202_60 : decode T202.2.2.1 60 = .ok (.getfield 59, 3) := by decide +kernel
theorem B202_63_65 : s_dk T202.2.2.1 63 [.iload_n 3, .iconst 0] 65 = true := by decide +kernel
theorem D202_65 : decode T202.2.2.1 65 = .ok (.iastore, 1) := by decide +kernel
theorem B202_66_67 : s_dk T202.2.2.1 66 [.aload_n 0] 67 = true := by decide +kernel
theorem D202_67 : decode T202.2.2.1 67 = .ok (.getfield 47, 3) := by decide +kernel
theorem B202_70_71 : s_dk T202.2.2.1 70 [.iload_n 3] 71 = true := by decide +kernel
theorem D202_71 : decode T202.2.2.1 71 = .ok (.baload, 1) := by decide +kernel
theorem D202_72 : decode T202.2.2.1 72 = .ok (.ifCond .ne 6, 3) := by decide +kernel
theorem D202_75 : decode T202.2.2.1 75 = .ok (.goto 84, 3) := by decide +kernel
theorem B202_159_162 : s_dk T202.2.2.1 159 [.iinc 3 1] 162 = true := by decide +kernel
theorem D202_162 : decode T202.2.2.1 162 = .ok (.goto (-140), 3) := by decide +kernel
theorem B202_45_47 : s_dk T202.2.2.1 45 [.aload_n 0, .iload_n 3] 47 = true := by decide +kernel
theorem D202_47 : decode T202.2.2.1 47 = .ok (.invokevirtual 138, 3) := by decide +kernel
theorem D202_50 : decode T202.2.2.1 50 = .ok (.ifCond .le 7, 3) := by decide +kernel
theorem B202_53_54 : s_dk T202.2.2.1 53 [.iconst 1] 54 = true := by decide +kernel
theorem D202_54 : decode T202.2.2.1 54 = .ok (.goto 4, 3) := by decide +kernel
theorem B202_78_79 : s_dk T202.2.2.1 78 [.aload_n 0] 79 = true := by decide +kernel
theorem D202_79 : decode T202.2.2.1 79 = .ok (.getfield 50, 3) := by decide +kernel
theorem B202_82_85 : s_dk T202.2.2.1 82 [.iload_n 3, .aload_n 0, .iload_n 3] 85 = true := by decide +kernel
theorem D202_85 : decode T202.2.2.1 85 = .ok (.invokevirtual 144, 3) := by decide +kernel
theorem D202_88 : decode T202.2.2.1 88 = .ok (.iastore, 1) := by decide +kernel
theorem B202_89_92 : s_dk T202.2.2.1 89 [.iconst 0, .istore 4] 92 = true := by decide +kernel
theorem B202_92_96 : s_dk T202.2.2.1 92 [.iload 4, .aload_n 0, .iload_n 3] 96 = true := by decide +kernel
theorem D202_96 : decode T202.2.2.1 96 = .ok (.invokevirtual 144, 3) := by decide +kernel
theorem D202_99 : decode T202.2.2.1 99 = .ok (.if_icmp .gt 55, 3) := by decide +kernel
theorem B202_102_103 : s_dk T202.2.2.1 102 [.aload_n 0] 103 = true := by decide +kernel
theorem D202_103 : decode T202.2.2.1 103 = .ok (.getfield 53, 3) := by decide +kernel
theorem B202_106_117 : s_dk T202.2.2.1 106 [.bipush 9, .iload_n 3, .imul, .iload 4, .iadd, .iload 4, .aload_n 0, .iload_n 3] 117 = true := by decide +kernel
theorem D202_117 : decode T202.2.2.1 117 = .ok (.invokevirtual 144, 3) := by decide +kernel
theorem D202_120 : decode T202.2.2.1 120 = .ok (.if_icmp .ne 10, 3) := by decide +kernel
theorem B202_130_138 : s_dk T202.2.2.1 130 [.bipush 9, .aload_n 0, .iload_n 3, .iload 4, .iconst 1, .iadd] 138 = true := by decide +kernel
theorem D202_138 : decode T202.2.2.1 138 = .ok (.invokevirtual 267, 3) := by decide +kernel
theorem B202_141_147 : s_dk T202.2.2.1 141 [.imul, .iload 4, .iadd, .iconst 1, .iadd] 147 = true := by decide +kernel
theorem D202_147 : decode T202.2.2.1 147 = .ok (.iastore, 1) := by decide +kernel
theorem B202_148_151 : s_dk T202.2.2.1 148 [.iinc 4 1] 151 = true := by decide +kernel
theorem D202_151 : decode T202.2.2.1 151 = .ok (.goto (-59), 3) := by decide +kernel
theorem B202_123_127 : s_dk T202.2.2.1 123 [.bipush 9, .iload_n 3, .imul] 127 = true := by decide +kernel
theorem D202_127 : decode T202.2.2.1 127 = .ok (.goto 20, 3) := by decide +kernel
theorem B202_154_156 : s_dk T202.2.2.1 154 [.aload_n 0, .iload_n 3] 156 = true := by decide +kernel
theorem D202_156 : decode T202.2.2.1 156 = .ok (.invokevirtual 290, 3) := by decide +kernel
theorem ck_11_virtual_290 : m_call 11 (.invokevirtual 290) = some (0, 201, 1) := by decide +kernel
theorem B202_165_166 : s_dk T202.2.2.1 165 [.lload_n 1] 166 = true := by decide +kernel
theorem D202_166 : decode T202.2.2.1 166 = .ok (.lreturn, 1) := by decide +kernel
set_option maxRecDepth 4000 in
set_option maxHeartbeats 4000000 in
theorem L_k199k {base : Nat} {X : Nat → Option mC} {G : Nat → Value} (E : EnvOK base X G) {d : Nat} (hd : 4 ≤ d) {M : mH} (H : HI base M) (s : Int) (n : Int) (K : Int → Int) (kp : Int) (h0 : TB M) (h1 : KK K M) (h2 : VT M) (h3 : gi M 77 24 = kp) (h4 : 0 ≤ kp ∧ kp ≤ 1) (h5 : 0 ≤ s ∧ s ≤ 15) (h6 : 1 ≤ n ∧ n ≤ 8) : ∀ mz : Nat, (∀ (x3 : Int) (N : mH), HI base N → Fr [(77, 7), (77, 8), (77, 9), (77, 10), (77, 14), (77, 15), (77, 16), (77, 28), (83, 0), (84, 0), (85, 0), (86, 0), (87, 0), (93, 0)] M N → (∀ j : Int, 0 ≤ j → (j < 1111 * (9 * s + n) ∨ 1111 * (9 * s + n) + 1110 < j) → gi N 87 j = gi M 87 j) → (VT N) → (gi N 77 24 = kp) → (gi N 77 9 = 0) → (C3 84 (suF K s n 0) N) → (C3 83 (caF K s n 0) N) → (C3 85 (onF K s n 0) N) → (0 ≤ x3 ∧ x3 ≤ 1111) → (0 ≤ x3) → (x3 ≤ 1111) → (1111 - x3) * 307 + 306 < (mz : Int) → sRn base X G d T199 15 [(0, vR 77), (1, vI s), (2, vI n), (3, vI x3)] [] N (s_Q base (pV (fun M' => HI base M' ∧ Fr [(77, 7), (77, 8), (77, 9), (77, 10), (77, 14), (77, 15), (77, 16), (77, 28), (83, 0), (84, 0), (85, 0), (86, 0), (87, 0), (93, 0)] M M' ∧ (∀ j : Int, 0 ≤ j → (j < 1111 * (9 * s + n) ∨ 1111 * (9 * s + n) + 1110 < j) → gi M' 87 j = gi M 87 j) ∧ (VT M'))))) ∧ (∀ (x3 x4 x6 x7 : Int) (N : mH), HI base N → Fr [(77, 7), (77, 8), (77, 9), (77, 10), (77, 14), (77, 15), (77, 16), (77, 28), (83, 0), (84, 0), (85, 0), (86, 0), (87, 0), (93, 0)] M N → (∀ j : Int, 0 ≤ j → (j < 1111 * (9 * s + n) ∨ 1111 * (9 * s + n) + 1110 < j) → gi N 87 j = gi M 87 j) → (VT N) → (gi N 77 24 = kp) → (gi N 77 9 = 0) → (C3 84 (suF K s n 0) N) → (C3 83 (caF K s n 0) N) → (C3 85 (onF K s n 0) N) → (0 ≤ x3 ∧ x3 ≤ 1110) → (0 ≤ x7 ∧ x7 ≤ 16) → (x6 = -1 ∨ (0 ≤ x6 ∧ x6 ≤ 4) ∨ (10 ≤ x6 ∧ x6 ≤ 17) ∨ (20 ≤ x6 ∧ x6 ≤ 22)) → (1 ≤ x7 → x6 ≠ -1) → (0 ≤ x3) → (x3 ≤ 1110) → ((-1) ≤ x6) → (x6 ≤ 22) → (0 ≤ x7) → (x7 ≤ 16) → (1111 - x3) * 307 + 0 + (16 - x7) * 18 + 17 < (mz : Int) → sRn base X G d T199 31 [(0, vR 77), (1, vI s), (2, vI n), (3, vI x3), (4, vL x4), (6, vI x6), (7, vI x7)] [] N (s_Q base (pV (fun M' => HI base M' ∧ Fr [(77, 7), (77, 8), (77, 9), (77, 10), (77, 14), (77, 15), (77, 16), (77, 28), (83, 0), (84, 0), (85, 0), (86, 0), (87, 0), (93, 0)] M M' ∧ (∀ j : Int, 0 ≤ j → (j < 1111 * (9 * s + n) ∨ 1111 * (9 * s + n) + 1110 < j) → gi M' 87 j = gi M 87 j) ∧ (VT M'))))) ∧ (∀ (x3 x4 x6 x7 x8 x9 x11 : Int) (N : mH), HI base N → Fr [(77, 7), (77, 8), (77, 9), (77, 10), (77, 14), (77, 15), (77, 16), (77, 28), (83, 0), (84, 0), (85, 0), (86, 0), (87, 0), (93, 0)] M N → (∀ j : Int, 0 ≤ j → (j < 1111 * (9 * s + n) ∨ 1111 * (9 * s + n) + 1110 < j) → gi N 87 j = gi M 87 j) → (VT N) → (gi N 77 24 = kp) → (gi N 77 9 = 0) → (C3 84 (suF K s n 0) N) → (C3 83 (caF K s n 0) N) → (C3 85 (onF K s n 0) N) → (0 ≤ x3 ∧ x3 ≤ 1110) → (0 ≤ x7 ∧ x7 ≤ 15) → (0 ≤ x11 ∧ x11 ≤ 16) → (x6 = -1 ∨ (0 ≤ x6 ∧ x6 ≤ 4) ∨ (10 ≤ x6 ∧ x6 ≤ 17) ∨ (20 ≤ x6 ∧ x6 ≤ 22)) → ((0 ≤ x8 ∧ x8 ≤ 4) ∨ (10 ≤ x8 ∧ x8 ≤ 17) ∨ (20 ≤ x8 ∧ x8 ≤ 22)) → (0 ≤ x3) → (x3 ≤ 1110) → ((-1) ≤ x6) → (x6 ≤ 22) → (0 ≤ x7) → (x7 ≤ 15) → (0 ≤ x8) → (x8 ≤ 22) → (0 ≤ x11) → (x11 ≤ 16) → (1111 - x3) * 307 + 0 + (16 - x7) * 18 + 0 + (16 - x11) * 1 + 0 < (mz : Int) → sRn base X G d T199 103 [(0, vR 77), (1, vI s), (2, vI n), (3, vI x3), (4, vL x4), (6, vI x6), (7, vI x7), (8, vI x8), (9, vL x9), (11, vI x11)] [] N (s_Q base (pV (fun M' => HI base M' ∧ Fr [(77, 7), (77, 8), (77, 9), (77, 10), (77, 14), (77, 15), (77, 16), (77, 28), (83, 0), (84, 0), (85, 0), (86, 0), (87, 0), (93, 0)] M M' ∧ (∀ j : Int, 0 ≤ j → (j < 1111 * (9 * s + n) ∨ 1111 * (9 * s + n) + 1110 < j) → gi M' 87 j = gi M 87 j) ∧ (VT M'))))) := by
  have f0 : Fr [(77, 7), (77, 8), (77, 9), (77, 10), (77, 14), (77, 15), (77, 16), (77, 28), (83, 0), (84, 0), (85, 0), (86, 0), (87, 0), (93, 0)] M M := Fr.rf
  intro mz
  induction mz with
  | zero => exact ⟨fun x3 N _ _ z0 z1 z2 z3 z4 z5 z6 z7 z8 z9 z10 => by omega, fun x3 x4 x6 x7 N _ _ z0 z1 z2 z3 z4 z5 z6 z7 z8 z9 z10 z11 z12 z13 z14 z15 z16 z17 => by omega, fun x3 x4 x6 x7 x8 x9 x11 N _ _ z0 z1 z2 z3 z4 z5 z6 z7 z8 z9 z10 z11 z12 z13 z14 z15 z16 z17 z18 z19 z20 z21 z22 => by omega⟩
  | succ mz ih =>
    refine ⟨?_, ?_, ?_⟩
    · intro x3 N HN fN i0 i1 i2 i3 i4 i5 i6 i7 i8 i9 hmu
      refine s_blx (lv' := [(0, vR 77), (1, vI s), (2, vI n), (3, vI x3)]) (st' := [vI 1111, vI x3]) B199_15_19 rfl ?_
      refine r_icmp (tgt := 196) (pc' := 22) D199_19 rfl rfl (by unfold inR; omega) (fun (c32 : 1111 ≤ x3) => ?_) (fun (c32 : ¬ (1111 ≤ x3)) => ?_)
      · exact r_retV D199_196 rfl (⟨HN, fN, i0, i1⟩)
      · refine s_blx (lv' := [(7, vI 0), (6, vI (-1)), (4, vL 0), (0, vR 77), (1, vI s), (2, vI n), (3, vI x3)]) (st' := []) B199_22_31 rfl ?_
        refine r_loc (lv' := [(0, vR 77), (1, vI s), (2, vI n), (3, vI x3), (4, vL 0), (6, vI (-1)), (7, vI 0)]) ⟨rfl, rfl, rfl, rfl, rfl, rfl, rfl, trivial⟩ rfl rfl ?_
        exact ih.2.1 x3 0 (-1) 0 N HN fN (i0) (i1) (by omega) (by omega) (i4) (i5) (i6) (by omega) (by omega) (by omega) (by omega) (by omega) (by omega) (by omega) (by omega) (by omega) (by omega) (by omega)
    · intro x3 x4 x6 x7 N HN fN i0 i1 i2 i3 i4 i5 i6 i7 i8 i9 i10 i11 i12 i13 i14 i15 i16 hmu
      refine s_blx (lv' := [(0, vR 77), (1, vI s), (2, vI n), (3, vI x3), (4, vL x4), (6, vI x6), (7, vI x7)]) (st' := [vI 16, vI x7]) B199_31_35 rfl ?_
      refine r_icmp (tgt := 175) (pc' := 38) D199_35 rfl rfl (by unfold inR; omega) (fun (c33 : 16 ≤ x7) => ?_) (fun (c33 : ¬ (16 ≤ x7)) => ?_)
      · refine s_blx (lv' := [(0, vR 77), (1, vI s), (2, vI n), (3, vI x3), (4, vL x4), (6, vI x6), (7, vI x7)]) (st' := [vI x6, vL x4, vI x3, vI ((9 * s) + n), vR 77]) B199_175_187 rfl ?_
        have g34 : gi N 77 24 = kp := i2
        refine r_vV (c := 77) (args := [vI ((9 * s) + n), vI x3, vL x4, vI x6]) (rest := []) (pc' := 190) D199_187 rfl ck_11_virtual_249 TE194 rfl (Nat.le_of_ble_eq_true rfl) ⟨Nat.le_of_ble_eq_true rfl, Nat.le_of_ble_eq_true rfl⟩ sc_77 ⟨rfl, by decide⟩ HN.1 (dp_0 hd rfl) (k194k E (dp_n hd rfl) HN ((9 * s) + n) x3 x4 x6 (gi N 87) kp (fun _ => rfl) (i1) (by omega) (by omega) (by omega) (by omega) (by omega)) ?_
        intro M36 q42
        obtain ⟨H37, f38, q39, q40, q41⟩ := q42
        have f43 := fN.tr (f38.up rfl)
        have hp44 := i4.fr f38 (by decide)
        have hp45 := i5.fr f38 (by decide)
        have hp46 := i6.fr f38 (by decide)
        have kA := q39; clear q39
        refine s_blx (lv' := [(3, vI (x3 + 1)), (0, vR 77), (1, vI s), (2, vI n), (4, vL x4), (6, vI x6), (7, vI x7)]) (st' := []) B199_190_193 rfl ?_
        refine r_goto (tgt := 15) D199_193 rfl ?_
        refine r_loc (lv' := [(0, vR 77), (1, vI s), (2, vI n), (3, vI (x3 + 1))]) ⟨rfl, rfl, rfl, rfl, trivial⟩ rfl rfl ?_
        have g47 : gi M36 77 24 = kp := (f38.g rfl).trans (i2)
        have g48 : gi M36 77 9 = gi N 77 9 := (f38.g rfl).trans (rfl)
        exact ih.1 (x3 + 1) M36 H37 f43 (fun j a b => (kA j a (by omega)).trans (i0 j a b)) (q41) (by omega) (by omega) (hp44) (hp45) (hp46) (by omega) (by omega) (by omega) (by omega)
      · refine s_blx (lv' := [(0, vR 77), (1, vI s), (2, vI n), (3, vI x3), (4, vL x4), (6, vI x6), (7, vI x7)]) (st' := [vI x7]) B199_38_40 rfl ?_
        refine r_sIp (args := [vI x7]) (rest := []) (pc' := 43) D199_40 rfl ck_11_static_237 TE192 rfl (Nat.le_of_ble_eq_true rfl) ⟨Nat.le_of_ble_eq_true rfl, Nat.le_of_ble_eq_true rfl⟩ (by decide) (dp_0 hd rfl) (k192k E (dp_n hd rfl) HN x7 (by omega)) ?_
        intro v49 q55
        obtain ⟨q51, q52, q53, q54⟩ := q55
        refine s_blx (lv' := [(8, vI v49), (0, vR 77), (1, vI s), (2, vI n), (3, vI x3), (4, vL x4), (6, vI x6), (7, vI x7)]) (st' := [vR 77]) B199_43_46 rfl ?_
        refine r_gint (ki := 25) (pc' := 49) D199_46 rfl gf_11_273_77 rfl HN.1 ?_
        intro w56 e57 r58
        have b_w56 := HN.2 77 (25) 0 1 rfl
        rw [← e57] at b_w56; clear r58
        refine r_ifc (tgt := 64) (pc' := 52) D199_49 rfl rfl (by unfold inR; omega) (fun (c59 : w56 = 0) => ?_) (fun (c59 : ¬ (w56 = 0)) => ?_)
        · refine s_blx (lv' := [(8, vI v49), (0, vR 77), (1, vI s), (2, vI n), (3, vI x3), (4, vL x4), (6, vI x6), (7, vI x7)]) (st' := [vI v49, vI x3, vR 77]) B199_64_68 rfl ?_
          have kord := ((h1.fr fN rfl)) 473
          refine r_vI (c := 77) (args := [vI x3, vI v49]) (rest := []) (pc' := 71) D199_68 rfl ck_11_virtual_240 TE188 rfl (Nat.le_of_ble_eq_true rfl) ⟨Nat.le_of_ble_eq_true rfl, Nat.le_of_ble_eq_true rfl⟩ sc_77 ⟨rfl, by decide⟩ HN.1 (dp_0 hd rfl) (k188f E (dp_n hd rfl) HN x3 v49 (K 473) 0 (suF K s n 0) (caF K s n 0) (onF K s n 0) ((h0.fr fN rfl)) (i4) (i5) (i6) (by omega) (by omega) (by omega) (by omega) (by omega) (by omega) (by omega)) ?_
          intro v60 M61 q69
          obtain ⟨H62, f63, q64, q65, q66, q67, q68⟩ := q69
          have f70 := fN.tr (f63.up rfl)
          have hp71 := i1.fr f63 (by decide)
          have hp72 := i4.fr f63 (by decide)
          have hp73 := i5.fr f63 (by decide)
          have hp74 := i6.fr f63 (by decide)
          obtain ⟨t75, ht76⟩ : ∃ q, q = gi M61 77 14 := ⟨_, rfl⟩
          have b_t75 := H62.2 77 14 0 1110 rfl
          rw [← ht76] at b_t75
          rw [← ht76] at q67
          rw [← ht76] at q68
          have kno := q66
          clear q65 q66 q67 q68
          have kd0 : ∀ j : Int, gi M61 87 j = gi N 87 j := fun j => f63.g rfl
          have k0 : x7 = 0 → v60 = 1 := fun e => by have kc : v60 ≠ 0 := fun z => kno z ((LG_0 (by omega)).mpr rfl); omega
          refine r_ifc (tgt := 77) (pc' := 74) D199_71 rfl rfl (by unfold inR; omega) (fun (c77 : v60 ≠ 0) => ?_) (fun (c77 : ¬ (v60 ≠ 0)) => ?_)
          · refine s_blx (lv' := [(8, vI v49), (0, vR 77), (1, vI s), (2, vI n), (3, vI x3), (4, vL x4), (6, vI x6), (7, vI x7)]) (st' := [vR 77]) B199_77_78 rfl ?_
            refine r_gint (ki := 15) (pc' := 81) D199_78 rfl gf_11_218_77 rfl H62.1 ?_
            intro w78 e79 r80
            unfold inR at r80
            refine r_i2l (pc' := 82) D199_81 rfl (by unfold inR; omega) ?_
            refine s_blx (lv' := [(8, vI v49), (0, vR 77), (1, vI s), (2, vI n), (3, vI x3), (4, vL x4), (6, vI x6), (7, vI x7)]) (st' := [vR 77, vR 77, vL w78]) B199_82_84 rfl ?_
            refine r_gint (ki := 14) (pc' := 87) D199_84 rfl gf_11_215_77 rfl H62.1 ?_
            intro w81 e82 r83
            have e84 : t75 = w81 := (e82.trans (ht76.symm)).symm
            subst e84
            refine r_vIp (c := 77) (args := [vI t75]) (rest := [vL w78]) (pc' := 90) D199_87 rfl ck_11_virtual_246 TE190 rfl (Nat.le_of_ble_eq_true rfl) ⟨Nat.le_of_ble_eq_true rfl, Nat.le_of_ble_eq_true rfl⟩ sc_77 ⟨rfl, by decide⟩ H62.1 (dp_0 hd rfl) (k190 E (dp_n hd rfl) H62 t75 (by omega)) ?_
            intro v85 q88
            have q87 := q88; clear q88
            refine r_i2l (pc' := 91) D199_90 rfl (by unfold inR; omega) ?_
            refine s_blx (lv' := [(8, vI v49), (0, vR 77), (1, vI s), (2, vI n), (3, vI x3), (4, vL x4), (6, vI x6), (7, vI x7)]) (st' := [vR 77, vL (w78 + v85)]) B199_91_93 rfl ?_
            refine r_gint (ki := 8) (pc' := 96) D199_93 rfl gf_11_197_77 rfl H62.1 ?_
            intro w89 e90 r91
            unfold inR at r91
            refine r_i2l (pc' := 97) D199_96 rfl (by unfold inR; omega) ?_
            refine s_blx (lv' := [(11, vI 0), (9, vL ((w78 + v85) * w89)), (8, vI v49), (0, vR 77), (1, vI s), (2, vI n), (3, vI x3), (4, vL x4), (6, vI x6), (7, vI x7)]) (st' := []) B199_97_103 rfl ?_
            refine r_loc (lv' := [(0, vR 77), (1, vI s), (2, vI n), (3, vI x3), (4, vL x4), (6, vI x6), (7, vI x7), (8, vI v49), (9, vL ((w78 + v85) * w89)), (11, vI 0)]) ⟨rfl, rfl, rfl, rfl, rfl, rfl, rfl, rfl, rfl, rfl, trivial⟩ rfl rfl ?_
            have g92 : gi M61 77 24 = kp := (f63.g rfl).trans (i2)
            have g93 : gi M61 77 9 = gi N 77 9 := (f63.g rfl).trans (rfl)
            exact ih.2.2 x3 x4 x6 x7 v49 ((w78 + v85) * w89) 0 M61 H62 f70 (fun j a b => (kd0 j).trans (i0 j a b)) (hp71) (by omega) (by omega) (hp72) (hp73) (hp74) (by omega) (by omega) (by omega) (by omega) (by omega) (by omega) (by omega) (by omega) (by omega) (by omega) (by omega) (by omega) (by omega) (by omega) (by omega) (by omega)
          · refine r_goto (tgt := 169) D199_74 rfl ?_
            refine s_blx (lv' := [(7, vI (x7 + 1)), (8, vI v49), (0, vR 77), (1, vI s), (2, vI n), (3, vI x3), (4, vL x4), (6, vI x6)]) (st' := []) B199_169_172 rfl ?_
            refine r_goto (tgt := 31) D199_172 rfl ?_
            refine r_loc (lv' := [(0, vR 77), (1, vI s), (2, vI n), (3, vI x3), (4, vL x4), (6, vI x6), (7, vI (x7 + 1))]) ⟨rfl, rfl, rfl, rfl, rfl, rfl, rfl, trivial⟩ rfl rfl ?_
            have g94 : gi M61 77 24 = kp := (f63.g rfl).trans (i2)
            have g95 : gi M61 77 9 = gi N 77 9 := (f63.g rfl).trans (rfl)
            exact ih.2.1 x3 x4 x6 (x7 + 1) M61 H62 f70 (by first | exact i0 | exact fun j a b => (kd0 j).trans (i0 j a b)) (hp71) (by omega) (by omega) (hp72) (hp73) (hp74) (by omega) (by omega) (by omega) (by omega) (by omega) (by omega) (by omega) (by omega) (by omega) (by omega) (by omega)
        · refine s_blx (lv' := [(8, vI v49), (0, vR 77), (1, vI s), (2, vI n), (3, vI x3), (4, vL x4), (6, vI x6), (7, vI x7)]) (st' := [vI 17, vI 10, vI v49]) B199_52_58 rfl ?_
          refine r_sIp (args := [vI v49, vI 10, vI 17]) (rest := []) (pc' := 61) D199_58 rfl ck_11_static_123 TE147 rfl (Nat.le_of_ble_eq_true rfl) ⟨Nat.le_of_ble_eq_true rfl, Nat.le_of_ble_eq_true rfl⟩ (by decide) (dp_0 hd rfl) (k147 E (dp_n hd rfl) HN v49 10 17 (by omega) (by omega) (by omega)) ?_
          intro v96 q101
          obtain ⟨q98, q99, q100⟩ := q101
          refine r_ifc (tgt := 169) (pc' := 64) D199_61 rfl rfl (by unfold inR; omega) (fun (c102 : v96 ≠ 0) => ?_) (fun (c102 : ¬ (v96 ≠ 0)) => ?_)
          · refine s_blx (lv' := [(7, vI (x7 + 1)), (8, vI v49), (0, vR 77), (1, vI s), (2, vI n), (3, vI x3), (4, vL x4), (6, vI x6)]) (st' := []) B199_169_172 rfl ?_
            refine r_goto (tgt := 31) D199_172 rfl ?_
            refine r_loc (lv' := [(0, vR 77), (1, vI s), (2, vI n), (3, vI x3), (4, vL x4), (6, vI x6), (7, vI (x7 + 1))]) ⟨rfl, rfl, rfl, rfl, rfl, rfl, rfl, trivial⟩ rfl rfl ?_
            exact ih.2.1 x3 x4 x6 (x7 + 1) N HN fN (by first | exact i0 | exact fun j a b => (kd0 j).trans (i0 j a b)) (i1) (by omega) (by omega) (i4) (i5) (i6) (by omega) (by omega) (by omega) (by omega) (by omega) (by omega) (by omega) (by omega) (by omega) (by omega) (by omega)
          · refine s_blx (lv' := [(8, vI v49), (0, vR 77), (1, vI s), (2, vI n), (3, vI x3), (4, vL x4), (6, vI x6), (7, vI x7)]) (st' := [vI v49, vI x3, vR 77]) B199_64_68 rfl ?_
            have kord := ((h1.fr fN rfl)) 473
            refine r_vI (c := 77) (args := [vI x3, vI v49]) (rest := []) (pc' := 71) D199_68 rfl ck_11_virtual_240 TE188 rfl (Nat.le_of_ble_eq_true rfl) ⟨Nat.le_of_ble_eq_true rfl, Nat.le_of_ble_eq_true rfl⟩ sc_77 ⟨rfl, by decide⟩ HN.1 (dp_0 hd rfl) (k188f E (dp_n hd rfl) HN x3 v49 (K 473) 0 (suF K s n 0) (caF K s n 0) (onF K s n 0) ((h0.fr fN rfl)) (i4) (i5) (i6) (by omega) (by omega) (by omega) (by omega) (by omega) (by omega) (by omega)) ?_
            intro v103 M104 q112
            obtain ⟨H105, f106, q107, q108, q109, q110, q111⟩ := q112
            have f113 := fN.tr (f106.up rfl)
            have hp114 := i1.fr f106 (by decide)
            have hp115 := i4.fr f106 (by decide)
            have hp116 := i5.fr f106 (by decide)
            have hp117 := i6.fr f106 (by decide)
            obtain ⟨t118, ht119⟩ : ∃ q, q = gi M104 77 14 := ⟨_, rfl⟩
            have b_t118 := H105.2 77 14 0 1110 rfl
            rw [← ht119] at b_t118
            rw [← ht119] at q110
            rw [← ht119] at q111
            have kno := q109
            clear q108 q109 q110 q111
            have kd0 : ∀ j : Int, gi M104 87 j = gi N 87 j := fun j => f106.g rfl
            have k0 : x7 = 0 → v103 = 1 := fun e => by have kc : v103 ≠ 0 := fun z => kno z ((LG_0 (by omega)).mpr rfl); omega
            refine r_ifc (tgt := 77) (pc' := 74) D199_71 rfl rfl (by unfold inR; omega) (fun (c120 : v103 ≠ 0) => ?_) (fun (c120 : ¬ (v103 ≠ 0)) => ?_)
            · refine s_blx (lv' := [(8, vI v49), (0, vR 77), (1, vI s), (2, vI n), (3, vI x3), (4, vL x4), (6, vI x6), (7, vI x7)]) (st' := [vR 77]) B199_77_78 rfl ?_
              refine r_gint (ki := 15) (pc' := 81) D199_78 rfl gf_11_218_77 rfl H105.1 ?_
              intro w121 e122 r123
              unfold inR at r123
              refine r_i2l (pc' := 82) D199_81 rfl (by unfold inR; omega) ?_
              refine s_blx (lv' := [(8, vI v49), (0, vR 77), (1, vI s), (2, vI n), (3, vI x3), (4, vL x4), (6, vI x6), (7, vI x7)]) (st' := [vR 77, vR 77, vL w121]) B199_82_84 rfl ?_
              refine r_gint (ki := 14) (pc' := 87) D199_84 rfl gf_11_215_77 rfl H105.1 ?_
              intro w124 e125 r126
              have e127 : t118 = w124 := (e125.trans (ht119.symm)).symm
              subst e127
              refine r_vIp (c := 77) (args := [vI t118]) (rest := [vL w121]) (pc' := 90) D199_87 rfl ck_11_virtual_246 TE190 rfl (Nat.le_of_ble_eq_true rfl) ⟨Nat.le_of_ble_eq_true rfl, Nat.le_of_ble_eq_true rfl⟩ sc_77 ⟨rfl, by decide⟩ H105.1 (dp_0 hd rfl) (k190 E (dp_n hd rfl) H105 t118 (by omega)) ?_
              intro v128 q131
              have q130 := q131; clear q131
              refine r_i2l (pc' := 91) D199_90 rfl (by unfold inR; omega) ?_
              refine s_blx (lv' := [(8, vI v49), (0, vR 77), (1, vI s), (2, vI n), (3, vI x3), (4, vL x4), (6, vI x6), (7, vI x7)]) (st' := [vR 77, vL (w121 + v128)]) B199_91_93 rfl ?_
              refine r_gint (ki := 8) (pc' := 96) D199_93 rfl gf_11_197_77 rfl H105.1 ?_
              intro w132 e133 r134
              unfold inR at r134
              refine r_i2l (pc' := 97) D199_96 rfl (by unfold inR; omega) ?_
              refine s_blx (lv' := [(11, vI 0), (9, vL ((w121 + v128) * w132)), (8, vI v49), (0, vR 77), (1, vI s), (2, vI n), (3, vI x3), (4, vL x4), (6, vI x6), (7, vI x7)]) (st' := []) B199_97_103 rfl ?_
              refine r_loc (lv' := [(0, vR 77), (1, vI s), (2, vI n), (3, vI x3), (4, vL x4), (6, vI x6), (7, vI x7), (8, vI v49), (9, vL ((w121 + v128) * w132)), (11, vI 0)]) ⟨rfl, rfl, rfl, rfl, rfl, rfl, rfl, rfl, rfl, rfl, trivial⟩ rfl rfl ?_
              have g135 : gi M104 77 24 = kp := (f106.g rfl).trans (i2)
              have g136 : gi M104 77 9 = gi N 77 9 := (f106.g rfl).trans (rfl)
              exact ih.2.2 x3 x4 x6 x7 v49 ((w121 + v128) * w132) 0 M104 H105 f113 (fun j a b => (kd0 j).trans (i0 j a b)) (hp114) (by omega) (by omega) (hp115) (hp116) (hp117) (by omega) (by omega) (by omega) (by omega) (by omega) (by omega) (by omega) (by omega) (by omega) (by omega) (by omega) (by omega) (by omega) (by omega) (by omega) (by omega)
            · refine r_goto (tgt := 169) D199_74 rfl ?_
              refine s_blx (lv' := [(7, vI (x7 + 1)), (8, vI v49), (0, vR 77), (1, vI s), (2, vI n), (3, vI x3), (4, vL x4), (6, vI x6)]) (st' := []) B199_169_172 rfl ?_
              refine r_goto (tgt := 31) D199_172 rfl ?_
              refine r_loc (lv' := [(0, vR 77), (1, vI s), (2, vI n), (3, vI x3), (4, vL x4), (6, vI x6), (7, vI (x7 + 1))]) ⟨rfl, rfl, rfl, rfl, rfl, rfl, rfl, trivial⟩ rfl rfl ?_
              have g137 : gi M104 77 24 = kp := (f106.g rfl).trans (i2)
              have g138 : gi M104 77 9 = gi N 77 9 := (f106.g rfl).trans (rfl)
              exact ih.2.1 x3 x4 x6 (x7 + 1) M104 H105 f113 (by first | exact i0 | exact fun j a b => (kd0 j).trans (i0 j a b)) (hp114) (by omega) (by omega) (hp115) (hp116) (hp117) (by omega) (by omega) (by omega) (by omega) (by omega) (by omega) (by omega) (by omega) (by omega) (by omega) (by omega)
    · intro x3 x4 x6 x7 x8 x9 x11 N HN fN i0 i1 i2 i3 i4 i5 i6 i7 i8 i9 i10 i11 i12 i13 i14 i15 i16 i17 i18 i19 i20 i21 hmu
      refine s_blx (lv' := [(0, vR 77), (1, vI s), (2, vI n), (3, vI x3), (4, vL x4), (6, vI x6), (7, vI x7), (8, vI x8), (9, vL x9), (11, vI x11)]) (st' := [vR 77, vI x11]) B199_103_106 rfl ?_
      refine r_gint (ki := 27) (pc' := 109) D199_106 rfl gf_11_264_77 rfl HN.1 ?_
      intro w139 e140 r141
      have b_w139 := HN.2 77 (27) 0 16 rfl
      rw [← e140] at b_w139; clear r141
      refine r_icmp (tgt := 144) (pc' := 112) D199_109 rfl rfl (by unfold inR; omega) (fun (c142 : w139 ≤ x11) => ?_) (fun (c142 : ¬ (w139 ≤ x11)) => ?_)
      · refine s_blx (lv' := [(0, vR 77), (1, vI s), (2, vI n), (3, vI x3), (4, vL x4), (6, vI x6), (7, vI x7), (8, vI x8), (9, vL x9), (11, vI x11)]) (st' := [vI (-1), vI x6]) B199_144_147 rfl ?_
        refine r_icmp (tgt := 161) (pc' := 150) D199_147 rfl rfl (by unfold inR; omega) (fun (c143 : x6 = (-1)) => ?_) (fun (c143 : ¬ (x6 = (-1))) => ?_)
        · refine s_blx (lv' := [(7, vI (x7 + 1)), (4, vL x9), (6, vI x8), (0, vR 77), (1, vI s), (2, vI n), (3, vI x3), (8, vI x8), (9, vL x9), (11, vI x11)]) (st' := []) B199_161_172 rfl ?_
          refine r_goto (tgt := 31) D199_172 rfl ?_
          refine r_loc (lv' := [(0, vR 77), (1, vI s), (2, vI n), (3, vI x3), (4, vL x9), (6, vI x8), (7, vI (x7 + 1))]) ⟨rfl, rfl, rfl, rfl, rfl, rfl, rfl, trivial⟩ rfl rfl ?_
          exact ih.2.1 x3 x9 x8 (x7 + 1) N HN fN (i0) (i1) (by omega) (by omega) (i4) (i5) (i6) (by omega) (by omega) (by omega) (by omega) (by omega) (by omega) (by omega) (by omega) (by omega) (by omega) (by omega)
        · refine s_blx (lv' := [(0, vR 77), (1, vI s), (2, vI n), (3, vI x3), (4, vL x4), (6, vI x6), (7, vI x7), (8, vI x8), (9, vL x9), (11, vI x11)]) (st' := [vL x4, vL x9]) B199_150_154 rfl ?_
          refine r_lcmp (pc' := 155) D199_154 rfl ?_
          intro z144 r145 r146
          refine r_ifc (tgt := 161) (pc' := 158) D199_155 rfl rfl (by unfold inR; omega) (fun (c147 : z144 < 0) => ?_) (fun (c147 : ¬ (z144 < 0)) => ?_)
          · refine s_blx (lv' := [(7, vI (x7 + 1)), (4, vL x9), (6, vI x8), (0, vR 77), (1, vI s), (2, vI n), (3, vI x3), (8, vI x8), (9, vL x9), (11, vI x11)]) (st' := []) B199_161_172 rfl ?_
            refine r_goto (tgt := 31) D199_172 rfl ?_
            refine r_loc (lv' := [(0, vR 77), (1, vI s), (2, vI n), (3, vI x3), (4, vL x9), (6, vI x8), (7, vI (x7 + 1))]) ⟨rfl, rfl, rfl, rfl, rfl, rfl, rfl, trivial⟩ rfl rfl ?_
            exact ih.2.1 x3 x9 x8 (x7 + 1) N HN fN (i0) (i1) (by omega) (by omega) (i4) (i5) (i6) (by omega) (by omega) (by omega) (by omega) (by omega) (by omega) (by omega) (by omega) (by omega) (by omega) (by omega)
          · refine r_goto (tgt := 169) D199_158 rfl ?_
            refine s_blx (lv' := [(7, vI (x7 + 1)), (0, vR 77), (1, vI s), (2, vI n), (3, vI x3), (4, vL x4), (6, vI x6), (8, vI x8), (9, vL x9), (11, vI x11)]) (st' := []) B199_169_172 rfl ?_
            refine r_goto (tgt := 31) D199_172 rfl ?_
            refine r_loc (lv' := [(0, vR 77), (1, vI s), (2, vI n), (3, vI x3), (4, vL x4), (6, vI x6), (7, vI (x7 + 1))]) ⟨rfl, rfl, rfl, rfl, rfl, rfl, rfl, trivial⟩ rfl rfl ?_
            exact ih.2.1 x3 x4 x6 (x7 + 1) N HN fN (i0) (i1) (by omega) (by omega) (i4) (i5) (i6) (by omega) (by omega) (by omega) (by omega) (by omega) (by omega) (by omega) (by omega) (by omega) (by omega) (by omega)
      · refine s_blx (lv' := [(0, vR 77), (1, vI s), (2, vI n), (3, vI x3), (4, vL x4), (6, vI x6), (7, vI x7), (8, vI x8), (9, vL x9), (11, vI x11)]) (st' := [vR 77, vL x9]) B199_112_115 rfl ?_
        refine r_gfix (r := 86) (pc' := 118) D199_115 rfl gf_11_40_77 HN.1 ?_
        refine s_blx (lv' := [(0, vR 77), (1, vI s), (2, vI n), (3, vI x3), (4, vL x4), (6, vI x6), (7, vI x7), (8, vI x8), (9, vL x9), (11, vI x11)]) (st' := [vR 77, vI 1111, vR 86, vL x9]) B199_118_122 rfl ?_
        refine r_gfix (r := 93) (pc' := 125) D199_122 rfl gf_11_62_77 HN.1 ?_
        refine s_blx (lv' := [(0, vR 77), (1, vI s), (2, vI n), (3, vI x3), (4, vL x4), (6, vI x6), (7, vI x7), (8, vI x8), (9, vL x9), (11, vI x11)]) (st' := [vI x11, vR 93, vI 1111, vR 86, vL x9]) B199_125_127 rfl ?_
        refine r_iald (pc' := 128) D199_127 rfl sc_93 HN.1 (by omega) ?_
        intro w148 e149 r150
        have b_w148 := HN.2 93 (x11) 0 143 rfl
        rw [← e149] at b_w148; clear r150
        refine s_blx (lv' := [(0, vR 77), (1, vI s), (2, vI n), (3, vI x3), (4, vL x4), (6, vI x6), (7, vI x7), (8, vI x8), (9, vL x9), (11, vI x11)]) (st' := [vR 77, vI (1111 * w148), vR 86, vL x9]) B199_128_130 rfl ?_
        refine r_gint (ki := 14) (pc' := 133) D199_130 rfl gf_11_215_77 rfl HN.1 ?_
        intro w151 e152 r153
        have b_w151 := HN.2 77 (14) 0 1110 rfl
        rw [← e152] at b_w151; clear r153
        refine s_blx (lv' := [(0, vR 77), (1, vI s), (2, vI n), (3, vI x3), (4, vL x4), (6, vI x6), (7, vI x7), (8, vI x8), (9, vL x9), (11, vI x11)]) (st' := [vI ((1111 * w148) + w151), vR 86, vL x9]) B199_133_134 rfl ?_
        refine r_lald (pc' := 135) D199_134 rfl sc_86 HN.1 (by omega) ?_
        intro w154 e155 r156
        clear r156
        refine s_blx (lv' := [(11, vI (x11 + 1)), (9, vL (x9 + w154)), (0, vR 77), (1, vI s), (2, vI n), (3, vI x3), (4, vL x4), (6, vI x6), (7, vI x7), (8, vI x8)]) (st' := []) B199_135_141 rfl ?_
        refine r_goto (tgt := 103) D199_141 rfl ?_
        refine r_loc (lv' := [(0, vR 77), (1, vI s), (2, vI n), (3, vI x3), (4, vL x4), (6, vI x6), (7, vI x7), (8, vI x8), (9, vL (x9 + w154)), (11, vI (x11 + 1))]) ⟨rfl, rfl, rfl, rfl, rfl, rfl, rfl, rfl, rfl, rfl, trivial⟩ rfl rfl ?_
        exact ih.2.2 x3 x4 x6 x7 x8 (x9 + w154) (x11 + 1) N HN fN (i0) (i1) (by omega) (by omega) (i4) (i5) (i6) (by omega) (by omega) (by omega) (by omega) (by omega) (by omega) (by omega) (by omega) (by omega) (by omega) (by omega) (by omega) (by omega) (by omega) (by omega) (by omega)
set_option maxRecDepth 4000 in
set_option maxHeartbeats 4000000 in
theorem k199k {base : Nat} {X : Nat → Option mC} {G : Nat → Value} (E : EnvOK base X G) {d : Nat} (hd : 4 ≤ d) {M : mH} (H : HI base M) (s : Int) (n : Int) (K : Int → Int) (kp : Int) (h0 : TB M) (h1 : KK K M) (h2 : VT M) (h3 : gi M 77 24 = kp) (h4 : 0 ≤ kp ∧ kp ≤ 1) (h5 : 0 ≤ s ∧ s ≤ 15) (h6 : 1 ≤ n ∧ n ≤ 8) : sOk base X G d T199 [vR 77, vI s, vI n] M (pV (fun M' => HI base M' ∧ Fr [(77, 7), (77, 8), (77, 9), (77, 10), (77, 14), (77, 15), (77, 16), (77, 28), (83, 0), (84, 0), (85, 0), (86, 0), (87, 0), (93, 0)] M M' ∧ (∀ j : Int, 0 ≤ j → (j < 1111 * (9 * s + n) ∨ 1111 * (9 * s + n) + 1110 < j) → gi M' 87 j = gi M 87 j) ∧ (VT M'))) := by
  have f0 : Fr [(77, 7), (77, 8), (77, 9), (77, 10), (77, 14), (77, 15), (77, 16), (77, 28), (83, 0), (84, 0), (85, 0), (86, 0), (87, 0), (93, 0)] M M := Fr.rf
  refine sOk.of (show sRn base X G d T199 0 [(0, vR 77), (1, vI s), (2, vI n)] [] M _ from ?_)
  refine s_blx (lv' := [(0, vR 77), (1, vI s), (2, vI n)]) (st' := [vI 0, vI n, vI s, vR 77]) B199_0_4 rfl ?_
  refine r_vV (c := 77) (args := [vI s, vI n, vI 0]) (rest := []) (pc' := 7) D199_4 rfl ck_11_virtual_253 TE183 rfl (Nat.le_of_ble_eq_true rfl) ⟨Nat.le_of_ble_eq_true rfl, Nat.le_of_ble_eq_true rfl⟩ sc_77 ⟨rfl, by decide⟩ H.1 (dp_0 hd rfl) (k183f E (dp_n hd rfl) H s n 0 K (by omega) (h1) (by omega) (by omega)) ?_
  intro M2 q10
  obtain ⟨H3, f4, q5, q6, q7, q8, q9⟩ := q10
  have f11 := f0.tr (f4.up rfl)
  have hp12 := h2.fr f4 (by decide)
  obtain ⟨t13, ht14⟩ : ∃ q, q = gi M2 77 9 := ⟨_, rfl⟩
  have b_t13 := H3.2 77 9 0 1 rfl
  rw [← ht14] at b_t13
  obtain ⟨t15, ht16⟩ : ∃ q, q = gi M2 77 6 := ⟨_, rfl⟩
  obtain ⟨t17, ht18⟩ : ∃ q, q = gi M2 77 8 := ⟨_, rfl⟩
  rw [← ht14] at q5
  rw [← ht16] at q6
  rw [← ht16] at q7
  rw [← ht18] at q9
  have kc3 := q8; clear q8
  have krs := q7; clear q7
  have c84 : C3 84 (suF K s n 0) M2 := fun j a b => (kc3 j a b).2.1
  have c83 : C3 83 (caF K s n 0) M2 := fun j a b => (kc3 j a b).1
  have c85 : C3 85 (onF K s n 0) M2 := fun j a b => (kc3 j a b).2.2
  have kt00 : ∀ j : Int, gi M2 87 j = gi M 87 j := fun j => f4.g rfl
  clear q9
  refine s_blx (lv' := [(0, vR 77), (1, vI s), (2, vI n)]) (st' := [vI n, vI s, vR 77]) B199_7_10 rfl ?_
  have g19 : gi M2 77 6 = t15 := ht16.symm
  refine r_vV (c := 77) (args := [vI s, vI n]) (rest := []) (pc' := 13) D199_10 rfl ck_11_virtual_270 TE198 rfl (Nat.le_of_ble_eq_true rfl) ⟨Nat.le_of_ble_eq_true rfl, Nat.le_of_ble_eq_true rfl⟩ sc_77 ⟨rfl, by decide⟩ H3.1 (dp_0 hd rfl) (k198x E (dp_n hd rfl) H3 s n (by omega) (by omega) (by rw [(ht16.symm)]; exact krs)) ?_
  intro M21 q24
  obtain ⟨H22, f23⟩ := q24
  have f25 := f11.tr (f23.up rfl)
  have hp26 := hp12.fr f23 (by decide)
  have hp27 := c84.fr f23 (by decide)
  have hp28 := c83.fr f23 (by decide)
  have hp29 := c85.fr f23 (by decide)
  have kt0 : ∀ j : Int, gi M21 87 j = gi M 87 j := fun j => (f23.g rfl).trans (kt00 j)
  refine s_blx (lv' := [(3, vI 0), (0, vR 77), (1, vI s), (2, vI n)]) (st' := []) B199_13_15 rfl ?_
  refine r_loc (lv' := [(0, vR 77), (1, vI s), (2, vI n), (3, vI 0)]) ⟨rfl, rfl, rfl, rfl, trivial⟩ rfl rfl ?_
  have g30 : gi M21 77 24 = kp := (f23.g rfl).trans ((f4.g rfl).trans (h3))
  have g31 : gi M21 77 9 = t13 := (f23.g rfl).trans (ht14.symm)
  exact (L_k199k E hd H s n K kp h0 h1 h2 h3 h4 h5 h6 (((1111 - 0) * 307 + 306 : Int) + 1).toNat).1 0 M21 H22 f25 (fun j _ _ => kt0 j) (hp26) (by omega) (by omega) (hp27) (hp28) (hp29) (by omega) (by omega) (by omega) (by omega)
set_option maxRecDepth 4000 in
set_option maxHeartbeats 4000000 in
theorem L_k200k {base : Nat} {X : Nat → Option mC} {G : Nat → Value} (E : EnvOK base X G) {d : Nat} (hd : 6 ≤ d) {M : mH} (H : HI base M) (K : Int → Int) (kp : Int) (h0 : TB M) (h1 : LN M) (h2 : KK K M) (h3 : VT M) (h4 : gi M 77 24 = kp) (h5 : 0 ≤ kp ∧ kp ≤ 1) : ∀ mz : Nat, (∀ (x1 : Int) (N : mH), HI base N → Fr [(77, 7), (77, 8), (77, 9), (77, 10), (77, 14), (77, 15), (77, 16), (77, 28), (83, 0), (84, 0), (85, 0), (86, 0), (87, 0), (93, 0)] M N → (kp = 1 → TT K x1 N) → (x1 ≤ K 469) → (VT N) → (gi N 77 24 = kp) → (0 ≤ x1) → (x1 ≤ 16) → (16 - x1) * 1 + 179 < (mz : Int) → sRn base X G d T200 2 [(0, vR 77), (1, vI x1)] [] N (s_Q base (pL (fun v M' => HI base M' ∧ Fr [(77, 7), (77, 8), (77, 9), (77, 10), (77, 14), (77, 15), (77, 16), (77, 28), (83, 0), (84, 0), (85, 0), (86, 0), (87, 0), (93, 0)] M M' ∧ (kp = 1 → TT K (K 469) M') ∧ (VT M'))))) ∧ (∀ (x1 : Int) (N : mH), HI base N → Fr [(77, 7), (77, 8), (77, 9), (77, 10), (77, 14), (77, 15), (77, 16), (77, 28), (83, 0), (84, 0), (85, 0), (86, 0), (87, 0), (93, 0)] M N → (kp = 1 → TT K (K 469) N) → (VT N) → (gi N 77 24 = kp) → (0 ≤ x1) → (x1 ≤ 8) → (x1 - 0) * 18 + 34 < (mz : Int) → sRn base X G d T200 36 [(0, vR 77), (1, vI x1)] [] N (s_Q base (pL (fun v M' => HI base M' ∧ Fr [(77, 7), (77, 8), (77, 9), (77, 10), (77, 14), (77, 15), (77, 16), (77, 28), (83, 0), (84, 0), (85, 0), (86, 0), (87, 0), (93, 0)] M M' ∧ (kp = 1 → TT K (K 469) M') ∧ (VT M'))))) ∧ (∀ (x1 x2 : Int) (N : mH), HI base N → Fr [(77, 7), (77, 8), (77, 9), (77, 10), (77, 14), (77, 15), (77, 16), (77, 28), (83, 0), (84, 0), (85, 0), (86, 0), (87, 0), (93, 0)] M N → (kp = 1 → TT K (K 469) N) → (VT N) → (gi N 77 24 = kp) → (1 ≤ x1) → (x1 ≤ 8) → (0 ≤ x2) → (x2 ≤ 16) → (x1 - 0) * 18 + 17 + (16 - x2) * 1 + 0 < (mz : Int) → sRn base X G d T200 43 [(0, vR 77), (1, vI x1), (2, vI x2)] [] N (s_Q base (pL (fun v M' => HI base M' ∧ Fr [(77, 7), (77, 8), (77, 9), (77, 10), (77, 14), (77, 15), (77, 16), (77, 28), (83, 0), (84, 0), (85, 0), (86, 0), (87, 0), (93, 0)] M M' ∧ (kp = 1 → TT K (K 469) M') ∧ (VT M'))))) ∧ (∀ (x1 x3 : Int) (N : mH), HI base N → Fr [(77, 7), (77, 8), (77, 9), (77, 10), (77, 14), (77, 15), (77, 16), (77, 28), (83, 0), (84, 0), (85, 0), (86, 0), (87, 0), (93, 0)] M N → (kp = 1 → TT K (K 469) N) → (VT N) → (gi N 77 24 = kp) → (0 ≤ x3) → (x3 ≤ 16) → (16 - x3) * 1 + 0 < (mz : Int) → sRn base X G d T200 104 [(0, vR 77), (1, vL x1), (3, vI x3)] [] N (s_Q base (pL (fun v M' => HI base M' ∧ Fr [(77, 7), (77, 8), (77, 9), (77, 10), (77, 14), (77, 15), (77, 16), (77, 28), (83, 0), (84, 0), (85, 0), (86, 0), (87, 0), (93, 0)] M M' ∧ (kp = 1 → TT K (K 469) M') ∧ (VT M'))))) := by
  have f0 : Fr [(77, 7), (77, 8), (77, 9), (77, 10), (77, 14), (77, 15), (77, 16), (77, 28), (83, 0), (84, 0), (85, 0), (86, 0), (87, 0), (93, 0)] M M := Fr.rf
  intro mz
  induction mz with
  | zero => exact ⟨fun x1 N _ _ z0 z1 z2 z3 z4 z5 z6 => by omega, fun x1 N _ _ z0 z1 z2 z3 z4 z5 => by omega, fun x1 x2 N _ _ z0 z1 z2 z3 z4 z5 z6 z7 => by omega, fun x1 x3 N _ _ z0 z1 z2 z3 z4 z5 => by omega⟩
  | succ mz ih =>
    refine ⟨?_, ?_, ?_, ?_⟩
    · intro x1 N HN fN i0 i1 i2 i3 i4 i5 hmu
      refine s_blx (lv' := [(0, vR 77), (1, vI x1)]) (st' := [vR 77, vI x1]) B200_2_4 rfl ?_
      refine r_gfix (r := 78) (pc' := 7) D200_4 rfl gf_11_13_77 HN.1 ?_
      refine s_blx (lv' := [(0, vR 77), (1, vI x1)]) (st' := [vI 469, vR 78, vI x1]) B200_7_10 rfl ?_
      refine r_iald (pc' := 11) D200_10 rfl sc_78 HN.1 (by omega) ?_
      intro w2 e3 r4
      have kk_w2 := ((h2.fr fN rfl)) (469)
      have b_w2 := HN.2 78 (469) 0 16 (rk_many (by omega))
      rw [← e3] at b_w2; clear r4
      refine r_icmp (tgt := 33) (pc' := 14) D200_11 rfl rfl (by unfold inR; omega) (fun (c5 : w2 ≤ x1) => ?_) (fun (c5 : ¬ (w2 ≤ x1)) => ?_)
      · refine s_blx (lv' := [(1, vI 8), (0, vR 77)]) (st' := []) B200_33_36 rfl ?_
        refine r_loc (lv' := [(0, vR 77), (1, vI 8)]) ⟨rfl, rfl, trivial⟩ rfl rfl ?_
        exact ih.2.1 8 N HN fN (fun h => by rw [show K 469 = x1 by omega]; exact i0 h) (i2) (by omega) (by omega) (by omega) (by omega)
      · refine s_blx (lv' := [(0, vR 77), (1, vI x1)]) (st' := [vI x1, vR 77]) B200_14_16 rfl ?_
        refine r_vIp (c := 77) (args := [vI x1]) (rest := []) (pc' := 19) D200_16 rfl ck_11_virtual_138 TE159 rfl (Nat.le_of_ble_eq_true rfl) ⟨Nat.le_of_ble_eq_true rfl, Nat.le_of_ble_eq_true rfl⟩ sc_77 ⟨rfl, by decide⟩ HN.1 (dp_0 hd rfl) (k159f E (dp_n hd rfl) HN x1 K ((h2.fr fN rfl)) (by omega)) ?_
        intro v6 q10
        obtain ⟨q8, q9⟩ := q10
        have kw := q9; clear q9
        refine r_ifc (tgt := 27) (pc' := 22) D200_19 rfl rfl (by unfold inR; omega) (fun (c11 : v6 ≤ 0) => ?_) (fun (c11 : ¬ (v6 ≤ 0)) => ?_)
        · refine s_blx (lv' := [(1, vI (x1 + 1)), (0, vR 77)]) (st' := []) B200_27_30 rfl ?_
          refine r_goto (tgt := 2) D200_30 rfl ?_
          refine r_loc (lv' := [(0, vR 77), (1, vI (x1 + 1))]) ⟨rfl, rfl, trivial⟩ rfl rfl ?_
          exact ih.1 (x1 + 1) N HN fN (by first | exact fun h => ((i0 h).of (fun s2 said a b c d => kB _ (by omega) (by omega))).add (fun _ => kA h) | exact fun h => (i0 h).add (fun q => by exfalso; omega)) (by omega) (i2) (by omega) (by omega) (by omega) (by omega)
        · refine s_blx (lv' := [(0, vR 77), (1, vI x1)]) (st' := [vI x1, vR 77]) B200_22_24 rfl ?_
          have g12 : gi N 77 24 = kp := i3
          refine r_vV (c := 77) (args := [vI x1]) (rest := []) (pc' := 27) D200_24 rfl ck_11_virtual_276 TE197 rfl (Nat.le_of_ble_eq_true rfl) ⟨Nat.le_of_ble_eq_true rfl, Nat.le_of_ble_eq_true rfl⟩ sc_77 ⟨rfl, by decide⟩ HN.1 (dp_0 hd rfl) (k197k E (dp_n hd rfl) HN x1 K kp ((h0.fr fN rfl)) ((h2.fr fN rfl)) (i2) (by omega) (by omega) (by omega)) ?_
          intro M14 q20
          obtain ⟨H15, f16, q17, q18, q19⟩ := q20
          have f21 := fN.tr (f16.up rfl)
          have kA := q17; clear q17
          have kB := q18; clear q18
          refine s_blx (lv' := [(1, vI (x1 + 1)), (0, vR 77)]) (st' := []) B200_27_30 rfl ?_
          refine r_goto (tgt := 2) D200_30 rfl ?_
          refine r_loc (lv' := [(0, vR 77), (1, vI (x1 + 1))]) ⟨rfl, rfl, trivial⟩ rfl rfl ?_
          have g22 : gi M14 77 24 = kp := (f16.g rfl).trans (i3)
          exact ih.1 (x1 + 1) M14 H15 f21 (by first | exact fun h => ((i0 h).of (fun s2 said a b c d => kB _ (by omega) (by omega))).add (fun _ => kA h) | exact fun h => (i0 h).add (fun q => by exfalso; omega)) (by omega) (q19) (by omega) (by omega) (by omega) (by omega)
    · intro x1 N HN fN i0 i1 i2 i3 i4 hmu
      refine s_blx (lv' := [(0, vR 77), (1, vI x1)]) (st' := [vI 1, vI x1]) B200_36_38 rfl ?_
      refine r_icmp (tgt := 100) (pc' := 41) D200_38 rfl rfl (by unfold inR; omega) (fun (c23 : x1 < 1) => ?_) (fun (c23 : ¬ (x1 < 1)) => ?_)
      · refine s_blx (lv' := [(3, vI 0), (1, vL 0), (0, vR 77)]) (st' := []) B200_100_104 rfl ?_
        refine r_loc (lv' := [(0, vR 77), (1, vL 0), (3, vI 0)]) ⟨rfl, rfl, rfl, trivial⟩ rfl rfl ?_
        exact ih.2.2.2 0 0 N HN fN (i0) (i1) (by omega) (by omega) (by omega) (by omega)
      · refine s_blx (lv' := [(2, vI 0), (0, vR 77), (1, vI x1)]) (st' := []) B200_41_43 rfl ?_
        refine r_loc (lv' := [(0, vR 77), (1, vI x1), (2, vI 0)]) ⟨rfl, rfl, rfl, trivial⟩ rfl rfl ?_
        exact ih.2.2.1 x1 0 N HN fN (i0) (i1) (by omega) (by omega) (by omega) (by omega) (by omega) (by omega)
    · intro x1 x2 N HN fN i0 i1 i2 i3 i4 i5 i6 hmu
      refine s_blx (lv' := [(0, vR 77), (1, vI x1), (2, vI x2)]) (st' := [vR 77, vI x2]) B200_43_45 rfl ?_
      refine r_gfix (r := 78) (pc' := 48) D200_45 rfl gf_11_13_77 HN.1 ?_
      refine s_blx (lv' := [(0, vR 77), (1, vI x1), (2, vI x2)]) (st' := [vI 469, vR 78, vI x2]) B200_48_51 rfl ?_
      refine r_iald (pc' := 52) D200_51 rfl sc_78 HN.1 (by omega) ?_
      intro w42 e43 r44
      have kk_w42 := ((h2.fr fN rfl)) (469)
      have b_w42 := HN.2 78 (469) 0 16 (rk_many (by omega))
      rw [← e43] at b_w42; clear r44
      refine r_icmp (tgt := 94) (pc' := 55) D200_52 rfl rfl (by unfold inR; omega) (fun (c45 : w42 ≤ x2) => ?_) (fun (c45 : ¬ (w42 ≤ x2)) => ?_)
      · refine s_blx (lv' := [(1, vI (x1 + (-1))), (0, vR 77), (2, vI x2)]) (st' := []) B200_94_97 rfl ?_
        refine r_goto (tgt := 36) D200_97 rfl ?_
        refine r_loc (lv' := [(0, vR 77), (1, vI (x1 + (-1)))]) ⟨rfl, rfl, trivial⟩ rfl rfl ?_
        exact ih.2.1 (x1 + (-1)) N HN fN (i0) (i1) (by omega) (by omega) (by omega) (by omega)
      · refine s_blx (lv' := [(0, vR 77), (1, vI x1), (2, vI x2)]) (st' := [vI x2, vR 77]) B200_55_57 rfl ?_
        refine r_vIp (c := 77) (args := [vI x2]) (rest := []) (pc' := 60) D200_57 rfl ck_11_virtual_138 TE159 rfl (Nat.le_of_ble_eq_true rfl) ⟨Nat.le_of_ble_eq_true rfl, Nat.le_of_ble_eq_true rfl⟩ sc_77 ⟨rfl, by decide⟩ HN.1 (dp_0 hd rfl) (k159f E (dp_n hd rfl) HN x2 K ((h2.fr fN rfl)) (by omega)) ?_
        intro v46 q50
        obtain ⟨q48, q49⟩ := q50
        have kw := q49; clear q49
        refine r_ifc (tgt := 88) (pc' := 63) D200_60 rfl rfl (by unfold inR; omega) (fun (c51 : v46 ≤ 0) => ?_) (fun (c51 : ¬ (v46 ≤ 0)) => ?_)
        · refine s_blx (lv' := [(2, vI (x2 + 1)), (0, vR 77), (1, vI x1)]) (st' := []) B200_88_91 rfl ?_
          refine r_goto (tgt := 43) D200_91 rfl ?_
          refine r_loc (lv' := [(0, vR 77), (1, vI x1), (2, vI (x2 + 1))]) ⟨rfl, rfl, rfl, trivial⟩ rfl rfl ?_
          exact ih.2.2.1 x1 (x2 + 1) N HN fN (by first | exact fun h => (i0 h).of (fun s2 said a b c d => kB _ (by omega) (by omega)) | exact i0) (i1) (by omega) (by omega) (by omega) (by omega) (by omega) (by omega)
        · refine s_blx (lv' := [(0, vR 77), (1, vI x1), (2, vI x2)]) (st' := [vI x2, vR 77]) B200_63_65 rfl ?_
          refine r_vIp (c := 77) (args := [vI x2]) (rest := []) (pc' := 68) D200_65 rfl ck_11_virtual_144 TE156 rfl (Nat.le_of_ble_eq_true rfl) ⟨Nat.le_of_ble_eq_true rfl, Nat.le_of_ble_eq_true rfl⟩ sc_77 ⟨rfl, by decide⟩ HN.1 (dp_0 hd rfl) (k156f E (dp_n hd rfl) HN x2 K ((h2.fr fN rfl)) (by omega)) ?_
          intro v52 q56
          obtain ⟨q54, q55⟩ := q56
          have kl := q55; clear q55
          refine s_blx (lv' := [(0, vR 77), (1, vI x1), (2, vI x2)]) (st' := [vI x1, vI v52]) B200_68_69 rfl ?_
          refine r_icmp (tgt := 88) (pc' := 72) D200_69 rfl rfl (by unfold inR; omega) (fun (c57 : v52 < x1) => ?_) (fun (c57 : ¬ (v52 < x1)) => ?_)
          · refine s_blx (lv' := [(2, vI (x2 + 1)), (0, vR 77), (1, vI x1)]) (st' := []) B200_88_91 rfl ?_
            refine r_goto (tgt := 43) D200_91 rfl ?_
            refine r_loc (lv' := [(0, vR 77), (1, vI x1), (2, vI (x2 + 1))]) ⟨rfl, rfl, rfl, trivial⟩ rfl rfl ?_
            exact ih.2.2.1 x1 (x2 + 1) N HN fN (by first | exact fun h => (i0 h).of (fun s2 said a b c d => kB _ (by omega) (by omega)) | exact i0) (i1) (by omega) (by omega) (by omega) (by omega) (by omega) (by omega)
          · refine s_blx (lv' := [(0, vR 77), (1, vI x1), (2, vI x2)]) (st' := [vI x1, vI x2, vR 77]) B200_72_75 rfl ?_
            refine r_vIp (c := 77) (args := [vI x2, vI x1]) (rest := []) (pc' := 78) D200_75 rfl ck_11_virtual_267 TE193 rfl (Nat.le_of_ble_eq_true rfl) ⟨Nat.le_of_ble_eq_true rfl, Nat.le_of_ble_eq_true rfl⟩ sc_77 ⟨rfl, by decide⟩ HN.1 (dp_0 hd rfl) (k193k E (dp_n hd rfl) HN x2 x1 K ((h2.fr fN rfl)) (by omega) (by omega) (by omega) (by omega)) ?_
            intro v58 q61
            have q60 := q61; clear q61
            refine s_blx (lv' := [(0, vR 77), (1, vI x1), (2, vI x2)]) (st' := [vI x2, vI v58]) B200_78_79 rfl ?_
            refine r_icmp (tgt := 88) (pc' := 82) D200_79 rfl rfl (by unfold inR; omega) (fun (c62 : v58 ≠ x2) => ?_) (fun (c62 : ¬ (v58 ≠ x2)) => ?_)
            · refine s_blx (lv' := [(2, vI (x2 + 1)), (0, vR 77), (1, vI x1)]) (st' := []) B200_88_91 rfl ?_
              refine r_goto (tgt := 43) D200_91 rfl ?_
              refine r_loc (lv' := [(0, vR 77), (1, vI x1), (2, vI (x2 + 1))]) ⟨rfl, rfl, rfl, trivial⟩ rfl rfl ?_
              exact ih.2.2.1 x1 (x2 + 1) N HN fN (by first | exact fun h => (i0 h).of (fun s2 said a b c d => kB _ (by omega) (by omega)) | exact i0) (i1) (by omega) (by omega) (by omega) (by omega) (by omega) (by omega)
            · refine s_blx (lv' := [(0, vR 77), (1, vI x1), (2, vI x2)]) (st' := [vI x1, vI x2, vR 77]) B200_82_85 rfl ?_
              have g63 : gi N 77 24 = kp := i2
              refine r_vV (c := 77) (args := [vI x2, vI x1]) (rest := []) (pc' := 88) D200_85 rfl ck_11_virtual_280 TE199 rfl (Nat.le_of_ble_eq_true rfl) ⟨Nat.le_of_ble_eq_true rfl, Nat.le_of_ble_eq_true rfl⟩ sc_77 ⟨rfl, by decide⟩ HN.1 (dp_0 hd rfl) (k199k E (dp_n hd rfl) HN x2 x1 K kp ((h0.fr fN rfl)) ((h2.fr fN rfl)) (i1) (by omega) (by omega) (by omega) (by omega)) ?_
              intro M65 q70
              obtain ⟨H66, f67, q68, q69⟩ := q70
              have f71 := fN.tr (f67.up rfl)
              have kB := q68; clear q68
              refine s_blx (lv' := [(2, vI (x2 + 1)), (0, vR 77), (1, vI x1)]) (st' := []) B200_88_91 rfl ?_
              refine r_goto (tgt := 43) D200_91 rfl ?_
              refine r_loc (lv' := [(0, vR 77), (1, vI x1), (2, vI (x2 + 1))]) ⟨rfl, rfl, rfl, trivial⟩ rfl rfl ?_
              have g72 : gi M65 77 24 = kp := (f67.g rfl).trans (i2)
              exact ih.2.2.1 x1 (x2 + 1) M65 H66 f71 (by first | exact fun h => (i0 h).of (fun s2 said a b c d => kB _ (by omega) (by omega)) | exact i0) (q69) (by omega) (by omega) (by omega) (by omega) (by omega) (by omega)
    · intro x1 x3 N HN fN i0 i1 i2 i3 i4 hmu
      refine s_blx (lv' := [(0, vR 77), (1, vL x1), (3, vI x3)]) (st' := [vR 77, vI x3]) B200_104_106 rfl ?_
      refine r_gfix (r := 78) (pc' := 109) D200_106 rfl gf_11_13_77 HN.1 ?_
      refine s_blx (lv' := [(0, vR 77), (1, vL x1), (3, vI x3)]) (st' := [vI 469, vR 78, vI x3]) B200_109_112 rfl ?_
      refine r_iald (pc' := 113) D200_112 rfl sc_78 HN.1 (by omega) ?_
      intro w24 e25 r26
      have kk_w24 := ((h2.fr fN rfl)) (469)
      have b_w24 := HN.2 78 (469) 0 16 (rk_many (by omega))
      rw [← e25] at b_w24; clear r26
      refine r_icmp (tgt := 158) (pc' := 116) D200_113 rfl rfl (by unfold inR; omega) (fun (c27 : w24 ≤ x3) => ?_) (fun (c27 : ¬ (w24 ≤ x3)) => ?_)
      · refine s_blx (lv' := [(0, vR 77), (1, vL x1), (3, vI x3)]) (st' := [vL x1]) B200_158_159 rfl ?_
        exact r_lretL D200_159 rfl (⟨HN, fN, i0, i1⟩)
      · refine s_blx (lv' := [(0, vR 77), (1, vL x1), (3, vI x3)]) (st' := [vI x3, vR 77]) B200_116_118 rfl ?_
        refine r_vIp (c := 77) (args := [vI x3]) (rest := []) (pc' := 121) D200_118 rfl ck_11_virtual_138 TE159 rfl (Nat.le_of_ble_eq_true rfl) ⟨Nat.le_of_ble_eq_true rfl, Nat.le_of_ble_eq_true rfl⟩ sc_77 ⟨rfl, by decide⟩ HN.1 (dp_0 hd rfl) (k159f E (dp_n hd rfl) HN x3 K ((h2.fr fN rfl)) (by omega)) ?_
        intro v28 q32
        obtain ⟨q30, q31⟩ := q32
        have kw := q31; clear q31
        have kmm := ((h2.fr fN rfl)) 469
        have kln := (h1.fr fN rfl) x3 (by omega) (by omega)
        rw [((h2.fr fN rfl)) (135 + 16 * x3)] at kln
        refine r_ifc (tgt := 152) (pc' := 124) D200_121 rfl rfl (by unfold inR; omega) (fun (c33 : v28 ≤ 0) => ?_) (fun (c33 : ¬ (v28 ≤ 0)) => ?_)
        · refine s_blx (lv' := [(3, vI (x3 + 1)), (0, vR 77), (1, vL x1)]) (st' := []) B200_152_155 rfl ?_
          refine r_goto (tgt := 104) D200_155 rfl ?_
          refine r_loc (lv' := [(0, vR 77), (1, vL x1), (3, vI (x3 + 1))]) ⟨rfl, rfl, rfl, trivial⟩ rfl rfl ?_
          exact ih.2.2.2 x1 (x3 + 1) N HN fN (i0) (i1) (by omega) (by omega) (by omega) (by omega)
        · refine s_blx (lv' := [(0, vR 77), (1, vL x1), (3, vI x3)]) (st' := [vI 1, vI x3, vR 77]) B200_124_127 rfl ?_
          refine r_vIp (c := 77) (args := [vI x3, vI 1]) (rest := []) (pc' := 130) D200_127 rfl ck_11_virtual_267 TE193 rfl (Nat.le_of_ble_eq_true rfl) ⟨Nat.le_of_ble_eq_true rfl, Nat.le_of_ble_eq_true rfl⟩ sc_77 ⟨rfl, by decide⟩ HN.1 (dp_0 hd rfl) (k193k E (dp_n hd rfl) HN x3 1 K ((h2.fr fN rfl)) (by omega) (by omega) (by omega) (by omega)) ?_
          intro v34 q37
          have q36 := q37; clear q37
          refine s_blx (lv' := [(0, vR 77), (1, vL x1), (3, vI x3)]) (st' := [vI x3, vI v34]) B200_130_131 rfl ?_
          refine r_icmp (tgt := 152) (pc' := 134) D200_131 rfl rfl (by unfold inR; omega) (fun (c38 : v34 ≠ x3) => ?_) (fun (c38 : ¬ (v34 ≠ x3)) => ?_)
          · refine s_blx (lv' := [(3, vI (x3 + 1)), (0, vR 77), (1, vL x1)]) (st' := []) B200_152_155 rfl ?_
            refine r_goto (tgt := 104) D200_155 rfl ?_
            refine r_loc (lv' := [(0, vR 77), (1, vL x1), (3, vI (x3 + 1))]) ⟨rfl, rfl, rfl, trivial⟩ rfl rfl ?_
            exact ih.2.2.2 x1 (x3 + 1) N HN fN (i0) (i1) (by omega) (by omega) (by omega) (by omega)
          · refine s_blx (lv' := [(0, vR 77), (1, vL x1), (3, vI x3)]) (st' := [vR 77, vL x1]) B200_134_136 rfl ?_
            refine r_gfix (r := 86) (pc' := 139) D200_136 rfl gf_11_40_77 HN.1 ?_
            refine s_blx (lv' := [(0, vR 77), (1, vL x1), (3, vI x3)]) (st' := [vI (1111 * ((9 * x3) + 1)), vR 86, vL x1]) B200_139_149 rfl ?_
            refine r_lald (pc' := 150) D200_149 rfl sc_86 HN.1 (by omega) ?_
            intro w39 e40 r41
            clear r41
            refine s_blx (lv' := [(3, vI (x3 + 1)), (1, vL (x1 + w39)), (0, vR 77)]) (st' := []) B200_150_155 rfl ?_
            refine r_goto (tgt := 104) D200_155 rfl ?_
            refine r_loc (lv' := [(0, vR 77), (1, vL (x1 + w39)), (3, vI (x3 + 1))]) ⟨rfl, rfl, rfl, trivial⟩ rfl rfl ?_
            exact ih.2.2.2 (x1 + w39) (x3 + 1) N HN fN (i0) (i1) (by omega) (by omega) (by omega) (by omega)
set_option maxRecDepth 4000 in
set_option maxHeartbeats 4000000 in
theorem k200k {base : Nat} {X : Nat → Option mC} {G : Nat → Value} (E : EnvOK base X G) {d : Nat} (hd : 6 ≤ d) {M : mH} (H : HI base M) (K : Int → Int) (kp : Int) (h0 : TB M) (h1 : LN M) (h2 : KK K M) (h3 : VT M) (h4 : gi M 77 24 = kp) (h5 : 0 ≤ kp ∧ kp ≤ 1) : sOk base X G d T200 [vR 77] M (pL (fun v M' => HI base M' ∧ Fr [(77, 7), (77, 8), (77, 9), (77, 10), (77, 14), (77, 15), (77, 16), (77, 28), (83, 0), (84, 0), (85, 0), (86, 0), (87, 0), (93, 0)] M M' ∧ (kp = 1 → TT K (K 469) M') ∧ (VT M'))) := by
  have f0 : Fr [(77, 7), (77, 8), (77, 9), (77, 10), (77, 14), (77, 15), (77, 16), (77, 28), (83, 0), (84, 0), (85, 0), (86, 0), (87, 0), (93, 0)] M M := Fr.rf
  refine sOk.of (show sRn base X G d T200 0 [(0, vR 77)] [] M _ from ?_)
  have km := h2.many H
  refine s_blx (lv' := [(1, vI 0), (0, vR 77)]) (st' := []) B200_0_2 rfl ?_
  refine r_loc (lv' := [(0, vR 77), (1, vI 0)]) ⟨rfl, rfl, trivial⟩ rfl rfl ?_
  have g1 : gi M 77 24 = kp := h4
  exact (L_k200k E hd H K kp h0 h1 h2 h3 h4 h5 (((16 - 0) * 1 + 179 : Int) + 1).toNat).1 0 M H f0 (fun _ => TT.zero) (by omega) (h3) (by omega) (by omega) (by omega) (by omega)
set_option maxRecDepth 4000 in
set_option maxHeartbeats 4000000 in
theorem L_k201k {base : Nat} {X : Nat → Option mC} {G : Nat → Value} (E : EnvOK base X G) {d : Nat} (hd : 4 ≤ d) {M : mH} (H : HI base M) (s : Int) (K : Int → Int) (h0 : TB M) (h1 : KK K M) (h2 : VT M) (h3 : TG K s M) (h4 : 0 ≤ s ∧ s ≤ 15) (h5 : 1 ≤ K (135 + 16 * s + 12 + K 474)) : ∀ mz : Nat, (∀ (x2 x3 x4 : Int) (N : mH), HI base N → Fr [(77, 7), (77, 8), (77, 9), (77, 10), (77, 14), (77, 15), (77, 16), (83, 0), (84, 0), (85, 0), (91, 0), (92, 0)] M N → (0 ≤ x2 ∧ x2 ≤ 1110) → (0 ≤ x3 ∧ x3 ≤ 12) → (x4 ≠ 4 → x3 ≤ K (135 + 16 * s) ∨ x3 + mu (K 473) (suF K s (K (135 + 16 * s)) 1) x2 ≤ K (135 + 16 * s) + 3) → (-1 ≤ x4 ∧ x4 ≤ 22) → (0 ≤ x2) → (x2 ≤ 1110) → (0 ≤ x3) → (x3 ≤ 13) → ((-2147483648) ≤ x4) → (x4 ≤ 2147483647) → (12 - x3) * 1 + 0 < (mz : Int) → sRn base X G d T201 7 [(0, vR 77), (1, vI s), (2, vI x2), (3, vI x3), (4, vI x4)] [] N (s_Q base (pV (fun M' => HI base M' ∧ Fr [(77, 7), (77, 8), (77, 9), (77, 10), (77, 14), (77, 15), (77, 16), (83, 0), (84, 0), (85, 0), (91, 0), (92, 0)] M M')))) := by
  have f0 : Fr [(77, 7), (77, 8), (77, 9), (77, 10), (77, 14), (77, 15), (77, 16), (83, 0), (84, 0), (85, 0), (91, 0), (92, 0)] M M := Fr.rf
  intro mz
  induction mz with
  | zero => exact fun x2 x3 x4 N _ _ z0 z1 z2 z3 z4 z5 z6 z7 z8 z9 z10 => by omega
  | succ mz ih =>
    intro x2 x3 x4 N HN fN i0 i1 i2 i3 i4 i5 i6 i7 i8 i9 hmu
    refine s_blx (lv' := [(0, vR 77), (1, vI s), (2, vI x2), (3, vI x3), (4, vI x4)]) (st' := [vI 4, vI x4]) B201_7_10 rfl ?_
    refine r_icmp (tgt := 124) (pc' := 13) D201_10 rfl rfl (by unfold inR; omega) (fun (c1 : x4 = 4) => ?_) (fun (c1 : ¬ (x4 = 4)) => ?_)
    · refine s_blx (lv' := [(0, vR 77), (1, vI s), (2, vI x2), (3, vI x3), (4, vI x4)]) (st' := [vR 77]) B201_124_125 rfl ?_
      refine r_gfix (r := 92) (pc' := 128) D201_125 rfl gf_11_59_77 HN.1 ?_
      refine s_blx (lv' := [(0, vR 77), (1, vI s), (2, vI x2), (3, vI x3), (4, vI x4)]) (st' := [vI x3, vI s, vR 92]) B201_128_130 rfl ?_
      refine r_iast (pc' := 131) D201_130 rfl sc_92 HN (by omega) (by unfold inR; omega) (show 0 ≤ x3 ∧ x3 ≤ 24 by omega) ?_
      intro M2 u3 H4 p5
      have f6 := fN.wr u3 rfl
      exact r_retV D201_131 rfl (⟨H4, f6⟩)
    · refine s_blx (lv' := [(0, vR 77), (1, vI s), (2, vI x2), (3, vI x3), (4, vI x4)]) (st' := [vI s, vR 77, vI x3]) B201_13_16 rfl ?_
      refine r_vIp (c := 77) (args := [vI s]) (rest := [vI x3]) (pc' := 19) D201_16 rfl ck_11_virtual_144 TE156 rfl (Nat.le_of_ble_eq_true rfl) ⟨Nat.le_of_ble_eq_true rfl, Nat.le_of_ble_eq_true rfl⟩ sc_77 ⟨rfl, by decide⟩ HN.1 (dp_0 hd rfl) (k156f E (dp_n hd rfl) HN s K ((h1.fr fN rfl)) (by omega)) ?_
      intro v7 q11
      obtain ⟨q9, q10⟩ := q11
      have kl := q10; clear q10
      have kmu := mu_le (K 473) (suF K s (K (135 + 16 * s)) 1) x2
      refine r_icmp (tgt := 26) (pc' := 22) D201_19 rfl rfl (by unfold inR; omega) (fun (c12 : x3 < v7) => ?_) (fun (c12 : ¬ (x3 < v7)) => ?_)
      · refine s_blx (lv' := [(5, vI 0), (0, vR 77), (1, vI s), (2, vI x2), (3, vI x3), (4, vI x4)]) (st' := [vI 0, vI s, vR 77]) B201_26_33 rfl ?_
        refine r_ifc (tgt := 44) (pc' := 36) D201_33 rfl rfl (by unfold inR; omega) (fun (c13 : 0 = 0) => ?_) (fun (c13 : ¬ (0 = 0)) => ?_)
        · refine s_blx (lv' := [(5, vI 0), (0, vR 77), (1, vI s), (2, vI x2), (3, vI x3), (4, vI x4)]) (st' := [vI 0, vI (x3 + 1), vI s, vR 77]) B201_44_49 rfl ?_
          refine r_vV (c := 77) (args := [vI s, vI (x3 + 1), vI 0]) (rest := []) (pc' := 52) D201_49 rfl ck_11_virtual_253 TE183 rfl (Nat.le_of_ble_eq_true rfl) ⟨Nat.le_of_ble_eq_true rfl, Nat.le_of_ble_eq_true rfl⟩ sc_77 ⟨rfl, by decide⟩ HN.1 (dp_0 hd rfl) (k183f E (dp_n hd rfl) HN s (x3 + 1) 0 K (by omega) ((h1.fr fN rfl)) (by omega) (by omega)) ?_
          intro M15 q23
          obtain ⟨H16, f17, q18, q19, q20, q21, q22⟩ := q23
          have f24 := fN.tr (f17.up rfl)
          obtain ⟨t25, ht26⟩ : ∃ q, q = gi M15 77 9 := ⟨_, rfl⟩
          have b_t25 := H16.2 77 9 0 1 rfl
          rw [← ht26] at b_t25
          obtain ⟨t27, ht28⟩ : ∃ q, q = gi M15 77 6 := ⟨_, rfl⟩
          obtain ⟨t29, ht30⟩ : ∃ q, q = gi M15 77 8 := ⟨_, rfl⟩
          rw [← ht26] at q18
          rw [← ht28] at q19
          rw [← ht28] at q20
          rw [← ht30] at q22
          have kc3 := q21; clear q21
          have c84 : C3 84 (suF K s (x3 + 1) 0) M15 := fun j a b => (kc3 j a b).2.1
          have c83 : C3 83 (caF K s (x3 + 1) 0) M15 := fun j a b => (kc3 j a b).1
          have c85 : C3 85 (onF K s (x3 + 1) 0) M15 := fun j a b => (kc3 j a b).2.2
          clear q22
          refine s_blx (lv' := [(5, vI 0), (0, vR 77), (1, vI s), (2, vI x2), (3, vI x3), (4, vI x4)]) (st' := [vR 77]) B201_52_53 rfl ?_
          refine r_gfix (r := 87) (pc' := 56) D201_53 rfl gf_11_44_77 H16.1 ?_
          refine s_blx (lv' := [(5, vI 0), (0, vR 77), (1, vI s), (2, vI x2), (3, vI x3), (4, vI x4)]) (st' := [vI 0, vI 1111, vR 87]) B201_56_61 rfl ?_
          refine r_ifc (tgt := 71) (pc' := 64) D201_61 rfl rfl (by unfold inR; omega) (fun (c31 : 0 = 0) => ?_) (fun (c31 : ¬ (0 = 0)) => ?_)
          · refine s_blx (lv' := [(5, vI 0), (0, vR 77), (1, vI s), (2, vI x2), (3, vI x3), (4, vI x4)]) (st' := [vI (x3 + 1), vI s, vR 77, vI 9, vI 1111, vR 87]) B201_71_78 rfl ?_
            refine r_vIp (c := 77) (args := [vI s, vI (x3 + 1)]) (rest := [vI 9, vI 1111, vR 87]) (pc' := 81) D201_78 rfl ck_11_virtual_267 TE193 rfl (Nat.le_of_ble_eq_true rfl) ⟨Nat.le_of_ble_eq_true rfl, Nat.le_of_ble_eq_true rfl⟩ sc_77 ⟨rfl, by decide⟩ H16.1 (dp_0 hd rfl) (k193k E (dp_n hd rfl) H16 s (x3 + 1) K ((h1.fr f24 rfl)) (by omega) (by omega) (by omega) (by omega)) ?_
            intro v32 q35
            have q34 := q35; clear q35
            refine s_blx (lv' := [(5, vI 0), (0, vR 77), (1, vI s), (2, vI x2), (3, vI x3), (4, vI x4)]) (st' := [vI ((1111 * (((9 * v32) + x3) + 1)) + x2), vR 87]) B201_81_89 rfl ?_
            refine r_iald (pc' := 90) D201_89 rfl sc_87 H16.1 (by omega) ?_
            intro w36 e37 r38
            unfold inR at r38
            have kvm := ((h2.fr f24 rfl)) (((1111 * (((9 * v32) + x3) + 1)) + x2)) (by omega) (by omega)
            rw [← e37] at kvm
            have ktl : K (135 + 16 * s) ≤ x3 → TL K s x2 w36 := by first | exact fun h => absurd h (by omega) | (intro _; rw [e37]; exact ((h3.fr f24 rfl)).at (by omega) (by omega) (by omega))
            refine s_blx (lv' := [(4, vI w36), (5, vI 0), (0, vR 77), (1, vI s), (2, vI x2), (3, vI x3)]) (st' := [vR 77]) B201_90_93 rfl ?_
            refine r_gfix (r := 91) (pc' := 96) D201_93 rfl gf_11_56_77 H16.1 ?_
            refine s_blx (lv' := [(4, vI w36), (5, vI 0), (0, vR 77), (1, vI s), (2, vI x2), (3, vI x3)]) (st' := [vI w36, vI ((24 * s) + x3), vR 91]) B201_96_104 rfl ?_
            refine r_iast (pc' := 105) D201_104 rfl sc_91 H16 (by omega) (by unfold inR; omega) trivial ?_
            intro M39 u40 H41 p42
            have f43 := f24.wr u40 rfl
            have hp44 := c84.wr u40 (by decide)
            have hp45 := c83.wr u40 (by decide)
            have hp46 := c85.wr u40 (by decide)
            refine s_blx (lv' := [(4, vI w36), (5, vI 0), (0, vR 77), (1, vI s), (2, vI x2), (3, vI x3)]) (st' := [vI w36, vI x2, vR 77]) B201_105_109 rfl ?_
            have kord := ((h1.fr f43 rfl)) 473
            have g47 : gi M39 78 473 = gi N 78 473 := (u40.gi_ne (by omega) (Or.inl (by decide))).trans ((f17.g rfl).trans (rfl))
            have g48 : gi M39 77 9 = t25 := (u40.gi_ne (by omega) (Or.inl (by decide))).trans (ht26.symm)
            refine r_vI (c := 77) (args := [vI x2, vI w36]) (rest := []) (pc' := 112) D201_109 rfl ck_11_virtual_240 TE188 rfl (Nat.le_of_ble_eq_true rfl) ⟨Nat.le_of_ble_eq_true rfl, Nat.le_of_ble_eq_true rfl⟩ sc_77 ⟨rfl, by decide⟩ H41.1 (dp_0 hd rfl) (k188f E (dp_n hd rfl) H41 x2 w36 (K 473) 0 (suF K s (x3 + 1) 0) (caF K s (x3 + 1) 0) (onF K s (x3 + 1) 0) ((h0.fr f43 rfl)) (hp44) (hp45) (hp46) (by omega) (by omega) (by omega) (by omega) (by omega) (by omega) (by omega)) ?_
            intro v49 M50 q58
            obtain ⟨H51, f52, q53, q54, q55, q56, q57⟩ := q58
            have f59 := f43.tr (f52.up rfl)
            have hp60 := hp44.fr f52 (by decide)
            have hp61 := hp45.fr f52 (by decide)
            have hp62 := hp46.fr f52 (by decide)
            obtain ⟨t63, ht64⟩ : ∃ q, q = gi M50 77 14 := ⟨_, rfl⟩
            have b_t63 := H51.2 77 14 0 1110 rfl
            rw [← ht64] at b_t63
            rw [← ht64] at q56
            rw [← ht64] at q57
            have kst : K (135 + 16 * s) ≤ x3 → w36 = 4 ∨ mu (K 473) (suF K s (K (135 + 16 * s)) 1) t63 = mu (K 473) (suF K s (K (135 + 16 * s)) 1) x2 - 1 := by first | exact fun h => absurd h (by omega) | (intro h; have z1 := ktl h; have y0 := q55; rw [kl2] at y0; have yv : v49 = 1 := (by have y1 : v49 ≠ 0 := (fun z => y0 z z1); omega); have y3 := q56 yv; rw [kl2] at y3; rcases y3 with e | e | e; exact absurd ((LG_0 e).mp z1) (by omega); exact Or.inl e; exact Or.inr e)
            refine s_blx (lv' := [(4, vI w36), (5, vI 0), (0, vR 77), (1, vI s), (2, vI x2), (3, vI x3)]) (st' := [vR 77]) B201_112_114 rfl ?_
            refine r_gint (ki := 14) (pc' := 117) D201_114 rfl gf_11_215_77 rfl H51.1 ?_
            intro w65 e66 r67
            have e68 : t63 = w65 := (e66.trans (ht64.symm)).symm
            subst e68
            refine s_blx (lv' := [(3, vI (x3 + 1)), (2, vI t63), (4, vI w36), (5, vI 0), (0, vR 77), (1, vI s)]) (st' := []) B201_117_121 rfl ?_
            refine r_goto (tgt := 7) D201_121 rfl ?_
            refine r_loc (lv' := [(0, vR 77), (1, vI s), (2, vI t63), (3, vI (x3 + 1)), (4, vI w36)]) ⟨rfl, rfl, rfl, rfl, rfl, trivial⟩ rfl rfl ?_
            exact ih t63 (x3 + 1) w36 M50 H51 f59 (by omega) (by omega) (by omega) (by omega) (by omega) (by omega) (by omega) (by omega) (by omega) (by omega) (by omega)
          · exfalso; omega
        · exfalso; omega
      · refine s_blx (lv' := [(0, vR 77), (1, vI s), (2, vI x2), (3, vI x3), (4, vI x4)]) (st' := [vI 1]) B201_22_23 rfl ?_
        refine r_goto (tgt := 27) D201_23 rfl ?_
        refine s_blx (lv' := [(5, vI 1), (0, vR 77), (1, vI s), (2, vI x2), (3, vI x3), (4, vI x4)]) (st' := [vI 1, vI s, vR 77]) B201_27_33 rfl ?_
        refine r_ifc (tgt := 44) (pc' := 36) D201_33 rfl rfl (by unfold inR; omega) (fun (c69 : 1 = 0) => ?_) (fun (c69 : ¬ (1 = 0)) => ?_)
        · exfalso; omega
        · refine s_blx (lv' := [(5, vI 1), (0, vR 77), (1, vI s), (2, vI x2), (3, vI x3), (4, vI x4)]) (st' := [vI s, vR 77, vI s, vR 77]) B201_36_38 rfl ?_
          refine r_vIp (c := 77) (args := [vI s]) (rest := [vI s, vR 77]) (pc' := 41) D201_38 rfl ck_11_virtual_144 TE156 rfl (Nat.le_of_ble_eq_true rfl) ⟨Nat.le_of_ble_eq_true rfl, Nat.le_of_ble_eq_true rfl⟩ sc_77 ⟨rfl, by decide⟩ HN.1 (dp_0 hd rfl) (k156f E (dp_n hd rfl) HN s K ((h1.fr fN rfl)) (by omega)) ?_
          intro v70 q74
          obtain ⟨q72, q73⟩ := q74
          have kl2 := q73; clear q73
          refine r_goto (tgt := 47) D201_41 rfl ?_
          refine s_blx (lv' := [(5, vI 1), (0, vR 77), (1, vI s), (2, vI x2), (3, vI x3), (4, vI x4)]) (st' := [vI 1, vI v70, vI s, vR 77]) B201_47_49 rfl ?_
          refine r_vV (c := 77) (args := [vI s, vI v70, vI 1]) (rest := []) (pc' := 52) D201_49 rfl ck_11_virtual_253 TE183 rfl (Nat.le_of_ble_eq_true rfl) ⟨Nat.le_of_ble_eq_true rfl, Nat.le_of_ble_eq_true rfl⟩ sc_77 ⟨rfl, by decide⟩ HN.1 (dp_0 hd rfl) (k183f E (dp_n hd rfl) HN s v70 1 K (by omega) ((h1.fr fN rfl)) (by omega) (by omega)) ?_
          intro M76 q84
          obtain ⟨H77, f78, q79, q80, q81, q82, q83⟩ := q84
          have f85 := fN.tr (f78.up rfl)
          obtain ⟨t86, ht87⟩ : ∃ q, q = gi M76 77 9 := ⟨_, rfl⟩
          have b_t86 := H77.2 77 9 0 1 rfl
          rw [← ht87] at b_t86
          obtain ⟨t88, ht89⟩ : ∃ q, q = gi M76 77 6 := ⟨_, rfl⟩
          obtain ⟨t90, ht91⟩ : ∃ q, q = gi M76 77 8 := ⟨_, rfl⟩
          rw [← ht87] at q79
          rw [← ht89] at q80
          rw [← ht89] at q81
          rw [← ht91] at q83
          have kc3 := q82; clear q82
          have c84 : C3 84 (suF K s v70 1) M76 := fun j a b => (kc3 j a b).2.1
          have c83 : C3 83 (caF K s v70 1) M76 := fun j a b => (kc3 j a b).1
          have c85 : C3 85 (onF K s v70 1) M76 := fun j a b => (kc3 j a b).2.2
          clear q83
          refine s_blx (lv' := [(5, vI 1), (0, vR 77), (1, vI s), (2, vI x2), (3, vI x3), (4, vI x4)]) (st' := [vR 77]) B201_52_53 rfl ?_
          refine r_gfix (r := 87) (pc' := 56) D201_53 rfl gf_11_44_77 H77.1 ?_
          refine s_blx (lv' := [(5, vI 1), (0, vR 77), (1, vI s), (2, vI x2), (3, vI x3), (4, vI x4)]) (st' := [vI 1, vI 1111, vR 87]) B201_56_61 rfl ?_
          refine r_ifc (tgt := 71) (pc' := 64) D201_61 rfl rfl (by unfold inR; omega) (fun (c92 : 1 = 0) => ?_) (fun (c92 : ¬ (1 = 0)) => ?_)
          · exfalso; omega
          · refine s_blx (lv' := [(5, vI 1), (0, vR 77), (1, vI s), (2, vI x2), (3, vI x3), (4, vI x4)]) (st' := [vI (9 * s), vI 1111, vR 87]) B201_64_68 rfl ?_
            refine r_goto (tgt := 86) D201_68 rfl ?_
            refine s_blx (lv' := [(5, vI 1), (0, vR 77), (1, vI s), (2, vI x2), (3, vI x3), (4, vI x4)]) (st' := [vI ((1111 * (9 * s)) + x2), vR 87]) B201_86_89 rfl ?_
            refine r_iald (pc' := 90) D201_89 rfl sc_87 H77.1 (by omega) ?_
            intro w93 e94 r95
            unfold inR at r95
            have kvm := ((h2.fr f85 rfl)) (((1111 * (9 * s)) + x2)) (by omega) (by omega)
            rw [← e94] at kvm
            have ktl : K (135 + 16 * s) ≤ x3 → TL K s x2 w93 := by first | exact fun h => absurd h (by omega) | (intro _; rw [e94]; exact ((h3.fr f85 rfl)).at (by omega) (by omega) (by omega))
            refine s_blx (lv' := [(4, vI w93), (5, vI 1), (0, vR 77), (1, vI s), (2, vI x2), (3, vI x3)]) (st' := [vR 77]) B201_90_93 rfl ?_
            refine r_gfix (r := 91) (pc' := 96) D201_93 rfl gf_11_56_77 H77.1 ?_
            refine s_blx (lv' := [(4, vI w93), (5, vI 1), (0, vR 77), (1, vI s), (2, vI x2), (3, vI x3)]) (st' := [vI w93, vI ((24 * s) + x3), vR 91]) B201_96_104 rfl ?_
            refine r_iast (pc' := 105) D201_104 rfl sc_91 H77 (by omega) (by unfold inR; omega) trivial ?_
            intro M96 u97 H98 p99
            have f100 := f85.wr u97 rfl
            have hp101 := c84.wr u97 (by decide)
            have hp102 := c83.wr u97 (by decide)
            have hp103 := c85.wr u97 (by decide)
            refine s_blx (lv' := [(4, vI w93), (5, vI 1), (0, vR 77), (1, vI s), (2, vI x2), (3, vI x3)]) (st' := [vI w93, vI x2, vR 77]) B201_105_109 rfl ?_
            have kord := ((h1.fr f100 rfl)) 473
            have g104 : gi M96 78 473 = gi N 78 473 := (u97.gi_ne (by omega) (Or.inl (by decide))).trans ((f78.g rfl).trans (rfl))
            have g105 : gi M96 77 9 = t86 := (u97.gi_ne (by omega) (Or.inl (by decide))).trans (ht87.symm)
            refine r_vI (c := 77) (args := [vI x2, vI w93]) (rest := []) (pc' := 112) D201_109 rfl ck_11_virtual_240 TE188 rfl (Nat.le_of_ble_eq_true rfl) ⟨Nat.le_of_ble_eq_true rfl, Nat.le_of_ble_eq_true rfl⟩ sc_77 ⟨rfl, by decide⟩ H98.1 (dp_0 hd rfl) (k188f E (dp_n hd rfl) H98 x2 w93 (K 473) 1 (suF K s v70 1) (caF K s v70 1) (onF K s v70 1) ((h0.fr f100 rfl)) (hp101) (hp102) (hp103) (by omega) (by omega) (by omega) (by omega) (by omega) (by omega) (by omega)) ?_
            intro v106 M107 q115
            obtain ⟨H108, f109, q110, q111, q112, q113, q114⟩ := q115
            have f116 := f100.tr (f109.up rfl)
            have hp117 := hp101.fr f109 (by decide)
            have hp118 := hp102.fr f109 (by decide)
            have hp119 := hp103.fr f109 (by decide)
            obtain ⟨t120, ht121⟩ : ∃ q, q = gi M107 77 14 := ⟨_, rfl⟩
            have b_t120 := H108.2 77 14 0 1110 rfl
            rw [← ht121] at b_t120
            rw [← ht121] at q113
            rw [← ht121] at q114
            have kst : K (135 + 16 * s) ≤ x3 → w93 = 4 ∨ mu (K 473) (suF K s (K (135 + 16 * s)) 1) t120 = mu (K 473) (suF K s (K (135 + 16 * s)) 1) x2 - 1 := by first | exact fun h => absurd h (by omega) | (intro h; have z1 := ktl h; have y0 := q112; rw [kl2] at y0; have yv : v106 = 1 := (by have y1 : v106 ≠ 0 := (fun z => y0 z z1); omega); have y3 := q113 yv; rw [kl2] at y3; rcases y3 with e | e | e; exact absurd ((LG_0 e).mp z1) (by omega); exact Or.inl e; exact Or.inr e)
            refine s_blx (lv' := [(4, vI w93), (5, vI 1), (0, vR 77), (1, vI s), (2, vI x2), (3, vI x3)]) (st' := [vR 77]) B201_112_114 rfl ?_
            refine r_gint (ki := 14) (pc' := 117) D201_114 rfl gf_11_215_77 rfl H108.1 ?_
            intro w122 e123 r124
            have e125 : t120 = w122 := (e123.trans (ht121.symm)).symm
            subst e125
            refine s_blx (lv' := [(3, vI (x3 + 1)), (2, vI t120), (4, vI w93), (5, vI 1), (0, vR 77), (1, vI s)]) (st' := []) B201_117_121 rfl ?_
            refine r_goto (tgt := 7) D201_121 rfl ?_
            refine r_loc (lv' := [(0, vR 77), (1, vI s), (2, vI t120), (3, vI (x3 + 1)), (4, vI w93)]) ⟨rfl, rfl, rfl, rfl, rfl, trivial⟩ rfl rfl ?_
            exact ih t120 (x3 + 1) w93 M107 H108 f116 (by omega) (by omega) (by omega) (by omega) (by omega) (by omega) (by omega) (by omega) (by omega) (by omega) (by omega)
set_option maxRecDepth 4000 in
set_option maxHeartbeats 4000000 in
theorem k201k {base : Nat} {X : Nat → Option mC} {G : Nat → Value} (E : EnvOK base X G) {d : Nat} (hd : 4 ≤ d) {M : mH} (H : HI base M) (s : Int) (K : Int → Int) (h0 : TB M) (h1 : KK K M) (h2 : VT M) (h3 : TG K s M) (h4 : 0 ≤ s ∧ s ≤ 15) (h5 : 1 ≤ K (135 + 16 * s + 12 + K 474)) : sOk base X G d T201 [vR 77, vI s] M (pV (fun M' => HI base M' ∧ Fr [(77, 7), (77, 8), (77, 9), (77, 10), (77, 14), (77, 15), (77, 16), (83, 0), (84, 0), (85, 0), (91, 0), (92, 0)] M M')) := by
  have f0 : Fr [(77, 7), (77, 8), (77, 9), (77, 10), (77, 14), (77, 15), (77, 16), (83, 0), (84, 0), (85, 0), (91, 0), (92, 0)] M M := Fr.rf
  refine sOk.of (show sRn base X G d T201 0 [(0, vR 77), (1, vI s)] [] M _ from ?_)
  have klen := H.2 78 (135 + 16 * s) 0 8 (rk_len (by omega))
  rw [h1 (135 + 16 * s)] at klen
  refine s_blx (lv' := [(4, vI (-1)), (3, vI 0), (2, vI 0), (0, vR 77), (1, vI s)]) (st' := []) B201_0_7 rfl ?_
  refine r_loc (lv' := [(0, vR 77), (1, vI s), (2, vI 0), (3, vI 0), (4, vI (-1))]) ⟨rfl, rfl, rfl, rfl, rfl, trivial⟩ rfl rfl ?_
  exact (L_k201k E hd H s K h0 h1 h2 h3 h4 h5 (((12 - 0) * 1 + 0 : Int) + 1).toNat) 0 0 (-1) M H f0 (by omega) (by omega) (by omega) (by omega) (by omega) (by omega) (by omega) (by omega) (by omega) (by omega) (by omega)
set_option maxRecDepth 4000 in
set_option maxHeartbeats 4000000 in
theorem L_k202k {base : Nat} {X : Nat → Option mC} {G : Nat → Value} (E : EnvOK base X G) {d : Nat} (hd : 7 ≤ d) {M : mH} (H : HI base M) (K : Int → Int) (h0 : TB M) (h1 : LN M) (h2 : KK K M) (h3 : VT M) : ∀ mz : Nat, (∀ (x1 x3 : Int) (N : mH), HI base N → Fr [(77, 7), (77, 8), (77, 9), (77, 10), (77, 14), (77, 15), (77, 16), (77, 24), (77, 25), (77, 28), (83, 0), (84, 0), (85, 0), (86, 0), (87, 0), (88, 0), (89, 0), (90, 0), (91, 0), (92, 0), (93, 0)] M N → (TT K (K 469) N) → (VT N) → (0 ≤ x3) → (x3 ≤ 16) → (16 - x3) * 11 + 10 < (mz : Int) → sRn base X G d T202 22 [(0, vR 77), (1, vL x1), (3, vI x3)] [] N (s_Q base (pL (fun v M' => HI base M' ∧ Fr [(77, 7), (77, 8), (77, 9), (77, 10), (77, 14), (77, 15), (77, 16), (77, 24), (77, 25), (77, 28), (83, 0), (84, 0), (85, 0), (86, 0), (87, 0), (88, 0), (89, 0), (90, 0), (91, 0), (92, 0), (93, 0)] M M' ∧ (VT M'))))) ∧ (∀ (x1 x3 x4 : Int) (N : mH), HI base N → Fr [(77, 7), (77, 8), (77, 9), (77, 10), (77, 14), (77, 15), (77, 16), (77, 24), (77, 25), (77, 28), (83, 0), (84, 0), (85, 0), (86, 0), (87, 0), (88, 0), (89, 0), (90, 0), (91, 0), (92, 0), (93, 0)] M N → (TT K (K 469) N) → (VT N) → (x3 < K 469) → (1 ≤ K (135 + 16 * x3 + 12 + K 474)) → (1 ≤ K (135 + 16 * x3)) → (0 ≤ x3) → (x3 ≤ 15) → (0 ≤ x4) → (x4 ≤ 9) → (16 - x3) * 11 + 0 + (9 - x4) * 1 + 0 < (mz : Int) → sRn base X G d T202 92 [(0, vR 77), (1, vL x1), (3, vI x3), (4, vI x4)] [] N (s_Q base (pL (fun v M' => HI base M' ∧ Fr [(77, 7), (77, 8), (77, 9), (77, 10), (77, 14), (77, 15), (77, 16), (77, 24), (77, 25), (77, 28), (83, 0), (84, 0), (85, 0), (86, 0), (87, 0), (88, 0), (89, 0), (90, 0), (91, 0), (92, 0), (93, 0)] M M' ∧ (VT M'))))) := by
  have f0 : Fr [(77, 7), (77, 8), (77, 9), (77, 10), (77, 14), (77, 15), (77, 16), (77, 24), (77, 25), (77, 28), (83, 0), (84, 0), (85, 0), (86, 0), (87, 0), (88, 0), (89, 0), (90, 0), (91, 0), (92, 0), (93, 0)] M M := Fr.rf
  intro mz
  induction mz with
  | zero => exact ⟨fun x1 x3 N _ _ z0 z1 z2 z3 z4 => by omega, fun x1 x3 x4 N _ _ z0 z1 z2 z3 z4 z5 z6 z7 z8 z9 => by omega⟩
  | succ mz ih =>
    refine ⟨?_, ?_⟩
    · intro x1 x3 N HN fN i0 i1 i2 i3 hmu
      refine s_blx (lv' := [(0, vR 77), (1, vL x1), (3, vI x3)]) (st' := [vI 16, vI x3]) B202_22_25 rfl ?_
      refine r_icmp (tgt := 165) (pc' := 28) D202_25 rfl rfl (by unfold inR; omega) (fun (c30 : 16 ≤ x3) => ?_) (fun (c30 : ¬ (16 ≤ x3)) => ?_)
      · refine s_blx (lv' := [(0, vR 77), (1, vL x1), (3, vI x3)]) (st' := [vL x1]) B202_165_166 rfl ?_
        exact r_lretL D202_166 rfl (⟨HN, fN, i1⟩)
      · refine s_blx (lv' := [(0, vR 77), (1, vL x1), (3, vI x3)]) (st' := [vR 77]) B202_28_29 rfl ?_
        refine r_gfix (r := 88) (pc' := 32) D202_29 rfl gf_11_47_77 HN.1 ?_
        refine s_blx (lv' := [(0, vR 77), (1, vL x1), (3, vI x3)]) (st' := [vR 77, vI x3, vI x3, vR 88]) B202_32_35 rfl ?_
        refine r_gfix (r := 78) (pc' := 38) D202_35 rfl gf_11_13_77 HN.1 ?_
        refine s_blx (lv' := [(0, vR 77), (1, vL x1), (3, vI x3)]) (st' := [vI 469, vR 78, vI x3, vI x3, vR 88]) B202_38_41 rfl ?_
        refine r_iald (pc' := 42) D202_41 rfl sc_78 HN.1 (by omega) ?_
        intro w31 e32 r33
        have kk_w31 := ((h2.fr fN rfl)) (469)
        have b_w31 := HN.2 78 (469) 0 16 (rk_many (by omega))
        rw [← e32] at b_w31; clear r33
        refine r_icmp (tgt := 57) (pc' := 45) D202_42 rfl rfl (by unfold inR; omega) (fun (c34 : w31 ≤ x3) => ?_) (fun (c34 : ¬ (w31 ≤ x3)) => ?_)
        · refine s_blx (lv' := [(0, vR 77), (1, vL x1), (3, vI x3)]) (st' := [vI 0, vI x3, vR 88]) B202_57_58 rfl ?_
          refine r_zast (pc' := 59) D202_58 rfl sc_88 HN (by omega) (by omega) (show 0 ≤ 0 ∧ 0 ≤ 1 by omega) ?_
          intro M35 u36 H37 p38
          have f39 := fN.wr u36 rfl
          have hp40 := i0.wr u36 (by decide)
          have hp41 := i1.wr u36 (by decide)
          refine s_blx (lv' := [(0, vR 77), (1, vL x1), (3, vI x3)]) (st' := [vR 77]) B202_59_60 rfl ?_
          refine r_gfix (r := 92) (pc' := 63) D202_60 rfl gf_11_59_77 H37.1 ?_
          refine s_blx (lv' := [(0, vR 77), (1, vL x1), (3, vI x3)]) (st' := [vI 0, vI x3, vR 92]) B202_63_65 rfl ?_
          refine r_iast (pc' := 66) D202_65 rfl sc_92 H37 (by omega) (by unfold inR; omega) (show 0 ≤ 0 ∧ 0 ≤ 24 by omega) ?_
          intro M42 u43 H44 p45
          have f46 := f39.wr u43 rfl
          have hp47 := hp40.wr u43 (by decide)
          have hp48 := hp41.wr u43 (by decide)
          refine s_blx (lv' := [(0, vR 77), (1, vL x1), (3, vI x3)]) (st' := [vR 77]) B202_66_67 rfl ?_
          refine r_gfix (r := 88) (pc' := 70) D202_67 rfl gf_11_47_77 H44.1 ?_
          refine s_blx (lv' := [(0, vR 77), (1, vL x1), (3, vI x3)]) (st' := [vI x3, vR 88]) B202_70_71 rfl ?_
          refine r_bald (pc' := 72) D202_71 rfl sc_88 (by decide) H44.1 (by omega) ?_
          intro w49 e50 r51
          have e52 : 0 = w49 := (e50.trans ((u43.gi_ne (by omega) (Or.inl (by decide))).trans (p38))).symm
          subst e52
          refine r_ifc (tgt := 78) (pc' := 75) D202_72 rfl rfl (by unfold inR; omega) (fun (c53 : 0 ≠ 0) => ?_) (fun (c53 : ¬ (0 ≠ 0)) => ?_)
          · exfalso; omega
          · refine r_goto (tgt := 159) D202_75 rfl ?_
            refine s_blx (lv' := [(3, vI (x3 + 1)), (0, vR 77), (1, vL x1)]) (st' := []) B202_159_162 rfl ?_
            refine r_goto (tgt := 22) D202_162 rfl ?_
            refine r_loc (lv' := [(0, vR 77), (1, vL x1), (3, vI (x3 + 1))]) ⟨rfl, rfl, rfl, trivial⟩ rfl rfl ?_
            exact ih.1 x1 (x3 + 1) M42 H44 f46 (hp47) (hp48) (by omega) (by omega) (by omega)
        · refine s_blx (lv' := [(0, vR 77), (1, vL x1), (3, vI x3)]) (st' := [vI x3, vR 77, vI x3, vR 88]) B202_45_47 rfl ?_
          refine r_vIp (c := 77) (args := [vI x3]) (rest := [vI x3, vR 88]) (pc' := 50) D202_47 rfl ck_11_virtual_138 TE159 rfl (Nat.le_of_ble_eq_true rfl) ⟨Nat.le_of_ble_eq_true rfl, Nat.le_of_ble_eq_true rfl⟩ sc_77 ⟨rfl, by decide⟩ HN.1 (dp_0 hd rfl) (k159f E (dp_n hd rfl) HN x3 K ((h2.fr fN rfl)) (by omega)) ?_
          intro v54 q58
          obtain ⟨q56, q57⟩ := q58
          have kw := q57; clear q57
          refine r_ifc (tgt := 57) (pc' := 53) D202_50 rfl rfl (by unfold inR; omega) (fun (c59 : v54 ≤ 0) => ?_) (fun (c59 : ¬ (v54 ≤ 0)) => ?_)
          · refine s_blx (lv' := [(0, vR 77), (1, vL x1), (3, vI x3)]) (st' := [vI 0, vI x3, vR 88]) B202_57_58 rfl ?_
            refine r_zast (pc' := 59) D202_58 rfl sc_88 HN (by omega) (by omega) (show 0 ≤ 0 ∧ 0 ≤ 1 by omega) ?_
            intro M60 u61 H62 p63
            have f64 := fN.wr u61 rfl
            have hp65 := i0.wr u61 (by decide)
            have hp66 := i1.wr u61 (by decide)
            refine s_blx (lv' := [(0, vR 77), (1, vL x1), (3, vI x3)]) (st' := [vR 77]) B202_59_60 rfl ?_
            refine r_gfix (r := 92) (pc' := 63) D202_60 rfl gf_11_59_77 H62.1 ?_
            refine s_blx (lv' := [(0, vR 77), (1, vL x1), (3, vI x3)]) (st' := [vI 0, vI x3, vR 92]) B202_63_65 rfl ?_
            refine r_iast (pc' := 66) D202_65 rfl sc_92 H62 (by omega) (by unfold inR; omega) (show 0 ≤ 0 ∧ 0 ≤ 24 by omega) ?_
            intro M67 u68 H69 p70
            have f71 := f64.wr u68 rfl
            have hp72 := hp65.wr u68 (by decide)
            have hp73 := hp66.wr u68 (by decide)
            refine s_blx (lv' := [(0, vR 77), (1, vL x1), (3, vI x3)]) (st' := [vR 77]) B202_66_67 rfl ?_
            refine r_gfix (r := 88) (pc' := 70) D202_67 rfl gf_11_47_77 H69.1 ?_
            refine s_blx (lv' := [(0, vR 77), (1, vL x1), (3, vI x3)]) (st' := [vI x3, vR 88]) B202_70_71 rfl ?_
            refine r_bald (pc' := 72) D202_71 rfl sc_88 (by decide) H69.1 (by omega) ?_
            intro w74 e75 r76
            have e77 : 0 = w74 := (e75.trans ((u68.gi_ne (by omega) (Or.inl (by decide))).trans (p63))).symm
            subst e77
            refine r_ifc (tgt := 78) (pc' := 75) D202_72 rfl rfl (by unfold inR; omega) (fun (c78 : 0 ≠ 0) => ?_) (fun (c78 : ¬ (0 ≠ 0)) => ?_)
            · exfalso; omega
            · refine r_goto (tgt := 159) D202_75 rfl ?_
              refine s_blx (lv' := [(3, vI (x3 + 1)), (0, vR 77), (1, vL x1)]) (st' := []) B202_159_162 rfl ?_
              refine r_goto (tgt := 22) D202_162 rfl ?_
              refine r_loc (lv' := [(0, vR 77), (1, vL x1), (3, vI (x3 + 1))]) ⟨rfl, rfl, rfl, trivial⟩ rfl rfl ?_
              exact ih.1 x1 (x3 + 1) M67 H69 f71 (hp72) (hp73) (by omega) (by omega) (by omega)
          · refine s_blx (lv' := [(0, vR 77), (1, vL x1), (3, vI x3)]) (st' := [vI 1, vI x3, vR 88]) B202_53_54 rfl ?_
            refine r_goto (tgt := 58) D202_54 rfl ?_
            refine r_zast (pc' := 59) D202_58 rfl sc_88 HN (by omega) (by omega) (show 0 ≤ 1 ∧ 1 ≤ 1 by omega) ?_
            intro M79 u80 H81 p82
            have f83 := fN.wr u80 rfl
            have hp84 := i0.wr u80 (by decide)
            have hp85 := i1.wr u80 (by decide)
            refine s_blx (lv' := [(0, vR 77), (1, vL x1), (3, vI x3)]) (st' := [vR 77]) B202_59_60 rfl ?_
            refine r_gfix (r := 92) (pc' := 63) D202_60 rfl gf_11_59_77 H81.1 ?_
            refine s_blx (lv' := [(0, vR 77), (1, vL x1), (3, vI x3)]) (st' := [vI 0, vI x3, vR 92]) B202_63_65 rfl ?_
            refine r_iast (pc' := 66) D202_65 rfl sc_92 H81 (by omega) (by unfold inR; omega) (show 0 ≤ 0 ∧ 0 ≤ 24 by omega) ?_
            intro M86 u87 H88 p89
            have f90 := f83.wr u87 rfl
            have hp91 := hp84.wr u87 (by decide)
            have hp92 := hp85.wr u87 (by decide)
            refine s_blx (lv' := [(0, vR 77), (1, vL x1), (3, vI x3)]) (st' := [vR 77]) B202_66_67 rfl ?_
            refine r_gfix (r := 88) (pc' := 70) D202_67 rfl gf_11_47_77 H88.1 ?_
            refine s_blx (lv' := [(0, vR 77), (1, vL x1), (3, vI x3)]) (st' := [vI x3, vR 88]) B202_70_71 rfl ?_
            refine r_bald (pc' := 72) D202_71 rfl sc_88 (by decide) H88.1 (by omega) ?_
            intro w93 e94 r95
            have e96 : 1 = w93 := (e94.trans ((u87.gi_ne (by omega) (Or.inl (by decide))).trans (p82))).symm
            subst e96
            refine r_ifc (tgt := 78) (pc' := 75) D202_72 rfl rfl (by unfold inR; omega) (fun (c97 : 1 ≠ 0) => ?_) (fun (c97 : ¬ (1 ≠ 0)) => ?_)
            · refine s_blx (lv' := [(0, vR 77), (1, vL x1), (3, vI x3)]) (st' := [vR 77]) B202_78_79 rfl ?_
              refine r_gfix (r := 89) (pc' := 82) D202_79 rfl gf_11_50_77 H88.1 ?_
              refine s_blx (lv' := [(0, vR 77), (1, vL x1), (3, vI x3)]) (st' := [vI x3, vR 77, vI x3, vR 89]) B202_82_85 rfl ?_
              refine r_vIp (c := 77) (args := [vI x3]) (rest := [vI x3, vR 89]) (pc' := 88) D202_85 rfl ck_11_virtual_144 TE156 rfl (Nat.le_of_ble_eq_true rfl) ⟨Nat.le_of_ble_eq_true rfl, Nat.le_of_ble_eq_true rfl⟩ sc_77 ⟨rfl, by decide⟩ H88.1 (dp_0 hd rfl) (k156f E (dp_n hd rfl) H88 x3 K ((h2.fr f90 rfl)) (by omega)) ?_
              intro v98 q102
              obtain ⟨q100, q101⟩ := q102
              have kl := q101; clear q101
              have kmm := ((h2.fr f90 rfl)) 469
              have kln := (h1.fr f90 rfl) x3 (by omega) (by omega)
              rw [((h2.fr f90 rfl)) (135 + 16 * x3)] at kln
              refine r_iast (pc' := 89) D202_88 rfl sc_89 H88 (by omega) (by unfold inR; omega) (show 0 ≤ v98 ∧ v98 ≤ 8 by omega) ?_
              intro M103 u104 H105 p106
              have f107 := f90.wr u104 rfl
              have hp108 := hp91.wr u104 (by decide)
              have hp109 := hp92.wr u104 (by decide)
              refine s_blx (lv' := [(4, vI 0), (0, vR 77), (1, vL x1), (3, vI x3)]) (st' := []) B202_89_92 rfl ?_
              refine r_loc (lv' := [(0, vR 77), (1, vL x1), (3, vI x3), (4, vI 0)]) ⟨rfl, rfl, rfl, rfl, trivial⟩ rfl rfl ?_
              exact ih.2 x1 x3 0 M103 H105 f107 (hp108) (hp109) (by omega) (by omega) (by omega) (by omega) (by omega) (by omega) (by omega) (by omega)
            · exfalso; omega
    · intro x1 x3 x4 N HN fN i0 i1 i2 i3 i4 i5 i6 i7 i8 hmu
      refine s_blx (lv' := [(0, vR 77), (1, vL x1), (3, vI x3), (4, vI x4)]) (st' := [vI x3, vR 77, vI x4]) B202_92_96 rfl ?_
      refine r_vIp (c := 77) (args := [vI x3]) (rest := [vI x4]) (pc' := 99) D202_96 rfl ck_11_virtual_144 TE156 rfl (Nat.le_of_ble_eq_true rfl) ⟨Nat.le_of_ble_eq_true rfl, Nat.le_of_ble_eq_true rfl⟩ sc_77 ⟨rfl, by decide⟩ HN.1 (dp_0 hd rfl) (k156f E (dp_n hd rfl) HN x3 K ((h2.fr fN rfl)) (by omega)) ?_
      intro v110 q114
      obtain ⟨q112, q113⟩ := q114
      have kl := q113; clear q113
      refine r_icmp (tgt := 154) (pc' := 102) D202_99 rfl rfl (by unfold inR; omega) (fun (c115 : v110 < x4) => ?_) (fun (c115 : ¬ (v110 < x4)) => ?_)
      · refine s_blx (lv' := [(0, vR 77), (1, vL x1), (3, vI x3), (4, vI x4)]) (st' := [vI x3, vR 77]) B202_154_156 rfl ?_
        refine r_vV (c := 77) (args := [vI x3]) (rest := []) (pc' := 159) D202_156 rfl ck_11_virtual_290 TE201 rfl (Nat.le_of_ble_eq_true rfl) ⟨Nat.le_of_ble_eq_true rfl, Nat.le_of_ble_eq_true rfl⟩ sc_77 ⟨rfl, by decide⟩ HN.1 (dp_0 hd rfl) (k201k E (dp_n hd rfl) HN x3 K ((h0.fr fN rfl)) ((h2.fr fN rfl)) (i1) ((i0) x3 (by omega) (by omega) (by omega)) (by omega) (by omega)) ?_
        intro M117 q120
        obtain ⟨H118, f119⟩ := q120
        have f121 := fN.tr (f119.up rfl)
        have hp122 := i0.fr f119 (by decide)
        have hp123 := i1.fr f119 (by decide)
        refine s_blx (lv' := [(3, vI (x3 + 1)), (0, vR 77), (1, vL x1), (4, vI x4)]) (st' := []) B202_159_162 rfl ?_
        refine r_goto (tgt := 22) D202_162 rfl ?_
        refine r_loc (lv' := [(0, vR 77), (1, vL x1), (3, vI (x3 + 1))]) ⟨rfl, rfl, rfl, trivial⟩ rfl rfl ?_
        exact ih.1 x1 (x3 + 1) M117 H118 f121 (hp122) (hp123) (by omega) (by omega) (by omega)
      · refine s_blx (lv' := [(0, vR 77), (1, vL x1), (3, vI x3), (4, vI x4)]) (st' := [vR 77]) B202_102_103 rfl ?_
        refine r_gfix (r := 90) (pc' := 106) D202_103 rfl gf_11_53_77 HN.1 ?_
        refine s_blx (lv' := [(0, vR 77), (1, vL x1), (3, vI x3), (4, vI x4)]) (st' := [vI x3, vR 77, vI x4, vI ((9 * x3) + x4), vR 90]) B202_106_117 rfl ?_
        refine r_vIp (c := 77) (args := [vI x3]) (rest := [vI x4, vI ((9 * x3) + x4), vR 90]) (pc' := 120) D202_117 rfl ck_11_virtual_144 TE156 rfl (Nat.le_of_ble_eq_true rfl) ⟨Nat.le_of_ble_eq_true rfl, Nat.le_of_ble_eq_true rfl⟩ sc_77 ⟨rfl, by decide⟩ HN.1 (dp_0 hd rfl) (k156f E (dp_n hd rfl) HN x3 K ((h2.fr fN rfl)) (by omega)) ?_
        intro v124 q128
        obtain ⟨q126, q127⟩ := q128
        have kl1 := q127; clear q127
        refine r_icmp (tgt := 130) (pc' := 123) D202_120 rfl rfl (by unfold inR; omega) (fun (c129 : x4 ≠ v124) => ?_) (fun (c129 : ¬ (x4 ≠ v124)) => ?_)
        · refine s_blx (lv' := [(0, vR 77), (1, vL x1), (3, vI x3), (4, vI x4)]) (st' := [vI (x4 + 1), vI x3, vR 77, vI 9, vI ((9 * x3) + x4), vR 90]) B202_130_138 rfl ?_
          refine r_vIp (c := 77) (args := [vI x3, vI (x4 + 1)]) (rest := [vI 9, vI ((9 * x3) + x4), vR 90]) (pc' := 141) D202_138 rfl ck_11_virtual_267 TE193 rfl (Nat.le_of_ble_eq_true rfl) ⟨Nat.le_of_ble_eq_true rfl, Nat.le_of_ble_eq_true rfl⟩ sc_77 ⟨rfl, by decide⟩ HN.1 (dp_0 hd rfl) (k193k E (dp_n hd rfl) HN x3 (x4 + 1) K ((h2.fr fN rfl)) (by omega) (by omega) (by omega) (by omega)) ?_
          intro v130 q133
          have q132 := q133; clear q133
          refine s_blx (lv' := [(0, vR 77), (1, vL x1), (3, vI x3), (4, vI x4)]) (st' := [vI (((9 * v130) + x4) + 1), vI ((9 * x3) + x4), vR 90]) B202_141_147 rfl ?_
          refine r_iast (pc' := 148) D202_147 rfl sc_90 HN (by omega) (by unfold inR; omega) (show 0 ≤ (((9 * v130) + x4) + 1) ∧ (((9 * v130) + x4) + 1) ≤ 143 by omega) ?_
          intro M134 u135 H136 p137
          have f138 := fN.wr u135 rfl
          have hp139 := i0.wr u135 (by decide)
          have hp140 := i1.wr u135 (by decide)
          refine s_blx (lv' := [(4, vI (x4 + 1)), (0, vR 77), (1, vL x1), (3, vI x3)]) (st' := []) B202_148_151 rfl ?_
          refine r_goto (tgt := 92) D202_151 rfl ?_
          refine r_loc (lv' := [(0, vR 77), (1, vL x1), (3, vI x3), (4, vI (x4 + 1))]) ⟨rfl, rfl, rfl, rfl, trivial⟩ rfl rfl ?_
          exact ih.2 x1 x3 (x4 + 1) M134 H136 f138 (hp139) (hp140) (by omega) (by omega) (by omega) (by omega) (by omega) (by omega) (by omega) (by omega)
        · refine s_blx (lv' := [(0, vR 77), (1, vL x1), (3, vI x3), (4, vI x4)]) (st' := [vI (9 * x3), vI ((9 * x3) + x4), vR 90]) B202_123_127 rfl ?_
          refine r_goto (tgt := 147) D202_127 rfl ?_
          refine r_iast (pc' := 148) D202_147 rfl sc_90 HN (by omega) (by unfold inR; omega) (show 0 ≤ (9 * x3) ∧ (9 * x3) ≤ 143 by omega) ?_
          intro M141 u142 H143 p144
          have f145 := fN.wr u142 rfl
          have hp146 := i0.wr u142 (by decide)
          have hp147 := i1.wr u142 (by decide)
          refine s_blx (lv' := [(4, vI (x4 + 1)), (0, vR 77), (1, vL x1), (3, vI x3)]) (st' := []) B202_148_151 rfl ?_
          refine r_goto (tgt := 92) D202_151 rfl ?_
          refine r_loc (lv' := [(0, vR 77), (1, vL x1), (3, vI x3), (4, vI (x4 + 1))]) ⟨rfl, rfl, rfl, rfl, trivial⟩ rfl rfl ?_
          exact ih.2 x1 x3 (x4 + 1) M141 H143 f145 (hp146) (hp147) (by omega) (by omega) (by omega) (by omega) (by omega) (by omega) (by omega) (by omega)
set_option maxRecDepth 4000 in
set_option maxHeartbeats 4000000 in
theorem k202k {base : Nat} {X : Nat → Option mC} {G : Nat → Value} (E : EnvOK base X G) {d : Nat} (hd : 7 ≤ d) {M : mH} (H : HI base M) (K : Int → Int) (h0 : TB M) (h1 : LN M) (h2 : KK K M) (h3 : VT M) : sOk base X G d T202 [vR 77] M (pL (fun v M' => HI base M' ∧ Fr [(77, 7), (77, 8), (77, 9), (77, 10), (77, 14), (77, 15), (77, 16), (77, 24), (77, 25), (77, 28), (83, 0), (84, 0), (85, 0), (86, 0), (87, 0), (88, 0), (89, 0), (90, 0), (91, 0), (92, 0), (93, 0)] M M' ∧ (VT M'))) := by
  have f0 : Fr [(77, 7), (77, 8), (77, 9), (77, 10), (77, 14), (77, 15), (77, 16), (77, 24), (77, 25), (77, 28), (83, 0), (84, 0), (85, 0), (86, 0), (87, 0), (88, 0), (89, 0), (90, 0), (91, 0), (92, 0), (93, 0)] M M := Fr.rf
  refine sOk.of (show sRn base X G d T202 0 [(0, vR 77)] [] M _ from ?_)
  refine s_blx (lv' := [(0, vR 77)]) (st' := [vI 1, vR 77]) B202_0_2 rfl ?_
  refine r_pbool (ki := 24) (pc' := 5) D202_2 rfl pf_11_234_77 rfl H (by omega) (show 0 ≤ 1 ∧ 1 ≤ 1 by omega) ?_
  intro M1 u2 H3 p4
  have f5 := f0.wr u2 rfl
  have hp6 := h3.wr u2 (by decide)
  refine s_blx (lv' := [(0, vR 77)]) (st' := [vR 77]) B202_5_6 rfl ?_
  have g7 : gi M1 77 24 = 1 := p4
  refine r_vL (c := 77) (args := []) (rest := []) (pc' := 9) D202_6 rfl ck_11_virtual_283 TE200 rfl (Nat.le_of_ble_eq_true rfl) ⟨Nat.le_of_ble_eq_true rfl, Nat.le_of_ble_eq_true rfl⟩ sc_77 ⟨rfl, by decide⟩ H3.1 (dp_0 hd rfl) (k200k E (dp_n hd rfl) H3 K 1 ((h0.fr f5 rfl)) ((h1.fr f5 rfl)) ((h2.fr f5 rfl)) (hp6) (by omega) (by omega)) ?_
  intro v8 M9 q14
  obtain ⟨H10, f11, q12, q13⟩ := q14
  have f15 := f5.tr (f11.up rfl)
  have ktt := q12 rfl
  refine s_blx (lv' := [(1, vL v8), (0, vR 77)]) (st' := [vI 0, vR 77]) B202_9_12 rfl ?_
  refine r_pbool (ki := 24) (pc' := 15) D202_12 rfl pf_11_234_77 rfl H10 (by omega) (show 0 ≤ 0 ∧ 0 ≤ 1 by omega) ?_
  intro M16 u17 H18 p19
  have f20 := f15.wr u17 rfl
  have hp21 := q13.wr u17 (by decide)
  have hp22 := ktt.wr u17 (by decide)
  refine s_blx (lv' := [(1, vL v8), (0, vR 77)]) (st' := [vI 1, vR 77]) B202_15_17 rfl ?_
  refine r_pbool (ki := 23) (pc' := 20) D202_17 rfl pf_11_287_77 rfl H18 (by omega) (show 0 ≤ 1 ∧ 1 ≤ 1 by omega) ?_
  intro M23 u24 H25 p26
  have f27 := f20.wr u24 rfl
  have hp28 := hp21.wr u24 (by decide)
  have hp29 := hp22.wr u24 (by decide)
  refine s_blx (lv' := [(3, vI 0), (1, vL v8), (0, vR 77)]) (st' := []) B202_20_22 rfl ?_
  refine r_loc (lv' := [(0, vR 77), (1, vL v8), (3, vI 0)]) ⟨rfl, rfl, rfl, trivial⟩ rfl rfl ?_
  exact (L_k202k E hd H K h0 h1 h2 h3 (((16 - 0) * 11 + 10 : Int) + 1).toNat).1 v8 0 M23 H25 f27 (hp29) (hp28) (by omega) (by omega) (by omega)
