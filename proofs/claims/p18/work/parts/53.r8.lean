noncomputable def T254 : mT := (11, yX11_chain, cX11_chain, 8, (some .int))
set_option maxRecDepth 10000 in
theorem TE254 : sy_m[254]? = some T254 := rfl
theorem B254_0_1 : s_dk T254.2.2.1 0 [.aload_n 0] 1 = true := by decide +kernel
theorem D254_1 : decode T254.2.2.1 1 = .ok (.getfield 13, 3) := by decide +kernel
theorem B254_4_7 : s_dk T254.2.2.1 4 [.sipush 472] 7 = true := by decide +kernel
theorem D254_7 : decode T254.2.2.1 7 = .ok (.iaload, 1) := by decide +kernel
theorem B254_8_10 : s_dk T254.2.2.1 8 [.istore_n 1, .iload_n 1] 10 = true := by decide +kernel
theorem D254_10 : decode T254.2.2.1 10 = .ok (.ifCond .ne 5, 3) := by decide +kernel
theorem B254_15_19 : s_dk T254.2.2.1 15 [.iconst 1, .istore_n 2, .iconst 0, .istore_n 3] 19 = true := by decide +kernel
theorem B254_13_14 : s_dk T254.2.2.1 13 [.iconst (-1)] 14 = true := by decide +kernel
theorem D254_14 : decode T254.2.2.1 14 = .ok (.ireturn, 1) := by decide +kernel
theorem B254_19_21 : s_dk T254.2.2.1 19 [.iload_n 3, .iload_n 1] 21 = true := by decide +kernel
theorem D254_21 : decode T254.2.2.1 21 = .ok (.if_icmp .ge 13, 3) := by decide +kernel
theorem B254_24_31 : s_dk T254.2.2.1 24 [.iload_n 2, .iload_n 1, .imul, .istore_n 2, .iinc 3 1] 31 = true := by decide +kernel
theorem D254_31 : decode T254.2.2.1 31 = .ok (.goto (-12), 3) := by decide +kernel
theorem B254_34_39 : s_dk T254.2.2.1 34 [.iconst (-1), .istore_n 3, .iconst 0, .istore 4] 39 = true := by decide +kernel
theorem B254_39_42 : s_dk T254.2.2.1 39 [.iload 4, .iload_n 2] 42 = true := by decide +kernel
theorem D254_42 : decode T254.2.2.1 42 = .ok (.if_icmp .ge 104, 3) := by decide +kernel
theorem B254_45_54 : s_dk T254.2.2.1 45 [.iload 4, .istore 5, .iload_n 1, .iconst 1, .isub, .istore 6] 54 = true := by decide +kernel
theorem B254_54_56 : s_dk T254.2.2.1 54 [.iload 6] 56 = true := by decide +kernel
theorem D254_56 : decode T254.2.2.1 56 = .ok (.ifCond .lt 26, 3) := by decide +kernel
theorem B254_59_60 : s_dk T254.2.2.1 59 [.aload_n 0] 60 = true := by decide +kernel
theorem D254_60 : decode T254.2.2.1 60 = .ok (.getfield 99, 3) := by decide +kernel
theorem B254_63_68 : s_dk T254.2.2.1 63 [.iload 6, .iload 5, .iload_n 1] 68 = true := by decide +kernel
theorem D254_68 : decode T254.2.2.1 68 = .ok (.irem, 1) := by decide +kernel
theorem D254_69 : decode T254.2.2.1 69 = .ok (.iastore, 1) := by decide +kernel
theorem B254_70_73 : s_dk T254.2.2.1 70 [.iload 5, .iload_n 1] 73 = true := by decide +kernel
theorem D254_73 : decode T254.2.2.1 73 = .ok (.idiv, 1) := by decide +kernel
theorem B254_74_79 : s_dk T254.2.2.1 74 [.istore 5, .iinc 6 (-1)] 79 = true := by decide +kernel
theorem D254_79 : decode T254.2.2.1 79 = .ok (.goto (-25), 3) := by decide +kernel
theorem B254_82_84 : s_dk T254.2.2.1 82 [.aload_n 0, .iload_n 1] 84 = true := by decide +kernel
theorem D254_84 : decode T254.2.2.1 84 = .ok (.invokevirtual 453, 3) := by decide +kernel
theorem ck_11_virtual_453 : m_call 11 (.invokevirtual 453) = some (0, 253, 1) := by decide +kernel
theorem D254_87 : decode T254.2.2.1 87 = .ok (.ifCond .ne 6, 3) := by decide +kernel
theorem B254_93_94 : s_dk T254.2.2.1 93 [.aload_n 0] 94 = true := by decide +kernel
theorem D254_94 : decode T254.2.2.1 94 = .ok (.invokevirtual 456, 3) := by decide +kernel
theorem ck_11_virtual_456 : m_call 11 (.invokevirtual 456) = some (0, 252, 0) := by decide +kernel
theorem B254_97_102 : s_dk T254.2.2.1 97 [.istore 6, .iload 6, .iload_n 3] 102 = true := by decide +kernel
theorem D254_102 : decode T254.2.2.1 102 = .ok (.if_icmp .gt 6, 3) := by decide +kernel
theorem B254_108_114 : s_dk T254.2.2.1 108 [.iload 6, .istore_n 3, .iconst 0, .istore 7] 114 = true := by decide +kernel
theorem D254_105 : decode T254.2.2.1 105 = .ok (.goto 35, 3) := by decide +kernel
theorem B254_140_143 : s_dk T254.2.2.1 140 [.iinc 4 1] 143 = true := by decide +kernel
theorem D254_143 : decode T254.2.2.1 143 = .ok (.goto (-104), 3) := by decide +kernel
theorem D254_90 : decode T254.2.2.1 90 = .ok (.goto 50, 3) := by decide +kernel
theorem B254_114_117 : s_dk T254.2.2.1 114 [.iload 7, .iload_n 1] 117 = true := by decide +kernel
theorem D254_117 : decode T254.2.2.1 117 = .ok (.if_icmp .ge 23, 3) := by decide +kernel
theorem B254_120_121 : s_dk T254.2.2.1 120 [.aload_n 0] 121 = true := by decide +kernel
theorem D254_121 : decode T254.2.2.1 121 = .ok (.getfield 96, 3) := by decide +kernel
theorem B254_124_127 : s_dk T254.2.2.1 124 [.iload 7, .aload_n 0] 127 = true := by decide +kernel
theorem D254_127 : decode T254.2.2.1 127 = .ok (.getfield 99, 3) := by decide +kernel
theorem B254_130_132 : s_dk T254.2.2.1 130 [.iload 7] 132 = true := by decide +kernel
theorem D254_132 : decode T254.2.2.1 132 = .ok (.iaload, 1) := by decide +kernel
theorem D254_133 : decode T254.2.2.1 133 = .ok (.iastore, 1) := by decide +kernel
theorem B254_134_137 : s_dk T254.2.2.1 134 [.iinc 7 1] 137 = true := by decide +kernel
theorem D254_137 : decode T254.2.2.1 137 = .ok (.goto (-23), 3) := by decide +kernel
theorem B254_146_148 : s_dk T254.2.2.1 146 [.aload_n 0, .iload_n 1] 148 = true := by decide +kernel
theorem pf_11_459_77 : s_pf 11 459 77 = some (51, 1) := by decide +kernel
theorem D254_148 : decode T254.2.2.1 148 = .ok (.putfield 459, 3) := by decide +kernel
theorem B254_151_152 : s_dk T254.2.2.1 151 [.iload_n 3] 152 = true := by decide +kernel
theorem D254_152 : decode T254.2.2.1 152 = .ok (.ireturn, 1) := by decide +kernel
set_option maxRecDepth 4000 in
theorem L_k254x {base : Nat} {X : Nat → Option mC} {G : Nat → Value} (E : EnvOK base X G) {d : Nat} (hd : 1 ≤ d) {M : mH} (H : HI base M) : ∀ mz : Nat, (∀ (x1 x2 x3 : Int) (N : mH), HI base N → Fr [(77, 52), (103, 0), (104, 0)] M N → (1 ≤ x2) → (x3 = 0 → x2 ≤ 1) → (x3 = 1 → x2 ≤ 6) → (x3 = 2 → x2 ≤ 36) → (x3 = 3 → x2 ≤ 216) → (x3 = 4 → x2 ≤ 1296) → (x3 = 5 → x2 ≤ 7776) → (x3 = 6 → x2 ≤ 46656) → (1 ≤ x1 ∧ x1 ≤ 6) → (0 ≤ x3 ∧ x3 ≤ x1) → (1 ≤ x1) → (x1 ≤ 6) → (0 ≤ x3) → (x3 ≤ 6) → (6 - x3) * 1 + 699855 < (mz : Int) → sRn base X G d T254 19 [(0, vR 77), (1, vI x1), (2, vI x2), (3, vI x3)] [] N (s_Q base (pI (fun v M' => HI base M' ∧ Fr [(77, 52), (103, 0), (104, 0)] M M')))) ∧ (∀ (x1 x2 x3 x4 : Int) (N : mH), HI base N → Fr [(77, 52), (103, 0), (104, 0)] M N → (1 ≤ x2 ∧ x2 ≤ 46656) → (0 ≤ x4 ∧ x4 ≤ x2) → (1 ≤ x1 ∧ x1 ≤ 6) → (1 ≤ x1) → (x1 ≤ 6) → (1 ≤ x2) → ((-1) ≤ x3) → (x3 ≤ 2147483647) → (0 ≤ x4) → (x4 ≤ 46656) → (x2 - x4) * 15 + 14 < (mz : Int) → sRn base X G d T254 39 [(0, vR 77), (1, vI x1), (2, vI x2), (3, vI x3), (4, vI x4)] [] N (s_Q base (pI (fun v M' => HI base M' ∧ Fr [(77, 52), (103, 0), (104, 0)] M M')))) ∧ (∀ (x1 x2 x3 x4 x5 x6 : Int) (N : mH), HI base N → Fr [(77, 52), (103, 0), (104, 0)] M N → (1 ≤ x2 ∧ x2 ≤ 46656) → (0 ≤ x4 ∧ x4 < x2) → (1 ≤ x1 ∧ x1 ≤ 6) → (0 ≤ x5 ∧ x5 ≤ 46656) → (-1 ≤ x6 ∧ x6 ≤ 5) → (1 ≤ x1) → (x1 ≤ 6) → (1 ≤ x2) → (x2 ≤ 46656) → ((-1) ≤ x3) → (x3 ≤ 2147483647) → (0 ≤ x4) → (x4 ≤ 46655) → (0 ≤ x5) → (x5 ≤ 46656) → ((-1) ≤ x6) → (x6 ≤ 5) → (x2 - x4) * 15 + 0 + (x6 + 1) * 1 + 7 < (mz : Int) → sRn base X G d T254 54 [(0, vR 77), (1, vI x1), (2, vI x2), (3, vI x3), (4, vI x4), (5, vI x5), (6, vI x6)] [] N (s_Q base (pI (fun v M' => HI base M' ∧ Fr [(77, 52), (103, 0), (104, 0)] M M')))) ∧ (∀ (x1 x2 x3 x4 x7 : Int) (N : mH), HI base N → Fr [(77, 52), (103, 0), (104, 0)] M N → (1 ≤ x2 ∧ x2 ≤ 46656) → (0 ≤ x4 ∧ x4 < x2) → (1 ≤ x1) → (x1 ≤ 6) → (1 ≤ x2) → (x2 ≤ 46656) → (0 ≤ x3) → (x3 ≤ 2147483647) → (0 ≤ x4) → (x4 ≤ 46655) → (0 ≤ x7) → (x7 ≤ 6) → (x2 - x4) * 15 + 0 + (6 - x7) * 1 + 0 < (mz : Int) → sRn base X G d T254 114 [(0, vR 77), (1, vI x1), (2, vI x2), (3, vI x3), (4, vI x4), (7, vI x7)] [] N (s_Q base (pI (fun v M' => HI base M' ∧ Fr [(77, 52), (103, 0), (104, 0)] M M')))) := by
  have f0 : Fr [(77, 52), (103, 0), (104, 0)] M M := Fr.rf
  intro mz
  induction mz with
  | zero => exact ⟨fun x1 x2 x3 N _ _ z0 z1 z2 z3 z4 z5 z6 z7 z8 z9 z10 z11 z12 z13 z14 => by omega, fun x1 x2 x3 x4 N _ _ z0 z1 z2 z3 z4 z5 z6 z7 z8 z9 z10 => by omega, fun x1 x2 x3 x4 x5 x6 N _ _ z0 z1 z2 z3 z4 z5 z6 z7 z8 z9 z10 z11 z12 z13 z14 z15 z16 z17 => by omega, fun x1 x2 x3 x4 x7 N _ _ z0 z1 z2 z3 z4 z5 z6 z7 z8 z9 z10 z11 z12 => by omega⟩
  | succ mz ih =>
    refine ⟨?_, ?_, ?_, ?_⟩
    · intro x1 x2 x3 N HN fN i0 i1 i2 i3 i4 i5 i6 i7 i8 i9 i10 i11 i12 i13 hmu
      refine s_blx (lv' := [(0, vR 77), (1, vI x1), (2, vI x2), (3, vI x3)]) (st' := [vI x1, vI x3]) B254_19_21 rfl ?_
      refine r_icmp (tgt := 34) (pc' := 24) D254_21 rfl rfl (by unfold inR; omega) (fun (c5 : x1 ≤ x3) => ?_) (fun (c5 : ¬ (x1 ≤ x3)) => ?_)
      · refine s_blx (lv' := [(4, vI 0), (3, vI (-1)), (0, vR 77), (1, vI x1), (2, vI x2)]) (st' := []) B254_34_39 rfl ?_
        refine r_loc (lv' := [(0, vR 77), (1, vI x1), (2, vI x2), (3, vI (-1)), (4, vI 0)]) ⟨rfl, rfl, rfl, rfl, rfl, trivial⟩ rfl rfl ?_
        exact ih.2.1 x1 x2 (-1) 0 N HN fN (by omega) (by omega) (by omega) (by omega) (by omega) (by omega) (by omega) (by omega) (by omega) (by omega) (by omega)
      · refine s_blx (lv' := [(3, vI (x3 + 1)), (2, vI (x2 * x1)), (0, vR 77), (1, vI x1)]) (st' := []) B254_24_31 rfl ?_
        refine r_goto (tgt := 19) D254_31 rfl ?_
        refine r_loc (lv' := [(0, vR 77), (1, vI x1), (2, vI (x2 * x1)), (3, vI (x3 + 1))]) ⟨rfl, rfl, rfl, rfl, trivial⟩ rfl rfl ?_
        exact ih.1 x1 (x2 * x1) (x3 + 1) N HN fN (by have kk : x2 * 1 ≤ x2 * x1 := Int.mul_le_mul_of_nonneg_left (by omega) (by omega); omega) (by have kk : x2 * x1 ≤ x2 * 6 := Int.mul_le_mul_of_nonneg_left (by omega) (by omega); omega) (by have kk : x2 * x1 ≤ x2 * 6 := Int.mul_le_mul_of_nonneg_left (by omega) (by omega); omega) (by have kk : x2 * x1 ≤ x2 * 6 := Int.mul_le_mul_of_nonneg_left (by omega) (by omega); omega) (by have kk : x2 * x1 ≤ x2 * 6 := Int.mul_le_mul_of_nonneg_left (by omega) (by omega); omega) (by have kk : x2 * x1 ≤ x2 * 6 := Int.mul_le_mul_of_nonneg_left (by omega) (by omega); omega) (by have kk : x2 * x1 ≤ x2 * 6 := Int.mul_le_mul_of_nonneg_left (by omega) (by omega); omega) (by have kk : x2 * x1 ≤ x2 * 6 := Int.mul_le_mul_of_nonneg_left (by omega) (by omega); omega) (by omega) (by omega) (by omega) (by omega) (by omega) (by omega) (by omega)
    · intro x1 x2 x3 x4 N HN fN i0 i1 i2 i3 i4 i5 i6 i7 i8 i9 hmu
      refine s_blx (lv' := [(0, vR 77), (1, vI x1), (2, vI x2), (3, vI x3), (4, vI x4)]) (st' := [vI x2, vI x4]) B254_39_42 rfl ?_
      refine r_icmp (tgt := 146) (pc' := 45) D254_42 rfl rfl (by unfold inR; omega) (fun (c6 : x2 ≤ x4) => ?_) (fun (c6 : ¬ (x2 ≤ x4)) => ?_)
      · refine s_blx (lv' := [(0, vR 77), (1, vI x1), (2, vI x2), (3, vI x3), (4, vI x4)]) (st' := [vI x1, vR 77]) B254_146_148 rfl ?_
        refine r_pint (ki := 51) (pc' := 151) D254_148 rfl pf_11_459_77 rfl HN (by unfold inR; omega) (show 0 ≤ x1 ∧ x1 ≤ 6 by omega) ?_
        intro M7 u8 H9 p10
        have f11 := fN.wr u8 rfl
        refine s_blx (lv' := [(0, vR 77), (1, vI x1), (2, vI x2), (3, vI x3), (4, vI x4)]) (st' := [vI x3]) B254_151_152 rfl ?_
        exact r_iretI D254_152 rfl (⟨H9, f11⟩)
      · refine s_blx (lv' := [(6, vI (x1 - 1)), (5, vI x4), (0, vR 77), (1, vI x1), (2, vI x2), (3, vI x3), (4, vI x4)]) (st' := []) B254_45_54 rfl ?_
        refine r_loc (lv' := [(0, vR 77), (1, vI x1), (2, vI x2), (3, vI x3), (4, vI x4), (5, vI x4), (6, vI (x1 - 1))]) ⟨rfl, rfl, rfl, rfl, rfl, rfl, rfl, trivial⟩ rfl rfl ?_
        exact ih.2.2.1 x1 x2 x3 x4 x4 (x1 - 1) N HN fN (by omega) (by omega) (by omega) (by omega) (by omega) (by omega) (by omega) (by omega) (by omega) (by omega) (by omega) (by omega) (by omega) (by omega) (by omega) (by omega) (by omega) (by omega)
    · intro x1 x2 x3 x4 x5 x6 N HN fN i0 i1 i2 i3 i4 i5 i6 i7 i8 i9 i10 i11 i12 i13 i14 i15 i16 hmu
      refine s_blx (lv' := [(0, vR 77), (1, vI x1), (2, vI x2), (3, vI x3), (4, vI x4), (5, vI x5), (6, vI x6)]) (st' := [vI x6]) B254_54_56 rfl ?_
      refine r_ifc (tgt := 82) (pc' := 59) D254_56 rfl rfl (by unfold inR; omega) (fun (c12 : x6 < 0) => ?_) (fun (c12 : ¬ (x6 < 0)) => ?_)
      · refine s_blx (lv' := [(0, vR 77), (1, vI x1), (2, vI x2), (3, vI x3), (4, vI x4), (5, vI x5), (6, vI x6)]) (st' := [vI x1, vR 77]) B254_82_84 rfl ?_
        refine r_vIp (c := 77) (args := [vI x1]) (rest := []) (pc' := 87) D254_84 rfl ck_11_virtual_453 TE253 rfl (Nat.le_of_ble_eq_true rfl) ⟨Nat.le_of_ble_eq_true rfl, Nat.le_of_ble_eq_true rfl⟩ sc_77 ⟨rfl, by decide⟩ HN.1 (dp_0 hd rfl) (k253 E (dp_n hd rfl) HN x1 (by omega)) ?_
        intro v13 q16
        have q15 := q16; clear q16
        refine r_ifc (tgt := 93) (pc' := 90) D254_87 rfl rfl (by unfold inR; omega) (fun (c17 : v13 ≠ 0) => ?_) (fun (c17 : ¬ (v13 ≠ 0)) => ?_)
        · refine s_blx (lv' := [(0, vR 77), (1, vI x1), (2, vI x2), (3, vI x3), (4, vI x4), (5, vI x5), (6, vI x6)]) (st' := [vR 77]) B254_93_94 rfl ?_
          refine r_vIp (c := 77) (args := []) (rest := []) (pc' := 97) D254_94 rfl ck_11_virtual_456 TE252 rfl (Nat.le_of_ble_eq_true rfl) ⟨Nat.le_of_ble_eq_true rfl, Nat.le_of_ble_eq_true rfl⟩ sc_77 ⟨rfl, by decide⟩ HN.1 (dp_0 hd rfl) (k252 E (dp_n hd rfl) HN ) ?_
          intro v18 q21
          have q20 := q21; clear q21
          refine s_blx (lv' := [(6, vI v18), (0, vR 77), (1, vI x1), (2, vI x2), (3, vI x3), (4, vI x4), (5, vI x5)]) (st' := [vI x3, vI v18]) B254_97_102 rfl ?_
          refine r_icmp (tgt := 108) (pc' := 105) D254_102 rfl rfl (by unfold inR; omega) (fun (c22 : x3 < v18) => ?_) (fun (c22 : ¬ (x3 < v18)) => ?_)
          · refine s_blx (lv' := [(7, vI 0), (3, vI v18), (6, vI v18), (0, vR 77), (1, vI x1), (2, vI x2), (4, vI x4), (5, vI x5)]) (st' := []) B254_108_114 rfl ?_
            refine r_loc (lv' := [(0, vR 77), (1, vI x1), (2, vI x2), (3, vI v18), (4, vI x4), (7, vI 0)]) ⟨rfl, rfl, rfl, rfl, rfl, rfl, trivial⟩ rfl rfl ?_
            exact ih.2.2.2 x1 x2 v18 x4 0 N HN fN (by omega) (by omega) (by omega) (by omega) (by omega) (by omega) (by omega) (by omega) (by omega) (by omega) (by omega) (by omega) (by omega)
          · refine r_goto (tgt := 140) D254_105 rfl ?_
            refine s_blx (lv' := [(4, vI (x4 + 1)), (6, vI v18), (0, vR 77), (1, vI x1), (2, vI x2), (3, vI x3), (5, vI x5)]) (st' := []) B254_140_143 rfl ?_
            refine r_goto (tgt := 39) D254_143 rfl ?_
            refine r_loc (lv' := [(0, vR 77), (1, vI x1), (2, vI x2), (3, vI x3), (4, vI (x4 + 1))]) ⟨rfl, rfl, rfl, rfl, rfl, trivial⟩ rfl rfl ?_
            exact ih.2.1 x1 x2 x3 (x4 + 1) N HN fN (by omega) (by omega) (by omega) (by omega) (by omega) (by omega) (by omega) (by omega) (by omega) (by omega) (by omega)
        · refine r_goto (tgt := 140) D254_90 rfl ?_
          refine s_blx (lv' := [(4, vI (x4 + 1)), (0, vR 77), (1, vI x1), (2, vI x2), (3, vI x3), (5, vI x5), (6, vI x6)]) (st' := []) B254_140_143 rfl ?_
          refine r_goto (tgt := 39) D254_143 rfl ?_
          refine r_loc (lv' := [(0, vR 77), (1, vI x1), (2, vI x2), (3, vI x3), (4, vI (x4 + 1))]) ⟨rfl, rfl, rfl, rfl, rfl, trivial⟩ rfl rfl ?_
          exact ih.2.1 x1 x2 x3 (x4 + 1) N HN fN (by omega) (by omega) (by omega) (by omega) (by omega) (by omega) (by omega) (by omega) (by omega) (by omega) (by omega)
      · refine s_blx (lv' := [(0, vR 77), (1, vI x1), (2, vI x2), (3, vI x3), (4, vI x4), (5, vI x5), (6, vI x6)]) (st' := [vR 77]) B254_59_60 rfl ?_
        refine r_gfix (r := 104) (pc' := 63) D254_60 rfl gf_11_99_77 HN.1 ?_
        refine s_blx (lv' := [(0, vR 77), (1, vI x1), (2, vI x2), (3, vI x3), (4, vI x4), (5, vI x5), (6, vI x6)]) (st' := [vI x1, vI x5, vI x6, vR 104]) B254_63_68 rfl ?_
        refine r_irem (pc' := 69) D254_68 rfl (by omega) ?_
        have r25 := Int.emod_nonneg x5 (show x1 ≠ 0 by omega)
        have r26 := Int.emod_lt_of_pos x5 (show 0 < x1 by omega)
        generalize x5 % x1 = z23 at *
        refine r_iast (pc' := 70) D254_69 rfl sc_104 HN (by omega) (by unfold inR; omega) (show 0 ≤ z23 ∧ z23 ≤ 5 by omega) ?_
        intro M27 u28 H29 p30
        have f31 := fN.wr u28 rfl
        refine s_blx (lv' := [(0, vR 77), (1, vI x1), (2, vI x2), (3, vI x3), (4, vI x4), (5, vI x5), (6, vI x6)]) (st' := [vI x1, vI x5]) B254_70_73 rfl ?_
        refine r_idiv (pc' := 74) D254_73 rfl (by omega) ?_
        have r34 := Int.ediv_nonneg (show 0 ≤ x5 by omega) (show 0 ≤ x1 by omega)
        have r35 := Int.ediv_le_self (x1) (show 0 ≤ x5 by omega)
        generalize x5 / x1 = z32 at *
        refine s_blx (lv' := [(6, vI (x6 + (-1))), (5, vI z32), (0, vR 77), (1, vI x1), (2, vI x2), (3, vI x3), (4, vI x4)]) (st' := []) B254_74_79 rfl ?_
        refine r_goto (tgt := 54) D254_79 rfl ?_
        refine r_loc (lv' := [(0, vR 77), (1, vI x1), (2, vI x2), (3, vI x3), (4, vI x4), (5, vI z32), (6, vI (x6 + (-1)))]) ⟨rfl, rfl, rfl, rfl, rfl, rfl, rfl, trivial⟩ rfl rfl ?_
        exact ih.2.2.1 x1 x2 x3 x4 z32 (x6 + (-1)) M27 H29 f31 (by omega) (by omega) (by omega) (by omega) (by omega) (by omega) (by omega) (by omega) (by omega) (by omega) (by omega) (by omega) (by omega) (by omega) (by omega) (by omega) (by omega) (by omega)
    · intro x1 x2 x3 x4 x7 N HN fN i0 i1 i2 i3 i4 i5 i6 i7 i8 i9 i10 i11 hmu
      refine s_blx (lv' := [(0, vR 77), (1, vI x1), (2, vI x2), (3, vI x3), (4, vI x4), (7, vI x7)]) (st' := [vI x1, vI x7]) B254_114_117 rfl ?_
      refine r_icmp (tgt := 140) (pc' := 120) D254_117 rfl rfl (by unfold inR; omega) (fun (c36 : x1 ≤ x7) => ?_) (fun (c36 : ¬ (x1 ≤ x7)) => ?_)
      · refine s_blx (lv' := [(4, vI (x4 + 1)), (0, vR 77), (1, vI x1), (2, vI x2), (3, vI x3), (7, vI x7)]) (st' := []) B254_140_143 rfl ?_
        refine r_goto (tgt := 39) D254_143 rfl ?_
        refine r_loc (lv' := [(0, vR 77), (1, vI x1), (2, vI x2), (3, vI x3), (4, vI (x4 + 1))]) ⟨rfl, rfl, rfl, rfl, rfl, trivial⟩ rfl rfl ?_
        exact ih.2.1 x1 x2 x3 (x4 + 1) N HN fN (by omega) (by omega) (by omega) (by omega) (by omega) (by omega) (by omega) (by omega) (by omega) (by omega) (by omega)
      · refine s_blx (lv' := [(0, vR 77), (1, vI x1), (2, vI x2), (3, vI x3), (4, vI x4), (7, vI x7)]) (st' := [vR 77]) B254_120_121 rfl ?_
        refine r_gfix (r := 103) (pc' := 124) D254_121 rfl gf_11_96_77 HN.1 ?_
        refine s_blx (lv' := [(0, vR 77), (1, vI x1), (2, vI x2), (3, vI x3), (4, vI x4), (7, vI x7)]) (st' := [vR 77, vI x7, vR 103]) B254_124_127 rfl ?_
        refine r_gfix (r := 104) (pc' := 130) D254_127 rfl gf_11_99_77 HN.1 ?_
        refine s_blx (lv' := [(0, vR 77), (1, vI x1), (2, vI x2), (3, vI x3), (4, vI x4), (7, vI x7)]) (st' := [vI x7, vR 104, vI x7, vR 103]) B254_130_132 rfl ?_
        refine r_iald (pc' := 133) D254_132 rfl sc_104 HN.1 (by omega) ?_
        intro w37 e38 r39
        have b_w37 := HN.2 104 (x7) 0 5 rfl
        rw [← e38] at b_w37; clear r39
        refine r_iast (pc' := 134) D254_133 rfl sc_103 HN (by omega) (by unfold inR; omega) trivial ?_
        intro M40 u41 H42 p43
        have f44 := fN.wr u41 rfl
        refine s_blx (lv' := [(7, vI (x7 + 1)), (0, vR 77), (1, vI x1), (2, vI x2), (3, vI x3), (4, vI x4)]) (st' := []) B254_134_137 rfl ?_
        refine r_goto (tgt := 114) D254_137 rfl ?_
        refine r_loc (lv' := [(0, vR 77), (1, vI x1), (2, vI x2), (3, vI x3), (4, vI x4), (7, vI (x7 + 1))]) ⟨rfl, rfl, rfl, rfl, rfl, rfl, trivial⟩ rfl rfl ?_
        exact ih.2.2.2 x1 x2 x3 x4 (x7 + 1) M40 H42 f44 (by omega) (by omega) (by omega) (by omega) (by omega) (by omega) (by omega) (by omega) (by omega) (by omega) (by omega) (by omega) (by omega)
set_option maxRecDepth 4000 in
theorem k254x {base : Nat} {X : Nat → Option mC} {G : Nat → Value} (E : EnvOK base X G) {d : Nat} (hd : 1 ≤ d) {M : mH} (H : HI base M) : sOk base X G d T254 [vR 77] M (pI (fun v M' => HI base M' ∧ Fr [(77, 52), (103, 0), (104, 0)] M M')) := by
  have f0 : Fr [(77, 52), (103, 0), (104, 0)] M M := Fr.rf
  refine sOk.of (show sRn base X G d T254 0 [(0, vR 77)] [] M _ from ?_)
  refine s_blx (lv' := [(0, vR 77)]) (st' := [vR 77]) B254_0_1 rfl ?_
  refine r_gfix (r := 78) (pc' := 4) D254_1 rfl gf_11_13_77 H.1 ?_
  refine s_blx (lv' := [(0, vR 77)]) (st' := [vI 472, vR 78]) B254_4_7 rfl ?_
  refine r_iald (pc' := 8) D254_7 rfl sc_78 H.1 (by omega) ?_
  intro w1 e2 r3
  have b_w1 := H.2 78 (472) 0 6 (rk_boxmany (by omega))
  rw [← e2] at b_w1; clear r3
  refine s_blx (lv' := [(1, vI w1), (0, vR 77)]) (st' := [vI w1]) B254_8_10 rfl ?_
  refine r_ifc (tgt := 15) (pc' := 13) D254_10 rfl rfl (by unfold inR; omega) (fun (c4 : w1 ≠ 0) => ?_) (fun (c4 : ¬ (w1 ≠ 0)) => ?_)
  · refine s_blx (lv' := [(3, vI 0), (2, vI 1), (1, vI w1), (0, vR 77)]) (st' := []) B254_15_19 rfl ?_
    refine r_loc (lv' := [(0, vR 77), (1, vI w1), (2, vI 1), (3, vI 0)]) ⟨rfl, rfl, rfl, rfl, trivial⟩ rfl rfl ?_
    exact (L_k254x E hd H (((6 - 0) * 1 + 699855 : Int) + 1).toNat).1 w1 1 0 M H f0 (by omega) (by omega) (by omega) (by omega) (by omega) (by omega) (by omega) (by omega) (by omega) (by omega) (by omega) (by omega) (by omega) (by omega) (by omega)
  · refine s_blx (lv' := [(1, vI w1), (0, vR 77)]) (st' := [vI (-1)]) B254_13_14 rfl ?_
    exact r_iretI D254_14 rfl (⟨H, f0⟩)
