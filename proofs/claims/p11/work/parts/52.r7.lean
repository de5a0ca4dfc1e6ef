/-! A set that isn't empty has a member. -/
noncomputable def T179 : mT := (11, yX11_odds, cX11_odds, 10, (some .int))
set_option maxRecDepth 10000 in
theorem TE179 : sy_m[179]? = some T179 := rfl
theorem B179_0_2 : s_dk T179.2.2.1 0 [.aload_n 0, .iload_n 1] 2 = true := by decide +kernel
theorem D179_2 : decode T179.2.2.1 2 = .ok (.invokevirtual 134, 3) := by decide +kernel
theorem D179_5 : decode T179.2.2.1 5 = .ok (.ifCond .eq 46, 3) := by decide +kernel
theorem B179_51_52 : s_dk T179.2.2.1 51 [.iconst (-1)] 52 = true := by decide +kernel
theorem D179_52 : decode T179.2.2.1 52 = .ok (.ireturn, 1) := by decide +kernel
theorem B179_8_12 : s_dk T179.2.2.1 8 [.iload_n 2, .iconst 0, .aload_n 0, .iload_n 1] 12 = true := by decide +kernel
theorem D179_12 : decode T179.2.2.1 12 = .ok (.invokevirtual 144, 3) := by decide +kernel
theorem D179_15 : decode T179.2.2.1 15 = .ok (.invokestatic 123, 3) := by decide +kernel
theorem D179_18 : decode T179.2.2.1 18 = .ok (.ifCond .eq 33, 3) := by decide +kernel
theorem B179_21_24 : s_dk T179.2.2.1 21 [.iload_n 3, .iconst 0, .iconst 2] 24 = true := by decide +kernel
theorem D179_24 : decode T179.2.2.1 24 = .ok (.invokestatic 123, 3) := by decide +kernel
theorem D179_27 : decode T179.2.2.1 27 = .ok (.ifCond .eq 24, 3) := by decide +kernel
theorem B179_30_35 : s_dk T179.2.2.1 30 [.iload 4, .iconst 0, .bipush 7] 35 = true := by decide +kernel
theorem D179_35 : decode T179.2.2.1 35 = .ok (.invokestatic 123, 3) := by decide +kernel
theorem D179_38 : decode T179.2.2.1 38 = .ok (.ifCond .eq 13, 3) := by decide +kernel
theorem B179_41_45 : s_dk T179.2.2.1 41 [.iload 5, .iconst 0, .iconst 1] 45 = true := by decide +kernel
theorem D179_45 : decode T179.2.2.1 45 = .ok (.invokestatic 123, 3) := by decide +kernel
theorem D179_48 : decode T179.2.2.1 48 = .ok (.ifCond .ne 5, 3) := by decide +kernel
theorem B179_53_57 : s_dk T179.2.2.1 53 [.aload_n 0, .iload_n 1, .iload_n 2, .iconst 0] 57 = true := by decide +kernel
theorem D179_57 : decode T179.2.2.1 57 = .ok (.invokevirtual 167, 3) := by decide +kernel
theorem B179_60_64 : s_dk T179.2.2.1 60 [.istore 6, .iload 6] 64 = true := by decide +kernel
theorem D179_64 : decode T179.2.2.1 64 = .ok (.ifCond .ne 5, 3) := by decide +kernel
theorem B179_69_75 : s_dk T179.2.2.1 69 [.aload_n 0, .iload 6, .iload_n 3, .iload 4] 75 = true := by decide +kernel
theorem D179_75 : decode T179.2.2.1 75 = .ok (.invokevirtual 177, 3) := by decide +kernel
theorem B179_78_83 : s_dk T179.2.2.1 78 [.istore 7, .aload_n 0, .iload 6] 83 = true := by decide +kernel
theorem D179_83 : decode T179.2.2.1 83 = .ok (.invokevirtual 181, 3) := by decide +kernel
theorem B179_86_92 : s_dk T179.2.2.1 86 [.istore 8, .iload 7, .iload 8] 92 = true := by decide +kernel
theorem D179_92 : decode T179.2.2.1 92 = .ok (.invokestatic 184, 3) := by decide +kernel
theorem ck_11_static_184 : m_call 11 (.invokestatic 184) = some (1, 178, 2) := by decide +kernel
theorem B179_95_99 : s_dk T179.2.2.1 95 [.istore 9, .iload 5] 99 = true := by decide +kernel
theorem D179_99 : decode T179.2.2.1 99 = .ok (.ifCond .ne 11, 3) := by decide +kernel
theorem B179_110_114 : s_dk T179.2.2.1 110 [.iload 8, .iload 9] 114 = true := by decide +kernel
theorem D179_114 : decode T179.2.2.1 114 = .ok (.idiv, 1) := by decide +kernel
theorem D179_115 : decode T179.2.2.1 115 = .ok (.ireturn, 1) := by decide +kernel
theorem B179_102_106 : s_dk T179.2.2.1 102 [.iload 7, .iload 9] 106 = true := by decide +kernel
theorem D179_106 : decode T179.2.2.1 106 = .ok (.idiv, 1) := by decide +kernel
theorem D179_107 : decode T179.2.2.1 107 = .ok (.goto 8, 3) := by decide +kernel
theorem B179_67_68 : s_dk T179.2.2.1 67 [.iconst (-1)] 68 = true := by decide +kernel
theorem D179_68 : decode T179.2.2.1 68 = .ok (.ireturn, 1) := by decide +kernel
set_option maxRecDepth 4000 in
theorem L_k173x {base : Nat} {X : Nat → Option mC} {G : Nat → Value} (E : EnvOK base X G) {d : Nat} (hd : 1 ≤ d) {M : mH} (H : HI base M) (set : Int) (n : Int) (h0 : -2147483648 ≤ set ∧ set ≤ 2147483647) (h1 : RS n set M) : ∀ mz : Nat, (∀ (x2 x3 : Int), (0 ≤ x2 ∧ x2 ≤ 100 * x3) → (∀ k : Int, 0 ≤ k → k < x3 → bt set k → 1 ≤ x2) → (0 ≤ x3 ∧ x3 ≤ 16) → (0 ≤ x2) → (x2 ≤ 1700) → (0 ≤ x3) → (x3 ≤ 16) → (16 - x3) * 1 + 0 < (mz : Int) → sRn base X G d T173 4 [(0, vR 77), (1, vI set), (2, vI x2), (3, vI x3)] [] M (s_Q base (pI (fun v M' => M' = M ∧ (0 ≤ v ∧ v ≤ 1600) ∧ ((∃ k : Int, 0 ≤ k ∧ k ≤ 15 ∧ bt set k) → 1 ≤ v))))) := by
  intro mz
  induction mz with
  | zero => exact fun x2 x3 z0 z1 z2 z3 z4 z5 z6 z7 => by omega
  | succ mz ih =>
    intro x2 x3 i0 i1 i2 i3 i4 i5 i6 hmu
    refine s_blx (lv' := [(0, vR 77), (1, vI set), (2, vI x2), (3, vI x3)]) (st' := [vR 77, vI x3]) B173_4_6 rfl ?_
    refine r_gfix (r := 78) (pc' := 9) D173_6 rfl gf_11_13_77 H.1 ?_
    refine s_blx (lv' := [(0, vR 77), (1, vI set), (2, vI x2), (3, vI x3)]) (st' := [vI 469, vR 78, vI x3]) B173_9_12 rfl ?_
    refine r_iald (pc' := 13) D173_12 rfl sc_78 H.1 (by omega) ?_
    intro w1 e2 r3
    have b_w1 := H.2 78 (469) 0 16 (rk_many (by omega))
    rw [← e2] at b_w1; clear r3
    refine r_icmp (tgt := 43) (pc' := 16) D173_13 rfl rfl (by unfold inR; omega) (fun (c4 : w1 ≤ x3) => ?_) (fun (c4 : ¬ (w1 ≤ x3)) => ?_)
    · refine s_blx (lv' := [(0, vR 77), (1, vI set), (2, vI x2), (3, vI x3)]) (st' := [vI x2]) B173_43_44 rfl ?_
      exact r_iretI D173_44 rfl (⟨rfl, by omega, fun ⟨k, a, b, c⟩ => i1 k a (by have kr := (h1 k a b c).1; omega) c⟩)
    · refine s_blx (lv' := [(0, vR 77), (1, vI set), (2, vI x2), (3, vI x3)]) (st' := [vI x3, vI set, vI x2]) B173_16_19 rfl ?_
      refine r_bin (pc' := 20) D173_19 rfl rfl ?_
      intro z5 r6 kq; unfold inR at r6
      refine s_blx (lv' := [(0, vR 77), (1, vI set), (2, vI x2), (3, vI x3)]) (st' := [vI 1, vI z5, vI x2]) B173_20_21 rfl ?_
      refine r_and1 (pc' := 22) D173_21 rfl ?_
      refine s_blx (lv' := [(0, vR 77), (1, vI set), (2, vI x2), (3, vI x3)]) (st' := [vI 1, vI (z5 % 2), vI x2]) B173_22_23 rfl ?_
      refine r_icmp (tgt := 34) (pc' := 26) D173_23 rfl rfl (by unfold inR; omega) (fun (c7 : (z5 % 2) ≠ 1) => ?_) (fun (c7 : ¬ ((z5 % 2) ≠ 1)) => ?_)
      · refine s_blx (lv' := [(3, vI (x3 + 1)), (2, vI (x2 + 0)), (0, vR 77), (1, vI set)]) (st' := []) B173_34_40 rfl ?_
        refine r_goto (tgt := 4) D173_40 rfl ?_
        refine r_loc (lv' := [(0, vR 77), (1, vI set), (2, vI (x2 + 0)), (3, vI (x3 + 1))]) ⟨rfl, rfl, rfl, rfl, trivial⟩ rfl rfl ?_
        exact ih (x2 + 0) (x3 + 1) (by omega) (fun k h1q h2q h3q => if e : k = x3 then (by rw [e] at h3q; have kb := (bt_test kq (by omega)).mpr h3q; have kr := h1 x3 (by omega) (by omega) h3q; omega) else (by have ka := i1 k h1q (by omega) h3q; omega)) (by omega) (by omega) (by omega) (by omega) (by omega) (by omega)
      · refine s_blx (lv' := [(0, vR 77), (1, vI set), (2, vI x2), (3, vI x3)]) (st' := [vI x3, vR 77, vI x2]) B173_26_28 rfl ?_
        refine r_vIp (c := 77) (args := [vI x3]) (rest := [vI x2]) (pc' := 31) D173_28 rfl ck_11_virtual_138 TE159 rfl (Nat.le_of_ble_eq_true rfl) ⟨Nat.le_of_ble_eq_true rfl, Nat.le_of_ble_eq_true rfl⟩ sc_77 ⟨rfl, by decide⟩ H.1 (dp_0 hd rfl) (k159x E (dp_n hd rfl) H x3 (by omega)) ?_
        intro v8 q12
        obtain ⟨q10, q11⟩ := q12
        refine r_goto (tgt := 35) D173_31 rfl ?_
        refine s_blx (lv' := [(3, vI (x3 + 1)), (2, vI (x2 + v8)), (0, vR 77), (1, vI set)]) (st' := []) B173_35_40 rfl ?_
        refine r_goto (tgt := 4) D173_40 rfl ?_
        refine r_loc (lv' := [(0, vR 77), (1, vI set), (2, vI (x2 + v8)), (3, vI (x3 + 1))]) ⟨rfl, rfl, rfl, rfl, trivial⟩ rfl rfl ?_
        exact ih (x2 + v8) (x3 + 1) (by omega) (fun k h1q h2q h3q => if e : k = x3 then (by rw [e] at h3q; have kb := (bt_test kq (by omega)).mpr h3q; have kr := h1 x3 (by omega) (by omega) h3q; omega) else (by have ka := i1 k h1q (by omega) h3q; omega)) (by omega) (by omega) (by omega) (by omega) (by omega) (by omega)
set_option maxRecDepth 4000 in
theorem k173x {base : Nat} {X : Nat → Option mC} {G : Nat → Value} (E : EnvOK base X G) {d : Nat} (hd : 1 ≤ d) {M : mH} (H : HI base M) (set : Int) (n : Int) (h0 : -2147483648 ≤ set ∧ set ≤ 2147483647) (h1 : RS n set M) : sOk base X G d T173 [vR 77, vI set] M (pI (fun v M' => M' = M ∧ (0 ≤ v ∧ v ≤ 1600) ∧ ((∃ k : Int, 0 ≤ k ∧ k ≤ 15 ∧ bt set k) → 1 ≤ v))) := by
  refine sOk.of (show sRn base X G d T173 0 [(0, vR 77), (1, vI set)] [] M _ from ?_)
  refine s_blx (lv' := [(3, vI 0), (2, vI 0), (0, vR 77), (1, vI set)]) (st' := []) B173_0_4 rfl ?_
  refine r_loc (lv' := [(0, vR 77), (1, vI set), (2, vI 0), (3, vI 0)]) ⟨rfl, rfl, rfl, rfl, trivial⟩ rfl rfl ?_
  exact (L_k173x E hd H set n h0 h1 (((16 - 0) * 1 + 0 : Int) + 1).toNat) 0 0 (by omega) (fun k h1 h2 _ => by omega) (by omega) (by omega) (by omega) (by omega) (by omega) (by omega)