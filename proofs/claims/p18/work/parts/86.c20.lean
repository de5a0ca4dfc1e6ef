/-! The class takes a sentence: its tape holds words. -/
noncomputable def TC (n : Int) (M : mH) : Prop := ∀ j : Int, 0 ≤ j → j < n → gi M 13 j ≤ 29
theorem TC.of {n : Int} {M M' : mH} (h : TC n M) (e : ∀ j : Int, gi M' 13 j = gi M 13 j) : TC n M' := by
  intro j h1 h2; rw [e]; exact h j h1 h2
theorem TC.fr {n : Int} {L : List (Nat × Nat)} {M M' : mH} (h : TC n M) (f : Fr L M M') (hc : s_al L (fun c => c != 13) = true) : TC n M' := h.of (fun _ => f.g (s_al_ok hc (by simp)))
theorem TC.wr {n : Int} {M M' : mH} {c i : Nat} {v : Value} (h : TC n M) (u : Wr M c i v M') (hc : c ≠ 13) : TC n M' := h.of (fun j => by unfold gi; rw [u.ne (Or.inl (Ne.symm hc))])
theorem TC.zero {M : mH} : TC 0 M := fun j h1 h2 => by omega
theorem TC.next {k : Int} {M : mH} (h : TC k M) (hk : gi M 13 k ≤ 29) : TC (k + 1) M := by
  intro j h1 h2
  by_cases e : j = k
  · rw [e]; exact hk
  · exact h j h1 (by omega)
theorem TC.mono {k n : Int} {M : mH} (h : TC k M) (hn : n ≤ k) : TC n M := fun j h1 h2 => h j h1 (by omega)
noncomputable def T60 : mT := (8, yX8_addRow, cX8_addRow, 5, (some .int))
set_option maxRecDepth 10000 in
theorem TE60 : sy_m[60]? = some T60 := rfl
theorem B60_0_1 : s_dk T60.2.2.1 0 [.aload_n 0] 1 = true := by decide +kernel
theorem D60_1 : decode T60.2.2.1 1 = .ok (.getfield 43, 3) := by decide +kernel
theorem B60_4_8 : s_dk T60.2.2.1 4 [.istore_n 3, .aload_n 1, .iconst 0, .aload_n 0] 8 = true := by decide +kernel
theorem D60_8 : decode T60.2.2.1 8 = .ok (.getfield 31, 3) := by decide +kernel
theorem B60_11_16 : s_dk T60.2.2.1 11 [.iload_n 3, .bipush 8, .imul, .iload_n 2] 16 = true := by decide +kernel
theorem D60_16 : decode T60.2.2.1 16 = .ok (.invokestatic 70, 3) := by decide +kernel
theorem mc_8_static_70 : m_call 8 (.invokestatic 70) = none := by decide +kernel
theorem sp_8_70 : m_sp 8 70 = some 1 := by decide +kernel
theorem B60_19_20 : s_dk T60.2.2.1 19 [.aload_n 0] 20 = true := by decide +kernel
theorem D60_20 : decode T60.2.2.1 20 = .ok (.getfield 34, 3) := by decide +kernel
theorem B60_23_25 : s_dk T60.2.2.1 23 [.iload_n 3, .iload_n 2] 25 = true := by decide +kernel
theorem D60_25 : decode T60.2.2.1 25 = .ok (.iastore, 1) := by decide +kernel
theorem B60_26_29 : s_dk T60.2.2.1 26 [.iconst 0, .istore 4] 29 = true := by decide +kernel
theorem B60_29_32 : s_dk T60.2.2.1 29 [.iload 4, .iconst 4] 32 = true := by decide +kernel
theorem D60_32 : decode T60.2.2.1 32 = .ok (.if_icmp .ge 21, 3) := by decide +kernel
theorem B60_35_36 : s_dk T60.2.2.1 35 [.aload_n 0] 36 = true := by decide +kernel
theorem D60_36 : decode T60.2.2.1 36 = .ok (.getfield 40, 3) := by decide +kernel
theorem B60_39_46 : s_dk T60.2.2.1 39 [.iload_n 3, .iconst 4, .imul, .iload 4, .iadd, .iconst 1] 46 = true := by decide +kernel
theorem D60_46 : decode T60.2.2.1 46 = .ok (.iastore, 1) := by decide +kernel
theorem B60_47_50 : s_dk T60.2.2.1 47 [.iinc 4 1] 50 = true := by decide +kernel
theorem D60_50 : decode T60.2.2.1 50 = .ok (.goto (-21), 3) := by decide +kernel
theorem B60_53_55 : s_dk T60.2.2.1 53 [.aload_n 0, .dup] 55 = true := by decide +kernel
theorem D60_55 : decode T60.2.2.1 55 = .ok (.getfield 43, 3) := by decide +kernel
theorem B60_58_60 : s_dk T60.2.2.1 58 [.iconst 1, .iadd] 60 = true := by decide +kernel
theorem pf_8_43_1 : s_pf 8 43 1 = some (10, 1) := by decide +kernel
theorem D60_60 : decode T60.2.2.1 60 = .ok (.putfield 43, 3) := by decide +kernel
theorem B60_63_64 : s_dk T60.2.2.1 63 [.iload_n 3] 64 = true := by decide +kernel
theorem D60_64 : decode T60.2.2.1 64 = .ok (.ireturn, 1) := by decide +kernel
noncomputable def T101 : mT := (10, yX10_sentence, cX10_sentence, 6, (some .int))
set_option maxRecDepth 10000 in
theorem TE101 : sy_m[101]? = some T101 := rfl
theorem B101_0_1 : s_dk T101.2.2.1 0 [.aload_n 0] 1 = true := by decide +kernel
theorem D101_1 : decode T101.2.2.1 1 = .ok (.invokevirtual 149, 3) := by decide +kernel
theorem B101_4_7 : s_dk T101.2.2.1 4 [.istore 4, .iload_n 1] 7 = true := by decide +kernel
theorem D101_7 : decode T101.2.2.1 7 = .ok (.invokestatic 153, 3) := by decide +kernel
theorem D101_10 : decode T101.2.2.1 10 = .ok (.ifCond .eq 17, 3) := by decide +kernel
theorem B101_27_29 : s_dk T101.2.2.1 27 [.aload_n 0, .iconst (-1)] 29 = true := by decide +kernel
theorem D101_29 : decode T101.2.2.1 29 = .ok (.invokevirtual 106, 3) := by decide +kernel
theorem D101_32 : decode T101.2.2.1 32 = .ok (.ireturn, 1) := by decide +kernel
theorem B101_13_14 : s_dk T101.2.2.1 13 [.iload_n 2] 14 = true := by decide +kernel
theorem D101_14 : decode T101.2.2.1 14 = .ok (.invokestatic 153, 3) := by decide +kernel
theorem D101_17 : decode T101.2.2.1 17 = .ok (.ifCond .eq 10, 3) := by decide +kernel
theorem B101_20_21 : s_dk T101.2.2.1 20 [.iload_n 3] 21 = true := by decide +kernel
theorem D101_21 : decode T101.2.2.1 21 = .ok (.invokestatic 153, 3) := by decide +kernel
theorem D101_24 : decode T101.2.2.1 24 = .ok (.ifCond .ne 9, 3) := by decide +kernel
theorem B101_33_36 : s_dk T101.2.2.1 33 [.aload_n 0, .iload 4] 36 = true := by decide +kernel
theorem D101_36 : decode T101.2.2.1 36 = .ok (.invokevirtual 156, 3) := by decide +kernel
theorem ck_10_virtual_156 : m_call 10 (.invokevirtual 156) = some (0, 137, 1) := by decide +kernel
theorem D101_39 : decode T101.2.2.1 39 = .ok (.ifCond .ne 10, 3) := by decide +kernel
theorem B101_49_50 : s_dk T101.2.2.1 49 [.aload_n 0] 50 = true := by decide +kernel
theorem D101_50 : decode T101.2.2.1 50 = .ok (.getfield 10, 3) := by decide +kernel
theorem B101_53_54 : s_dk T101.2.2.1 53 [.aload_n 0] 54 = true := by decide +kernel
theorem D101_54 : decode T101.2.2.1 54 = .ok (.getfield 20, 3) := by decide +kernel
theorem B101_57_59 : s_dk T101.2.2.1 57 [.iload 4] 59 = true := by decide +kernel
theorem D101_59 : decode T101.2.2.1 59 = .ok (.invokevirtual 159, 3) := by decide +kernel
theorem ck_10_virtual_159 : m_call 10 (.invokevirtual 159) = some (0, 64, 2) := by decide +kernel
theorem D101_62 : decode T101.2.2.1 62 = .ok (.ifCond .eq 10, 3) := by decide +kernel
theorem B101_72_73 : s_dk T101.2.2.1 72 [.aload_n 0] 73 = true := by decide +kernel
theorem D101_73 : decode T101.2.2.1 73 = .ok (.getfield 10, 3) := by decide +kernel
theorem D101_76 : decode T101.2.2.1 76 = .ok (.getfield 163, 3) := by decide +kernel
theorem B101_79_81 : s_dk T101.2.2.1 79 [.bipush 16] 81 = true := by decide +kernel
theorem D101_81 : decode T101.2.2.1 81 = .ok (.if_icmp .lt 10, 3) := by decide +kernel
theorem B101_91_92 : s_dk T101.2.2.1 91 [.aload_n 0] 92 = true := by decide +kernel
theorem D101_92 : decode T101.2.2.1 92 = .ok (.getfield 10, 3) := by decide +kernel
theorem B101_95_96 : s_dk T101.2.2.1 95 [.aload_n 0] 96 = true := by decide +kernel
theorem D101_96 : decode T101.2.2.1 96 = .ok (.getfield 20, 3) := by decide +kernel
theorem B101_99_101 : s_dk T101.2.2.1 99 [.iload 4] 101 = true := by decide +kernel
theorem D101_101 : decode T101.2.2.1 101 = .ok (.invokevirtual 166, 3) := by decide +kernel
theorem ck_10_virtual_166 : m_call 10 (.invokevirtual 166) = some (0, 60, 2) := by decide +kernel
theorem B101_104_107 : s_dk T101.2.2.1 104 [.istore 5, .aload_n 0] 107 = true := by decide +kernel
theorem D101_107 : decode T101.2.2.1 107 = .ok (.getfield 10, 3) := by decide +kernel
theorem B101_110_115 : s_dk T101.2.2.1 110 [.iload 5, .iload_n 1, .iload_n 2, .iload_n 3] 115 = true := by decide +kernel
theorem D101_115 : decode T101.2.2.1 115 = .ok (.invokevirtual 170, 3) := by decide +kernel
theorem ck_10_virtual_170 : m_call 10 (.invokevirtual 170) = some (0, 61, 4) := by decide +kernel
theorem B101_118_121 : s_dk T101.2.2.1 118 [.aload_n 0, .iload 5] 121 = true := by decide +kernel
theorem D101_121 : decode T101.2.2.1 121 = .ok (.invokevirtual 123, 3) := by decide +kernel
theorem D101_124 : decode T101.2.2.1 124 = .ok (.ireturn, 1) := by decide +kernel
theorem B101_84_87 : s_dk T101.2.2.1 84 [.aload_n 0, .bipush (-5)] 87 = true := by decide +kernel
theorem D101_87 : decode T101.2.2.1 87 = .ok (.invokevirtual 106, 3) := by decide +kernel
theorem D101_90 : decode T101.2.2.1 90 = .ok (.ireturn, 1) := by decide +kernel
theorem B101_65_68 : s_dk T101.2.2.1 65 [.aload_n 0, .bipush (-4)] 68 = true := by decide +kernel
theorem D101_68 : decode T101.2.2.1 68 = .ok (.invokevirtual 106, 3) := by decide +kernel
theorem D101_71 : decode T101.2.2.1 71 = .ok (.ireturn, 1) := by decide +kernel
theorem B101_42_45 : s_dk T101.2.2.1 42 [.aload_n 0, .bipush (-6)] 45 = true := by decide +kernel
theorem D101_45 : decode T101.2.2.1 45 = .ok (.invokevirtual 106, 3) := by decide +kernel
theorem D101_48 : decode T101.2.2.1 48 = .ok (.ireturn, 1) := by decide +kernel
set_option maxRecDepth 4000 in
theorem L_k137k {base : Nat} {X : Nat → Option mC} {G : Nat → Value} (E : EnvOK base X G) {d : Nat} (hd : 1 ≤ d) {M : mH} (H : HI base M) (length : Int) (h0 : 0 ≤ length ∧ length ≤ 400) : ∀ mz : Nat, (∀ (x2 : Int), (TC x2 M) → (1 ≤ length ∧ length ≤ 8) → (0 ≤ x2 ∧ x2 ≤ length) → (0 ≤ x2) → (x2 ≤ 8) → (1 ≤ length) → (length ≤ 8) → (8 - x2) * 1 + 0 < (mz : Int) → sRn base X G d T137 14 [(0, vR 0), (1, vI length), (2, vI x2)] [] M (s_Q base (pI (fun v M' => M' = M ∧ (v = 0 ∨ v = 1) ∧ (v = 1 → 1 ≤ length ∧ length ≤ 8) ∧ (v = 1 → TC length M))))) := by
  intro mz
  induction mz with
  | zero => exact fun x2 z0 z1 z2 z3 z4 z5 z6 z7 => by omega
  | succ mz ih =>
    intro x2 i0 i1 i2 i3 i4 i5 i6 hmu
    refine s_blx (lv' := [(0, vR 0), (1, vI length), (2, vI x2)]) (st' := [vI length, vI x2]) B137_14_16 rfl ?_
    refine r_icmp (tgt := 38) (pc' := 19) D137_16 rfl rfl (by unfold inR; omega) (fun (c8 : length ≤ x2) => ?_) (fun (c8 : ¬ (length ≤ x2)) => ?_)
    · refine s_blx (lv' := [(0, vR 0), (1, vI length), (2, vI x2)]) (st' := [vI 1]) B137_38_39 rfl ?_
      exact r_zretI D137_39 rfl (by omega) (⟨rfl, by omega, by omega, fun _ => i0.mono (by omega)⟩)
    · refine s_blx (lv' := [(0, vR 0), (1, vI length), (2, vI x2)]) (st' := [vR 0]) B137_19_20 rfl ?_
      refine r_gfix (r := 13) (pc' := 23) D137_20 rfl gf_10_20_0 H.1 ?_
      refine s_blx (lv' := [(0, vR 0), (1, vI length), (2, vI x2)]) (st' := [vI x2, vR 13]) B137_23_24 rfl ?_
      refine r_iald (pc' := 25) D137_24 rfl sc_13 H.1 (by omega) ?_
      intro w9 e10 r11
      have b_w9 := H.2 13 (x2) 0 255 rfl
      rw [← e10] at b_w9; clear r11
      refine s_blx (lv' := [(0, vR 0), (1, vI length), (2, vI x2)]) (st' := [vI 30, vI w9]) B137_25_27 rfl ?_
      refine r_icmp (tgt := 32) (pc' := 30) D137_27 rfl rfl (by unfold inR; omega) (fun (c12 : w9 < 30) => ?_) (fun (c12 : ¬ (w9 < 30)) => ?_)
      · refine s_blx (lv' := [(2, vI (x2 + 1)), (0, vR 0), (1, vI length)]) (st' := []) B137_32_35 rfl ?_
        refine r_goto (tgt := 14) D137_35 rfl ?_
        refine r_loc (lv' := [(0, vR 0), (1, vI length), (2, vI (x2 + 1))]) ⟨rfl, rfl, rfl, trivial⟩ rfl rfl ?_
        exact ih (x2 + 1) (i0.next (by omega)) (by omega) (by omega) (by omega) (by omega) (by omega) (by omega) (by omega)
      · refine s_blx (lv' := [(0, vR 0), (1, vI length), (2, vI x2)]) (st' := [vI 0]) B137_30_31 rfl ?_
        exact r_zretI D137_31 rfl (by omega) (⟨rfl, by omega, by omega, fun h => absurd h (by omega)⟩)
set_option maxRecDepth 4000 in
theorem k137k {base : Nat} {X : Nat → Option mC} {G : Nat → Value} (E : EnvOK base X G) {d : Nat} (hd : 1 ≤ d) {M : mH} (H : HI base M) (length : Int) (h0 : 0 ≤ length ∧ length ≤ 400) : sOk base X G d T137 [vR 0, vI length] M (pI (fun v M' => M' = M ∧ (v = 0 ∨ v = 1) ∧ (v = 1 → 1 ≤ length ∧ length ≤ 8) ∧ (v = 1 → TC length M))) := by
  refine sOk.of (show sRn base X G d T137 0 [(0, vR 0), (1, vI length)] [] M _ from ?_)
  refine s_blx (lv' := [(0, vR 0), (1, vI length)]) (st' := [vI 8, vI 1, vI length]) B137_0_4 rfl ?_
  refine r_sIp (args := [vI length, vI 1, vI 8]) (rest := []) (pc' := 7) D137_4 rfl ck_10_static_102 TE142 rfl (Nat.le_of_ble_eq_true rfl) ⟨Nat.le_of_ble_eq_true rfl, Nat.le_of_ble_eq_true rfl⟩ (by decide) (dp_0 hd rfl) (k142 E (dp_n hd rfl) H length 1 8 (by omega) (by omega) (by omega)) ?_
  intro v1 q6
  obtain ⟨q3, q4, q5⟩ := q6
  refine r_ifc (tgt := 12) (pc' := 10) D137_7 rfl rfl (by unfold inR; omega) (fun (c7 : v1 ≠ 0) => ?_) (fun (c7 : ¬ (v1 ≠ 0)) => ?_)
  · refine s_blx (lv' := [(2, vI 0), (0, vR 0), (1, vI length)]) (st' := []) B137_12_14 rfl ?_
    refine r_loc (lv' := [(0, vR 0), (1, vI length), (2, vI 0)]) ⟨rfl, rfl, rfl, trivial⟩ rfl rfl ?_
    exact (L_k137k E hd H length h0 (((8 - 0) * 1 + 0 : Int) + 1).toNat) 0 (TC.zero) (by omega) (by omega) (by omega) (by omega) (by omega) (by omega) (by omega)
  · refine s_blx (lv' := [(0, vR 0), (1, vI length)]) (st' := [vI 0]) B137_10_11 rfl ?_
    exact r_zretI D137_11 rfl (by omega) (⟨rfl, by omega, by omega, fun h => absurd h (by omega)⟩)
set_option maxRecDepth 4000 in
theorem L_k60_1_13k {base : Nat} {X : Nat → Option mC} {G : Nat → Value} (E : EnvOK base X G) {d : Nat} (hd : 0 ≤ d) {M : mH} (H : HI base M) (length : Int) (h0 : TC length M) (h1 : 1 ≤ length ∧ length ≤ 8) (h2 : gi M 1 10 ≤ 15) : ∀ mz : Nat, (∀ (x3 x4 : Int) (N : mH), HI base N → Fr [(1, 11), (5, 0), (6, 0), (8, 0)] M N → (gi N 1 10 = x3) → (0 ≤ x3 ∧ x3 ≤ 15) → (0 ≤ x4 ∧ x4 ≤ 4) → (0 ≤ x3) → (x3 ≤ 16) → (0 ≤ x4) → (x4 ≤ 4) → (4 - x4) * 1 + 0 < (mz : Int) → sRn base X G d T60 29 [(0, vR 1), (3, vI x3), (4, vI x4)] [] N (s_Q base (pI (fun v M' => HI base M' ∧ Fr [(1, 11), (5, 0), (6, 0), (8, 0)] M M' ∧ (0 ≤ v ∧ v ≤ 15))))) := by
  have f0 : Fr [(1, 11), (5, 0), (6, 0), (8, 0)] M M := Fr.rf
  intro mz
  induction mz with
  | zero => exact fun x3 x4 N _ _ z0 z1 z2 z3 z4 z5 z6 z7 => by omega
  | succ mz ih =>
    intro x3 x4 N HN fN i0 i1 i2 i3 i4 i5 i6 hmu
    refine s_blx (lv' := [(0, vR 1), (3, vI x3), (4, vI x4)]) (st' := [vI 4, vI x4]) B60_29_32 rfl ?_
    refine r_icmp (tgt := 53) (pc' := 35) D60_32 rfl rfl (by unfold inR; omega) (fun (c14 : 4 ≤ x4) => ?_) (fun (c14 : ¬ (4 ≤ x4)) => ?_)
    · refine s_blx (lv' := [(0, vR 1), (3, vI x3), (4, vI x4)]) (st' := [vR 1, vR 1]) B60_53_55 rfl ?_
      refine r_gint (ki := 10) (pc' := 58) D60_55 rfl gf_8_43_1 rfl HN.1 ?_
      intro w15 e16 r17
      have e18 : x3 = w15 := (e16.trans (i0)).symm
      subst e18
      refine s_blx (lv' := [(0, vR 1), (3, vI x3), (4, vI x4)]) (st' := [vI (x3 + 1), vR 1]) B60_58_60 rfl ?_
      refine r_pint (ki := 10) (pc' := 63) D60_60 rfl pf_8_43_1 rfl HN (by unfold inR; omega) (show 0 ≤ (x3 + 1) ∧ (x3 + 1) ≤ 16 by omega) ?_
      intro M19 u20 H21 p22
      have f23 := fN.wr u20 rfl
      refine s_blx (lv' := [(0, vR 1), (3, vI x3), (4, vI x4)]) (st' := [vI x3]) B60_63_64 rfl ?_
      exact r_iretI D60_64 rfl (⟨H21, f23, by omega⟩)
    · refine s_blx (lv' := [(0, vR 1), (3, vI x3), (4, vI x4)]) (st' := [vR 1]) B60_35_36 rfl ?_
      refine r_gfix (r := 8) (pc' := 39) D60_36 rfl gf_8_40_1 HN.1 ?_
      refine s_blx (lv' := [(0, vR 1), (3, vI x3), (4, vI x4)]) (st' := [vI 1, vI ((x3 * 4) + x4), vR 8]) B60_39_46 rfl ?_
      refine r_iast (pc' := 47) D60_46 rfl sc_8 HN (by omega) (by unfold inR; omega) (show 0 ≤ 1 ∧ 1 ≤ 100 by omega) ?_
      intro M24 u25 H26 p27
      have f28 := fN.wr u25 rfl
      refine s_blx (lv' := [(4, vI (x4 + 1)), (0, vR 1), (3, vI x3)]) (st' := []) B60_47_50 rfl ?_
      refine r_goto (tgt := 29) D60_50 rfl ?_
      refine r_loc (lv' := [(0, vR 1), (3, vI x3), (4, vI (x4 + 1))]) ⟨rfl, rfl, rfl, trivial⟩ rfl rfl ?_
      have g29 : gi M24 1 10 = x3 := (u25.gi_ne (by omega) (Or.inl (by decide))).trans (i0)
      exact ih x3 (x4 + 1) M24 H26 f28 (by omega) (by omega) (by omega) (by omega) (by omega) (by omega) (by omega) (by omega)
set_option maxRecDepth 4000 in
theorem k60_1_13k {base : Nat} {X : Nat → Option mC} {G : Nat → Value} (E : EnvOK base X G) {d : Nat} (hd : 0 ≤ d) {M : mH} (H : HI base M) (length : Int) (h0 : TC length M) (h1 : 1 ≤ length ∧ length ≤ 8) (h2 : gi M 1 10 ≤ 15) : sOk base X G d T60 [vR 1, vR 13, vI length] M (pI (fun v M' => HI base M' ∧ Fr [(1, 11), (5, 0), (6, 0), (8, 0)] M M' ∧ (0 ≤ v ∧ v ≤ 15))) := by
  have f0 : Fr [(1, 11), (5, 0), (6, 0), (8, 0)] M M := Fr.rf
  refine sOk.of (show sRn base X G d T60 0 [(0, vR 1), (1, vR 13), (2, vI length)] [] M _ from ?_)
  refine s_blx (lv' := [(0, vR 1), (1, vR 13), (2, vI length)]) (st' := [vR 1]) B60_0_1 rfl ?_
  refine r_gint (ki := 10) (pc' := 4) D60_1 rfl gf_8_43_1 rfl H.1 ?_
  intro w1 e2 r3
  have b_w1 := H.2 1 (10) 0 16 rfl
  rw [← e2] at b_w1; clear r3
  refine s_blx (lv' := [(3, vI w1), (0, vR 1), (1, vR 13), (2, vI length)]) (st' := [vR 1, vI 0, vR 13]) B60_4_8 rfl ?_
  refine r_gfix (r := 5) (pc' := 11) D60_8 rfl gf_8_31_1 H.1 ?_
  refine s_blx (lv' := [(3, vI w1), (0, vR 1), (1, vR 13), (2, vI length)]) (st' := [vI length, vI (w1 * 8), vR 5, vI 0, vR 13]) B60_11_16 rfl ?_
  refine r_acpy (pc' := 19) D60_16 rfl mc_8_static_70 sp_8_70 (Nat.le_of_ble_eq_true rfl) sc_13 sc_5 H (by omega) (fun j h0_ h1_ => (show 0 ≤ _ ∧ _ ≤ 29 from by have q := H.2 13 (0 + j) 0 255 rfl; have q2 := h0 (0 + j) (by omega) (by omega); omega)) ?_
  intro M4 u5 H6
  have f7 := f0.cp u5 (fun _ => rfl)
  refine s_blx (lv' := [(3, vI w1), (0, vR 1), (1, vR 13), (2, vI length)]) (st' := [vR 1]) B60_19_20 rfl ?_
  refine r_gfix (r := 6) (pc' := 23) D60_20 rfl gf_8_34_1 H6.1 ?_
  refine s_blx (lv' := [(3, vI w1), (0, vR 1), (1, vR 13), (2, vI length)]) (st' := [vI length, vI w1, vR 6]) B60_23_25 rfl ?_
  refine r_iast (pc' := 26) D60_25 rfl sc_6 H6 (by omega) (by unfold inR; omega) (show 0 ≤ length ∧ length ≤ 8 by omega) ?_
  intro M8 u9 H10 p11
  have f12 := f7.wr u9 rfl
  refine s_blx (lv' := [(4, vI 0), (3, vI w1), (0, vR 1), (1, vR 13), (2, vI length)]) (st' := []) B60_26_29 rfl ?_
  refine r_loc (lv' := [(0, vR 1), (3, vI w1), (4, vI 0)]) ⟨rfl, rfl, rfl, trivial⟩ rfl rfl ?_
  have g13 : gi M8 1 10 = w1 := (u9.gi_ne (by omega) (Or.inl (by decide))).trans ((u5.gi_ne (by decide) _).trans (e2.symm))
  exact (L_k60_1_13k E hd H length h0 h1 h2 (((4 - 0) * 1 + 0 : Int) + 1).toNat) w1 0 M8 H10 f12 (by omega) (by omega) (by omega) (by omega) (by omega) (by omega) (by omega) (by omega)
set_option maxRecDepth 4000 in
theorem k101k {base : Nat} {X : Nat → Option mC} {G : Nat → Value} (E : EnvOK base X G) {d : Nat} (hd : 2 ≤ d) {M : mH} (H : HI base M) (a : Int) (b : Int) (c : Int) (h0 : -2147483648 ≤ a ∧ a ≤ 2147483647) (h1 : -2147483648 ≤ b ∧ b ≤ 2147483647) (h2 : -2147483648 ≤ c ∧ c ≤ 2147483647) : sOk base X G d T101 [vR 0, vI a, vI b, vI c] M (pI (fun v M' => HI base M' ∧ Fr [(0, 4), (0, 6), (0, 10), (1, 11), (5, 0), (6, 0), (7, 0), (8, 0)] M M' ∧ (-2147483648 ≤ v ∧ v ≤ 2147483647))) := by
  have f0 : Fr [(0, 4), (0, 6), (0, 10), (1, 11), (5, 0), (6, 0), (7, 0), (8, 0)] M M := Fr.rf
  refine sOk.of (show sRn base X G d T101 0 [(0, vR 0), (1, vI a), (2, vI b), (3, vI c)] [] M _ from ?_)
  refine s_blx (lv' := [(0, vR 0), (1, vI a), (2, vI b), (3, vI c)]) (st' := [vR 0]) B101_0_1 rfl ?_
  refine r_vI (c := 0) (args := []) (rest := []) (pc' := 4) D101_1 rfl ck_10_virtual_149 TE135 rfl (Nat.le_of_ble_eq_true rfl) ⟨Nat.le_of_ble_eq_true rfl, Nat.le_of_ble_eq_true rfl⟩ sc_0 ⟨rfl, by decide⟩ H.1 (dp_0 hd rfl) (k135 E (dp_n hd rfl) H ) ?_
  intro v1 M2 q6
  obtain ⟨H3, f4, q5⟩ := q6
  have f7 := f0.tr (f4.up rfl)
  refine s_blx (lv' := [(4, vI v1), (0, vR 0), (1, vI a), (2, vI b), (3, vI c)]) (st' := [vI a]) B101_4_7 rfl ?_
  refine r_sIp (args := [vI a]) (rest := []) (pc' := 10) D101_7 rfl ck_10_static_153 TE144 rfl (Nat.le_of_ble_eq_true rfl) ⟨Nat.le_of_ble_eq_true rfl, Nat.le_of_ble_eq_true rfl⟩ (by decide) (dp_0 hd rfl) (k144 E (dp_n hd rfl) H3 a (by omega)) ?_
  intro v8 q12
  obtain ⟨q10, q11⟩ := q12
  refine r_ifc (tgt := 27) (pc' := 13) D101_10 rfl rfl (by unfold inR; omega) (fun (c13 : v8 = 0) => ?_) (fun (c13 : ¬ (v8 = 0)) => ?_)
  · refine s_blx (lv' := [(4, vI v1), (0, vR 0), (1, vI a), (2, vI b), (3, vI c)]) (st' := [vI (-1), vR 0]) B101_27_29 rfl ?_
    refine r_vI (c := 0) (args := [vI (-1)]) (rest := []) (pc' := 32) D101_29 rfl ck_10_virtual_106 TE133 rfl (Nat.le_of_ble_eq_true rfl) ⟨Nat.le_of_ble_eq_true rfl, Nat.le_of_ble_eq_true rfl⟩ sc_0 ⟨rfl, by decide⟩ H3.1 (dp_0 hd rfl) (k133 E (dp_n hd rfl) H3 (-1) (by omega)) ?_
    intro v14 M15 q19
    obtain ⟨H16, f17, q18⟩ := q19
    have f20 := f7.tr (f17.up rfl)
    exact r_iretI D101_32 rfl (⟨H16, f20, by omega⟩)
  · refine s_blx (lv' := [(4, vI v1), (0, vR 0), (1, vI a), (2, vI b), (3, vI c)]) (st' := [vI b]) B101_13_14 rfl ?_
    refine r_sIp (args := [vI b]) (rest := []) (pc' := 17) D101_14 rfl ck_10_static_153 TE144 rfl (Nat.le_of_ble_eq_true rfl) ⟨Nat.le_of_ble_eq_true rfl, Nat.le_of_ble_eq_true rfl⟩ (by decide) (dp_0 hd rfl) (k144 E (dp_n hd rfl) H3 b (by omega)) ?_
    intro v21 q25
    obtain ⟨q23, q24⟩ := q25
    refine r_ifc (tgt := 27) (pc' := 20) D101_17 rfl rfl (by unfold inR; omega) (fun (c26 : v21 = 0) => ?_) (fun (c26 : ¬ (v21 = 0)) => ?_)
    · refine s_blx (lv' := [(4, vI v1), (0, vR 0), (1, vI a), (2, vI b), (3, vI c)]) (st' := [vI (-1), vR 0]) B101_27_29 rfl ?_
      refine r_vI (c := 0) (args := [vI (-1)]) (rest := []) (pc' := 32) D101_29 rfl ck_10_virtual_106 TE133 rfl (Nat.le_of_ble_eq_true rfl) ⟨Nat.le_of_ble_eq_true rfl, Nat.le_of_ble_eq_true rfl⟩ sc_0 ⟨rfl, by decide⟩ H3.1 (dp_0 hd rfl) (k133 E (dp_n hd rfl) H3 (-1) (by omega)) ?_
      intro v27 M28 q32
      obtain ⟨H29, f30, q31⟩ := q32
      have f33 := f7.tr (f30.up rfl)
      exact r_iretI D101_32 rfl (⟨H29, f33, by omega⟩)
    · refine s_blx (lv' := [(4, vI v1), (0, vR 0), (1, vI a), (2, vI b), (3, vI c)]) (st' := [vI c]) B101_20_21 rfl ?_
      refine r_sIp (args := [vI c]) (rest := []) (pc' := 24) D101_21 rfl ck_10_static_153 TE144 rfl (Nat.le_of_ble_eq_true rfl) ⟨Nat.le_of_ble_eq_true rfl, Nat.le_of_ble_eq_true rfl⟩ (by decide) (dp_0 hd rfl) (k144 E (dp_n hd rfl) H3 c (by omega)) ?_
      intro v34 q38
      obtain ⟨q36, q37⟩ := q38
      refine r_ifc (tgt := 33) (pc' := 27) D101_24 rfl rfl (by unfold inR; omega) (fun (c39 : v34 ≠ 0) => ?_) (fun (c39 : ¬ (v34 ≠ 0)) => ?_)
      · refine s_blx (lv' := [(4, vI v1), (0, vR 0), (1, vI a), (2, vI b), (3, vI c)]) (st' := [vI v1, vR 0]) B101_33_36 rfl ?_
        refine r_vIp (c := 0) (args := [vI v1]) (rest := []) (pc' := 39) D101_36 rfl ck_10_virtual_156 TE137 rfl (Nat.le_of_ble_eq_true rfl) ⟨Nat.le_of_ble_eq_true rfl, Nat.le_of_ble_eq_true rfl⟩ sc_0 ⟨rfl, by decide⟩ H3.1 (dp_0 hd rfl) (k137k E (dp_n hd rfl) H3 v1 (by omega)) ?_
        intro v40 q45
        obtain ⟨q42, q43, q44⟩ := q45
        have ktc := q44; clear q44
        refine r_ifc (tgt := 49) (pc' := 42) D101_39 rfl rfl (by unfold inR; omega) (fun (c46 : v40 ≠ 0) => ?_) (fun (c46 : ¬ (v40 ≠ 0)) => ?_)
        · refine s_blx (lv' := [(4, vI v1), (0, vR 0), (1, vI a), (2, vI b), (3, vI c)]) (st' := [vR 0]) B101_49_50 rfl ?_
          refine r_gfix (r := 1) (pc' := 53) D101_50 rfl gf_10_10_0 H3.1 ?_
          refine s_blx (lv' := [(4, vI v1), (0, vR 0), (1, vI a), (2, vI b), (3, vI c)]) (st' := [vR 0, vR 1]) B101_53_54 rfl ?_
          refine r_gfix (r := 13) (pc' := 57) D101_54 rfl gf_10_20_0 H3.1 ?_
          refine s_blx (lv' := [(4, vI v1), (0, vR 0), (1, vI a), (2, vI b), (3, vI c)]) (st' := [vI v1, vR 13, vR 1]) B101_57_59 rfl ?_
          refine r_vIp (c := 1) (args := [vR 13, vI v1]) (rest := []) (pc' := 62) D101_59 rfl ck_10_virtual_159 TE64 rfl (Nat.le_of_ble_eq_true rfl) ⟨Nat.le_of_ble_eq_true rfl, Nat.le_of_ble_eq_true rfl⟩ sc_1 ⟨rfl, by decide⟩ H3.1 (dp_0 hd rfl) (k64_1_13 E (dp_n hd rfl) H3 v1 (by omega)) ?_
          intro v47 q50
          have q49 := q50; clear q50
          refine r_ifc (tgt := 72) (pc' := 65) D101_62 rfl rfl (by unfold inR; omega) (fun (c51 : v47 = 0) => ?_) (fun (c51 : ¬ (v47 = 0)) => ?_)
          · refine s_blx (lv' := [(4, vI v1), (0, vR 0), (1, vI a), (2, vI b), (3, vI c)]) (st' := [vR 0]) B101_72_73 rfl ?_
            refine r_gfix (r := 1) (pc' := 76) D101_73 rfl gf_10_10_0 H3.1 ?_
            refine r_gint (ki := 10) (pc' := 79) D101_76 rfl gf_10_163_1 rfl H3.1 ?_
            intro w52 e53 r54
            have b_w52 := H3.2 1 (10) 0 16 rfl
            rw [← e53] at b_w52; clear r54
            refine s_blx (lv' := [(4, vI v1), (0, vR 0), (1, vI a), (2, vI b), (3, vI c)]) (st' := [vI 16, vI w52]) B101_79_81 rfl ?_
            refine r_icmp (tgt := 91) (pc' := 84) D101_81 rfl rfl (by unfold inR; omega) (fun (c55 : w52 < 16) => ?_) (fun (c55 : ¬ (w52 < 16)) => ?_)
            · refine s_blx (lv' := [(4, vI v1), (0, vR 0), (1, vI a), (2, vI b), (3, vI c)]) (st' := [vR 0]) B101_91_92 rfl ?_
              refine r_gfix (r := 1) (pc' := 95) D101_92 rfl gf_10_10_0 H3.1 ?_
              refine s_blx (lv' := [(4, vI v1), (0, vR 0), (1, vI a), (2, vI b), (3, vI c)]) (st' := [vR 0, vR 1]) B101_95_96 rfl ?_
              refine r_gfix (r := 13) (pc' := 99) D101_96 rfl gf_10_20_0 H3.1 ?_
              refine s_blx (lv' := [(4, vI v1), (0, vR 0), (1, vI a), (2, vI b), (3, vI c)]) (st' := [vI v1, vR 13, vR 1]) B101_99_101 rfl ?_
              have g56 : gi M2 1 10 = w52 := e53.symm
              refine r_vI (c := 1) (args := [vR 13, vI v1]) (rest := []) (pc' := 104) D101_101 rfl ck_10_virtual_166 TE60 rfl (Nat.le_of_ble_eq_true rfl) ⟨Nat.le_of_ble_eq_true rfl, Nat.le_of_ble_eq_true rfl⟩ sc_1 ⟨rfl, by decide⟩ H3.1 (dp_0 hd rfl) (k60_1_13k E (dp_n hd rfl) H3 v1 (ktc (by omega)) (by omega) (by omega)) ?_
              intro v57 M58 q62
              obtain ⟨H59, f60, q61⟩ := q62
              have f63 := f7.tr (f60.up rfl)
              refine s_blx (lv' := [(5, vI v57), (4, vI v1), (0, vR 0), (1, vI a), (2, vI b), (3, vI c)]) (st' := [vR 0]) B101_104_107 rfl ?_
              refine r_gfix (r := 1) (pc' := 110) D101_107 rfl gf_10_10_0 H59.1 ?_
              refine s_blx (lv' := [(5, vI v57), (4, vI v1), (0, vR 0), (1, vI a), (2, vI b), (3, vI c)]) (st' := [vI c, vI b, vI a, vI v57, vR 1]) B101_110_115 rfl ?_
              refine r_vV (c := 1) (args := [vI v57, vI a, vI b, vI c]) (rest := []) (pc' := 118) D101_115 rfl ck_10_virtual_170 TE61 rfl (Nat.le_of_ble_eq_true rfl) ⟨Nat.le_of_ble_eq_true rfl, Nat.le_of_ble_eq_true rfl⟩ sc_1 ⟨rfl, by decide⟩ H59.1 (dp_0 hd rfl) (k61_1 E (dp_n hd rfl) H59 v57 a b c (by omega) (by omega) (by omega) (by omega)) ?_
              intro M65 q68
              obtain ⟨H66, f67⟩ := q68
              have f69 := f63.tr (f67.up rfl)
              refine s_blx (lv' := [(5, vI v57), (4, vI v1), (0, vR 0), (1, vI a), (2, vI b), (3, vI c)]) (st' := [vI v57, vR 0]) B101_118_121 rfl ?_
              refine r_vI (c := 0) (args := [vI v57]) (rest := []) (pc' := 124) D101_121 rfl ck_10_virtual_123 TE134 rfl (Nat.le_of_ble_eq_true rfl) ⟨Nat.le_of_ble_eq_true rfl, Nat.le_of_ble_eq_true rfl⟩ sc_0 ⟨rfl, by decide⟩ H66.1 (dp_0 hd rfl) (k134 E (dp_n hd rfl) H66 v57 (by omega)) ?_
              intro v70 M71 q75
              obtain ⟨H72, f73, q74⟩ := q75
              have f76 := f69.tr (f73.up rfl)
              exact r_iretI D101_124 rfl (⟨H72, f76, by omega⟩)
            · refine s_blx (lv' := [(4, vI v1), (0, vR 0), (1, vI a), (2, vI b), (3, vI c)]) (st' := [vI (-5), vR 0]) B101_84_87 rfl ?_
              refine r_vI (c := 0) (args := [vI (-5)]) (rest := []) (pc' := 90) D101_87 rfl ck_10_virtual_106 TE133 rfl (Nat.le_of_ble_eq_true rfl) ⟨Nat.le_of_ble_eq_true rfl, Nat.le_of_ble_eq_true rfl⟩ sc_0 ⟨rfl, by decide⟩ H3.1 (dp_0 hd rfl) (k133 E (dp_n hd rfl) H3 (-5) (by omega)) ?_
              intro v77 M78 q82
              obtain ⟨H79, f80, q81⟩ := q82
              have f83 := f7.tr (f80.up rfl)
              exact r_iretI D101_90 rfl (⟨H79, f83, by omega⟩)
          · refine s_blx (lv' := [(4, vI v1), (0, vR 0), (1, vI a), (2, vI b), (3, vI c)]) (st' := [vI (-4), vR 0]) B101_65_68 rfl ?_
            refine r_vI (c := 0) (args := [vI (-4)]) (rest := []) (pc' := 71) D101_68 rfl ck_10_virtual_106 TE133 rfl (Nat.le_of_ble_eq_true rfl) ⟨Nat.le_of_ble_eq_true rfl, Nat.le_of_ble_eq_true rfl⟩ sc_0 ⟨rfl, by decide⟩ H3.1 (dp_0 hd rfl) (k133 E (dp_n hd rfl) H3 (-4) (by omega)) ?_
            intro v84 M85 q89
            obtain ⟨H86, f87, q88⟩ := q89
            have f90 := f7.tr (f87.up rfl)
            exact r_iretI D101_71 rfl (⟨H86, f90, by omega⟩)
        · refine s_blx (lv' := [(4, vI v1), (0, vR 0), (1, vI a), (2, vI b), (3, vI c)]) (st' := [vI (-6), vR 0]) B101_42_45 rfl ?_
          refine r_vI (c := 0) (args := [vI (-6)]) (rest := []) (pc' := 48) D101_45 rfl ck_10_virtual_106 TE133 rfl (Nat.le_of_ble_eq_true rfl) ⟨Nat.le_of_ble_eq_true rfl, Nat.le_of_ble_eq_true rfl⟩ sc_0 ⟨rfl, by decide⟩ H3.1 (dp_0 hd rfl) (k133 E (dp_n hd rfl) H3 (-6) (by omega)) ?_
          intro v91 M92 q96
          obtain ⟨H93, f94, q95⟩ := q96
          have f97 := f7.tr (f94.up rfl)
          exact r_iretI D101_48 rfl (⟨H93, f97, by omega⟩)
      · refine s_blx (lv' := [(4, vI v1), (0, vR 0), (1, vI a), (2, vI b), (3, vI c)]) (st' := [vI (-1), vR 0]) B101_27_29 rfl ?_
        refine r_vI (c := 0) (args := [vI (-1)]) (rest := []) (pc' := 32) D101_29 rfl ck_10_virtual_106 TE133 rfl (Nat.le_of_ble_eq_true rfl) ⟨Nat.le_of_ble_eq_true rfl, Nat.le_of_ble_eq_true rfl⟩ sc_0 ⟨rfl, by decide⟩ H3.1 (dp_0 hd rfl) (k133 E (dp_n hd rfl) H3 (-1) (by omega)) ?_
        intro v98 M99 q103
        obtain ⟨H100, f101, q102⟩ := q103
        have f104 := f7.tr (f101.up rfl)
        exact r_iretI D101_32 rfl (⟨H100, f104, by omega⟩)
