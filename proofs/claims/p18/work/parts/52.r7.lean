/-! A set that isn't empty has a member. -/
theorem bt_ex {z : Int} (hz : inR z) (h : z ≠ 0) : ∃ k : Int, 0 ≤ k ∧ k ≤ 31 ∧ bt z k := by
  apply Classical.byContradiction
  intro hn
  apply h
  have e : (Int32.ofInt z).toBitVec = 0#32 := by
    apply BitVec.eq_of_getLsbD_eq
    intro i hi
    rw [BitVec.getLsbD_zero]
    cases hb : (Int32.ofInt z).toBitVec.getLsbD i with
    | false => rfl
    | true => exact absurd ⟨(i : Int), by omega, by omega, by unfold bt; rw [Int.toNat_natCast]; exact hb⟩ hn
  have e2 : Int32.ofInt z = 0 := by
    apply Int32.toBitVec.inj
    exact e
  have := congrArg Int32.toInt e2
  rw [s_i32 hz] at this
  exact this
noncomputable def T179 : mT := (11, yX11_odds, cX11_odds, 10, (some .int))
set_option maxRecDepth 10000 in
theorem TE179 : sy_m[179]? = some T179 := rfl
theorem B179_0_2 : s_dk T179.2.2.1 0 [.aload_n 0, .iload_n 1] 2 = true := by decide +kernel
theorem D179_2 : decode T179.2.2.1 2 = .ok (.invokevirtual 134, 3) := by decide +kernel
theorem D179_5 : decode T179.2.2.1 5 = .ok (.ifCond .eq 46, 3) := by decide +kernel
theorem B179_51_52 : s_dk T179.2.2.1 51 [.iconst (-1)] 52 = true := by decide +kernel
theorem D179_52 : decode T179.2.2.1 52 = .ok (.ireturn, 1) := by decide +kernel
theorem B179_8_12 : s_dk T179.2.2.1 8 [.iload_n 2, .iconst 0, .aload_n 0, .iload_n 1] 12 = true := by decide +kernel
theorem D179_12 : decode T179.2.2.1 12 = .ok (.invokevirtual 144, 3) := by decide +kernel
theorem D179_15 : decode T179.2.2.1 15 = .ok (.invokestatic 123, 3) := by decide +kernel
theorem D179_18 : decode T179.2.2.1 18 = .ok (.ifCond .eq 33, 3) := by decide +kernel
theorem B179_21_24 : s_dk T179.2.2.1 21 [.iload_n 3, .iconst 0, .iconst 2] 24 = true := by decide +kernel
theorem D179_24 : decode T179.2.2.1 24 = .ok (.invokestatic 123, 3) := by decide +kernel
theorem D179_27 : decode T179.2.2.1 27 = .ok (.ifCond .eq 24, 3) := by decide +kernel
theorem B179_30_35 : s_dk T179.2.2.1 30 [.iload 4, .iconst 0, .bipush 7] 35 = true := by decide +kernel
theorem D179_35 : decode T179.2.2.1 35 = .ok (.invokestatic 123, 3) := by decide +kernel
theorem D179_38 : decode T179.2.2.1 38 = .ok (.ifCond .eq 13, 3) := by decide +kernel
theorem B179_41_45 : s_dk T179.2.2.1 41 [.iload 5, .iconst 0, .iconst 1] 45 = true := by decide +kernel
theorem D179_45 : decode T179.2.2.1 45 = .ok (.invokestatic 123, 3) := by decide +kernel
theorem D179_48 : decode T179.2.2.1 48 = .ok (.ifCond .ne 5, 3) := by decide +kernel
theorem B179_53_57 : s_dk T179.2.2.1 53 [.aload_n 0, .iload_n 1, .iload_n 2, .iconst 0] 57 = true := by decide +kernel
theorem D179_57 : decode T179.2.2.1 57 = .ok (.invokevirtual 167, 3) := by decide +kernel
theorem B179_60_64 : s_dk T179.2.2.1 60 [.istore 6, .iload 6] 64 = true := by decide +kernel
theorem D179_64 : decode T179.2.2.1 64 = .ok (.ifCond .ne 5, 3) := by decide +kernel
theorem B179_69_75 : s_dk T179.2.2.1 69 [.aload_n 0, .iload 6, .iload_n 3, .iload 4] 75 = true := by decide +kernel
theorem D179_75 : decode T179.2.2.1 75 = .ok (.invokevirtual 177, 3) := by decide +kernel
theorem B179_78_83 : s_dk T179.2.2.1 78 [.istore 7, .aload_n 0, .iload 6] 83 = true := by decide +kernel
theorem D179_83 : decode T179.2.2.1 83 = .ok (.invokevirtual 181, 3) := by decide +kernel
theorem B179_86_92 : s_dk T179.2.2.1 86 [.istore 8, .iload 7, .iload 8] 92 = true := by decide +kernel
theorem D179_92 : decode T179.2.2.1 92 = .ok (.invokestatic 184, 3) := by decide +kernel
theorem ck_11_static_184 : m_call 11 (.invokestatic 184) = some (1, 178, 2) := by decide +kernel
theorem B179_95_99 : s_dk T179.2.2.1 95 [.istore 9, .iload 5] 99 = true := by decide +kernel
theorem D179_99 : decode T179.2.2.1 99 = .ok (.ifCond .ne 11, 3) := by decide +kernel
theorem B179_110_114 : s_dk T179.2.2.1 110 [.iload 8, .iload 9] 114 = true := by decide +kernel
theorem D179_114 : decode T179.2.2.1 114 = .ok (.idiv, 1) := by decide +kernel
theorem D179_115 : decode T179.2.2.1 115 = .ok (.ireturn, 1) := by decide +kernel
theorem B179_102_106 : s_dk T179.2.2.1 102 [.iload 7, .iload 9] 106 = true := by decide +kernel
theorem D179_106 : decode T179.2.2.1 106 = .ok (.idiv, 1) := by decide +kernel
theorem D179_107 : decode T179.2.2.1 107 = .ok (.goto 8, 3) := by decide +kernel
theorem B179_67_68 : s_dk T179.2.2.1 67 [.iconst (-1)] 68 = true := by decide +kernel
theorem D179_68 : decode T179.2.2.1 68 = .ok (.ireturn, 1) := by decide +kernel
set_option maxRecDepth 4000 in
theorem L_k171y {base : Nat} {X : Nat → Option mC} {G : Nat → Value} (E : EnvOK base X G) {d : Nat} (hd : 2 ≤ d) {M : mH} (H : HI base M) (like : Int) (n : Int) (over : Int) (h0 : (over = 0 ∨ over = 1)) (h1 : 0 ≤ like ∧ like ≤ 15) (h2 : 0 ≤ n ∧ n ≤ 8) : ∀ mz : Nat, (∀ (x4 x5 : Int), (RS n x4 M) → (∀ k : Int, 16 ≤ k → k ≤ 31 → ¬ bt x4 k) → (-2147483648 ≤ x4 ∧ x4 ≤ 2147483647) → ((-2147483648) ≤ x4) → (x4 ≤ 2147483647) → (0 ≤ x5) → (x5 ≤ 16) → (16 - x5) * 1 + 0 < (mz : Int) → sRn base X G d T171 6 [(0, vR 77), (1, vI like), (2, vI n), (3, vI over), (4, vI x4), (5, vI x5)] [] M (s_Q base (pI (fun v M' => M' = M ∧ (-2147483648 ≤ v ∧ v ≤ 2147483647) ∧ RS n v M ∧ (∀ k : Int, 16 ≤ k → k ≤ 31 → ¬ bt v k))))) := by
  intro mz
  induction mz with
  | zero => exact fun x4 x5 z0 z1 z2 z3 z4 z5 z6 z7 => by omega
  | succ mz ih =>
    intro x4 x5 i0 i1 i2 i3 i4 i5 i6 hmu
    refine s_blx (lv' := [(0, vR 77), (1, vI like), (2, vI n), (3, vI over), (4, vI x4), (5, vI x5)]) (st' := [vR 77, vI x5]) B171_6_9 rfl ?_
    refine r_gfix (r := 78) (pc' := 12) D171_9 rfl gf_11_13_77 H.1 ?_
    refine s_blx (lv' := [(0, vR 77), (1, vI like), (2, vI n), (3, vI over), (4, vI x4), (5, vI x5)]) (st' := [vI 469, vR 78, vI x5]) B171_12_15 rfl ?_
    refine r_iald (pc' := 16) D171_15 rfl sc_78 H.1 (by omega) ?_
    intro w1 e2 r3
    have b_w1 := H.2 78 (469) 0 16 (rk_many (by omega))
    rw [← e2] at b_w1; clear r3
    refine r_icmp (tgt := 68) (pc' := 19) D171_16 rfl rfl (by unfold inR; omega) (fun (c4 : w1 ≤ x5) => ?_) (fun (c4 : ¬ (w1 ≤ x5)) => ?_)
    · refine s_blx (lv' := [(0, vR 77), (1, vI like), (2, vI n), (3, vI over), (4, vI x4), (5, vI x5)]) (st' := [vI x4]) B171_68_70 rfl ?_
      exact r_iretI D171_70 rfl (⟨rfl, by omega, i0, i1⟩)
    · refine s_blx (lv' := [(0, vR 77), (1, vI like), (2, vI n), (3, vI over), (4, vI x4), (5, vI x5)]) (st' := [vI x5, vR 77]) B171_19_22 rfl ?_
      refine r_vIp (c := 77) (args := [vI x5]) (rest := []) (pc' := 25) D171_22 rfl ck_11_virtual_138 TE159 rfl (Nat.le_of_ble_eq_true rfl) ⟨Nat.le_of_ble_eq_true rfl, Nat.le_of_ble_eq_true rfl⟩ sc_77 ⟨rfl, by decide⟩ H.1 (dp_0 hd rfl) (k159x E (dp_n hd rfl) H x5 (by omega)) ?_
      intro v5 q9
      obtain ⟨q7, q8⟩ := q9
      refine r_ifc (tgt := 62) (pc' := 28) D171_25 rfl rfl (by unfold inR; omega) (fun (c10 : v5 ≤ 0) => ?_) (fun (c10 : ¬ (v5 ≤ 0)) => ?_)
      · refine s_blx (lv' := [(5, vI (x5 + 1)), (0, vR 77), (1, vI like), (2, vI n), (3, vI over), (4, vI x4)]) (st' := []) B171_62_65 rfl ?_
        refine r_goto (tgt := 6) D171_65 rfl ?_
        refine r_loc (lv' := [(0, vR 77), (1, vI like), (2, vI n), (3, vI over), (4, vI x4), (5, vI (x5 + 1))]) ⟨rfl, rfl, rfl, rfl, rfl, rfl, trivial⟩ rfl rfl ?_
        exact ih x4 (x5 + 1) (by first | exact i0 | exact fun k h1 h2 h3 => ((bt_or kq2).mp h3).elim (i0 k h1 h2) (fun h => by rw [(bt_shl kq1 (by omega) (by omega)).mp h]; exact ⟨by omega, by omega, by omega⟩)) (by first | exact i1 | exact fun k h1 h2 h3 => ((bt_or kq2).mp h3).elim (i1 k h1 h2) (fun h => by have kk := (bt_shl kq1 (by omega) (by omega)).mp h; omega)) (by omega) (by omega) (by omega) (by omega) (by omega) (by omega)
      · refine s_blx (lv' := [(0, vR 77), (1, vI like), (2, vI n), (3, vI over), (4, vI x4), (5, vI x5)]) (st' := [vI n, vI like, vI x5, vR 77]) B171_28_33 rfl ?_
        refine r_vIp (c := 77) (args := [vI x5, vI like, vI n]) (rest := []) (pc' := 36) D171_33 rfl ck_11_virtual_158 TE170 rfl (Nat.le_of_ble_eq_true rfl) ⟨Nat.le_of_ble_eq_true rfl, Nat.le_of_ble_eq_true rfl⟩ sc_77 ⟨rfl, by decide⟩ H.1 (dp_0 hd rfl) (k170x E (dp_n hd rfl) H x5 like n (by omega) (by omega) (by omega)) ?_
        intro v11 q16
        obtain ⟨q13, q14, q15⟩ := q16
        refine r_ifc (tgt := 62) (pc' := 39) D171_36 rfl rfl (by unfold inR; omega) (fun (c17 : v11 = 0) => ?_) (fun (c17 : ¬ (v11 = 0)) => ?_)
        · refine s_blx (lv' := [(5, vI (x5 + 1)), (0, vR 77), (1, vI like), (2, vI n), (3, vI over), (4, vI x4)]) (st' := []) B171_62_65 rfl ?_
          refine r_goto (tgt := 6) D171_65 rfl ?_
          refine r_loc (lv' := [(0, vR 77), (1, vI like), (2, vI n), (3, vI over), (4, vI x4), (5, vI (x5 + 1))]) ⟨rfl, rfl, rfl, rfl, rfl, rfl, trivial⟩ rfl rfl ?_
          exact ih x4 (x5 + 1) (by first | exact i0 | exact fun k h1 h2 h3 => ((bt_or kq2).mp h3).elim (i0 k h1 h2) (fun h => by rw [(bt_shl kq1 (by omega) (by omega)).mp h]; exact ⟨by omega, by omega, by omega⟩)) (by first | exact i1 | exact fun k h1 h2 h3 => ((bt_or kq2).mp h3).elim (i1 k h1 h2) (fun h => by have kk := (bt_shl kq1 (by omega) (by omega)).mp h; omega)) (by omega) (by omega) (by omega) (by omega) (by omega) (by omega)
        · refine s_blx (lv' := [(0, vR 77), (1, vI like), (2, vI n), (3, vI over), (4, vI x4), (5, vI x5)]) (st' := [vI over]) B171_39_40 rfl ?_
          refine r_ifc (tgt := 53) (pc' := 43) D171_40 rfl rfl (by unfold inR; omega) (fun (c18 : over = 0) => ?_) (fun (c18 : ¬ (over = 0)) => ?_)
          · refine s_blx (lv' := [(0, vR 77), (1, vI like), (2, vI n), (3, vI over), (4, vI x4), (5, vI x5)]) (st' := [vI x5, vI 1, vI x4]) B171_53_58 rfl ?_
            refine r_bin (pc' := 59) D171_58 rfl rfl ?_
            intro z19 r20 kq1; unfold inR at r20
            refine r_bin (pc' := 60) D171_59 rfl rfl ?_
            intro z21 r22 kq2; unfold inR at r22
            refine s_blx (lv' := [(5, vI (x5 + 1)), (4, vI z21), (0, vR 77), (1, vI like), (2, vI n), (3, vI over)]) (st' := []) B171_60_65 rfl ?_
            refine r_goto (tgt := 6) D171_65 rfl ?_
            refine r_loc (lv' := [(0, vR 77), (1, vI like), (2, vI n), (3, vI over), (4, vI z21), (5, vI (x5 + 1))]) ⟨rfl, rfl, rfl, rfl, rfl, rfl, trivial⟩ rfl rfl ?_
            exact ih z21 (x5 + 1) (by first | exact i0 | exact fun k h1 h2 h3 => ((bt_or kq2).mp h3).elim (i0 k h1 h2) (fun h => by rw [(bt_shl kq1 (by omega) (by omega)).mp h]; exact ⟨by omega, by omega, by omega⟩)) (by first | exact i1 | exact fun k h1 h2 h3 => ((bt_or kq2).mp h3).elim (i1 k h1 h2) (fun h => by have kk := (bt_shl kq1 (by omega) (by omega)).mp h; omega)) (by omega) (by omega) (by omega) (by omega) (by omega) (by omega)
          · refine s_blx (lv' := [(0, vR 77), (1, vI like), (2, vI n), (3, vI over), (4, vI x4), (5, vI x5)]) (st' := [vI x5, vR 77]) B171_43_46 rfl ?_
            refine r_vIp (c := 77) (args := [vI x5]) (rest := []) (pc' := 49) D171_46 rfl ck_11_virtual_144 TE156 rfl (Nat.le_of_ble_eq_true rfl) ⟨Nat.le_of_ble_eq_true rfl, Nat.le_of_ble_eq_true rfl⟩ sc_77 ⟨rfl, by decide⟩ H.1 (dp_0 hd rfl) (k156x E (dp_n hd rfl) H x5 (by omega)) ?_
            intro v23 q27
            obtain ⟨q25, q26⟩ := q27
            refine s_blx (lv' := [(0, vR 77), (1, vI like), (2, vI n), (3, vI over), (4, vI x4), (5, vI x5)]) (st' := [vI n, vI v23]) B171_49_50 rfl ?_
            refine r_icmp (tgt := 62) (pc' := 53) D171_50 rfl rfl (by unfold inR; omega) (fun (c28 : n < v23) => ?_) (fun (c28 : ¬ (n < v23)) => ?_)
            · refine s_blx (lv' := [(5, vI (x5 + 1)), (0, vR 77), (1, vI like), (2, vI n), (3, vI over), (4, vI x4)]) (st' := []) B171_62_65 rfl ?_
              refine r_goto (tgt := 6) D171_65 rfl ?_
              refine r_loc (lv' := [(0, vR 77), (1, vI like), (2, vI n), (3, vI over), (4, vI x4), (5, vI (x5 + 1))]) ⟨rfl, rfl, rfl, rfl, rfl, rfl, trivial⟩ rfl rfl ?_
              exact ih x4 (x5 + 1) (by first | exact i0 | exact fun k h1 h2 h3 => ((bt_or kq2).mp h3).elim (i0 k h1 h2) (fun h => by rw [(bt_shl kq1 (by omega) (by omega)).mp h]; exact ⟨by omega, by omega, by omega⟩)) (by first | exact i1 | exact fun k h1 h2 h3 => ((bt_or kq2).mp h3).elim (i1 k h1 h2) (fun h => by have kk := (bt_shl kq1 (by omega) (by omega)).mp h; omega)) (by omega) (by omega) (by omega) (by omega) (by omega) (by omega)
            · refine s_blx (lv' := [(0, vR 77), (1, vI like), (2, vI n), (3, vI over), (4, vI x4), (5, vI x5)]) (st' := [vI x5, vI 1, vI x4]) B171_53_58 rfl ?_
              refine r_bin (pc' := 59) D171_58 rfl rfl ?_
              intro z29 r30 kq1; unfold inR at r30
              refine r_bin (pc' := 60) D171_59 rfl rfl ?_
              intro z31 r32 kq2; unfold inR at r32
              refine s_blx (lv' := [(5, vI (x5 + 1)), (4, vI z31), (0, vR 77), (1, vI like), (2, vI n), (3, vI over)]) (st' := []) B171_60_65 rfl ?_
              refine r_goto (tgt := 6) D171_65 rfl ?_
              refine r_loc (lv' := [(0, vR 77), (1, vI like), (2, vI n), (3, vI over), (4, vI z31), (5, vI (x5 + 1))]) ⟨rfl, rfl, rfl, rfl, rfl, rfl, trivial⟩ rfl rfl ?_
              exact ih z31 (x5 + 1) (by first | exact i0 | exact fun k h1 h2 h3 => ((bt_or kq2).mp h3).elim (i0 k h1 h2) (fun h => by rw [(bt_shl kq1 (by omega) (by omega)).mp h]; exact ⟨by omega, by omega, by omega⟩)) (by first | exact i1 | exact fun k h1 h2 h3 => ((bt_or kq2).mp h3).elim (i1 k h1 h2) (fun h => by have kk := (bt_shl kq1 (by omega) (by omega)).mp h; omega)) (by omega) (by omega) (by omega) (by omega) (by omega) (by omega)
set_option maxRecDepth 4000 in
theorem k171y {base : Nat} {X : Nat → Option mC} {G : Nat → Value} (E : EnvOK base X G) {d : Nat} (hd : 2 ≤ d) {M : mH} (H : HI base M) (like : Int) (n : Int) (over : Int) (h0 : (over = 0 ∨ over = 1)) (h1 : 0 ≤ like ∧ like ≤ 15) (h2 : 0 ≤ n ∧ n ≤ 8) : sOk base X G d T171 [vR 77, vI like, vI n, vI over] M (pI (fun v M' => M' = M ∧ (-2147483648 ≤ v ∧ v ≤ 2147483647) ∧ RS n v M ∧ (∀ k : Int, 16 ≤ k → k ≤ 31 → ¬ bt v k))) := by
  refine sOk.of (show sRn base X G d T171 0 [(0, vR 77), (1, vI like), (2, vI n), (3, vI over)] [] M _ from ?_)
  refine s_blx (lv' := [(5, vI 0), (4, vI 0), (0, vR 77), (1, vI like), (2, vI n), (3, vI over)]) (st' := []) B171_0_6 rfl ?_
  refine r_loc (lv' := [(0, vR 77), (1, vI like), (2, vI n), (3, vI over), (4, vI 0), (5, vI 0)]) ⟨rfl, rfl, rfl, rfl, rfl, rfl, trivial⟩ rfl rfl ?_
  exact (L_k171y E hd H like n over h0 h1 h2 (((16 - 0) * 1 + 0 : Int) + 1).toNat) 0 0 (fun k _ _ h => absurd h (bt_0 k)) (fun k _ _ => bt_0 k) (by omega) (by omega) (by omega) (by omega) (by omega) (by omega)
set_option maxRecDepth 4000 in
theorem L_k173x {base : Nat} {X : Nat → Option mC} {G : Nat → Value} (E : EnvOK base X G) {d : Nat} (hd : 1 ≤ d) {M : mH} (H : HI base M) (set : Int) (n : Int) (h0 : -2147483648 ≤ set ∧ set ≤ 2147483647) (h1 : RS n set M) : ∀ mz : Nat, (∀ (x2 x3 : Int), (0 ≤ x2 ∧ x2 ≤ 100 * x3) → (∀ k : Int, 0 ≤ k → k < x3 → bt set k → 1 ≤ x2) → (0 ≤ x3 ∧ x3 ≤ 16) → (0 ≤ x2) → (x2 ≤ 1700) → (0 ≤ x3) → (x3 ≤ 16) → (16 - x3) * 1 + 0 < (mz : Int) → sRn base X G d T173 4 [(0, vR 77), (1, vI set), (2, vI x2), (3, vI x3)] [] M (s_Q base (pI (fun v M' => M' = M ∧ (0 ≤ v ∧ v ≤ 1600) ∧ ((∃ k : Int, 0 ≤ k ∧ k ≤ 15 ∧ bt set k) → 1 ≤ v))))) := by
  intro mz
  induction mz with
  | zero => exact fun x2 x3 z0 z1 z2 z3 z4 z5 z6 z7 => by omega
  | succ mz ih =>
    intro x2 x3 i0 i1 i2 i3 i4 i5 i6 hmu
    refine s_blx (lv' := [(0, vR 77), (1, vI set), (2, vI x2), (3, vI x3)]) (st' := [vR 77, vI x3]) B173_4_6 rfl ?_
    refine r_gfix (r := 78) (pc' := 9) D173_6 rfl gf_11_13_77 H.1 ?_
    refine s_blx (lv' := [(0, vR 77), (1, vI set), (2, vI x2), (3, vI x3)]) (st' := [vI 469, vR 78, vI x3]) B173_9_12 rfl ?_
    refine r_iald (pc' := 13) D173_12 rfl sc_78 H.1 (by omega) ?_
    intro w1 e2 r3
    have b_w1 := H.2 78 (469) 0 16 (rk_many (by omega))
    rw [← e2] at b_w1; clear r3
    refine r_icmp (tgt := 43) (pc' := 16) D173_13 rfl rfl (by unfold inR; omega) (fun (c4 : w1 ≤ x3) => ?_) (fun (c4 : ¬ (w1 ≤ x3)) => ?_)
    · refine s_blx (lv' := [(0, vR 77), (1, vI set), (2, vI x2), (3, vI x3)]) (st' := [vI x2]) B173_43_44 rfl ?_
      exact r_iretI D173_44 rfl (⟨rfl, by omega, fun ⟨k, a, b, c⟩ => i1 k a (by have kr := (h1 k a b c).1; omega) c⟩)
    · refine s_blx (lv' := [(0, vR 77), (1, vI set), (2, vI x2), (3, vI x3)]) (st' := [vI x3, vI set, vI x2]) B173_16_19 rfl ?_
      refine r_bin (pc' := 20) D173_19 rfl rfl ?_
      intro z5 r6 kq; unfold inR at r6
      refine s_blx (lv' := [(0, vR 77), (1, vI set), (2, vI x2), (3, vI x3)]) (st' := [vI 1, vI z5, vI x2]) B173_20_21 rfl ?_
      refine r_and1 (pc' := 22) D173_21 rfl ?_
      refine s_blx (lv' := [(0, vR 77), (1, vI set), (2, vI x2), (3, vI x3)]) (st' := [vI 1, vI (z5 % 2), vI x2]) B173_22_23 rfl ?_
      refine r_icmp (tgt := 34) (pc' := 26) D173_23 rfl rfl (by unfold inR; omega) (fun (c7 : (z5 % 2) ≠ 1) => ?_) (fun (c7 : ¬ ((z5 % 2) ≠ 1)) => ?_)
      · refine s_blx (lv' := [(3, vI (x3 + 1)), (2, vI (x2 + 0)), (0, vR 77), (1, vI set)]) (st' := []) B173_34_40 rfl ?_
        refine r_goto (tgt := 4) D173_40 rfl ?_
        refine r_loc (lv' := [(0, vR 77), (1, vI set), (2, vI (x2 + 0)), (3, vI (x3 + 1))]) ⟨rfl, rfl, rfl, rfl, trivial⟩ rfl rfl ?_
        exact ih (x2 + 0) (x3 + 1) (by omega) (fun k h1q h2q h3q => if e : k = x3 then (by rw [e] at h3q; have kb := (bt_test kq (by omega)).mpr h3q; have kr := h1 x3 (by omega) (by omega) h3q; omega) else (by have ka := i1 k h1q (by omega) h3q; omega)) (by omega) (by omega) (by omega) (by omega) (by omega) (by omega)
      · refine s_blx (lv' := [(0, vR 77), (1, vI set), (2, vI x2), (3, vI x3)]) (st' := [vI x3, vR 77, vI x2]) B173_26_28 rfl ?_
        refine r_vIp (c := 77) (args := [vI x3]) (rest := [vI x2]) (pc' := 31) D173_28 rfl ck_11_virtual_138 TE159 rfl (Nat.le_of_ble_eq_true rfl) ⟨Nat.le_of_ble_eq_true rfl, Nat.le_of_ble_eq_true rfl⟩ sc_77 ⟨rfl, by decide⟩ H.1 (dp_0 hd rfl) (k159x E (dp_n hd rfl) H x3 (by omega)) ?_
        intro v8 q12
        obtain ⟨q10, q11⟩ := q12
        refine r_goto (tgt := 35) D173_31 rfl ?_
        refine s_blx (lv' := [(3, vI (x3 + 1)), (2, vI (x2 + v8)), (0, vR 77), (1, vI set)]) (st' := []) B173_35_40 rfl ?_
        refine r_goto (tgt := 4) D173_40 rfl ?_
        refine r_loc (lv' := [(0, vR 77), (1, vI set), (2, vI (x2 + v8)), (3, vI (x3 + 1))]) ⟨rfl, rfl, rfl, rfl, trivial⟩ rfl rfl ?_
        exact ih (x2 + v8) (x3 + 1) (by omega) (fun k h1q h2q h3q => if e : k = x3 then (by rw [e] at h3q; have kb := (bt_test kq (by omega)).mpr h3q; have kr := h1 x3 (by omega) (by omega) h3q; omega) else (by have ka := i1 k h1q (by omega) h3q; omega)) (by omega) (by omega) (by omega) (by omega) (by omega) (by omega)
set_option maxRecDepth 4000 in
theorem k173x {base : Nat} {X : Nat → Option mC} {G : Nat → Value} (E : EnvOK base X G) {d : Nat} (hd : 1 ≤ d) {M : mH} (H : HI base M) (set : Int) (n : Int) (h0 : -2147483648 ≤ set ∧ set ≤ 2147483647) (h1 : RS n set M) : sOk base X G d T173 [vR 77, vI set] M (pI (fun v M' => M' = M ∧ (0 ≤ v ∧ v ≤ 1600) ∧ ((∃ k : Int, 0 ≤ k ∧ k ≤ 15 ∧ bt set k) → 1 ≤ v))) := by
  refine sOk.of (show sRn base X G d T173 0 [(0, vR 77), (1, vI set)] [] M _ from ?_)
  refine s_blx (lv' := [(3, vI 0), (2, vI 0), (0, vR 77), (1, vI set)]) (st' := []) B173_0_4 rfl ?_
  refine r_loc (lv' := [(0, vR 77), (1, vI set), (2, vI 0), (3, vI 0)]) ⟨rfl, rfl, rfl, rfl, trivial⟩ rfl rfl ?_
  exact (L_k173x E hd H set n h0 h1 (((16 - 0) * 1 + 0 : Int) + 1).toNat) 0 0 (by omega) (fun k h1 h2 _ => by omega) (by omega) (by omega) (by omega) (by omega) (by omega) (by omega)
set_option maxRecDepth 4000 in
theorem L_k174x {base : Nat} {X : Nat → Option mC} {G : Nat → Value} (E : EnvOK base X G) {d : Nat} (hd : 1 ≤ d) {M : mH} (H : HI base M) (set : Int) (slot : Int) (value : Int) (h0 : -2147483648 ≤ set ∧ set ≤ 2147483647) (h1 : 0 ≤ slot ∧ slot ≤ 2) (h2 : -2147483648 ≤ value ∧ value ≤ 2147483647) : ∀ mz : Nat, (∀ (x4 x5 : Int), (0 ≤ x4 ∧ x4 ≤ 100 * x5) → (0 ≤ x5 ∧ x5 ≤ 16) → (0 ≤ x4) → (x4 ≤ 1700) → (0 ≤ x5) → (x5 ≤ 16) → (16 - x5) * 1 + 0 < (mz : Int) → sRn base X G d T174 6 [(0, vR 77), (1, vI set), (2, vI slot), (3, vI value), (4, vI x4), (5, vI x5)] [] M (s_Q base (pI (fun v M' => M' = M ∧ (0 ≤ v ∧ v ≤ 1600))))) := by
  intro mz
  induction mz with
  | zero => exact fun x4 x5 z0 z1 z2 z3 z4 z5 z6 => by omega
  | succ mz ih =>
    intro x4 x5 i0 i1 i2 i3 i4 i5 hmu
    refine s_blx (lv' := [(0, vR 77), (1, vI set), (2, vI slot), (3, vI value), (4, vI x4), (5, vI x5)]) (st' := [vR 77, vI x5]) B174_6_9 rfl ?_
    refine r_gfix (r := 78) (pc' := 12) D174_9 rfl gf_11_13_77 H.1 ?_
    refine s_blx (lv' := [(0, vR 77), (1, vI set), (2, vI slot), (3, vI value), (4, vI x4), (5, vI x5)]) (st' := [vI 469, vR 78, vI x5]) B174_12_15 rfl ?_
    refine r_iald (pc' := 16) D174_15 rfl sc_78 H.1 (by omega) ?_
    intro w1 e2 r3
    have b_w1 := H.2 78 (469) 0 16 (rk_many (by omega))
    rw [← e2] at b_w1; clear r3
    refine r_icmp (tgt := 61) (pc' := 19) D174_16 rfl rfl (by unfold inR; omega) (fun (c4 : w1 ≤ x5) => ?_) (fun (c4 : ¬ (w1 ≤ x5)) => ?_)
    · refine s_blx (lv' := [(0, vR 77), (1, vI set), (2, vI slot), (3, vI value), (4, vI x4), (5, vI x5)]) (st' := [vI x4]) B174_61_63 rfl ?_
      exact r_iretI D174_63 rfl (⟨rfl, by omega⟩)
    · refine s_blx (lv' := [(0, vR 77), (1, vI set), (2, vI slot), (3, vI value), (4, vI x4), (5, vI x5)]) (st' := [vI x5, vI set, vI x4]) B174_19_24 rfl ?_
      refine r_bin (pc' := 25) D174_24 rfl rfl ?_
      intro z5 r6 _; unfold inR at r6
      refine s_blx (lv' := [(0, vR 77), (1, vI set), (2, vI slot), (3, vI value), (4, vI x4), (5, vI x5)]) (st' := [vI 1, vI z5, vI x4]) B174_25_26 rfl ?_
      refine r_and1 (pc' := 27) D174_26 rfl ?_
      refine s_blx (lv' := [(0, vR 77), (1, vI set), (2, vI slot), (3, vI value), (4, vI x4), (5, vI x5)]) (st' := [vI 1, vI (z5 % 2), vI x4]) B174_27_28 rfl ?_
      refine r_icmp (tgt := 51) (pc' := 31) D174_28 rfl rfl (by unfold inR; omega) (fun (c7 : (z5 % 2) ≠ 1) => ?_) (fun (c7 : ¬ ((z5 % 2) ≠ 1)) => ?_)
      · refine s_blx (lv' := [(5, vI (x5 + 1)), (4, vI (x4 + 0)), (0, vR 77), (1, vI set), (2, vI slot), (3, vI value)]) (st' := []) B174_51_58 rfl ?_
        refine r_goto (tgt := 6) D174_58 rfl ?_
        refine r_loc (lv' := [(0, vR 77), (1, vI set), (2, vI slot), (3, vI value), (4, vI (x4 + 0)), (5, vI (x5 + 1))]) ⟨rfl, rfl, rfl, rfl, rfl, rfl, trivial⟩ rfl rfl ?_
        exact ih (x4 + 0) (x5 + 1) (by omega) (by omega) (by omega) (by omega) (by omega) (by omega) (by omega)
      · refine s_blx (lv' := [(0, vR 77), (1, vI set), (2, vI slot), (3, vI value), (4, vI x4), (5, vI x5)]) (st' := [vI slot, vI x5, vR 77, vI x4]) B174_31_35 rfl ?_
        refine r_vIp (c := 77) (args := [vI x5, vI slot]) (rest := [vI x4]) (pc' := 38) D174_35 rfl ck_11_virtual_161 TE158 rfl (Nat.le_of_ble_eq_true rfl) ⟨Nat.le_of_ble_eq_true rfl, Nat.le_of_ble_eq_true rfl⟩ sc_77 ⟨rfl, by decide⟩ H.1 (dp_0 hd rfl) (k158 E (dp_n hd rfl) H x5 slot (by omega) (by omega)) ?_
        intro v8 q11
        have q10 := q11; clear q11
        refine s_blx (lv' := [(0, vR 77), (1, vI set), (2, vI slot), (3, vI value), (4, vI x4), (5, vI x5)]) (st' := [vI value, vI v8, vI x4]) B174_38_39 rfl ?_
        refine r_icmp (tgt := 51) (pc' := 42) D174_39 rfl rfl (by unfold inR; omega) (fun (c12 : v8 ≠ value) => ?_) (fun (c12 : ¬ (v8 ≠ value)) => ?_)
        · refine s_blx (lv' := [(5, vI (x5 + 1)), (4, vI (x4 + 0)), (0, vR 77), (1, vI set), (2, vI slot), (3, vI value)]) (st' := []) B174_51_58 rfl ?_
          refine r_goto (tgt := 6) D174_58 rfl ?_
          refine r_loc (lv' := [(0, vR 77), (1, vI set), (2, vI slot), (3, vI value), (4, vI (x4 + 0)), (5, vI (x5 + 1))]) ⟨rfl, rfl, rfl, rfl, rfl, rfl, trivial⟩ rfl rfl ?_
          exact ih (x4 + 0) (x5 + 1) (by omega) (by omega) (by omega) (by omega) (by omega) (by omega) (by omega)
        · refine s_blx (lv' := [(0, vR 77), (1, vI set), (2, vI slot), (3, vI value), (4, vI x4), (5, vI x5)]) (st' := [vI x5, vR 77, vI x4]) B174_42_45 rfl ?_
          refine r_vIp (c := 77) (args := [vI x5]) (rest := [vI x4]) (pc' := 48) D174_45 rfl ck_11_virtual_138 TE159 rfl (Nat.le_of_ble_eq_true rfl) ⟨Nat.le_of_ble_eq_true rfl, Nat.le_of_ble_eq_true rfl⟩ sc_77 ⟨rfl, by decide⟩ H.1 (dp_0 hd rfl) (k159x E (dp_n hd rfl) H x5 (by omega)) ?_
          intro v13 q17
          obtain ⟨q15, q16⟩ := q17
          refine r_goto (tgt := 52) D174_48 rfl ?_
          refine s_blx (lv' := [(5, vI (x5 + 1)), (4, vI (x4 + v13)), (0, vR 77), (1, vI set), (2, vI slot), (3, vI value)]) (st' := []) B174_52_58 rfl ?_
          refine r_goto (tgt := 6) D174_58 rfl ?_
          refine r_loc (lv' := [(0, vR 77), (1, vI set), (2, vI slot), (3, vI value), (4, vI (x4 + v13)), (5, vI (x5 + 1))]) ⟨rfl, rfl, rfl, rfl, rfl, rfl, trivial⟩ rfl rfl ?_
          exact ih (x4 + v13) (x5 + 1) (by omega) (by omega) (by omega) (by omega) (by omega) (by omega) (by omega)
set_option maxRecDepth 4000 in
theorem k174x {base : Nat} {X : Nat → Option mC} {G : Nat → Value} (E : EnvOK base X G) {d : Nat} (hd : 1 ≤ d) {M : mH} (H : HI base M) (set : Int) (slot : Int) (value : Int) (h0 : -2147483648 ≤ set ∧ set ≤ 2147483647) (h1 : 0 ≤ slot ∧ slot ≤ 2) (h2 : -2147483648 ≤ value ∧ value ≤ 2147483647) : sOk base X G d T174 [vR 77, vI set, vI slot, vI value] M (pI (fun v M' => M' = M ∧ (0 ≤ v ∧ v ≤ 1600))) := by
  refine sOk.of (show sRn base X G d T174 0 [(0, vR 77), (1, vI set), (2, vI slot), (3, vI value)] [] M _ from ?_)
  refine s_blx (lv' := [(5, vI 0), (4, vI 0), (0, vR 77), (1, vI set), (2, vI slot), (3, vI value)]) (st' := []) B174_0_6 rfl ?_
  refine r_loc (lv' := [(0, vR 77), (1, vI set), (2, vI slot), (3, vI value), (4, vI 0), (5, vI 0)]) ⟨rfl, rfl, rfl, rfl, rfl, rfl, trivial⟩ rfl rfl ?_
  exact (L_k174x E hd H set slot value h0 h1 h2 (((16 - 0) * 1 + 0 : Int) + 1).toNat) 0 0 (by omega) (by omega) (by omega) (by omega) (by omega) (by omega) (by omega)
set_option maxRecDepth 4000 in
theorem k179x {base : Nat} {X : Nat → Option mC} {G : Nat → Value} (E : EnvOK base X G) {d : Nat} (hd : 3 ≤ d) {M : mH} (H : HI base M) (s : Int) (n : Int) (slot : Int) (value : Int) (which : Int) (h0 : -2147483648 ≤ s ∧ s ≤ 2147483647) (h1 : -2147483648 ≤ n ∧ n ≤ 2147483647) (h2 : -2147483648 ≤ slot ∧ slot ≤ 2147483647) (h3 : -2147483648 ≤ value ∧ value ≤ 2147483647) (h4 : -2147483648 ≤ which ∧ which ≤ 2147483647) : sOk base X G d T179 [vR 77, vI s, vI n, vI slot, vI value, vI which] M (pI (fun v M' => M' = M ∧ True)) := by
  refine sOk.of (show sRn base X G d T179 0 [(0, vR 77), (1, vI s), (2, vI n), (3, vI slot), (4, vI value), (5, vI which)] [] M _ from ?_)
  refine s_blx (lv' := [(0, vR 77), (1, vI s), (2, vI n), (3, vI slot), (4, vI value), (5, vI which)]) (st' := [vI s, vR 77]) B179_0_2 rfl ?_
  refine r_vIp (c := 77) (args := [vI s]) (rest := []) (pc' := 5) D179_2 rfl ck_11_virtual_134 TE154 rfl (Nat.le_of_ble_eq_true rfl) ⟨Nat.le_of_ble_eq_true rfl, Nat.le_of_ble_eq_true rfl⟩ sc_77 ⟨rfl, by decide⟩ H.1 (dp_0 hd rfl) (k154 E (dp_n hd rfl) H s (by omega)) ?_
  intro v1 q5
  obtain ⟨q3, q4⟩ := q5
  refine r_ifc (tgt := 51) (pc' := 8) D179_5 rfl rfl (by unfold inR; omega) (fun (c6 : v1 = 0) => ?_) (fun (c6 : ¬ (v1 = 0)) => ?_)
  · refine s_blx (lv' := [(0, vR 77), (1, vI s), (2, vI n), (3, vI slot), (4, vI value), (5, vI which)]) (st' := [vI (-1)]) B179_51_52 rfl ?_
    exact r_iretI D179_52 rfl (⟨rfl, trivial⟩)
  · refine s_blx (lv' := [(0, vR 77), (1, vI s), (2, vI n), (3, vI slot), (4, vI value), (5, vI which)]) (st' := [vI s, vR 77, vI 0, vI n]) B179_8_12 rfl ?_
    refine r_vIp (c := 77) (args := [vI s]) (rest := [vI 0, vI n]) (pc' := 15) D179_12 rfl ck_11_virtual_144 TE156 rfl (Nat.le_of_ble_eq_true rfl) ⟨Nat.le_of_ble_eq_true rfl, Nat.le_of_ble_eq_true rfl⟩ sc_77 ⟨rfl, by decide⟩ H.1 (dp_0 hd rfl) (k156x E (dp_n hd rfl) H s (by omega)) ?_
    intro v7 q11
    obtain ⟨q9, q10⟩ := q11
    refine r_sIp (args := [vI n, vI 0, vI v7]) (rest := []) (pc' := 18) D179_15 rfl ck_11_static_123 TE147 rfl (Nat.le_of_ble_eq_true rfl) ⟨Nat.le_of_ble_eq_true rfl, Nat.le_of_ble_eq_true rfl⟩ (by decide) (dp_0 hd rfl) (k147 E (dp_n hd rfl) H n 0 v7 (by omega) (by omega) (by omega)) ?_
    intro v12 q17
    obtain ⟨q14, q15, q16⟩ := q17
    refine r_ifc (tgt := 51) (pc' := 21) D179_18 rfl rfl (by unfold inR; omega) (fun (c18 : v12 = 0) => ?_) (fun (c18 : ¬ (v12 = 0)) => ?_)
    · refine s_blx (lv' := [(0, vR 77), (1, vI s), (2, vI n), (3, vI slot), (4, vI value), (5, vI which)]) (st' := [vI (-1)]) B179_51_52 rfl ?_
      exact r_iretI D179_52 rfl (⟨rfl, trivial⟩)
    · refine s_blx (lv' := [(0, vR 77), (1, vI s), (2, vI n), (3, vI slot), (4, vI value), (5, vI which)]) (st' := [vI 2, vI 0, vI slot]) B179_21_24 rfl ?_
      refine r_sIp (args := [vI slot, vI 0, vI 2]) (rest := []) (pc' := 27) D179_24 rfl ck_11_static_123 TE147 rfl (Nat.le_of_ble_eq_true rfl) ⟨Nat.le_of_ble_eq_true rfl, Nat.le_of_ble_eq_true rfl⟩ (by decide) (dp_0 hd rfl) (k147 E (dp_n hd rfl) H slot 0 2 (by omega) (by omega) (by omega)) ?_
      intro v19 q24
      obtain ⟨q21, q22, q23⟩ := q24
      refine r_ifc (tgt := 51) (pc' := 30) D179_27 rfl rfl (by unfold inR; omega) (fun (c25 : v19 = 0) => ?_) (fun (c25 : ¬ (v19 = 0)) => ?_)
      · refine s_blx (lv' := [(0, vR 77), (1, vI s), (2, vI n), (3, vI slot), (4, vI value), (5, vI which)]) (st' := [vI (-1)]) B179_51_52 rfl ?_
        exact r_iretI D179_52 rfl (⟨rfl, trivial⟩)
      · refine s_blx (lv' := [(0, vR 77), (1, vI s), (2, vI n), (3, vI slot), (4, vI value), (5, vI which)]) (st' := [vI 7, vI 0, vI value]) B179_30_35 rfl ?_
        refine r_sIp (args := [vI value, vI 0, vI 7]) (rest := []) (pc' := 38) D179_35 rfl ck_11_static_123 TE147 rfl (Nat.le_of_ble_eq_true rfl) ⟨Nat.le_of_ble_eq_true rfl, Nat.le_of_ble_eq_true rfl⟩ (by decide) (dp_0 hd rfl) (k147 E (dp_n hd rfl) H value 0 7 (by omega) (by omega) (by omega)) ?_
        intro v26 q31
        obtain ⟨q28, q29, q30⟩ := q31
        refine r_ifc (tgt := 51) (pc' := 41) D179_38 rfl rfl (by unfold inR; omega) (fun (c32 : v26 = 0) => ?_) (fun (c32 : ¬ (v26 = 0)) => ?_)
        · refine s_blx (lv' := [(0, vR 77), (1, vI s), (2, vI n), (3, vI slot), (4, vI value), (5, vI which)]) (st' := [vI (-1)]) B179_51_52 rfl ?_
          exact r_iretI D179_52 rfl (⟨rfl, trivial⟩)
        · refine s_blx (lv' := [(0, vR 77), (1, vI s), (2, vI n), (3, vI slot), (4, vI value), (5, vI which)]) (st' := [vI 1, vI 0, vI which]) B179_41_45 rfl ?_
          refine r_sIp (args := [vI which, vI 0, vI 1]) (rest := []) (pc' := 48) D179_45 rfl ck_11_static_123 TE147 rfl (Nat.le_of_ble_eq_true rfl) ⟨Nat.le_of_ble_eq_true rfl, Nat.le_of_ble_eq_true rfl⟩ (by decide) (dp_0 hd rfl) (k147 E (dp_n hd rfl) H which 0 1 (by omega) (by omega) (by omega)) ?_
          intro v33 q38
          obtain ⟨q35, q36, q37⟩ := q38
          refine r_ifc (tgt := 53) (pc' := 51) D179_48 rfl rfl (by unfold inR; omega) (fun (c39 : v33 ≠ 0) => ?_) (fun (c39 : ¬ (v33 ≠ 0)) => ?_)
          · refine s_blx (lv' := [(0, vR 77), (1, vI s), (2, vI n), (3, vI slot), (4, vI value), (5, vI which)]) (st' := [vI 0, vI n, vI s, vR 77]) B179_53_57 rfl ?_
            refine r_vIp (c := 77) (args := [vI s, vI n, vI 0]) (rest := []) (pc' := 60) D179_57 rfl ck_11_virtual_167 TE171 rfl (Nat.le_of_ble_eq_true rfl) ⟨Nat.le_of_ble_eq_true rfl, Nat.le_of_ble_eq_true rfl⟩ sc_77 ⟨rfl, by decide⟩ H.1 (dp_0 hd rfl) (k171y E (dp_n hd rfl) H s n 0 (by omega) (by omega) (by omega)) ?_
            intro v40 q45
            obtain ⟨q42, q43, q44⟩ := q45
            have krs := q43; clear q43
            have knb := q44; clear q44
            refine s_blx (lv' := [(6, vI v40), (0, vR 77), (1, vI s), (2, vI n), (3, vI slot), (4, vI value), (5, vI which)]) (st' := [vI v40]) B179_60_64 rfl ?_
            refine r_ifc (tgt := 69) (pc' := 67) D179_64 rfl rfl (by unfold inR; omega) (fun (c46 : v40 ≠ 0) => ?_) (fun (c46 : ¬ (v40 ≠ 0)) => ?_)
            · refine s_blx (lv' := [(6, vI v40), (0, vR 77), (1, vI s), (2, vI n), (3, vI slot), (4, vI value), (5, vI which)]) (st' := [vI value, vI slot, vI v40, vR 77]) B179_69_75 rfl ?_
              refine r_vIp (c := 77) (args := [vI v40, vI slot, vI value]) (rest := []) (pc' := 78) D179_75 rfl ck_11_virtual_177 TE174 rfl (Nat.le_of_ble_eq_true rfl) ⟨Nat.le_of_ble_eq_true rfl, Nat.le_of_ble_eq_true rfl⟩ sc_77 ⟨rfl, by decide⟩ H.1 (dp_0 hd rfl) (k174x E (dp_n hd rfl) H v40 slot value (by omega) (by omega) (by omega)) ?_
              intro v47 q50
              have q49 := q50; clear q50
              refine s_blx (lv' := [(7, vI v47), (6, vI v40), (0, vR 77), (1, vI s), (2, vI n), (3, vI slot), (4, vI value), (5, vI which)]) (st' := [vI v40, vR 77]) B179_78_83 rfl ?_
              refine r_vIp (c := 77) (args := [vI v40]) (rest := []) (pc' := 86) D179_83 rfl ck_11_virtual_181 TE173 rfl (Nat.le_of_ble_eq_true rfl) ⟨Nat.le_of_ble_eq_true rfl, Nat.le_of_ble_eq_true rfl⟩ sc_77 ⟨rfl, by decide⟩ H.1 (dp_0 hd rfl) (k173x E (dp_n hd rfl) H v40 n (by omega) (krs)) ?_
              intro v51 q55
              obtain ⟨q53, q54⟩ := q55
              have kl := q54 (by obtain ⟨k, ka, kb, kc⟩ := bt_ex (z := v40) (by unfold inR; omega) (by omega); exact ⟨k, ka, Classical.byContradiction (fun h => knb k (by omega) kb kc) , kc⟩)
              refine s_blx (lv' := [(8, vI v51), (7, vI v47), (6, vI v40), (0, vR 77), (1, vI s), (2, vI n), (3, vI slot), (4, vI value), (5, vI which)]) (st' := [vI v51, vI v47]) B179_86_92 rfl ?_
              refine r_sIp (args := [vI v47, vI v51]) (rest := []) (pc' := 95) D179_92 rfl ck_11_static_184 TE178 rfl (Nat.le_of_ble_eq_true rfl) ⟨Nat.le_of_ble_eq_true rfl, Nat.le_of_ble_eq_true rfl⟩ (by decide) (dp_0 hd rfl) (k178 E (dp_n hd rfl) H v47 v51 (by omega) (by omega) (by omega)) ?_
              intro v56 q59
              have q58 := q59; clear q59
              refine s_blx (lv' := [(9, vI v56), (8, vI v51), (7, vI v47), (6, vI v40), (0, vR 77), (1, vI s), (2, vI n), (3, vI slot), (4, vI value), (5, vI which)]) (st' := [vI which]) B179_95_99 rfl ?_
              refine r_ifc (tgt := 110) (pc' := 102) D179_99 rfl rfl (by unfold inR; omega) (fun (c60 : which ≠ 0) => ?_) (fun (c60 : ¬ (which ≠ 0)) => ?_)
              · refine s_blx (lv' := [(9, vI v56), (8, vI v51), (7, vI v47), (6, vI v40), (0, vR 77), (1, vI s), (2, vI n), (3, vI slot), (4, vI value), (5, vI which)]) (st' := [vI v56, vI v51]) B179_110_114 rfl ?_
                refine r_idiv (pc' := 115) D179_114 rfl (by omega) ?_
                have r63 := Int.ediv_nonneg (show 0 ≤ v51 by omega) (show 0 ≤ v56 by omega)
                have r64 := Int.ediv_le_self (v56) (show 0 ≤ v51 by omega)
                generalize v51 / v56 = z61 at *
                exact r_iretI D179_115 rfl (⟨rfl, trivial⟩)
              · refine s_blx (lv' := [(9, vI v56), (8, vI v51), (7, vI v47), (6, vI v40), (0, vR 77), (1, vI s), (2, vI n), (3, vI slot), (4, vI value), (5, vI which)]) (st' := [vI v56, vI v47]) B179_102_106 rfl ?_
                refine r_idiv (pc' := 107) D179_106 rfl (by omega) ?_
                have r67 := Int.ediv_nonneg (show 0 ≤ v47 by omega) (show 0 ≤ v56 by omega)
                have r68 := Int.ediv_le_self (v56) (show 0 ≤ v47 by omega)
                generalize v47 / v56 = z65 at *
                refine r_goto (tgt := 115) D179_107 rfl ?_
                exact r_iretI D179_115 rfl (⟨rfl, trivial⟩)
            · refine s_blx (lv' := [(6, vI v40), (0, vR 77), (1, vI s), (2, vI n), (3, vI slot), (4, vI value), (5, vI which)]) (st' := [vI (-1)]) B179_67_68 rfl ?_
              exact r_iretI D179_68 rfl (⟨rfl, trivial⟩)
          · refine s_blx (lv' := [(0, vR 77), (1, vI s), (2, vI n), (3, vI slot), (4, vI value), (5, vI which)]) (st' := [vI (-1)]) B179_51_52 rfl ?_
            exact r_iretI D179_52 rfl (⟨rfl, trivial⟩)
