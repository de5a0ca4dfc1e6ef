
set_option maxRecDepth 4000 in
theorem k67_1x {base : Nat} {X : Nat → Option mC} {G : Nat → Value} (E : EnvOK base X G) {d : Nat} (hd : 0 ≤ d) {M : mH} (H : HI base M) (sentence : Int) (h0 : -2147483648 ≤ sentence ∧ sentence ≤ 2147483647) : sOk base X G d T67 [vR 1, vI sentence] M (pI (fun v M' => M' = M ∧ (v = 0 ∨ v = 1) ∧ (v = 1 → 0 ≤ sentence ∧ sentence ≤ 15) ∧ (v = 1 → SPK sentence M) ∧ (v = 0 → ¬ SPK sentence M))) := by
  refine sOk.of (show sRn base X G d T67 0 [(0, vR 1), (1, vI sentence)] [] M _ from ?_)
  refine s_blx (lv' := [(0, vR 1), (1, vI sentence)]) (st' := [vI sentence]) B67_0_1 rfl ?_
  refine r_ifc (tgt := 32) (pc' := 4) D67_1 rfl rfl (by unfold inR; omega) (fun (c1 : sentence < 0) => ?_) (fun (c1 : ¬ (sentence < 0)) => ?_)
  · refine s_blx (lv' := [(0, vR 1), (1, vI sentence)]) (st' := [vI 0]) B67_32_33 rfl ?_
    exact r_zretI D67_33 rfl (by omega) (⟨rfl, by omega, by omega, by subst_vars; unfold SPK; omega, by subst_vars; unfold SPK; omega⟩)
  · refine s_blx (lv' := [(0, vR 1), (1, vI sentence)]) (st' := [vR 1, vI sentence]) B67_4_6 rfl ?_
    refine r_gint (ki := 10) (pc' := 9) D67_6 rfl gf_8_43_1 rfl H.1 ?_
    intro w2 e3 r4
    have b_w2 := H.2 1 (10) 0 16 rfl
    rw [← e3] at b_w2; clear r4
    refine r_icmp (tgt := 32) (pc' := 12) D67_9 rfl rfl (by unfold inR; omega) (fun (c5 : w2 ≤ sentence) => ?_) (fun (c5 : ¬ (w2 ≤ sentence)) => ?_)
    · refine s_blx (lv' := [(0, vR 1), (1, vI sentence)]) (st' := [vI 0]) B67_32_33 rfl ?_
      exact r_zretI D67_33 rfl (by omega) (⟨rfl, by omega, by omega, by subst_vars; unfold SPK; omega, by subst_vars; unfold SPK; omega⟩)
    · refine s_blx (lv' := [(0, vR 1), (1, vI sentence)]) (st' := [vR 1]) B67_12_13 rfl ?_
      refine r_gfix (r := 8) (pc' := 16) D67_13 rfl gf_8_40_1 H.1 ?_
      refine s_blx (lv' := [(0, vR 1), (1, vI sentence)]) (st' := [vR 1, vI (sentence * 4), vR 8]) B67_16_20 rfl ?_
      refine r_gint (ki := 5) (pc' := 23) D67_20 rfl gf_8_28_1 rfl H.1 ?_
      intro w6 e7 r8
      have b_w6 := H.2 1 (5) 0 3 rfl
      rw [← e7] at b_w6; clear r8
      refine s_blx (lv' := [(0, vR 1), (1, vI sentence)]) (st' := [vI ((sentence * 4) + w6), vR 8]) B67_23_24 rfl ?_
      refine r_iald (pc' := 25) D67_24 rfl sc_8 H.1 (by omega) ?_
      intro w9 e10 r11
      have b_w9 := H.2 8 ((sentence * 4) + w6) 0 100 rfl
      rw [← e10] at b_w9; clear r11
      refine r_ifc (tgt := 32) (pc' := 28) D67_25 rfl rfl (by unfold inR; omega) (fun (c12 : w9 ≤ 0) => ?_) (fun (c12 : ¬ (w9 ≤ 0)) => ?_)
      · refine s_blx (lv' := [(0, vR 1), (1, vI sentence)]) (st' := [vI 0]) B67_32_33 rfl ?_
        exact r_zretI D67_33 rfl (by omega) (⟨rfl, by omega, by omega, by subst_vars; unfold SPK; omega, by subst_vars; unfold SPK; omega⟩)
      · refine s_blx (lv' := [(0, vR 1), (1, vI sentence)]) (st' := [vI 1]) B67_28_29 rfl ?_
        refine r_goto (tgt := 33) D67_29 rfl ?_
        exact r_zretI D67_33 rfl (by omega) (⟨rfl, by omega, by omega, by subst_vars; unfold SPK; omega, by subst_vars; unfold SPK; omega⟩)
set_option maxRecDepth 4000 in
theorem L_k70_1x {base : Nat} {X : Nat → Option mC} {G : Nat → Value} (E : EnvOK base X G) {d : Nat} (hd : 1 ≤ d) {M : mH} (H : HI base M) (sentence : Int) (n : Int) (h0 : 0 ≤ sentence ∧ sentence ≤ 15) (h1 : 0 ≤ n ∧ n ≤ 8) : ∀ mz : Nat, (∀ (x3 x4 : Int), (∀ k : Int, 0 ≤ k → k ≤ 15 → bt x3 k → SPK k M ∧ n ≤ gi M 6 k) → (-2147483648 ≤ x3 ∧ x3 ≤ 2147483647) → ((-2147483648) ≤ x3) → (x3 ≤ 2147483647) → (0 ≤ x4) → (x4 ≤ 16) → (16 - x4) * 1 + 0 < (mz : Int) → sRn base X G d T70 5 [(0, vR 1), (1, vI sentence), (2, vI n), (3, vI x3), (4, vI x4)] [] M (s_Q base (pI (fun v M' => M' = M ∧ (-2147483648 ≤ v ∧ v ≤ 2147483647) ∧ (∀ k : Int, 0 ≤ k → k ≤ 15 → bt v k → SPK k M ∧ n ≤ gi M 6 k))))) := by
  intro mz
  induction mz with
  | zero => exact fun x3 x4 z0 z1 z2 z3 z4 z5 z6 => by omega
  | succ mz ih =>
    intro x3 x4 i0 i1 i2 i3 i4 i5 hmu
    refine s_blx (lv' := [(0, vR 1), (1, vI sentence), (2, vI n), (3, vI x3), (4, vI x4)]) (st' := [vR 1, vI x4]) B70_5_8 rfl ?_
    refine r_gint (ki := 10) (pc' := 11) D70_8 rfl gf_8_43_1 rfl H.1 ?_
    intro w1 e2 r3
    have b_w1 := H.2 1 (10) 0 16 rfl
    rw [← e2] at b_w1; clear r3
    refine r_icmp (tgt := 65) (pc' := 14) D70_11 rfl rfl (by unfold inR; omega) (fun (c4 : w1 ≤ x4) => ?_) (fun (c4 : ¬ (w1 ≤ x4)) => ?_)
    · refine s_blx (lv' := [(0, vR 1), (1, vI sentence), (2, vI n), (3, vI x3), (4, vI x4)]) (st' := [vI x3]) B70_65_66 rfl ?_
      exact r_iretI D70_66 rfl (⟨rfl, by omega, i0⟩)
    · refine s_blx (lv' := [(0, vR 1), (1, vI sentence), (2, vI n), (3, vI x3), (4, vI x4)]) (st' := [vI x4, vR 1]) B70_14_17 rfl ?_
      refine r_vIp (c := 1) (args := [vI x4]) (rest := []) (pc' := 20) D70_17 rfl ck_8_virtual_84 TE67 rfl (Nat.le_of_ble_eq_true rfl) ⟨Nat.le_of_ble_eq_true rfl, Nat.le_of_ble_eq_true rfl⟩ sc_1 ⟨rfl, by decide⟩ H.1 (dp_0 hd rfl) (k67_1x E (dp_n hd rfl) H x4 (by omega)) ?_
      intro v5 q11
      obtain ⟨q7, q8, q9, q10⟩ := q11
      have ks := q9; clear q9
      refine r_ifc (tgt := 59) (pc' := 23) D70_20 rfl rfl (by unfold inR; omega) (fun (c12 : v5 = 0) => ?_) (fun (c12 : ¬ (v5 = 0)) => ?_)
      · refine s_blx (lv' := [(4, vI (x4 + 1)), (0, vR 1), (1, vI sentence), (2, vI n), (3, vI x3)]) (st' := []) B70_59_62 rfl ?_
        refine r_goto (tgt := 5) D70_62 rfl ?_
        refine r_loc (lv' := [(0, vR 1), (1, vI sentence), (2, vI n), (3, vI x3), (4, vI (x4 + 1))]) ⟨rfl, rfl, rfl, rfl, rfl, trivial⟩ rfl rfl ?_
        exact ih x3 (x4 + 1) (by first | exact i0 | exact fun k h1 h2 h3 => ((bt_or kq2).mp h3).elim (i0 k h1 h2) (fun h => by rw [(bt_shl kq1 (by omega) (by omega)).mp h]; exact ⟨ks (by omega), by omega⟩)) (by omega) (by omega) (by omega) (by omega) (by omega) (by omega)
      · refine s_blx (lv' := [(0, vR 1), (1, vI sentence), (2, vI n), (3, vI x3), (4, vI x4)]) (st' := [vR 1]) B70_23_24 rfl ?_
        refine r_gfix (r := 6) (pc' := 27) D70_24 rfl gf_8_34_1 H.1 ?_
        refine s_blx (lv' := [(0, vR 1), (1, vI sentence), (2, vI n), (3, vI x3), (4, vI x4)]) (st' := [vI x4, vR 6]) B70_27_29 rfl ?_
        refine r_iald (pc' := 30) D70_29 rfl sc_6 H.1 (by omega) ?_
        intro w13 e14 r15
        have b_w13 := H.2 6 (x4) 0 8 rfl
        rw [← e14] at b_w13; clear r15
        refine s_blx (lv' := [(0, vR 1), (1, vI sentence), (2, vI n), (3, vI x3), (4, vI x4)]) (st' := [vI n, vI w13]) B70_30_31 rfl ?_
        refine r_icmp (tgt := 59) (pc' := 34) D70_31 rfl rfl (by unfold inR; omega) (fun (c16 : w13 < n) => ?_) (fun (c16 : ¬ (w13 < n)) => ?_)
        · refine s_blx (lv' := [(4, vI (x4 + 1)), (0, vR 1), (1, vI sentence), (2, vI n), (3, vI x3)]) (st' := []) B70_59_62 rfl ?_
          refine r_goto (tgt := 5) D70_62 rfl ?_
          refine r_loc (lv' := [(0, vR 1), (1, vI sentence), (2, vI n), (3, vI x3), (4, vI (x4 + 1))]) ⟨rfl, rfl, rfl, rfl, rfl, trivial⟩ rfl rfl ?_
          exact ih x3 (x4 + 1) (by first | exact i0 | exact fun k h1 h2 h3 => ((bt_or kq2).mp h3).elim (i0 k h1 h2) (fun h => by rw [(bt_shl kq1 (by omega) (by omega)).mp h]; exact ⟨ks (by omega), by omega⟩)) (by omega) (by omega) (by omega) (by omega) (by omega) (by omega)
        · refine s_blx (lv' := [(0, vR 1), (1, vI sentence), (2, vI n), (3, vI x3), (4, vI x4)]) (st' := [vR 1, vI x4, vR 1]) B70_34_38 rfl ?_
          refine r_gfix (r := 5) (pc' := 41) D70_38 rfl gf_8_31_1 H.1 ?_
          refine s_blx (lv' := [(0, vR 1), (1, vI sentence), (2, vI n), (3, vI x3), (4, vI x4)]) (st' := [vI n, vI (sentence * 8), vR 5, vI x4, vR 1]) B70_41_46 rfl ?_
          refine r_vIp (c := 1) (args := [vI x4, vR 5, vI (sentence * 8), vI n]) (rest := []) (pc' := 49) D70_46 rfl ck_8_virtual_76 TE71 rfl (Nat.le_of_ble_eq_true rfl) ⟨Nat.le_of_ble_eq_true rfl, Nat.le_of_ble_eq_true rfl⟩ sc_1 ⟨rfl, by decide⟩ H.1 (dp_0 hd rfl) (k71_1_5 E (dp_n hd rfl) H x4 (sentence * 8) n (by omega) (by omega) (by omega)) ?_
          intro v17 q20
          have q19 := q20; clear q20
          refine r_ifc (tgt := 59) (pc' := 52) D70_49 rfl rfl (by unfold inR; omega) (fun (c21 : v17 = 0) => ?_) (fun (c21 : ¬ (v17 = 0)) => ?_)
          · refine s_blx (lv' := [(4, vI (x4 + 1)), (0, vR 1), (1, vI sentence), (2, vI n), (3, vI x3)]) (st' := []) B70_59_62 rfl ?_
            refine r_goto (tgt := 5) D70_62 rfl ?_
            refine r_loc (lv' := [(0, vR 1), (1, vI sentence), (2, vI n), (3, vI x3), (4, vI (x4 + 1))]) ⟨rfl, rfl, rfl, rfl, rfl, trivial⟩ rfl rfl ?_
            exact ih x3 (x4 + 1) (by first | exact i0 | exact fun k h1 h2 h3 => ((bt_or kq2).mp h3).elim (i0 k h1 h2) (fun h => by rw [(bt_shl kq1 (by omega) (by omega)).mp h]; exact ⟨ks (by omega), by omega⟩)) (by omega) (by omega) (by omega) (by omega) (by omega) (by omega)
          · refine s_blx (lv' := [(0, vR 1), (1, vI sentence), (2, vI n), (3, vI x3), (4, vI x4)]) (st' := [vI x4, vI 1, vI x3]) B70_52_56 rfl ?_
            refine r_bin (pc' := 57) D70_56 rfl rfl ?_
            intro z22 r23 kq1; unfold inR at r23
            refine r_bin (pc' := 58) D70_57 rfl rfl ?_
            intro z24 r25 kq2; unfold inR at r25
            refine s_blx (lv' := [(4, vI (x4 + 1)), (3, vI z24), (0, vR 1), (1, vI sentence), (2, vI n)]) (st' := []) B70_58_62 rfl ?_
            refine r_goto (tgt := 5) D70_62 rfl ?_
            refine r_loc (lv' := [(0, vR 1), (1, vI sentence), (2, vI n), (3, vI z24), (4, vI (x4 + 1))]) ⟨rfl, rfl, rfl, rfl, rfl, trivial⟩ rfl rfl ?_
            exact ih z24 (x4 + 1) (by first | exact i0 | exact fun k h1 h2 h3 => ((bt_or kq2).mp h3).elim (i0 k h1 h2) (fun h => by rw [(bt_shl kq1 (by omega) (by omega)).mp h]; exact ⟨ks (by omega), by omega⟩)) (by omega) (by omega) (by omega) (by omega) (by omega) (by omega)
set_option maxRecDepth 4000 in
theorem k70_1x {base : Nat} {X : Nat → Option mC} {G : Nat → Value} (E : EnvOK base X G) {d : Nat} (hd : 1 ≤ d) {M : mH} (H : HI base M) (sentence : Int) (n : Int) (h0 : 0 ≤ sentence ∧ sentence ≤ 15) (h1 : 0 ≤ n ∧ n ≤ 8) : sOk base X G d T70 [vR 1, vI sentence, vI n] M (pI (fun v M' => M' = M ∧ (-2147483648 ≤ v ∧ v ≤ 2147483647) ∧ (∀ k : Int, 0 ≤ k → k ≤ 15 → bt v k → SPK k M ∧ n ≤ gi M 6 k))) := by
  refine sOk.of (show sRn base X G d T70 0 [(0, vR 1), (1, vI sentence), (2, vI n)] [] M _ from ?_)
  refine s_blx (lv' := [(4, vI 0), (3, vI 0), (0, vR 1), (1, vI sentence), (2, vI n)]) (st' := []) B70_0_5 rfl ?_
  refine r_loc (lv' := [(0, vR 1), (1, vI sentence), (2, vI n), (3, vI 0), (4, vI 0)]) ⟨rfl, rfl, rfl, rfl, rfl, trivial⟩ rfl rfl ?_
  exact (L_k70_1x E hd H sentence n h0 h1 (((16 - 0) * 1 + 0 : Int) + 1).toNat) 0 0 (fun k _ _ h => absurd h (bt_0 k)) (by omega) (by omega) (by omega) (by omega) (by omega) (by omega)
set_option maxRecDepth 4000 in
theorem L_k72_1x {base : Nat} {X : Nat → Option mC} {G : Nat → Value} (E : EnvOK base X G) {d : Nat} (hd : 0 ≤ d) {M : mH} (H : HI base M) (bits : Int) (h0 : -2147483648 ≤ bits ∧ bits ≤ 2147483647) : ∀ mz : Nat, (∀ (x2 : Int), (0 ≤ x2) → (x2 ≤ 16) → (16 - x2) * 1 + 0 < (mz : Int) → sRn base X G d T72 2 [(0, vR 1), (1, vI bits), (2, vI x2)] [] M (s_Q base (pI (fun v M' => M' = M ∧ (0 ≤ v ∧ v ≤ 16) ∧ (v < gi M 1 10 → bt bits v))))) := by
  intro mz
  induction mz with
  | zero => exact fun x2 z0 z1 z2 => by omega
  | succ mz ih =>
    intro x2 i0 i1 hmu
    refine s_blx (lv' := [(0, vR 1), (1, vI bits), (2, vI x2)]) (st' := [vR 1, vI x2]) B72_2_4 rfl ?_
    refine r_gint (ki := 10) (pc' := 7) D72_4 rfl gf_8_43_1 rfl H.1 ?_
    intro w1 e2 r3
    have b_w1 := H.2 1 (10) 0 16 rfl
    rw [← e2] at b_w1; clear r3
    refine r_icmp (tgt := 27) (pc' := 10) D72_7 rfl rfl (by unfold inR; omega) (fun (c4 : w1 ≤ x2) => ?_) (fun (c4 : ¬ (w1 ≤ x2)) => ?_)
    · refine s_blx (lv' := [(0, vR 1), (1, vI bits), (2, vI x2)]) (st' := [vR 1]) B72_27_28 rfl ?_
      refine r_gint (ki := 10) (pc' := 31) D72_28 rfl gf_8_43_1 rfl H.1 ?_
      intro w5 e6 r7
      have e8 : w1 = w5 := (e6.trans (e2.symm)).symm
      subst e8
      exact r_iretI D72_31 rfl (⟨rfl, by omega, by omega⟩)
    · refine s_blx (lv' := [(0, vR 1), (1, vI bits), (2, vI x2)]) (st' := [vI x2, vI bits]) B72_10_12 rfl ?_
      refine r_bin (pc' := 13) D72_12 rfl rfl ?_
      intro z9 r10 kq; unfold inR at r10
      refine s_blx (lv' := [(0, vR 1), (1, vI bits), (2, vI x2)]) (st' := [vI 1, vI z9]) B72_13_14 rfl ?_
      refine r_and1 (pc' := 15) D72_14 rfl ?_
      refine s_blx (lv' := [(0, vR 1), (1, vI bits), (2, vI x2)]) (st' := [vI 1, vI (z9 % 2)]) B72_15_16 rfl ?_
      refine r_icmp (tgt := 21) (pc' := 19) D72_16 rfl rfl (by unfold inR; omega) (fun (c11 : (z9 % 2) ≠ 1) => ?_) (fun (c11 : ¬ ((z9 % 2) ≠ 1)) => ?_)
      · refine s_blx (lv' := [(2, vI (x2 + 1)), (0, vR 1), (1, vI bits)]) (st' := []) B72_21_24 rfl ?_
        refine r_goto (tgt := 2) D72_24 rfl ?_
        refine r_loc (lv' := [(0, vR 1), (1, vI bits), (2, vI (x2 + 1))]) ⟨rfl, rfl, rfl, trivial⟩ rfl rfl ?_
        exact ih (x2 + 1) (by omega) (by omega) (by omega)
      · refine s_blx (lv' := [(0, vR 1), (1, vI bits), (2, vI x2)]) (st' := [vI x2]) B72_19_20 rfl ?_
        exact r_iretI D72_20 rfl (⟨rfl, by omega, fun _ => (bt_test kq (by omega)).mp (by omega)⟩)
set_option maxRecDepth 4000 in
theorem k72_1x {base : Nat} {X : Nat → Option mC} {G : Nat → Value} (E : EnvOK base X G) {d : Nat} (hd : 0 ≤ d) {M : mH} (H : HI base M) (bits : Int) (h0 : -2147483648 ≤ bits ∧ bits ≤ 2147483647) : sOk base X G d T72 [vR 1, vI bits] M (pI (fun v M' => M' = M ∧ (0 ≤ v ∧ v ≤ 16) ∧ (v < gi M 1 10 → bt bits v))) := by
  refine sOk.of (show sRn base X G d T72 0 [(0, vR 1), (1, vI bits)] [] M _ from ?_)
  refine s_blx (lv' := [(2, vI 0), (0, vR 1), (1, vI bits)]) (st' := []) B72_0_2 rfl ?_
  refine r_loc (lv' := [(0, vR 1), (1, vI bits), (2, vI 0)]) ⟨rfl, rfl, rfl, trivial⟩ rfl rfl ?_
  exact (L_k72_1x E hd H bits h0 (((16 - 0) * 1 + 0 : Int) + 1).toNat) 0 (by omega) (by omega) (by omega)
