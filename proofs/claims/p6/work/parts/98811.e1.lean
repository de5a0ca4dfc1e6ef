
set_option maxRecDepth 4000 in
theorem k135e {base : Nat} {X : Nat → Option mC} {G : Nat → Value} (E : EnvOK base X G) {d : Nat} (hd : 0 ≤ d) {M : mH} (H : HI base M) : sOk base X G d T135 [vR 0] M (pI (fun v M' => HI base M' ∧ Fr [(0, 4)] M M' ∧ (0 ≤ v ∧ v ≤ 400) ∧ (v = gi M 0 3) ∧ (gi M' 0 3 = 0))) := by
  have f0 : Fr [(0, 4)] M M := Fr.rf
  refine sOk.of (show sRn base X G d T135 0 [(0, vR 0)] [] M _ from ?_)
  refine s_blx (lv' := [(0, vR 0)]) (st' := [vR 0]) B135_0_1 rfl ?_
  refine r_gint (ki := 3) (pc' := 4) D135_1 rfl gf_10_24_0 rfl H.1 ?_
  intro w1 e2 r3
  have b_w1 := H.2 0 (3) 0 400 rfl
  rw [← e2] at b_w1; clear r3
  refine s_blx (lv' := [(1, vI w1), (0, vR 0)]) (st' := [vI 0, vR 0]) B135_4_7 rfl ?_
  refine r_pint (ki := 3) (pc' := 10) D135_7 rfl pf_10_24_0 rfl H (by unfold inR; omega) (show 0 ≤ 0 ∧ 0 ≤ 400 by omega) ?_
  intro M4 u5 H6 p7
  have f8 := f0.wr u5 rfl
  refine s_blx (lv' := [(1, vI w1), (0, vR 0)]) (st' := [vI w1]) B135_10_11 rfl ?_
  have g9 : gi M4 0 3 = 0 := p7
  exact r_iretI D135_11 rfl (⟨H6, f8, by omega, by omega, by omega⟩)
set_option maxRecDepth 4000 in
theorem k111e {base : Nat} {X : Nat → Option mC} {G : Nat → Value} (E : EnvOK base X G) {d : Nat} (hd : 1 ≤ d) {M : mH} (H : HI base M) (n : Int) (h0 : -2147483648 ≤ n ∧ n ≤ 2147483647) : sOk base X G d T111 [vR 0, vI n] M (pI (fun v M' => HI base M' ∧ Fr [(0, 4)] M M' ∧ (-2147483648 ≤ v ∧ v ≤ 2147483647) ∧ (0 ≤ n ∧ n ≤ gi M 0 3 → v = n ∧ gi M' 0 3 = n) ∧ (n < 0 ∨ gi M 0 3 < n → v = -1 ∧ gi M' 0 3 = gi M 0 3))) := by
  have f0 : Fr [(0, 4)] M M := Fr.rf
  refine sOk.of (show sRn base X G d T111 0 [(0, vR 0), (1, vI n)] [] M _ from ?_)
  refine s_blx (lv' := [(0, vR 0), (1, vI n)]) (st' := [vR 0, vI 0, vI n]) B111_0_3 rfl ?_
  refine r_gint (ki := 3) (pc' := 6) D111_3 rfl gf_10_24_0 rfl H.1 ?_
  intro w1 e2 r3
  have b_w1 := H.2 0 (3) 0 400 rfl
  rw [← e2] at b_w1; clear r3
  refine r_sIp (args := [vI n, vI 0, vI w1]) (rest := []) (pc' := 9) D111_6 rfl ck_10_static_102 TE142 rfl (Nat.le_of_ble_eq_true rfl) ⟨Nat.le_of_ble_eq_true rfl, Nat.le_of_ble_eq_true rfl⟩ (by decide) (dp_0 hd rfl) (k142 E (dp_n hd rfl) H n 0 w1 (by omega) (by omega) (by omega)) ?_
  intro v4 q9
  obtain ⟨q6, q7, q8⟩ := q9
  refine r_ifc (tgt := 14) (pc' := 12) D111_9 rfl rfl (by unfold inR; omega) (fun (c10 : v4 ≠ 0) => ?_) (fun (c10 : ¬ (v4 ≠ 0)) => ?_)
  · refine s_blx (lv' := [(0, vR 0), (1, vI n)]) (st' := [vI n, vR 0]) B111_14_16 rfl ?_
    refine r_pint (ki := 3) (pc' := 19) D111_16 rfl pf_10_24_0 rfl H (by unfold inR; omega) (show 0 ≤ n ∧ n ≤ 400 by omega) ?_
    intro M11 u12 H13 p14
    have f15 := f0.wr u12 rfl
    refine s_blx (lv' := [(0, vR 0), (1, vI n)]) (st' := [vI n]) B111_19_20 rfl ?_
    have g16 : gi M11 0 3 = n := p14
    exact r_iretI D111_20 rfl (⟨H13, f15, by omega, by omega, by omega⟩)
  · refine s_blx (lv' := [(0, vR 0), (1, vI n)]) (st' := [vI (-1)]) B111_12_13 rfl ?_
    have g17 : gi M 0 3 = w1 := e2.symm
    exact r_iretI D111_13 rfl (⟨H, f0, by omega, by omega, by omega⟩)
set_option maxRecDepth 4000 in
theorem L_k127e {base : Nat} {X : Nat → Option mC} {G : Nat → Value} (E : EnvOK base X G) {d : Nat} (hd : 7 ≤ d) {M : mH} (H : HI base M) (sentence : Int) (h0 : HB base M) (h1 : SF M) (h2 : -2147483648 ≤ sentence ∧ sentence ≤ 2147483647) : ∀ mz : Nat, (∀ (x2 x3 x4 : Int) (N : mH), HI base N → Fr [(0, 4), (0, 10), (20, 16), (20, 17), (20, 18), (21, 0), (22, 0), (23, 0), (24, 0), (25, 0), (26, 0), (27, 0), (28, 0), (29, 0), (30, 0), (31, 0), (32, 0), (33, 0), (34, 0), (35, 0), (58, 2), (58, 3), (58, 4), (58, 6), (59, 0), (60, 0), (61, 0)] M N → (0 ≤ sentence ∧ sentence ≤ 15) → (SF N) → (gi N 0 3 = 0) → (0 ≤ x2) → (x2 ≤ 400) → ((-2147483648) ≤ x3) → (x3 ≤ 2147483647) → (0 ≤ x4) → (x4 ≤ 8) → (0 ≤ sentence) → (sentence ≤ 15) → (8 - x4) * 1 + 0 < (mz : Int) → sRn base X G d T127 27 [(0, vR 0), (1, vI sentence), (2, vI x2), (3, vI x3), (4, vI x4)] [] N (s_Q base (pI (fun v M' => HI base M' ∧ Fr [(0, 4), (0, 10), (20, 16), (20, 17), (20, 18), (21, 0), (22, 0), (23, 0), (24, 0), (25, 0), (26, 0), (27, 0), (28, 0), (29, 0), (30, 0), (31, 0), (32, 0), (33, 0), (34, 0), (35, 0), (58, 2), (58, 3), (58, 4), (58, 6), (59, 0), (60, 0), (61, 0)] M M' ∧ (-2147483648 ≤ v ∧ v ≤ 2147483647) ∧ (SF M') ∧ (gi M' 0 3 = 0))))) := by
  have f0 : Fr [(0, 4), (0, 10), (20, 16), (20, 17), (20, 18), (21, 0), (22, 0), (23, 0), (24, 0), (25, 0), (26, 0), (27, 0), (28, 0), (29, 0), (30, 0), (31, 0), (32, 0), (33, 0), (34, 0), (35, 0), (58, 2), (58, 3), (58, 4), (58, 6), (59, 0), (60, 0), (61, 0)] M M := Fr.rf
  intro mz
  induction mz with
  | zero => exact fun x2 x3 x4 N _ _ z0 z1 z2 z3 z4 z5 z6 z7 z8 z9 z10 z11 => by omega
  | succ mz ih =>
    intro x2 x3 x4 N HN fN i0 i1 i2 i3 i4 i5 i6 i7 i8 i9 i10 hmu
    refine s_blx (lv' := [(0, vR 0), (1, vI sentence), (2, vI x2), (3, vI x3), (4, vI x4)]) (st' := [vR 0, vI x4]) B127_27_30 rfl ?_
    refine r_gfix (r := 1) (pc' := 33) D127_30 rfl gf_10_10_0 HN.1 ?_
    refine r_gint (ki := 12) (pc' := 36) D127_33 rfl gf_10_237_1 rfl HN.1 ?_
    intro w28 e29 r30
    have b_w28 := HN.2 1 (12) 0 8 rfl
    rw [← e29] at b_w28; clear r30
    refine r_icmp (tgt := 83) (pc' := 39) D127_36 rfl rfl (by unfold inR; omega) (fun (c31 : w28 ≤ x4) => ?_) (fun (c31 : ¬ (w28 ≤ x4)) => ?_)
    · refine s_blx (lv' := [(0, vR 0), (1, vI sentence), (2, vI x2), (3, vI x3), (4, vI x4)]) (st' := [vI x3]) B127_83_84 rfl ?_
      exact r_iretI D127_84 rfl (⟨HN, fN, by omega, i1, by omega⟩)
    · refine s_blx (lv' := [(0, vR 0), (1, vI sentence), (2, vI x2), (3, vI x3), (4, vI x4)]) (st' := [vR 0]) B127_39_40 rfl ?_
      refine r_gfix (r := 58) (pc' := 43) D127_40 rfl gf_10_70_0 HN.1 ?_
      refine s_blx (lv' := [(0, vR 0), (1, vI sentence), (2, vI x2), (3, vI x3), (4, vI x4)]) (st' := [vR 0, vR 58]) B127_43_44 rfl ?_
      refine r_gfix (r := 20) (pc' := 47) D127_44 rfl gf_10_44_0 HN.1 ?_
      refine s_blx (lv' := [(0, vR 0), (1, vI sentence), (2, vI x2), (3, vI x3), (4, vI x4)]) (st' := [vR 0, vR 20, vR 58]) B127_47_48 rfl ?_
      refine r_gfix (r := 1) (pc' := 51) D127_48 rfl gf_10_10_0 HN.1 ?_
      refine r_gfix (r := 9) (pc' := 54) D127_51 rfl gf_10_255_1 HN.1 ?_
      refine s_blx (lv' := [(0, vR 0), (1, vI sentence), (2, vI x2), (3, vI x3), (4, vI x4)]) (st' := [vI x4, vR 9, vR 20, vR 58]) B127_54_56 rfl ?_
      have b39 := HN.2 1 12 0 8 rfl
      have g40 : gi N 1 12 = w28 := e29.symm
      obtain ⟨hb32, nh33, nc34, a35, b36, r37, r38⟩ := ((h0.fr fN rfl)) (x4) (by omega) (by omega)
      refine r_aald (v := vR hb32) (pc' := 57) D127_56 rfl sc_9 (by decide) HN.1 (by omega) a35 ?_
      refine s_blx (lv' := [(0, vR 0), (1, vI sentence), (2, vI x2), (3, vI x3), (4, vI x4)]) (st' := [vI sentence, vR (hb32), vR 20, vR 58]) B127_57_58 rfl ?_
      refine r_vI (c := 58) (args := [vR 20, vR (hb32), vI sentence]) (rest := []) (pc' := 61) D127_58 rfl ck_10_virtual_259 TE1 rfl (Nat.le_of_ble_eq_true rfl) ⟨Nat.le_of_ble_eq_true rfl, Nat.le_of_ble_eq_true rfl⟩ sc_58 ⟨rfl, by decide⟩ HN.1 (dp_0 hd rfl) (k1_58_20x E (dp_n hd rfl) HN hb32 sentence nh33 nc34 (b36) (by omega) (by omega) (by omega)) ?_
      intro v41 M42 q46
      obtain ⟨H43, f44, q45⟩ := q46
      have f47 := fN.tr (f44.up rfl)
      have hp48 := i1.fr f44 (by decide)
      have hp49 := b36.fr f44 (by decide)
      refine s_blx (lv' := [(0, vR 0), (1, vI sentence), (2, vI x2), (3, vI x3), (4, vI x4)]) (st' := [vI x2, vR 0]) B127_61_64 rfl ?_
      refine r_vIp (c := 0) (args := [vI x2]) (rest := []) (pc' := 67) D127_64 rfl ck_10_virtual_325 TE140 rfl (Nat.le_of_ble_eq_true rfl) ⟨Nat.le_of_ble_eq_true rfl, Nat.le_of_ble_eq_true rfl⟩ sc_0 ⟨rfl, by decide⟩ H43.1 (dp_0 hd rfl) (k140 E (dp_n hd rfl) H43 x2 (by omega)) ?_
      intro v50 q53
      have q52 := q53; clear q53
      refine r_ifc (tgt := 77) (pc' := 70) D127_67 rfl rfl (by unfold inR; omega) (fun (c54 : v50 = 0) => ?_) (fun (c54 : ¬ (v50 = 0)) => ?_)
      · refine s_blx (lv' := [(4, vI (x4 + 1)), (0, vR 0), (1, vI sentence), (2, vI x2), (3, vI x3)]) (st' := []) B127_77_80 rfl ?_
        refine r_goto (tgt := 27) D127_80 rfl ?_
        refine r_loc (lv' := [(0, vR 0), (1, vI sentence), (2, vI x2), (3, vI x3), (4, vI (x4 + 1))]) ⟨rfl, rfl, rfl, rfl, rfl, trivial⟩ rfl rfl ?_
        have g55 : gi M42 0 3 = gi N 0 3 := (f44.g rfl).trans (rfl)
        exact ih x2 x3 (x4 + 1) M42 H43 f47 (by omega) (hp48) (by omega) (by omega) (by omega) (by omega) (by omega) (by omega) (by omega) (by omega) (by omega) (by omega)
      · refine s_blx (lv' := [(0, vR 0), (1, vI sentence), (2, vI x2), (3, vI x3), (4, vI x4)]) (st' := [vI x4, vI 1, vI x3]) B127_70_74 rfl ?_
        refine r_bin (pc' := 75) D127_74 rfl rfl ?_
        intro z56 r57 _; unfold inR at r57
        refine r_bin (pc' := 76) D127_75 rfl rfl ?_
        intro z58 r59 _; unfold inR at r59
        refine s_blx (lv' := [(4, vI (x4 + 1)), (3, vI z58), (0, vR 0), (1, vI sentence), (2, vI x2)]) (st' := []) B127_76_80 rfl ?_
        refine r_goto (tgt := 27) D127_80 rfl ?_
        refine r_loc (lv' := [(0, vR 0), (1, vI sentence), (2, vI x2), (3, vI z58), (4, vI (x4 + 1))]) ⟨rfl, rfl, rfl, rfl, rfl, trivial⟩ rfl rfl ?_
        have g60 : gi M42 0 3 = gi N 0 3 := (f44.g rfl).trans (rfl)
        exact ih x2 z58 (x4 + 1) M42 H43 f47 (by omega) (hp48) (by omega) (by omega) (by omega) (by omega) (by omega) (by omega) (by omega) (by omega) (by omega) (by omega)
set_option maxRecDepth 4000 in
theorem k127e {base : Nat} {X : Nat → Option mC} {G : Nat → Value} (E : EnvOK base X G) {d : Nat} (hd : 7 ≤ d) {M : mH} (H : HI base M) (sentence : Int) (h0 : HB base M) (h1 : SF M) (h2 : -2147483648 ≤ sentence ∧ sentence ≤ 2147483647) : sOk base X G d T127 [vR 0, vI sentence] M (pI (fun v M' => HI base M' ∧ Fr [(0, 4), (0, 10), (20, 16), (20, 17), (20, 18), (21, 0), (22, 0), (23, 0), (24, 0), (25, 0), (26, 0), (27, 0), (28, 0), (29, 0), (30, 0), (31, 0), (32, 0), (33, 0), (34, 0), (35, 0), (58, 2), (58, 3), (58, 4), (58, 6), (59, 0), (60, 0), (61, 0)] M M' ∧ (-2147483648 ≤ v ∧ v ≤ 2147483647) ∧ (SF M') ∧ (gi M' 0 3 = 0))) := by
  have f0 : Fr [(0, 4), (0, 10), (20, 16), (20, 17), (20, 18), (21, 0), (22, 0), (23, 0), (24, 0), (25, 0), (26, 0), (27, 0), (28, 0), (29, 0), (30, 0), (31, 0), (32, 0), (33, 0), (34, 0), (35, 0), (58, 2), (58, 3), (58, 4), (58, 6), (59, 0), (60, 0), (61, 0)] M M := Fr.rf
  refine sOk.of (show sRn base X G d T127 0 [(0, vR 0), (1, vI sentence)] [] M _ from ?_)
  refine s_blx (lv' := [(0, vR 0), (1, vI sentence)]) (st' := [vR 0]) B127_0_1 rfl ?_
  refine r_vI (c := 0) (args := []) (rest := []) (pc' := 4) D127_1 rfl ck_10_virtual_149 TE135 rfl (Nat.le_of_ble_eq_true rfl) ⟨Nat.le_of_ble_eq_true rfl, Nat.le_of_ble_eq_true rfl⟩ sc_0 ⟨rfl, by decide⟩ H.1 (dp_0 hd rfl) (k135e E (dp_n hd rfl) H ) ?_
  intro v1 M2 q8
  obtain ⟨H3, f4, q5, q6, q7⟩ := q8
  have f9 := f0.tr (f4.up rfl)
  have hp10 := h1.fr f4 (by decide)
  refine s_blx (lv' := [(2, vI v1), (0, vR 0), (1, vI sentence)]) (st' := [vR 0]) B127_4_6 rfl ?_
  refine r_gfix (r := 1) (pc' := 9) D127_6 rfl gf_10_10_0 H3.1 ?_
  refine s_blx (lv' := [(2, vI v1), (0, vR 0), (1, vI sentence)]) (st' := [vI sentence, vR 1]) B127_9_10 rfl ?_
  refine r_vIp (c := 1) (args := [vI sentence]) (rest := []) (pc' := 13) D127_10 rfl ck_10_virtual_186 TE67 rfl (Nat.le_of_ble_eq_true rfl) ⟨Nat.le_of_ble_eq_true rfl, Nat.le_of_ble_eq_true rfl⟩ sc_1 ⟨rfl, by decide⟩ H3.1 (dp_0 hd rfl) (k67_1x E (dp_n hd rfl) H3 sentence (by omega)) ?_
  intro v11 q17
  obtain ⟨q13, q14, q15, q16⟩ := q17
  refine r_ifc (tgt := 18) (pc' := 16) D127_13 rfl rfl (by unfold inR; omega) (fun (c18 : v11 ≠ 0) => ?_) (fun (c18 : ¬ (v11 ≠ 0)) => ?_)
  · refine s_blx (lv' := [(2, vI v1), (0, vR 0), (1, vI sentence)]) (st' := [vR 0]) B127_18_19 rfl ?_
    refine r_vV (c := 0) (args := []) (rest := []) (pc' := 22) D127_19 rfl ck_10_virtual_252 TE138 rfl (Nat.le_of_ble_eq_true rfl) ⟨Nat.le_of_ble_eq_true rfl, Nat.le_of_ble_eq_true rfl⟩ sc_0 ⟨rfl, by decide⟩ H3.1 (dp_0 hd rfl) (k138s E (dp_n hd rfl) H3 (hp10)) ?_
    intro M20 q24
    obtain ⟨H21, f22, q23⟩ := q24
    have f25 := f9.tr (f22.up rfl)
    have ktg : TGd M20 := q23
    have ksf : SF M20 := fun _ => ktg
    refine s_blx (lv' := [(4, vI 0), (3, vI 0), (2, vI v1), (0, vR 0), (1, vI sentence)]) (st' := []) B127_22_27 rfl ?_
    refine r_loc (lv' := [(0, vR 0), (1, vI sentence), (2, vI v1), (3, vI 0), (4, vI 0)]) ⟨rfl, rfl, rfl, rfl, rfl, trivial⟩ rfl rfl ?_
    have g26 : gi M20 0 3 = 0 := (f22.g rfl).trans (q7)
    exact (L_k127e E hd H sentence h0 h1 h2 (((8 - 0) * 1 + 0 : Int) + 1).toNat) v1 0 0 M20 H21 f25 (by omega) (ksf) (by omega) (by omega) (by omega) (by omega) (by omega) (by omega) (by omega) (by omega) (by omega) (by omega)
  · refine s_blx (lv' := [(2, vI v1), (0, vR 0), (1, vI sentence)]) (st' := [vI (-1)]) B127_16_17 rfl ?_
    have g27 : gi M2 0 3 = 0 := q7
    exact r_iretI D127_17 rfl (⟨H3, f9, by omega, hp10, by first | (rw [g27]; omega) | rw [g27]⟩)
