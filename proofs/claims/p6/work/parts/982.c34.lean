
set_option maxRecDepth 4000 in
theorem k134s {base : Nat} {X : Nat → Option mC} {G : Nat → Value} (E : EnvOK base X G) {d : Nat} (hd : 0 ≤ d) {M : mH} (H : HI base M) (answer : Int) (h0 : -2147483648 ≤ answer ∧ answer ≤ 2147483647) : sOk base X G d T134 [vR 0, vI answer] M (pI (fun v M' => HI base M' ∧ Fr [(0, 6), (0, 10)] M M' ∧ (v = answer) ∧ (gi M' 0 9 = 1))) := by
  have f0 : Fr [(0, 6), (0, 10)] M M := Fr.rf
  refine sOk.of (show sRn base X G d T134 0 [(0, vR 0), (1, vI answer)] [] M _ from ?_)
  refine s_blx (lv' := [(0, vR 0), (1, vI answer)]) (st' := [vI 0, vR 0]) B134_0_2 rfl ?_
  refine r_pint (ki := 5) (pc' := 5) D134_2 rfl pf_10_31_0 rfl H (by unfold inR; omega) trivial ?_
  intro M1 u2 H3 p4
  have f5 := f0.wr u2 rfl
  refine s_blx (lv' := [(0, vR 0), (1, vI answer)]) (st' := [vI 1, vR 0]) B134_5_7 rfl ?_
  refine r_pbool (ki := 9) (pc' := 10) D134_7 rfl pf_10_57_0 rfl H3 (by omega) (show 0 ≤ 1 ∧ 1 ≤ 1 by omega) ?_
  intro M6 u7 H8 p9
  have f10 := f5.wr u7 rfl
  refine s_blx (lv' := [(0, vR 0), (1, vI answer)]) (st' := [vI answer]) B134_10_11 rfl ?_
  have g11 : gi M6 0 9 = 1 := p9
  exact r_iretI D134_11 rfl (⟨H8, f10, by omega, by omega⟩)
set_option maxRecDepth 4000 in
theorem k114s {base : Nat} {X : Nat → Option mC} {G : Nat → Value} (E : EnvOK base X G) {d : Nat} (hd : 7 ≤ d) {M : mH} (H : HI base M) (text : Int) (sentence : Int) (h0 : HB base M) (h1 : SF M) (h2 : -2147483648 ≤ text ∧ text ≤ 2147483647) (h3 : -2147483648 ≤ sentence ∧ sentence ≤ 2147483647) : sOk base X G d T114 [vR 0, vI text, vI sentence] M (pI (fun v M' => HI base M' ∧ Fr [(0, 10), (20, 16), (20, 17), (20, 18), (21, 0), (22, 0), (23, 0), (24, 0), (25, 0), (26, 0), (27, 0), (28, 0), (29, 0), (30, 0), (31, 0), (32, 0), (33, 0), (34, 0), (35, 0), (62, 2), (62, 3), (62, 4), (62, 6), (63, 0), (64, 0), (65, 0)] M M' ∧ (-2147483648 ≤ v ∧ v ≤ 2147483647) ∧ (SF M'))) := by
  have f0 : Fr [(0, 10), (20, 16), (20, 17), (20, 18), (21, 0), (22, 0), (23, 0), (24, 0), (25, 0), (26, 0), (27, 0), (28, 0), (29, 0), (30, 0), (31, 0), (32, 0), (33, 0), (34, 0), (35, 0), (62, 2), (62, 3), (62, 4), (62, 6), (63, 0), (64, 0), (65, 0)] M M := Fr.rf
  refine sOk.of (show sRn base X G d T114 0 [(0, vR 0), (1, vI text), (2, vI sentence)] [] M _ from ?_)
  refine s_blx (lv' := [(0, vR 0), (1, vI text), (2, vI sentence)]) (st' := [vR 0]) B114_0_1 rfl ?_
  refine r_gfix (r := 1) (pc' := 4) D114_1 rfl gf_10_10_0 H.1 ?_
  refine s_blx (lv' := [(0, vR 0), (1, vI text), (2, vI sentence)]) (st' := [vI text, vR 1]) B114_4_5 rfl ?_
  refine r_vIp (c := 1) (args := [vI text]) (rest := []) (pc' := 8) D114_5 rfl ck_10_virtual_249 TE66 rfl (Nat.le_of_ble_eq_true rfl) ⟨Nat.le_of_ble_eq_true rfl, Nat.le_of_ble_eq_true rfl⟩ sc_1 ⟨rfl, by decide⟩ H.1 (dp_0 hd rfl) (k66_1x E (dp_n hd rfl) H text (h0) (by omega)) ?_
  intro v1 q5
  obtain ⟨q3, q4⟩ := q5
  refine r_ifc (tgt := 22) (pc' := 11) D114_8 rfl rfl (by unfold inR; omega) (fun (c6 : v1 = 0) => ?_) (fun (c6 : ¬ (v1 = 0)) => ?_)
  · refine s_blx (lv' := [(0, vR 0), (1, vI text), (2, vI sentence)]) (st' := [vI (-1)]) B114_22_23 rfl ?_
    exact r_iretI D114_23 rfl (⟨H, f0, by omega, h1⟩)
  · refine s_blx (lv' := [(0, vR 0), (1, vI text), (2, vI sentence)]) (st' := [vR 0]) B114_11_12 rfl ?_
    refine r_gfix (r := 1) (pc' := 15) D114_12 rfl gf_10_10_0 H.1 ?_
    refine s_blx (lv' := [(0, vR 0), (1, vI text), (2, vI sentence)]) (st' := [vI sentence, vR 1]) B114_15_16 rfl ?_
    refine r_vIp (c := 1) (args := [vI sentence]) (rest := []) (pc' := 19) D114_16 rfl ck_10_virtual_186 TE67 rfl (Nat.le_of_ble_eq_true rfl) ⟨Nat.le_of_ble_eq_true rfl, Nat.le_of_ble_eq_true rfl⟩ sc_1 ⟨rfl, by decide⟩ H.1 (dp_0 hd rfl) (k67_1x E (dp_n hd rfl) H sentence (by omega)) ?_
    intro v7 q13
    obtain ⟨q9, q10, q11, q12⟩ := q13
    refine r_ifc (tgt := 24) (pc' := 22) D114_19 rfl rfl (by unfold inR; omega) (fun (c14 : v7 ≠ 0) => ?_) (fun (c14 : ¬ (v7 ≠ 0)) => ?_)
    · refine s_blx (lv' := [(0, vR 0), (1, vI text), (2, vI sentence)]) (st' := [vR 0]) B114_24_25 rfl ?_
      refine r_vV (c := 0) (args := []) (rest := []) (pc' := 28) D114_25 rfl ck_10_virtual_252 TE138 rfl (Nat.le_of_ble_eq_true rfl) ⟨Nat.le_of_ble_eq_true rfl, Nat.le_of_ble_eq_true rfl⟩ sc_0 ⟨rfl, by decide⟩ H.1 (dp_0 hd rfl) (k138s E (dp_n hd rfl) H (h1)) ?_
      intro M16 q20
      obtain ⟨H17, f18, q19⟩ := q20
      have f21 := f0.tr (f18.up rfl)
      have ktg : TGd M16 := q19
      have ksf : SF M16 := fun _ => ktg
      refine s_blx (lv' := [(0, vR 0), (1, vI text), (2, vI sentence)]) (st' := [vR 0]) B114_28_29 rfl ?_
      refine r_gfix (r := 62) (pc' := 32) D114_29 rfl gf_10_74_0 H17.1 ?_
      refine s_blx (lv' := [(0, vR 0), (1, vI text), (2, vI sentence)]) (st' := [vR 0, vR 62]) B114_32_33 rfl ?_
      refine r_gfix (r := 20) (pc' := 36) D114_33 rfl gf_10_44_0 H17.1 ?_
      refine s_blx (lv' := [(0, vR 0), (1, vI text), (2, vI sentence)]) (st' := [vR 0, vR 20, vR 62]) B114_36_37 rfl ?_
      refine r_gfix (r := 1) (pc' := 40) D114_37 rfl gf_10_10_0 H17.1 ?_
      refine r_gfix (r := 9) (pc' := 43) D114_40 rfl gf_10_255_1 H17.1 ?_
      refine s_blx (lv' := [(0, vR 0), (1, vI text), (2, vI sentence)]) (st' := [vI text, vR 9, vR 20, vR 62]) B114_43_44 rfl ?_
      have b29 := H17.2 1 12 0 8 rfl
      have g30 : gi M16 1 12 = gi M 1 12 := (f18.g rfl).trans (rfl)
      obtain ⟨hb22, nh23, nc24, a25, b26, r27, r28⟩ := ((h0.fr f21 rfl)) (text) (by omega) (by omega)
      refine r_aald (v := vR hb22) (pc' := 45) D114_44 rfl sc_9 (by decide) H17.1 (by omega) a25 ?_
      refine s_blx (lv' := [(0, vR 0), (1, vI text), (2, vI sentence)]) (st' := [vI sentence, vR (hb22), vR 20, vR 62]) B114_45_46 rfl ?_
      refine r_vI (c := 62) (args := [vR 20, vR (hb22), vI sentence]) (rest := []) (pc' := 49) D114_46 rfl ck_10_virtual_259 TE1 rfl (Nat.le_of_ble_eq_true rfl) ⟨Nat.le_of_ble_eq_true rfl, Nat.le_of_ble_eq_true rfl⟩ sc_62 ⟨rfl, by decide⟩ H17.1 (dp_0 hd rfl) (k1_62_20x E (dp_n hd rfl) H17 hb22 sentence nh23 nc24 (b26) (by omega) (by omega) (by omega)) ?_
      intro v31 M32 q36
      obtain ⟨H33, f34, q35⟩ := q36
      have f37 := f21.tr (f34.up rfl)
      have hp38 := ksf.fr f34 (by decide)
      have hp39 := b26.fr f34 (by decide)
      exact r_iretI D114_49 rfl (⟨H33, f37, by omega, hp38⟩)
    · refine s_blx (lv' := [(0, vR 0), (1, vI text), (2, vI sentence)]) (st' := [vI (-1)]) B114_22_23 rfl ?_
      exact r_iretI D114_23 rfl (⟨H, f0, by omega, h1⟩)
set_option maxRecDepth 4000 in
theorem L_k116s {base : Nat} {X : Nat → Option mC} {G : Nat → Value} (E : EnvOK base X G) {d : Nat} (hd : 7 ≤ d) {M : mH} (H : HI base M) (text : Int) (h0 : HB base M) (h1 : SF M) (h2 : -2147483648 ≤ text ∧ text ≤ 2147483647) : ∀ mz : Nat, (∀ (x2 x4 : Int) (N : mH), HI base N → Fr [(0, 10), (20, 16), (20, 17), (20, 18), (21, 0), (22, 0), (23, 0), (24, 0), (25, 0), (26, 0), (27, 0), (28, 0), (29, 0), (30, 0), (31, 0), (32, 0), (33, 0), (34, 0), (35, 0), (58, 2), (58, 3), (58, 4), (58, 6), (59, 0), (60, 0), (61, 0)] M N → (0 ≤ text ∧ text < gi N 1 12) → (SF N) → (0 ≤ x4) → (x4 ≤ 16) → (0 ≤ text) → (text ≤ 2147483647) → (16 - x4) * 1 + 0 < (mz : Int) → sRn base X G d T116 24 [(0, vR 0), (1, vI text), (2, vL x2), (4, vI x4)] [] N (s_Q base (pL (fun v M' => HI base M' ∧ Fr [(0, 10), (20, 16), (20, 17), (20, 18), (21, 0), (22, 0), (23, 0), (24, 0), (25, 0), (26, 0), (27, 0), (28, 0), (29, 0), (30, 0), (31, 0), (32, 0), (33, 0), (34, 0), (35, 0), (58, 2), (58, 3), (58, 4), (58, 6), (59, 0), (60, 0), (61, 0)] M M' ∧ (SF M'))))) := by
  have f0 : Fr [(0, 10), (20, 16), (20, 17), (20, 18), (21, 0), (22, 0), (23, 0), (24, 0), (25, 0), (26, 0), (27, 0), (28, 0), (29, 0), (30, 0), (31, 0), (32, 0), (33, 0), (34, 0), (35, 0), (58, 2), (58, 3), (58, 4), (58, 6), (59, 0), (60, 0), (61, 0)] M M := Fr.rf
  intro mz
  induction mz with
  | zero => exact fun x2 x4 N _ _ z0 z1 z2 z3 z4 z5 z6 => by omega
  | succ mz ih =>
    intro x2 x4 N HN fN i0 i1 i2 i3 i4 i5 hmu
    refine s_blx (lv' := [(0, vR 0), (1, vI text), (2, vL x2), (4, vI x4)]) (st' := [vR 0, vI x4]) B116_24_27 rfl ?_
    refine r_gfix (r := 1) (pc' := 30) D116_27 rfl gf_10_10_0 HN.1 ?_
    refine r_gint (ki := 10) (pc' := 33) D116_30 rfl gf_10_163_1 rfl HN.1 ?_
    intro w15 e16 r17
    have b_w15 := HN.2 1 (10) 0 16 rfl
    rw [← e16] at b_w15; clear r17
    refine r_icmp (tgt := 93) (pc' := 36) D116_33 rfl rfl (by unfold inR; omega) (fun (c18 : w15 ≤ x4) => ?_) (fun (c18 : ¬ (w15 ≤ x4)) => ?_)
    · refine s_blx (lv' := [(0, vR 0), (1, vI text), (2, vL x2), (4, vI x4)]) (st' := [vL x2]) B116_93_94 rfl ?_
      exact r_lretL D116_94 rfl (⟨HN, fN, i1⟩)
    · refine s_blx (lv' := [(0, vR 0), (1, vI text), (2, vL x2), (4, vI x4)]) (st' := [vR 0]) B116_36_37 rfl ?_
      refine r_gfix (r := 1) (pc' := 40) D116_37 rfl gf_10_10_0 HN.1 ?_
      refine s_blx (lv' := [(0, vR 0), (1, vI text), (2, vL x2), (4, vI x4)]) (st' := [vI x4, vR 1]) B116_40_42 rfl ?_
      refine r_vIp (c := 1) (args := [vI x4]) (rest := []) (pc' := 45) D116_42 rfl ck_10_virtual_186 TE67 rfl (Nat.le_of_ble_eq_true rfl) ⟨Nat.le_of_ble_eq_true rfl, Nat.le_of_ble_eq_true rfl⟩ sc_1 ⟨rfl, by decide⟩ HN.1 (dp_0 hd rfl) (k67_1x E (dp_n hd rfl) HN x4 (by omega)) ?_
      intro v19 q25
      obtain ⟨q21, q22, q23, q24⟩ := q25
      refine r_ifc (tgt := 87) (pc' := 48) D116_45 rfl rfl (by unfold inR; omega) (fun (c26 : v19 = 0) => ?_) (fun (c26 : ¬ (v19 = 0)) => ?_)
      · refine s_blx (lv' := [(4, vI (x4 + 1)), (0, vR 0), (1, vI text), (2, vL x2)]) (st' := []) B116_87_90 rfl ?_
        refine r_goto (tgt := 24) D116_90 rfl ?_
        refine r_loc (lv' := [(0, vR 0), (1, vI text), (2, vL x2), (4, vI (x4 + 1))]) ⟨rfl, rfl, rfl, rfl, trivial⟩ rfl rfl ?_
        exact ih x2 (x4 + 1) N HN fN (by omega) (i1) (by omega) (by omega) (by omega) (by omega) (by omega)
      · refine s_blx (lv' := [(0, vR 0), (1, vI text), (2, vL x2), (4, vI x4)]) (st' := [vR 0, vL x2]) B116_48_50 rfl ?_
        refine r_gfix (r := 1) (pc' := 53) D116_50 rfl gf_10_10_0 HN.1 ?_
        refine s_blx (lv' := [(0, vR 0), (1, vI text), (2, vL x2), (4, vI x4)]) (st' := [vI x4, vI 1, vR 1, vL x2]) B116_53_56 rfl ?_
        refine r_bin (pc' := 57) D116_56 rfl rfl ?_
        intro z27 r28 _; unfold inR at r28
        refine r_vIp (c := 1) (args := [vI z27]) (rest := [vL x2]) (pc' := 60) D116_57 rfl ck_10_virtual_201 TE76 rfl (Nat.le_of_ble_eq_true rfl) ⟨Nat.le_of_ble_eq_true rfl, Nat.le_of_ble_eq_true rfl⟩ sc_1 ⟨rfl, by decide⟩ HN.1 (dp_0 hd rfl) (k76_1 E (dp_n hd rfl) HN z27 (by omega)) ?_
        intro v29 q32
        have q31 := q32; clear q32
        refine r_i2l (pc' := 61) D116_60 rfl (by unfold inR; omega) ?_
        refine s_blx (lv' := [(0, vR 0), (1, vI text), (2, vL x2), (4, vI x4)]) (st' := [vR 0, vL v29, vL x2]) B116_61_62 rfl ?_
        refine r_gfix (r := 58) (pc' := 65) D116_62 rfl gf_10_70_0 HN.1 ?_
        refine s_blx (lv' := [(0, vR 0), (1, vI text), (2, vL x2), (4, vI x4)]) (st' := [vR 0, vR 58, vL v29, vL x2]) B116_65_66 rfl ?_
        refine r_gfix (r := 20) (pc' := 69) D116_66 rfl gf_10_44_0 HN.1 ?_
        refine s_blx (lv' := [(0, vR 0), (1, vI text), (2, vL x2), (4, vI x4)]) (st' := [vR 0, vR 20, vR 58, vL v29, vL x2]) B116_69_70 rfl ?_
        refine r_gfix (r := 1) (pc' := 73) D116_70 rfl gf_10_10_0 HN.1 ?_
        refine r_gfix (r := 9) (pc' := 76) D116_73 rfl gf_10_255_1 HN.1 ?_
        refine s_blx (lv' := [(0, vR 0), (1, vI text), (2, vL x2), (4, vI x4)]) (st' := [vI text, vR 9, vR 20, vR 58, vL v29, vL x2]) B116_76_77 rfl ?_
        have b40 := HN.2 1 12 0 8 rfl
        obtain ⟨hb33, nh34, nc35, a36, b37, r38, r39⟩ := ((h0.fr fN rfl)) (text) (by omega) (by omega)
        refine r_aald (v := vR hb33) (pc' := 78) D116_77 rfl sc_9 (by decide) HN.1 (by omega) a36 ?_
        refine s_blx (lv' := [(0, vR 0), (1, vI text), (2, vL x2), (4, vI x4)]) (st' := [vI x4, vR (hb33), vR 20, vR 58, vL v29, vL x2]) B116_78_80 rfl ?_
        refine r_vI (c := 58) (args := [vR 20, vR (hb33), vI x4]) (rest := [vL v29, vL x2]) (pc' := 83) D116_80 rfl ck_10_virtual_259 TE1 rfl (Nat.le_of_ble_eq_true rfl) ⟨Nat.le_of_ble_eq_true rfl, Nat.le_of_ble_eq_true rfl⟩ sc_58 ⟨rfl, by decide⟩ HN.1 (dp_0 hd rfl) (k1_58_20x E (dp_n hd rfl) HN hb33 x4 nh34 nc35 (b37) (by omega) (by omega) (by omega)) ?_
        intro v41 M42 q46
        obtain ⟨H43, f44, q45⟩ := q46
        have f47 := fN.tr (f44.up rfl)
        have hp48 := i1.fr f44 (by decide)
        have hp49 := b37.fr f44 (by decide)
        refine r_i2l (pc' := 84) D116_83 rfl (by unfold inR; omega) ?_
        refine s_blx (lv' := [(4, vI (x4 + 1)), (2, vL (x2 + (v29 * v41))), (0, vR 0), (1, vI text)]) (st' := []) B116_84_90 rfl ?_
        refine r_goto (tgt := 24) D116_90 rfl ?_
        refine r_loc (lv' := [(0, vR 0), (1, vI text), (2, vL (x2 + (v29 * v41))), (4, vI (x4 + 1))]) ⟨rfl, rfl, rfl, rfl, trivial⟩ rfl rfl ?_
        have g50 : gi M42 1 12 = gi N 1 12 := (f44.g rfl).trans (rfl)
        exact ih (x2 + (v29 * v41)) (x4 + 1) M42 H43 f47 (by omega) (hp48) (by omega) (by omega) (by omega) (by omega) (by omega)
set_option maxRecDepth 4000 in
theorem k116s {base : Nat} {X : Nat → Option mC} {G : Nat → Value} (E : EnvOK base X G) {d : Nat} (hd : 7 ≤ d) {M : mH} (H : HI base M) (text : Int) (h0 : HB base M) (h1 : SF M) (h2 : -2147483648 ≤ text ∧ text ≤ 2147483647) : sOk base X G d T116 [vR 0, vI text] M (pL (fun v M' => HI base M' ∧ Fr [(0, 10), (20, 16), (20, 17), (20, 18), (21, 0), (22, 0), (23, 0), (24, 0), (25, 0), (26, 0), (27, 0), (28, 0), (29, 0), (30, 0), (31, 0), (32, 0), (33, 0), (34, 0), (35, 0), (58, 2), (58, 3), (58, 4), (58, 6), (59, 0), (60, 0), (61, 0)] M M' ∧ (SF M'))) := by
  have f0 : Fr [(0, 10), (20, 16), (20, 17), (20, 18), (21, 0), (22, 0), (23, 0), (24, 0), (25, 0), (26, 0), (27, 0), (28, 0), (29, 0), (30, 0), (31, 0), (32, 0), (33, 0), (34, 0), (35, 0), (58, 2), (58, 3), (58, 4), (58, 6), (59, 0), (60, 0), (61, 0)] M M := Fr.rf
  refine sOk.of (show sRn base X G d T116 0 [(0, vR 0), (1, vI text)] [] M _ from ?_)
  refine s_blx (lv' := [(0, vR 0), (1, vI text)]) (st' := [vR 0]) B116_0_1 rfl ?_
  refine r_gfix (r := 1) (pc' := 4) D116_1 rfl gf_10_10_0 H.1 ?_
  refine s_blx (lv' := [(0, vR 0), (1, vI text)]) (st' := [vI text, vR 1]) B116_4_5 rfl ?_
  refine r_vIp (c := 1) (args := [vI text]) (rest := []) (pc' := 8) D116_5 rfl ck_10_virtual_249 TE66 rfl (Nat.le_of_ble_eq_true rfl) ⟨Nat.le_of_ble_eq_true rfl, Nat.le_of_ble_eq_true rfl⟩ sc_1 ⟨rfl, by decide⟩ H.1 (dp_0 hd rfl) (k66_1x E (dp_n hd rfl) H text (h0) (by omega)) ?_
  intro v1 q5
  obtain ⟨q3, q4⟩ := q5
  refine r_ifc (tgt := 15) (pc' := 11) D116_8 rfl rfl (by unfold inR; omega) (fun (c6 : v1 ≠ 0) => ?_) (fun (c6 : ¬ (v1 ≠ 0)) => ?_)
  · refine s_blx (lv' := [(0, vR 0), (1, vI text)]) (st' := [vR 0]) B116_15_16 rfl ?_
    refine r_vV (c := 0) (args := []) (rest := []) (pc' := 19) D116_16 rfl ck_10_virtual_252 TE138 rfl (Nat.le_of_ble_eq_true rfl) ⟨Nat.le_of_ble_eq_true rfl, Nat.le_of_ble_eq_true rfl⟩ sc_0 ⟨rfl, by decide⟩ H.1 (dp_0 hd rfl) (k138s E (dp_n hd rfl) H (h1)) ?_
    intro M8 q12
    obtain ⟨H9, f10, q11⟩ := q12
    have f13 := f0.tr (f10.up rfl)
    have ktg : TGd M8 := q11
    have ksf : SF M8 := fun _ => ktg
    refine s_blx (lv' := [(4, vI 0), (2, vL 0), (0, vR 0), (1, vI text)]) (st' := []) B116_19_24 rfl ?_
    refine r_loc (lv' := [(0, vR 0), (1, vI text), (2, vL 0), (4, vI 0)]) ⟨rfl, rfl, rfl, rfl, trivial⟩ rfl rfl ?_
    have g14 : gi M8 1 12 = gi M 1 12 := (f10.g rfl).trans (rfl)
    exact (L_k116s E hd H text h0 h1 h2 (((16 - 0) * 1 + 0 : Int) + 1).toNat) 0 0 M8 H9 f13 (by omega) (ksf) (by omega) (by omega) (by omega) (by omega) (by omega)
  · refine r_ldc2 (e := (-1)) (pc' := 14) D116_11 rfl cl_10_269 (by decide) ?_
    exact r_lretL D116_14 rfl (⟨H, f0, h1⟩)
set_option maxRecDepth 4000 in
theorem k126s {base : Nat} {X : Nat → Option mC} {G : Nat → Value} (E : EnvOK base X G) {d : Nat} (hd : 7 ≤ d) {M : mH} (H : HI base M) (text : Int) (sentence : Int) (slot : Int) (meant : Int) (third : Int) (h0 : HB base M) (h1 : SF M) (h2 : -2147483648 ≤ text ∧ text ≤ 2147483647) (h3 : -2147483648 ≤ sentence ∧ sentence ≤ 2147483647) (h4 : -2147483648 ≤ slot ∧ slot ≤ 2147483647) (h5 : -2147483648 ≤ meant ∧ meant ≤ 2147483647) (h6 : -2147483648 ≤ third ∧ third ≤ 2147483647) : sOk base X G d T126 [vR 0, vI text, vI sentence, vI slot, vI meant, vI third] M (pI (fun v M' => HI base M' ∧ Fr [(0, 10), (20, 16), (20, 17), (20, 18), (21, 0), (22, 0), (23, 0), (24, 0), (25, 0), (26, 0), (27, 0), (28, 0), (29, 0), (30, 0), (31, 0), (32, 0), (33, 0), (34, 0), (35, 0), (58, 2), (58, 3), (58, 4), (58, 6), (59, 0), (60, 0), (61, 0)] M M' ∧ (SF M'))) := by
  have f0 : Fr [(0, 10), (20, 16), (20, 17), (20, 18), (21, 0), (22, 0), (23, 0), (24, 0), (25, 0), (26, 0), (27, 0), (28, 0), (29, 0), (30, 0), (31, 0), (32, 0), (33, 0), (34, 0), (35, 0), (58, 2), (58, 3), (58, 4), (58, 6), (59, 0), (60, 0), (61, 0)] M M := Fr.rf
  refine sOk.of (show sRn base X G d T126 0 [(0, vR 0), (1, vI text), (2, vI sentence), (3, vI slot), (4, vI meant), (5, vI third)] [] M _ from ?_)
  refine s_blx (lv' := [(0, vR 0), (1, vI text), (2, vI sentence), (3, vI slot), (4, vI meant), (5, vI third)]) (st' := [vR 0]) B126_0_1 rfl ?_
  refine r_gfix (r := 1) (pc' := 4) D126_1 rfl gf_10_10_0 H.1 ?_
  refine s_blx (lv' := [(0, vR 0), (1, vI text), (2, vI sentence), (3, vI slot), (4, vI meant), (5, vI third)]) (st' := [vI text, vR 1]) B126_4_5 rfl ?_
  refine r_vIp (c := 1) (args := [vI text]) (rest := []) (pc' := 8) D126_5 rfl ck_10_virtual_249 TE66 rfl (Nat.le_of_ble_eq_true rfl) ⟨Nat.le_of_ble_eq_true rfl, Nat.le_of_ble_eq_true rfl⟩ sc_1 ⟨rfl, by decide⟩ H.1 (dp_0 hd rfl) (k66_1x E (dp_n hd rfl) H text (h0) (by omega)) ?_
  intro v1 q5
  obtain ⟨q3, q4⟩ := q5
  refine r_ifc (tgt := 29) (pc' := 11) D126_8 rfl rfl (by unfold inR; omega) (fun (c6 : v1 = 0) => ?_) (fun (c6 : ¬ (v1 = 0)) => ?_)
  · refine s_blx (lv' := [(0, vR 0), (1, vI text), (2, vI sentence), (3, vI slot), (4, vI meant), (5, vI third)]) (st' := [vI (-1)]) B126_29_30 rfl ?_
    exact r_iretI D126_30 rfl (⟨H, f0, h1⟩)
  · refine s_blx (lv' := [(0, vR 0), (1, vI text), (2, vI sentence), (3, vI slot), (4, vI meant), (5, vI third)]) (st' := [vR 0]) B126_11_12 rfl ?_
    refine r_gfix (r := 1) (pc' := 15) D126_12 rfl gf_10_10_0 H.1 ?_
    refine s_blx (lv' := [(0, vR 0), (1, vI text), (2, vI sentence), (3, vI slot), (4, vI meant), (5, vI third)]) (st' := [vI sentence, vR 1]) B126_15_16 rfl ?_
    refine r_vIp (c := 1) (args := [vI sentence]) (rest := []) (pc' := 19) D126_16 rfl ck_10_virtual_186 TE67 rfl (Nat.le_of_ble_eq_true rfl) ⟨Nat.le_of_ble_eq_true rfl, Nat.le_of_ble_eq_true rfl⟩ sc_1 ⟨rfl, by decide⟩ H.1 (dp_0 hd rfl) (k67_1x E (dp_n hd rfl) H sentence (by omega)) ?_
    intro v7 q13
    obtain ⟨q9, q10, q11, q12⟩ := q13
    refine r_ifc (tgt := 29) (pc' := 22) D126_19 rfl rfl (by unfold inR; omega) (fun (c14 : v7 = 0) => ?_) (fun (c14 : ¬ (v7 = 0)) => ?_)
    · refine s_blx (lv' := [(0, vR 0), (1, vI text), (2, vI sentence), (3, vI slot), (4, vI meant), (5, vI third)]) (st' := [vI (-1)]) B126_29_30 rfl ?_
      exact r_iretI D126_30 rfl (⟨H, f0, h1⟩)
    · refine s_blx (lv' := [(0, vR 0), (1, vI text), (2, vI sentence), (3, vI slot), (4, vI meant), (5, vI third)]) (st' := [vI slot]) B126_22_23 rfl ?_
      refine r_sIp (args := [vI slot]) (rest := []) (pc' := 26) D126_23 rfl ck_10_static_135 TE143 rfl (Nat.le_of_ble_eq_true rfl) ⟨Nat.le_of_ble_eq_true rfl, Nat.le_of_ble_eq_true rfl⟩ (by decide) (dp_0 hd rfl) (k143 E (dp_n hd rfl) H slot (by omega)) ?_
      intro v15 q19
      obtain ⟨q17, q18⟩ := q19
      refine r_ifc (tgt := 31) (pc' := 29) D126_26 rfl rfl (by unfold inR; omega) (fun (c20 : v15 ≠ 0) => ?_) (fun (c20 : ¬ (v15 ≠ 0)) => ?_)
      · refine s_blx (lv' := [(0, vR 0), (1, vI text), (2, vI sentence), (3, vI slot), (4, vI meant), (5, vI third)]) (st' := [vI meant]) B126_31_33 rfl ?_
        refine r_sIp (args := [vI meant]) (rest := []) (pc' := 36) D126_33 rfl ck_10_static_153 TE144 rfl (Nat.le_of_ble_eq_true rfl) ⟨Nat.le_of_ble_eq_true rfl, Nat.le_of_ble_eq_true rfl⟩ (by decide) (dp_0 hd rfl) (k144 E (dp_n hd rfl) H meant (by omega)) ?_
        intro v21 q25
        obtain ⟨q23, q24⟩ := q25
        refine r_ifc (tgt := 47) (pc' := 39) D126_36 rfl rfl (by unfold inR; omega) (fun (c26 : v21 = 0) => ?_) (fun (c26 : ¬ (v21 = 0)) => ?_)
        · refine s_blx (lv' := [(0, vR 0), (1, vI text), (2, vI sentence), (3, vI slot), (4, vI meant), (5, vI third)]) (st' := [vI (-1)]) B126_47_48 rfl ?_
          exact r_iretI D126_48 rfl (⟨H, f0, h1⟩)
        · refine s_blx (lv' := [(0, vR 0), (1, vI text), (2, vI sentence), (3, vI slot), (4, vI meant), (5, vI third)]) (st' := [vI third]) B126_39_41 rfl ?_
          refine r_sIp (args := [vI third]) (rest := []) (pc' := 44) D126_41 rfl ck_10_static_153 TE144 rfl (Nat.le_of_ble_eq_true rfl) ⟨Nat.le_of_ble_eq_true rfl, Nat.le_of_ble_eq_true rfl⟩ (by decide) (dp_0 hd rfl) (k144 E (dp_n hd rfl) H third (by omega)) ?_
          intro v27 q31
          obtain ⟨q29, q30⟩ := q31
          refine r_ifc (tgt := 49) (pc' := 47) D126_44 rfl rfl (by unfold inR; omega) (fun (c32 : v27 ≠ 0) => ?_) (fun (c32 : ¬ (v27 ≠ 0)) => ?_)
          · refine s_blx (lv' := [(0, vR 0), (1, vI text), (2, vI sentence), (3, vI slot), (4, vI meant), (5, vI third)]) (st' := [vR 0]) B126_49_50 rfl ?_
            refine r_vV (c := 0) (args := []) (rest := []) (pc' := 53) D126_50 rfl ck_10_virtual_252 TE138 rfl (Nat.le_of_ble_eq_true rfl) ⟨Nat.le_of_ble_eq_true rfl, Nat.le_of_ble_eq_true rfl⟩ sc_0 ⟨rfl, by decide⟩ H.1 (dp_0 hd rfl) (k138s E (dp_n hd rfl) H (h1)) ?_
            intro M34 q38
            obtain ⟨H35, f36, q37⟩ := q38
            have f39 := f0.tr (f36.up rfl)
            have ktg : TGd M34 := q37
            have ksf : SF M34 := fun _ => ktg
            refine s_blx (lv' := [(0, vR 0), (1, vI text), (2, vI sentence), (3, vI slot), (4, vI meant), (5, vI third)]) (st' := [vR 0]) B126_53_54 rfl ?_
            refine r_gfix (r := 58) (pc' := 57) D126_54 rfl gf_10_70_0 H35.1 ?_
            refine s_blx (lv' := [(0, vR 0), (1, vI text), (2, vI sentence), (3, vI slot), (4, vI meant), (5, vI third)]) (st' := [vR 0, vR 58]) B126_57_58 rfl ?_
            refine r_gfix (r := 20) (pc' := 61) D126_58 rfl gf_10_44_0 H35.1 ?_
            refine s_blx (lv' := [(0, vR 0), (1, vI text), (2, vI sentence), (3, vI slot), (4, vI meant), (5, vI third)]) (st' := [vR 0, vR 20, vR 58]) B126_61_62 rfl ?_
            refine r_gfix (r := 1) (pc' := 65) D126_62 rfl gf_10_10_0 H35.1 ?_
            refine r_gfix (r := 9) (pc' := 68) D126_65 rfl gf_10_255_1 H35.1 ?_
            refine s_blx (lv' := [(0, vR 0), (1, vI text), (2, vI sentence), (3, vI slot), (4, vI meant), (5, vI third)]) (st' := [vI text, vR 9, vR 20, vR 58]) B126_68_69 rfl ?_
            have b47 := H35.2 1 12 0 8 rfl
            have g48 : gi M34 1 12 = gi M 1 12 := (f36.g rfl).trans (rfl)
            obtain ⟨hb40, nh41, nc42, a43, b44, r45, r46⟩ := ((h0.fr f39 rfl)) (text) (by omega) (by omega)
            refine r_aald (v := vR hb40) (pc' := 70) D126_69 rfl sc_9 (by decide) H35.1 (by omega) a43 ?_
            refine s_blx (lv' := [(0, vR 0), (1, vI text), (2, vI sentence), (3, vI slot), (4, vI meant), (5, vI third)]) (st' := [vI sentence, vR (hb40), vR 20, vR 58]) B126_70_71 rfl ?_
            refine r_vI (c := 58) (args := [vR 20, vR (hb40), vI sentence]) (rest := []) (pc' := 74) D126_71 rfl ck_10_virtual_259 TE1 rfl (Nat.le_of_ble_eq_true rfl) ⟨Nat.le_of_ble_eq_true rfl, Nat.le_of_ble_eq_true rfl⟩ sc_58 ⟨rfl, by decide⟩ H35.1 (dp_0 hd rfl) (k1_58_20x E (dp_n hd rfl) H35 hb40 sentence nh41 nc42 (b44) (by omega) (by omega) (by omega)) ?_
            intro v49 M50 q54
            obtain ⟨H51, f52, q53⟩ := q54
            have f55 := f39.tr (f52.up rfl)
            have hp56 := ksf.fr f52 (by decide)
            have hp57 := b44.fr f52 (by decide)
            refine s_blx (lv' := [(0, vR 0), (1, vI text), (2, vI sentence), (3, vI slot), (4, vI meant), (5, vI third)]) (st' := [vR 0]) B126_74_76 rfl ?_
            refine r_gfix (r := 1) (pc' := 79) D126_76 rfl gf_10_10_0 H51.1 ?_
            refine r_gfix (r := 7) (pc' := 82) D126_79 rfl gf_10_316_1 H51.1 ?_
            refine s_blx (lv' := [(0, vR 0), (1, vI text), (2, vI sentence), (3, vI slot), (4, vI meant), (5, vI third)]) (st' := [vI ((sentence * 3) + slot), vR 7]) B126_82_87 rfl ?_
            refine r_iald (pc' := 88) D126_87 rfl sc_7 H51.1 (by omega) ?_
            intro w58 e59 r60
            have b_w58 := H51.2 7 ((sentence * 3) + slot) 0 7 rfl
            rw [← e59] at b_w58; clear r60
            refine s_blx (lv' := [(6, vI w58), (0, vR 0), (1, vI text), (2, vI sentence), (3, vI slot), (4, vI meant), (5, vI third)]) (st' := [vR 0]) B126_88_91 rfl ?_
            refine r_gfix (r := 20) (pc' := 94) D126_91 rfl gf_10_44_0 H51.1 ?_
            refine s_blx (lv' := [(6, vI w58), (0, vR 0), (1, vI text), (2, vI sentence), (3, vI slot), (4, vI meant), (5, vI third)]) (st' := [vR 0, vR 20]) B126_94_95 rfl ?_
            refine r_gfix (r := 58) (pc' := 98) D126_95 rfl gf_10_70_0 H51.1 ?_
            refine r_gint (ki := 3) (pc' := 101) D126_98 rfl gf_10_319_58 rfl H51.1 ?_
            intro w61 e62 r63
            unfold inR at r63
            refine s_blx (lv' := [(6, vI w58), (0, vR 0), (1, vI text), (2, vI sentence), (3, vI slot), (4, vI meant), (5, vI third)]) (st' := [vI slot, vI w61, vR 20]) B126_101_102 rfl ?_
            refine r_vIp (c := 20) (args := [vI w61, vI slot]) (rest := []) (pc' := 105) D126_102 rfl ck_10_virtual_322 TE86 rfl (Nat.le_of_ble_eq_true rfl) ⟨Nat.le_of_ble_eq_true rfl, Nat.le_of_ble_eq_true rfl⟩ sc_20 ⟨rfl, by decide⟩ H51.1 (dp_0 hd rfl) (k86_20 E (dp_n hd rfl) H51 w61 slot (by omega) (by omega)) ?_
            intro v64 q67
            have q66 := q67; clear q67
            refine s_blx (lv' := [(7, vI v64), (6, vI w58), (0, vR 0), (1, vI text), (2, vI sentence), (3, vI slot), (4, vI meant), (5, vI third)]) (st' := [vI w58, vI meant]) B126_105_111 rfl ?_
            refine r_icmp (tgt := 118) (pc' := 114) D126_111 rfl rfl (by unfold inR; omega) (fun (c68 : meant = w58) => ?_) (fun (c68 : ¬ (meant = w58)) => ?_)
            · refine s_blx (lv' := [(7, vI v64), (6, vI w58), (0, vR 0), (1, vI text), (2, vI sentence), (3, vI slot), (4, vI meant), (5, vI third)]) (st' := [vI w58, vI v64, vI 0]) B126_118_123 rfl ?_
              refine r_icmp (tgt := 130) (pc' := 126) D126_123 rfl rfl (by unfold inR; omega) (fun (c69 : v64 = w58) => ?_) (fun (c69 : ¬ (v64 = w58)) => ?_)
              · refine s_blx (lv' := [(7, vI v64), (6, vI w58), (0, vR 0), (1, vI text), (2, vI sentence), (3, vI slot), (4, vI meant), (5, vI third)]) (st' := [vI v64, vI third, vI (0 + 0)]) B126_130_136 rfl ?_
                refine r_icmp (tgt := 143) (pc' := 139) D126_136 rfl rfl (by unfold inR; omega) (fun (c70 : third = v64) => ?_) (fun (c70 : ¬ (third = v64)) => ?_)
                · refine s_blx (lv' := [(7, vI v64), (6, vI w58), (0, vR 0), (1, vI text), (2, vI sentence), (3, vI slot), (4, vI meant), (5, vI third)]) (st' := [vI ((0 + 0) + 0)]) B126_143_145 rfl ?_
                  exact r_iretI D126_145 rfl (⟨H51, f55, hp56⟩)
                · refine s_blx (lv' := [(7, vI v64), (6, vI w58), (0, vR 0), (1, vI text), (2, vI sentence), (3, vI slot), (4, vI meant), (5, vI third)]) (st' := [vI 4, vI (0 + 0)]) B126_139_140 rfl ?_
                  refine r_goto (tgt := 144) D126_140 rfl ?_
                  refine s_blx (lv' := [(7, vI v64), (6, vI w58), (0, vR 0), (1, vI text), (2, vI sentence), (3, vI slot), (4, vI meant), (5, vI third)]) (st' := [vI ((0 + 0) + 4)]) B126_144_145 rfl ?_
                  exact r_iretI D126_145 rfl (⟨H51, f55, hp56⟩)
              · refine s_blx (lv' := [(7, vI v64), (6, vI w58), (0, vR 0), (1, vI text), (2, vI sentence), (3, vI slot), (4, vI meant), (5, vI third)]) (st' := [vI 2, vI 0]) B126_126_127 rfl ?_
                refine r_goto (tgt := 131) D126_127 rfl ?_
                refine s_blx (lv' := [(7, vI v64), (6, vI w58), (0, vR 0), (1, vI text), (2, vI sentence), (3, vI slot), (4, vI meant), (5, vI third)]) (st' := [vI v64, vI third, vI (0 + 2)]) B126_131_136 rfl ?_
                refine r_icmp (tgt := 143) (pc' := 139) D126_136 rfl rfl (by unfold inR; omega) (fun (c71 : third = v64) => ?_) (fun (c71 : ¬ (third = v64)) => ?_)
                · refine s_blx (lv' := [(7, vI v64), (6, vI w58), (0, vR 0), (1, vI text), (2, vI sentence), (3, vI slot), (4, vI meant), (5, vI third)]) (st' := [vI ((0 + 2) + 0)]) B126_143_145 rfl ?_
                  exact r_iretI D126_145 rfl (⟨H51, f55, hp56⟩)
                · refine s_blx (lv' := [(7, vI v64), (6, vI w58), (0, vR 0), (1, vI text), (2, vI sentence), (3, vI slot), (4, vI meant), (5, vI third)]) (st' := [vI 4, vI (0 + 2)]) B126_139_140 rfl ?_
                  refine r_goto (tgt := 144) D126_140 rfl ?_
                  refine s_blx (lv' := [(7, vI v64), (6, vI w58), (0, vR 0), (1, vI text), (2, vI sentence), (3, vI slot), (4, vI meant), (5, vI third)]) (st' := [vI ((0 + 2) + 4)]) B126_144_145 rfl ?_
                  exact r_iretI D126_145 rfl (⟨H51, f55, hp56⟩)
            · refine s_blx (lv' := [(7, vI v64), (6, vI w58), (0, vR 0), (1, vI text), (2, vI sentence), (3, vI slot), (4, vI meant), (5, vI third)]) (st' := [vI 1]) B126_114_115 rfl ?_
              refine r_goto (tgt := 119) D126_115 rfl ?_
              refine s_blx (lv' := [(7, vI v64), (6, vI w58), (0, vR 0), (1, vI text), (2, vI sentence), (3, vI slot), (4, vI meant), (5, vI third)]) (st' := [vI w58, vI v64, vI 1]) B126_119_123 rfl ?_
              refine r_icmp (tgt := 130) (pc' := 126) D126_123 rfl rfl (by unfold inR; omega) (fun (c72 : v64 = w58) => ?_) (fun (c72 : ¬ (v64 = w58)) => ?_)
              · refine s_blx (lv' := [(7, vI v64), (6, vI w58), (0, vR 0), (1, vI text), (2, vI sentence), (3, vI slot), (4, vI meant), (5, vI third)]) (st' := [vI v64, vI third, vI (1 + 0)]) B126_130_136 rfl ?_
                refine r_icmp (tgt := 143) (pc' := 139) D126_136 rfl rfl (by unfold inR; omega) (fun (c73 : third = v64) => ?_) (fun (c73 : ¬ (third = v64)) => ?_)
                · refine s_blx (lv' := [(7, vI v64), (6, vI w58), (0, vR 0), (1, vI text), (2, vI sentence), (3, vI slot), (4, vI meant), (5, vI third)]) (st' := [vI ((1 + 0) + 0)]) B126_143_145 rfl ?_
                  exact r_iretI D126_145 rfl (⟨H51, f55, hp56⟩)
                · refine s_blx (lv' := [(7, vI v64), (6, vI w58), (0, vR 0), (1, vI text), (2, vI sentence), (3, vI slot), (4, vI meant), (5, vI third)]) (st' := [vI 4, vI (1 + 0)]) B126_139_140 rfl ?_
                  refine r_goto (tgt := 144) D126_140 rfl ?_
                  refine s_blx (lv' := [(7, vI v64), (6, vI w58), (0, vR 0), (1, vI text), (2, vI sentence), (3, vI slot), (4, vI meant), (5, vI third)]) (st' := [vI ((1 + 0) + 4)]) B126_144_145 rfl ?_
                  exact r_iretI D126_145 rfl (⟨H51, f55, hp56⟩)
              · refine s_blx (lv' := [(7, vI v64), (6, vI w58), (0, vR 0), (1, vI text), (2, vI sentence), (3, vI slot), (4, vI meant), (5, vI third)]) (st' := [vI 2, vI 1]) B126_126_127 rfl ?_
                refine r_goto (tgt := 131) D126_127 rfl ?_
                refine s_blx (lv' := [(7, vI v64), (6, vI w58), (0, vR 0), (1, vI text), (2, vI sentence), (3, vI slot), (4, vI meant), (5, vI third)]) (st' := [vI v64, vI third, vI (1 + 2)]) B126_131_136 rfl ?_
                refine r_icmp (tgt := 143) (pc' := 139) D126_136 rfl rfl (by unfold inR; omega) (fun (c74 : third = v64) => ?_) (fun (c74 : ¬ (third = v64)) => ?_)
                · refine s_blx (lv' := [(7, vI v64), (6, vI w58), (0, vR 0), (1, vI text), (2, vI sentence), (3, vI slot), (4, vI meant), (5, vI third)]) (st' := [vI ((1 + 2) + 0)]) B126_143_145 rfl ?_
                  exact r_iretI D126_145 rfl (⟨H51, f55, hp56⟩)
                · refine s_blx (lv' := [(7, vI v64), (6, vI w58), (0, vR 0), (1, vI text), (2, vI sentence), (3, vI slot), (4, vI meant), (5, vI third)]) (st' := [vI 4, vI (1 + 2)]) B126_139_140 rfl ?_
                  refine r_goto (tgt := 144) D126_140 rfl ?_
                  refine s_blx (lv' := [(7, vI v64), (6, vI w58), (0, vR 0), (1, vI text), (2, vI sentence), (3, vI slot), (4, vI meant), (5, vI third)]) (st' := [vI ((1 + 2) + 4)]) B126_144_145 rfl ?_
                  exact r_iretI D126_145 rfl (⟨H51, f55, hp56⟩)
          · refine s_blx (lv' := [(0, vR 0), (1, vI text), (2, vI sentence), (3, vI slot), (4, vI meant), (5, vI third)]) (st' := [vI (-1)]) B126_47_48 rfl ?_
            exact r_iretI D126_48 rfl (⟨H, f0, h1⟩)
      · refine s_blx (lv' := [(0, vR 0), (1, vI text), (2, vI sentence), (3, vI slot), (4, vI meant), (5, vI third)]) (st' := [vI (-1)]) B126_29_30 rfl ?_
        exact r_iretI D126_30 rfl (⟨H, f0, h1⟩)
set_option maxRecDepth 4000 in
theorem L_k128s {base : Nat} {X : Nat → Option mC} {G : Nat → Value} (E : EnvOK base X G) {d : Nat} (hd : 7 ≤ d) {M : mH} (H : HI base M) (what : Int) (h0 : HB base M) (h1 : SF M) (h2 : -2147483648 ≤ what ∧ what ≤ 2147483647) : ∀ mz : Nat, (∀ (x2 x3 x4 : Int) (N : mH), HI base N → Fr [(0, 10), (20, 16), (20, 17), (20, 18), (21, 0), (22, 0), (23, 0), (24, 0), (25, 0), (26, 0), (27, 0), (28, 0), (29, 0), (30, 0), (31, 0), (32, 0), (33, 0), (34, 0), (35, 0), (58, 2), (58, 3), (58, 4), (58, 6), (59, 0), (60, 0), (61, 0), (76, 0)] M N → (SF N) → (0 ≤ x2) → (x2 ≤ 2147483647) → ((-1) ≤ x3) → (x3 ≤ 15) → (0 ≤ x4) → (x4 ≤ 16) → (0 ≤ what) → (what ≤ 1) → (16 - x4) * 1 + 0 < (mz : Int) → sRn base X G d T128 22 [(0, vR 0), (1, vI what), (2, vI x2), (3, vI x3), (4, vI x4)] [] N (s_Q base (pI (fun v M' => HI base M' ∧ Fr [(0, 10), (20, 16), (20, 17), (20, 18), (21, 0), (22, 0), (23, 0), (24, 0), (25, 0), (26, 0), (27, 0), (28, 0), (29, 0), (30, 0), (31, 0), (32, 0), (33, 0), (34, 0), (35, 0), (58, 2), (58, 3), (58, 4), (58, 6), (59, 0), (60, 0), (61, 0), (76, 0)] M M' ∧ (-2147483648 ≤ v ∧ v ≤ 2147483647) ∧ (SF M'))))) := by
  have f0 : Fr [(0, 10), (20, 16), (20, 17), (20, 18), (21, 0), (22, 0), (23, 0), (24, 0), (25, 0), (26, 0), (27, 0), (28, 0), (29, 0), (30, 0), (31, 0), (32, 0), (33, 0), (34, 0), (35, 0), (58, 2), (58, 3), (58, 4), (58, 6), (59, 0), (60, 0), (61, 0), (76, 0)] M M := Fr.rf
  intro mz
  induction mz with
  | zero => exact fun x2 x3 x4 N _ _ z0 z1 z2 z3 z4 z5 z6 z7 z8 z9 => by omega
  | succ mz ih =>
    intro x2 x3 x4 N HN fN i0 i1 i2 i3 i4 i5 i6 i7 i8 hmu
    refine s_blx (lv' := [(0, vR 0), (1, vI what), (2, vI x2), (3, vI x3), (4, vI x4)]) (st' := [vR 0, vI x4]) B128_22_25 rfl ?_
    refine r_gfix (r := 1) (pc' := 28) D128_25 rfl gf_10_10_0 HN.1 ?_
    refine r_gint (ki := 10) (pc' := 31) D128_28 rfl gf_10_163_1 rfl HN.1 ?_
    intro w15 e16 r17
    have b_w15 := HN.2 1 (10) 0 16 rfl
    rw [← e16] at b_w15; clear r17
    refine r_icmp (tgt := 76) (pc' := 34) D128_31 rfl rfl (by unfold inR; omega) (fun (c18 : w15 ≤ x4) => ?_) (fun (c18 : ¬ (w15 ≤ x4)) => ?_)
    · refine s_blx (lv' := [(0, vR 0), (1, vI what), (2, vI x2), (3, vI x3), (4, vI x4)]) (st' := [vI (-1), vI x3]) B128_76_78 rfl ?_
      refine r_icmp (tgt := 85) (pc' := 81) D128_78 rfl rfl (by unfold inR; omega) (fun (c19 : x3 = (-1)) => ?_) (fun (c19 : ¬ (x3 = (-1))) => ?_)
      · refine s_blx (lv' := [(0, vR 0), (1, vI what), (2, vI x2), (3, vI x3), (4, vI x4)]) (st' := [vI x3]) B128_85_86 rfl ?_
        refine r_goto (tgt := 90) D128_86 rfl ?_
        exact r_iretI D128_90 rfl (⟨HN, fN, by omega, i0⟩)
      · refine s_blx (lv' := [(0, vR 0), (1, vI what), (2, vI x2), (3, vI x3), (4, vI x4)]) (st' := [vI what]) B128_81_82 rfl ?_
        refine r_ifc (tgt := 89) (pc' := 85) D128_82 rfl rfl (by unfold inR; omega) (fun (c20 : what ≠ 0) => ?_) (fun (c20 : ¬ (what ≠ 0)) => ?_)
        · refine s_blx (lv' := [(0, vR 0), (1, vI what), (2, vI x2), (3, vI x3), (4, vI x4)]) (st' := [vI x2]) B128_89_90 rfl ?_
          exact r_iretI D128_90 rfl (⟨HN, fN, by omega, i0⟩)
        · refine s_blx (lv' := [(0, vR 0), (1, vI what), (2, vI x2), (3, vI x3), (4, vI x4)]) (st' := [vI x3]) B128_85_86 rfl ?_
          refine r_goto (tgt := 90) D128_86 rfl ?_
          exact r_iretI D128_90 rfl (⟨HN, fN, by omega, i0⟩)
    · refine s_blx (lv' := [(0, vR 0), (1, vI what), (2, vI x2), (3, vI x3), (4, vI x4)]) (st' := [vR 0]) B128_34_35 rfl ?_
      refine r_gfix (r := 1) (pc' := 38) D128_35 rfl gf_10_10_0 HN.1 ?_
      refine s_blx (lv' := [(0, vR 0), (1, vI what), (2, vI x2), (3, vI x3), (4, vI x4)]) (st' := [vI x4, vR 1]) B128_38_40 rfl ?_
      refine r_vIp (c := 1) (args := [vI x4]) (rest := []) (pc' := 43) D128_40 rfl ck_10_virtual_186 TE67 rfl (Nat.le_of_ble_eq_true rfl) ⟨Nat.le_of_ble_eq_true rfl, Nat.le_of_ble_eq_true rfl⟩ sc_1 ⟨rfl, by decide⟩ HN.1 (dp_0 hd rfl) (k67_1x E (dp_n hd rfl) HN x4 (by omega)) ?_
      intro v21 q27
      obtain ⟨q23, q24, q25, q26⟩ := q27
      refine r_ifc (tgt := 55) (pc' := 46) D128_43 rfl rfl (by unfold inR; omega) (fun (c28 : v21 = 0) => ?_) (fun (c28 : ¬ (v21 = 0)) => ?_)
      · refine s_blx (lv' := [(5, vI 0), (0, vR 0), (1, vI what), (2, vI x2), (3, vI x3), (4, vI x4)]) (st' := [vI x2, vI 0]) B128_55_61 rfl ?_
        refine r_icmp (tgt := 70) (pc' := 64) D128_61 rfl rfl (by unfold inR; omega) (fun (c29 : 0 ≤ x2) => ?_) (fun (c29 : ¬ (0 ≤ x2)) => ?_)
        · refine s_blx (lv' := [(4, vI (x4 + 1)), (5, vI 0), (0, vR 0), (1, vI what), (2, vI x2), (3, vI x3)]) (st' := []) B128_70_73 rfl ?_
          refine r_goto (tgt := 22) D128_73 rfl ?_
          refine r_loc (lv' := [(0, vR 0), (1, vI what), (2, vI x2), (3, vI x3), (4, vI (x4 + 1))]) ⟨rfl, rfl, rfl, rfl, rfl, trivial⟩ rfl rfl ?_
          exact ih x2 x3 (x4 + 1) N HN fN (i0) (by omega) (by omega) (by omega) (by omega) (by omega) (by omega) (by omega) (by omega) (by omega)
        · exfalso; omega
      · refine s_blx (lv' := [(0, vR 0), (1, vI what), (2, vI x2), (3, vI x3), (4, vI x4)]) (st' := [vI x4, vR 0]) B128_46_49 rfl ?_
        refine r_vI (c := 0) (args := [vI x4]) (rest := []) (pc' := 52) D128_49 rfl ck_10_virtual_328 TE141 rfl (Nat.le_of_ble_eq_true rfl) ⟨Nat.le_of_ble_eq_true rfl, Nat.le_of_ble_eq_true rfl⟩ sc_0 ⟨rfl, by decide⟩ HN.1 (dp_0 hd rfl) (k141x E (dp_n hd rfl) HN x4 ((h0.fr fN rfl)) (by omega)) ?_
        intro v30 M31 q35
        obtain ⟨H32, f33, q34⟩ := q35
        have f36 := fN.tr (f33.up rfl)
        have hp37 := i0.fr f33 (by decide)
        refine r_goto (tgt := 56) D128_52 rfl ?_
        refine s_blx (lv' := [(5, vI v30), (0, vR 0), (1, vI what), (2, vI x2), (3, vI x3), (4, vI x4)]) (st' := [vI x2, vI v30]) B128_56_61 rfl ?_
        refine r_icmp (tgt := 70) (pc' := 64) D128_61 rfl rfl (by unfold inR; omega) (fun (c38 : v30 ≤ x2) => ?_) (fun (c38 : ¬ (v30 ≤ x2)) => ?_)
        · refine s_blx (lv' := [(4, vI (x4 + 1)), (5, vI v30), (0, vR 0), (1, vI what), (2, vI x2), (3, vI x3)]) (st' := []) B128_70_73 rfl ?_
          refine r_goto (tgt := 22) D128_73 rfl ?_
          refine r_loc (lv' := [(0, vR 0), (1, vI what), (2, vI x2), (3, vI x3), (4, vI (x4 + 1))]) ⟨rfl, rfl, rfl, rfl, rfl, trivial⟩ rfl rfl ?_
          exact ih x2 x3 (x4 + 1) M31 H32 f36 (hp37) (by omega) (by omega) (by omega) (by omega) (by omega) (by omega) (by omega) (by omega) (by omega)
        · refine s_blx (lv' := [(4, vI (x4 + 1)), (3, vI x4), (2, vI v30), (5, vI v30), (0, vR 0), (1, vI what)]) (st' := []) B128_64_73 rfl ?_
          refine r_goto (tgt := 22) D128_73 rfl ?_
          refine r_loc (lv' := [(0, vR 0), (1, vI what), (2, vI v30), (3, vI x4), (4, vI (x4 + 1))]) ⟨rfl, rfl, rfl, rfl, rfl, trivial⟩ rfl rfl ?_
          exact ih v30 x4 (x4 + 1) M31 H32 f36 (hp37) (by omega) (by omega) (by omega) (by omega) (by omega) (by omega) (by omega) (by omega) (by omega)
set_option maxRecDepth 4000 in
theorem k128s {base : Nat} {X : Nat → Option mC} {G : Nat → Value} (E : EnvOK base X G) {d : Nat} (hd : 7 ≤ d) {M : mH} (H : HI base M) (what : Int) (h0 : HB base M) (h1 : SF M) (h2 : -2147483648 ≤ what ∧ what ≤ 2147483647) : sOk base X G d T128 [vR 0, vI what] M (pI (fun v M' => HI base M' ∧ Fr [(0, 10), (20, 16), (20, 17), (20, 18), (21, 0), (22, 0), (23, 0), (24, 0), (25, 0), (26, 0), (27, 0), (28, 0), (29, 0), (30, 0), (31, 0), (32, 0), (33, 0), (34, 0), (35, 0), (58, 2), (58, 3), (58, 4), (58, 6), (59, 0), (60, 0), (61, 0), (76, 0)] M M' ∧ (-2147483648 ≤ v ∧ v ≤ 2147483647) ∧ (SF M'))) := by
  have f0 : Fr [(0, 10), (20, 16), (20, 17), (20, 18), (21, 0), (22, 0), (23, 0), (24, 0), (25, 0), (26, 0), (27, 0), (28, 0), (29, 0), (30, 0), (31, 0), (32, 0), (33, 0), (34, 0), (35, 0), (58, 2), (58, 3), (58, 4), (58, 6), (59, 0), (60, 0), (61, 0), (76, 0)] M M := Fr.rf
  refine sOk.of (show sRn base X G d T128 0 [(0, vR 0), (1, vI what)] [] M _ from ?_)
  refine s_blx (lv' := [(0, vR 0), (1, vI what)]) (st' := [vI 1, vI 0, vI what]) B128_0_3 rfl ?_
  refine r_sIp (args := [vI what, vI 0, vI 1]) (rest := []) (pc' := 6) D128_3 rfl ck_10_static_102 TE142 rfl (Nat.le_of_ble_eq_true rfl) ⟨Nat.le_of_ble_eq_true rfl, Nat.le_of_ble_eq_true rfl⟩ (by decide) (dp_0 hd rfl) (k142 E (dp_n hd rfl) H what 0 1 (by omega) (by omega) (by omega)) ?_
  intro v1 q6
  obtain ⟨q3, q4, q5⟩ := q6
  refine r_ifc (tgt := 11) (pc' := 9) D128_6 rfl rfl (by unfold inR; omega) (fun (c7 : v1 ≠ 0) => ?_) (fun (c7 : ¬ (v1 ≠ 0)) => ?_)
  · refine s_blx (lv' := [(0, vR 0), (1, vI what)]) (st' := [vR 0]) B128_11_12 rfl ?_
    refine r_vV (c := 0) (args := []) (rest := []) (pc' := 15) D128_12 rfl ck_10_virtual_252 TE138 rfl (Nat.le_of_ble_eq_true rfl) ⟨Nat.le_of_ble_eq_true rfl, Nat.le_of_ble_eq_true rfl⟩ sc_0 ⟨rfl, by decide⟩ H.1 (dp_0 hd rfl) (k138s E (dp_n hd rfl) H (h1)) ?_
    intro M9 q13
    obtain ⟨H10, f11, q12⟩ := q13
    have f14 := f0.tr (f11.up rfl)
    have ktg : TGd M9 := q12
    have ksf : SF M9 := fun _ => ktg
    refine s_blx (lv' := [(4, vI 0), (3, vI (-1)), (2, vI 0), (0, vR 0), (1, vI what)]) (st' := []) B128_15_22 rfl ?_
    refine r_loc (lv' := [(0, vR 0), (1, vI what), (2, vI 0), (3, vI (-1)), (4, vI 0)]) ⟨rfl, rfl, rfl, rfl, rfl, trivial⟩ rfl rfl ?_
    exact (L_k128s E hd H what h0 h1 h2 (((16 - 0) * 1 + 0 : Int) + 1).toNat) 0 (-1) 0 M9 H10 f14 (ksf) (by omega) (by omega) (by omega) (by omega) (by omega) (by omega) (by omega) (by omega) (by omega)
  · refine s_blx (lv' := [(0, vR 0), (1, vI what)]) (st' := [vI (-1)]) B128_9_10 rfl ?_
    exact r_iretI D128_10 rfl (⟨H, f0, by omega, h1⟩)
