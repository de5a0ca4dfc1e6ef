
set_option maxRecDepth 4000 in
theorem k28_14p {base : Nat} {X : Nat → Option mC} {G : Nat → Value} (E : EnvOK base X G) {d : Nat} (hd : 30 ≤ d) {M : mH} (H : HI base M) (depth : Int) (ct : Int) (at_ : Int) (kd : Int) (K : Int → Int) (st : Int → Int) (fo : Int) (pq : Int) (h0 : TKx K st ct M) (h1 : K ct = 22) (h2 : 0 ≤ ct ∧ ct ≤ 400) (h3 : gi M 14 2 = at_) (h4 : gi M 14 3 = kd) (h5 : kd = K at_) (h6 : 0 ≤ at_ ∧ at_ ≤ ct) (h7 : 0 ≤ kd ∧ kd ≤ 511) (h8 : gi M 14 10 = fo) (h9 : gi M 14 4 = pq) (h10 : 0 ≤ pq ∧ pq ≤ 50) (h11 : 0 ≤ depth ∧ depth ≤ 8) (h12 : kd ≠ 9 ∧ kd ≠ 140 ∧ kd ≠ 10 ∧ kd ≠ 11) : sOk base X G d T28 [vR 14, vI depth] M (pI (fun v M' => HI base M' ∧ Fr [(14, 3), (14, 4), (14, 5), (14, 10), (14, 11), (19, 0)] M M' ∧ (v = 0 ∨ v = 1) ∧ (at_ ≤ gi M' 14 2 ∧ gi M' 14 2 ≤ ct) ∧ (gi M' 14 3 = K (gi M' 14 2)) ∧ (0 ≤ gi M' 14 4 ∧ gi M' 14 4 ≤ 50) ∧ (RR K 4 depth at_ pq (gi M' 14 2, gi M' 14 4, -v)) ∧ (FTx st fo (gi M' 14 10) (gi M' 14 2) v))) := by
  have f0 : Fr [(14, 3), (14, 4), (14, 5), (14, 10), (14, 11), (19, 0)] M M := Fr.rf
  refine sOk.of (show sRn base X G d T28 0 [(0, vR 14), (1, vI depth)] [] M _ from ?_)
  have kk := h5
  have kF : FTx st fo fo at_ 1 := FTx.one
  refine s_blx (lv' := [(0, vR 14), (1, vI depth)]) (st' := [vI depth, vR 14]) B28_0_2 rfl ?_
  have g1 : gi M 14 2 = at_ := h3
  have g2 : gi M 14 3 = kd := h4
  have g3 : gi M 14 10 = fo := h8
  have g4 : gi M 14 4 = pq := h9
  refine r_vI (c := 14) (args := [vI depth]) (rest := []) (pc' := 5) D28_2 rfl ck_4_virtual_138 TE29 rfl (Nat.le_of_ble_eq_true rfl) ⟨Nat.le_of_ble_eq_true rfl, Nat.le_of_ble_eq_true rfl⟩ sc_14 ⟨rfl, by decide⟩ H.1 (dp_0 hd rfl) (k29_14p E (dp_n hd rfl) H depth ct at_ kd K st fo pq (h0) (by omega) (by omega) (by omega) (by omega) (by omega) (by omega) (by omega) (by omega) (by omega) (by omega) (by omega)) ?_
  intro v5 M6 q15
  obtain ⟨H7, f8, q9, q10, q11, q12, q13, q14⟩ := q15
  have f16 := f0.tr (f8.up rfl)
  obtain ⟨t17, ht18⟩ : ∃ q, q = gi M6 14 2 := ⟨_, rfl⟩
  have b_t17 := H7.2 14 2 0 400 rfl
  rw [← ht18] at b_t17
  obtain ⟨t19, ht20⟩ : ∃ q, q = gi M6 14 3 := ⟨_, rfl⟩
  have b_t19 := H7.2 14 3 0 511 rfl
  rw [← ht20] at b_t19
  obtain ⟨t21, ht22⟩ : ∃ q, q = gi M6 14 4 := ⟨_, rfl⟩
  have b_t21 := H7.2 14 4 0 50 rfl
  rw [← ht22] at b_t21
  obtain ⟨t23, ht24⟩ : ∃ q, q = gi M6 14 10 := ⟨_, rfl⟩
  have b_t23 := (H7.1.int sc_14 (i := 10) (by decide) (by decide) rfl).2
  unfold inR at b_t23; rw [← ht24] at b_t23
  rw [← ht18] at q10
  rw [← ht18, ← ht20] at q11
  rw [← ht22] at q12
  rw [← ht18, ← ht22] at q13
  rw [← ht18, ← ht24] at q14
  have kS1 := q13; clear q13
  have kk := q11; clear q11
  have kF := kF.tr (by omega) q14
  refine r_ifc (tgt := 10) (pc' := 8) D28_5 rfl rfl (by unfold inR; omega) (fun (c25 : v5 ≠ 0) => ?_) (fun (c25 : ¬ (v5 ≠ 0)) => ?_)
  · refine s_blx (lv' := [(0, vR 14), (1, vI depth)]) (st' := [vR 14]) B28_10_11 rfl ?_
    refine r_gint (ki := 3) (pc' := 14) D28_11 rfl gf_4_22_14 rfl H7.1 ?_
    intro w26 e27 r28
    have e29 : t19 = w26 := (e27.trans (ht20.symm)).symm
    subst e29
    refine s_blx (lv' := [(0, vR 14), (1, vI depth)]) (st' := [vI 160, vI t19]) B28_14_17 rfl ?_
    refine r_icmp (tgt := 26) (pc' := 20) D28_17 rfl rfl (by unfold inR; omega) (fun (c30 : t19 ≠ 160) => ?_) (fun (c30 : ¬ (t19 ≠ 160)) => ?_)
    · refine s_blx (lv' := [(0, vR 14), (1, vI depth)]) (st' := [vR 14]) B28_26_27 rfl ?_
      refine r_gint (ki := 3) (pc' := 30) D28_27 rfl gf_4_22_14 rfl H7.1 ?_
      intro w31 e32 r33
      have e34 : t19 = w31 := (e32.trans (ht20.symm)).symm
      subst e34
      refine s_blx (lv' := [(0, vR 14), (1, vI depth)]) (st' := [vI 162, vI t19]) B28_30_33 rfl ?_
      refine r_icmp (tgt := 42) (pc' := 36) D28_33 rfl rfl (by unfold inR; omega) (fun (c35 : t19 ≠ 162) => ?_) (fun (c35 : ¬ (t19 ≠ 162)) => ?_)
      · refine s_blx (lv' := [(0, vR 14), (1, vI depth)]) (st' := [vR 14]) B28_42_43 rfl ?_
        refine r_gint (ki := 3) (pc' := 46) D28_43 rfl gf_4_22_14 rfl H7.1 ?_
        intro w36 e37 r38
        have e39 : t19 = w36 := (e37.trans (ht20.symm)).symm
        subst e39
        refine s_blx (lv' := [(0, vR 14), (1, vI depth)]) (st' := [vI 161, vI t19]) B28_46_49 rfl ?_
        refine r_icmp (tgt := 58) (pc' := 52) D28_49 rfl rfl (by unfold inR; omega) (fun (c40 : t19 ≠ 161) => ?_) (fun (c40 : ¬ (t19 ≠ 161)) => ?_)
        · refine s_blx (lv' := [(0, vR 14), (1, vI depth)]) (st' := [vR 14]) B28_58_59 rfl ?_
          have g41 : gi M6 14 2 = t17 := ht18.symm
          refine r_vI (c := 14) (args := []) (rest := []) (pc' := 62) D28_59 rfl ck_4_virtual_102 TE36 rfl (Nat.le_of_ble_eq_true rfl) ⟨Nat.le_of_ble_eq_true rfl, Nat.le_of_ble_eq_true rfl⟩ sc_14 ⟨rfl, by decide⟩ H7.1 (dp_0 hd rfl) (k36_14p E (dp_n hd rfl) H7 ct t17 K st ((h0.fr f16 rfl)) (by omega) (by omega) (by omega)) ?_
          intro v42 M43 q49
          obtain ⟨H44, f45, q46, q47, q48⟩ := q49
          have f50 := f16.tr (f45.up rfl)
          obtain ⟨t51, ht52⟩ : ∃ q, q = gi M43 14 10 := ⟨_, rfl⟩
          have b_t51 := (H44.1.int sc_14 (i := 10) (by decide) (by decide) rfl).2
          unfold inR at b_t51; rw [← ht52] at b_t51
          rw [← ht52] at q48
          have kF : FTx st fo t51 t17 v42 := FTx.bad (by omega) q48
          have g53 : gi M43 14 2 = t17 := (f45.g rfl).trans (ht18.symm)
          have g54 : gi M43 14 3 = t19 := (f45.g rfl).trans (ht20.symm)
          have g55 : gi M43 14 4 = t21 := (f45.g rfl).trans (ht22.symm)
          have g56 : gi M43 14 10 = t51 := ht52.symm
          exact r_zretI D28_62 rfl (by omega) (⟨H44, f50, by omega, by first | (rw [g53]; omega) | rw [g53], by rw [((f45.g rfl).trans (ht20.symm)), ((f45.g rfl).trans (ht18.symm))]; exact kk, by first | (rw [g55]; omega) | rw [g55], by rw [((f45.g rfl).trans (ht18.symm)), ((f45.g rfl).trans (ht22.symm))]; exact (RR.sc4 (by omega) (kS1.rs rfl rfl (by omega)) (by omega)).rs rfl rfl (by omega), by rw [(ht52.symm), ((f45.g rfl).trans (ht18.symm))]; first | exact kF | exact kF.lit (by omega) | exact kF.up (by omega) (by omega)⟩)
        · refine s_blx (lv' := [(2, vI 8), (0, vR 14), (1, vI depth)]) (st' := []) B28_52_55 rfl ?_
          refine r_goto (tgt := 63) D28_55 rfl ?_
          refine s_blx (lv' := [(2, vI 8), (0, vR 14), (1, vI depth)]) (st' := [vR 14]) B28_63_64 rfl ?_
          have g57 : gi M6 14 2 = t17 := ht18.symm
          have g58 : gi M6 14 3 = t19 := ht20.symm
          refine r_vV (c := 14) (args := []) (rest := []) (pc' := 67) D28_64 rfl ck_4_virtual_105 TE35 rfl (Nat.le_of_ble_eq_true rfl) ⟨Nat.le_of_ble_eq_true rfl, Nat.le_of_ble_eq_true rfl⟩ sc_14 ⟨rfl, by decide⟩ H7.1 (dp_0 hd rfl) (k35_14p E (dp_n hd rfl) H7 ct t17 t19 K st ((h0.fr f16 rfl)) (by omega) (by omega) (by omega) (by omega) (by omega) (by omega) (by omega) (by omega)) ?_
          intro M60 q67
          obtain ⟨H61, f62, q63, q64, q65, q66⟩ := q67
          have f68 := f16.tr (f62.up rfl)
          obtain ⟨t69, ht70⟩ : ∃ q, q = gi M60 14 2 := ⟨_, rfl⟩
          have b_t69 := H61.2 14 2 0 400 rfl
          rw [← ht70] at b_t69
          obtain ⟨t71, ht72⟩ : ∃ q, q = gi M60 14 3 := ⟨_, rfl⟩
          have b_t71 := H61.2 14 3 0 511 rfl
          rw [← ht72] at b_t71
          rw [← ht70] at q63
          rw [← ht70, ← ht72] at q64
          rw [← ht70] at q65
          rw [← ht72] at q66
          have kk := q64; clear q64
          refine s_blx (lv' := [(2, vI 8), (0, vR 14), (1, vI depth)]) (st' := [vI depth, vR 14]) B28_67_69 rfl ?_
          have g73 : gi M60 14 2 = t69 := ht70.symm
          have g74 : gi M60 14 3 = t71 := ht72.symm
          have g75 : gi M60 14 10 = t23 := (f62.g rfl).trans (ht24.symm)
          have g76 : gi M60 14 4 = t21 := (f62.g rfl).trans (ht22.symm)
          refine r_vI (c := 14) (args := [vI depth]) (rest := []) (pc' := 72) D28_69 rfl ck_4_virtual_138 TE29 rfl (Nat.le_of_ble_eq_true rfl) ⟨Nat.le_of_ble_eq_true rfl, Nat.le_of_ble_eq_true rfl⟩ sc_14 ⟨rfl, by decide⟩ H61.1 (dp_0 hd rfl) (k29_14p E (dp_n hd rfl) H61 depth ct t69 t71 K st t23 t21 ((h0.fr f68 rfl)) (by omega) (by omega) (by omega) (by omega) (by omega) (by omega) (by omega) (by omega) (by omega) (by omega) (by omega)) ?_
          intro v77 M78 q87
          obtain ⟨H79, f80, q81, q82, q83, q84, q85, q86⟩ := q87
          have f88 := f68.tr (f80.up rfl)
          obtain ⟨t89, ht90⟩ : ∃ q, q = gi M78 14 2 := ⟨_, rfl⟩
          have b_t89 := H79.2 14 2 0 400 rfl
          rw [← ht90] at b_t89
          obtain ⟨t91, ht92⟩ : ∃ q, q = gi M78 14 3 := ⟨_, rfl⟩
          have b_t91 := H79.2 14 3 0 511 rfl
          rw [← ht92] at b_t91
          obtain ⟨t93, ht94⟩ : ∃ q, q = gi M78 14 4 := ⟨_, rfl⟩
          have b_t93 := H79.2 14 4 0 50 rfl
          rw [← ht94] at b_t93
          obtain ⟨t95, ht96⟩ : ∃ q, q = gi M78 14 10 := ⟨_, rfl⟩
          have b_t95 := (H79.1.int sc_14 (i := 10) (by decide) (by decide) rfl).2
          unfold inR at b_t95; rw [← ht96] at b_t95
          rw [← ht90] at q82
          rw [← ht90, ← ht92] at q83
          rw [← ht94] at q84
          rw [← ht90, ← ht94] at q85
          rw [← ht90, ← ht96] at q86
          have kS2 := q85; clear q85
          have kk := q83; clear q83
          have kF := kF.tr (by omega) q86
          refine s_blx (lv' := [(3, vI v77), (2, vI 8), (0, vR 14), (1, vI depth)]) (st' := [vI 0, vI 8, vR 14]) B28_72_76 rfl ?_
          refine r_vI (c := 14) (args := [vI 8, vI 0]) (rest := []) (pc' := 79) D28_76 rfl ck_4_virtual_118 TE37 rfl (Nat.le_of_ble_eq_true rfl) ⟨Nat.le_of_ble_eq_true rfl, Nat.le_of_ble_eq_true rfl⟩ sc_14 ⟨rfl, by decide⟩ H79.1 (dp_0 hd rfl) (k37_14p E (dp_n hd rfl) H79 8 0 (by omega) (by omega)) ?_
          intro v97 M98 q102
          obtain ⟨H99, f100, q101⟩ := q102
          have f103 := f88.tr (f100.up rfl)
          refine s_blx (lv' := [(3, vI v77), (2, vI 8), (0, vR 14), (1, vI depth)]) (st' := [vI v77]) B28_79_81 rfl ?_
          have g104 : gi M98 14 2 = t89 := (f100.g rfl).trans (ht90.symm)
          have g105 : gi M98 14 3 = t91 := (f100.g rfl).trans (ht92.symm)
          have g106 : gi M98 14 4 = t93 := (f100.g rfl).trans (ht94.symm)
          have g107 : gi M98 14 10 = t95 := (f100.g rfl).trans (ht96.symm)
          exact r_zretI D28_81 rfl (by omega) (⟨H99, f103, by omega, by first | (rw [g104]; omega) | rw [g104], by rw [((f100.g rfl).trans (ht92.symm)), ((f100.g rfl).trans (ht90.symm))]; exact kk, by first | (rw [g106]; omega) | rw [g106], by rw [((f100.g rfl).trans (ht90.symm)), ((f100.g rfl).trans (ht94.symm))]; exact RR.s4 (by omega) (kS1.rs rfl rfl (by omega)) (by omega) (kS2.at (by omega)), by rw [((f100.g rfl).trans (ht96.symm)), ((f100.g rfl).trans (ht90.symm))]; first | exact kF | exact kF.lit (by omega) | exact kF.up (by omega) (by omega)⟩)
      · refine s_blx (lv' := [(2, vI 7), (0, vR 14), (1, vI depth)]) (st' := []) B28_36_39 rfl ?_
        refine r_goto (tgt := 63) D28_39 rfl ?_
        refine s_blx (lv' := [(2, vI 7), (0, vR 14), (1, vI depth)]) (st' := [vR 14]) B28_63_64 rfl ?_
        have g108 : gi M6 14 2 = t17 := ht18.symm
        have g109 : gi M6 14 3 = t19 := ht20.symm
        refine r_vV (c := 14) (args := []) (rest := []) (pc' := 67) D28_64 rfl ck_4_virtual_105 TE35 rfl (Nat.le_of_ble_eq_true rfl) ⟨Nat.le_of_ble_eq_true rfl, Nat.le_of_ble_eq_true rfl⟩ sc_14 ⟨rfl, by decide⟩ H7.1 (dp_0 hd rfl) (k35_14p E (dp_n hd rfl) H7 ct t17 t19 K st ((h0.fr f16 rfl)) (by omega) (by omega) (by omega) (by omega) (by omega) (by omega) (by omega) (by omega)) ?_
        intro M111 q118
        obtain ⟨H112, f113, q114, q115, q116, q117⟩ := q118
        have f119 := f16.tr (f113.up rfl)
        obtain ⟨t120, ht121⟩ : ∃ q, q = gi M111 14 2 := ⟨_, rfl⟩
        have b_t120 := H112.2 14 2 0 400 rfl
        rw [← ht121] at b_t120
        obtain ⟨t122, ht123⟩ : ∃ q, q = gi M111 14 3 := ⟨_, rfl⟩
        have b_t122 := H112.2 14 3 0 511 rfl
        rw [← ht123] at b_t122
        rw [← ht121] at q114
        rw [← ht121, ← ht123] at q115
        rw [← ht121] at q116
        rw [← ht123] at q117
        have kk := q115; clear q115
        refine s_blx (lv' := [(2, vI 7), (0, vR 14), (1, vI depth)]) (st' := [vI depth, vR 14]) B28_67_69 rfl ?_
        have g124 : gi M111 14 2 = t120 := ht121.symm
        have g125 : gi M111 14 3 = t122 := ht123.symm
        have g126 : gi M111 14 10 = t23 := (f113.g rfl).trans (ht24.symm)
        have g127 : gi M111 14 4 = t21 := (f113.g rfl).trans (ht22.symm)
        refine r_vI (c := 14) (args := [vI depth]) (rest := []) (pc' := 72) D28_69 rfl ck_4_virtual_138 TE29 rfl (Nat.le_of_ble_eq_true rfl) ⟨Nat.le_of_ble_eq_true rfl, Nat.le_of_ble_eq_true rfl⟩ sc_14 ⟨rfl, by decide⟩ H112.1 (dp_0 hd rfl) (k29_14p E (dp_n hd rfl) H112 depth ct t120 t122 K st t23 t21 ((h0.fr f119 rfl)) (by omega) (by omega) (by omega) (by omega) (by omega) (by omega) (by omega) (by omega) (by omega) (by omega) (by omega)) ?_
        intro v128 M129 q138
        obtain ⟨H130, f131, q132, q133, q134, q135, q136, q137⟩ := q138
        have f139 := f119.tr (f131.up rfl)
        obtain ⟨t140, ht141⟩ : ∃ q, q = gi M129 14 2 := ⟨_, rfl⟩
        have b_t140 := H130.2 14 2 0 400 rfl
        rw [← ht141] at b_t140
        obtain ⟨t142, ht143⟩ : ∃ q, q = gi M129 14 3 := ⟨_, rfl⟩
        have b_t142 := H130.2 14 3 0 511 rfl
        rw [← ht143] at b_t142
        obtain ⟨t144, ht145⟩ : ∃ q, q = gi M129 14 4 := ⟨_, rfl⟩
        have b_t144 := H130.2 14 4 0 50 rfl
        rw [← ht145] at b_t144
        obtain ⟨t146, ht147⟩ : ∃ q, q = gi M129 14 10 := ⟨_, rfl⟩
        have b_t146 := (H130.1.int sc_14 (i := 10) (by decide) (by decide) rfl).2
        unfold inR at b_t146; rw [← ht147] at b_t146
        rw [← ht141] at q133
        rw [← ht141, ← ht143] at q134
        rw [← ht145] at q135
        rw [← ht141, ← ht145] at q136
        rw [← ht141, ← ht147] at q137
        have kS2 := q136; clear q136
        have kk := q134; clear q134
        have kF := kF.tr (by omega) q137
        refine s_blx (lv' := [(3, vI v128), (2, vI 7), (0, vR 14), (1, vI depth)]) (st' := [vI 0, vI 7, vR 14]) B28_72_76 rfl ?_
        refine r_vI (c := 14) (args := [vI 7, vI 0]) (rest := []) (pc' := 79) D28_76 rfl ck_4_virtual_118 TE37 rfl (Nat.le_of_ble_eq_true rfl) ⟨Nat.le_of_ble_eq_true rfl, Nat.le_of_ble_eq_true rfl⟩ sc_14 ⟨rfl, by decide⟩ H130.1 (dp_0 hd rfl) (k37_14p E (dp_n hd rfl) H130 7 0 (by omega) (by omega)) ?_
        intro v148 M149 q153
        obtain ⟨H150, f151, q152⟩ := q153
        have f154 := f139.tr (f151.up rfl)
        refine s_blx (lv' := [(3, vI v128), (2, vI 7), (0, vR 14), (1, vI depth)]) (st' := [vI v128]) B28_79_81 rfl ?_
        have g155 : gi M149 14 2 = t140 := (f151.g rfl).trans (ht141.symm)
        have g156 : gi M149 14 3 = t142 := (f151.g rfl).trans (ht143.symm)
        have g157 : gi M149 14 4 = t144 := (f151.g rfl).trans (ht145.symm)
        have g158 : gi M149 14 10 = t146 := (f151.g rfl).trans (ht147.symm)
        exact r_zretI D28_81 rfl (by omega) (⟨H150, f154, by omega, by first | (rw [g155]; omega) | rw [g155], by rw [((f151.g rfl).trans (ht143.symm)), ((f151.g rfl).trans (ht141.symm))]; exact kk, by first | (rw [g157]; omega) | rw [g157], by rw [((f151.g rfl).trans (ht141.symm)), ((f151.g rfl).trans (ht145.symm))]; exact RR.s4 (by omega) (kS1.rs rfl rfl (by omega)) (by omega) (kS2.at (by omega)), by rw [((f151.g rfl).trans (ht147.symm)), ((f151.g rfl).trans (ht141.symm))]; first | exact kF | exact kF.lit (by omega) | exact kF.up (by omega) (by omega)⟩)
    · refine s_blx (lv' := [(2, vI 6), (0, vR 14), (1, vI depth)]) (st' := []) B28_20_23 rfl ?_
      refine r_goto (tgt := 63) D28_23 rfl ?_
      refine s_blx (lv' := [(2, vI 6), (0, vR 14), (1, vI depth)]) (st' := [vR 14]) B28_63_64 rfl ?_
      have g159 : gi M6 14 2 = t17 := ht18.symm
      have g160 : gi M6 14 3 = t19 := ht20.symm
      refine r_vV (c := 14) (args := []) (rest := []) (pc' := 67) D28_64 rfl ck_4_virtual_105 TE35 rfl (Nat.le_of_ble_eq_true rfl) ⟨Nat.le_of_ble_eq_true rfl, Nat.le_of_ble_eq_true rfl⟩ sc_14 ⟨rfl, by decide⟩ H7.1 (dp_0 hd rfl) (k35_14p E (dp_n hd rfl) H7 ct t17 t19 K st ((h0.fr f16 rfl)) (by omega) (by omega) (by omega) (by omega) (by omega) (by omega) (by omega) (by omega)) ?_
      intro M162 q169
      obtain ⟨H163, f164, q165, q166, q167, q168⟩ := q169
      have f170 := f16.tr (f164.up rfl)
      obtain ⟨t171, ht172⟩ : ∃ q, q = gi M162 14 2 := ⟨_, rfl⟩
      have b_t171 := H163.2 14 2 0 400 rfl
      rw [← ht172] at b_t171
      obtain ⟨t173, ht174⟩ : ∃ q, q = gi M162 14 3 := ⟨_, rfl⟩
      have b_t173 := H163.2 14 3 0 511 rfl
      rw [← ht174] at b_t173
      rw [← ht172] at q165
      rw [← ht172, ← ht174] at q166
      rw [← ht172] at q167
      rw [← ht174] at q168
      have kk := q166; clear q166
      refine s_blx (lv' := [(2, vI 6), (0, vR 14), (1, vI depth)]) (st' := [vI depth, vR 14]) B28_67_69 rfl ?_
      have g175 : gi M162 14 2 = t171 := ht172.symm
      have g176 : gi M162 14 3 = t173 := ht174.symm
      have g177 : gi M162 14 10 = t23 := (f164.g rfl).trans (ht24.symm)
      have g178 : gi M162 14 4 = t21 := (f164.g rfl).trans (ht22.symm)
      refine r_vI (c := 14) (args := [vI depth]) (rest := []) (pc' := 72) D28_69 rfl ck_4_virtual_138 TE29 rfl (Nat.le_of_ble_eq_true rfl) ⟨Nat.le_of_ble_eq_true rfl, Nat.le_of_ble_eq_true rfl⟩ sc_14 ⟨rfl, by decide⟩ H163.1 (dp_0 hd rfl) (k29_14p E (dp_n hd rfl) H163 depth ct t171 t173 K st t23 t21 ((h0.fr f170 rfl)) (by omega) (by omega) (by omega) (by omega) (by omega) (by omega) (by omega) (by omega) (by omega) (by omega) (by omega)) ?_
      intro v179 M180 q189
      obtain ⟨H181, f182, q183, q184, q185, q186, q187, q188⟩ := q189
      have f190 := f170.tr (f182.up rfl)
      obtain ⟨t191, ht192⟩ : ∃ q, q = gi M180 14 2 := ⟨_, rfl⟩
      have b_t191 := H181.2 14 2 0 400 rfl
      rw [← ht192] at b_t191
      obtain ⟨t193, ht194⟩ : ∃ q, q = gi M180 14 3 := ⟨_, rfl⟩
      have b_t193 := H181.2 14 3 0 511 rfl
      rw [← ht194] at b_t193
      obtain ⟨t195, ht196⟩ : ∃ q, q = gi M180 14 4 := ⟨_, rfl⟩
      have b_t195 := H181.2 14 4 0 50 rfl
      rw [← ht196] at b_t195
      obtain ⟨t197, ht198⟩ : ∃ q, q = gi M180 14 10 := ⟨_, rfl⟩
      have b_t197 := (H181.1.int sc_14 (i := 10) (by decide) (by decide) rfl).2
      unfold inR at b_t197; rw [← ht198] at b_t197
      rw [← ht192] at q184
      rw [← ht192, ← ht194] at q185
      rw [← ht196] at q186
      rw [← ht192, ← ht196] at q187
      rw [← ht192, ← ht198] at q188
      have kS2 := q187; clear q187
      have kk := q185; clear q185
      have kF := kF.tr (by omega) q188
      refine s_blx (lv' := [(3, vI v179), (2, vI 6), (0, vR 14), (1, vI depth)]) (st' := [vI 0, vI 6, vR 14]) B28_72_76 rfl ?_
      refine r_vI (c := 14) (args := [vI 6, vI 0]) (rest := []) (pc' := 79) D28_76 rfl ck_4_virtual_118 TE37 rfl (Nat.le_of_ble_eq_true rfl) ⟨Nat.le_of_ble_eq_true rfl, Nat.le_of_ble_eq_true rfl⟩ sc_14 ⟨rfl, by decide⟩ H181.1 (dp_0 hd rfl) (k37_14p E (dp_n hd rfl) H181 6 0 (by omega) (by omega)) ?_
      intro v199 M200 q204
      obtain ⟨H201, f202, q203⟩ := q204
      have f205 := f190.tr (f202.up rfl)
      refine s_blx (lv' := [(3, vI v179), (2, vI 6), (0, vR 14), (1, vI depth)]) (st' := [vI v179]) B28_79_81 rfl ?_
      have g206 : gi M200 14 2 = t191 := (f202.g rfl).trans (ht192.symm)
      have g207 : gi M200 14 3 = t193 := (f202.g rfl).trans (ht194.symm)
      have g208 : gi M200 14 4 = t195 := (f202.g rfl).trans (ht196.symm)
      have g209 : gi M200 14 10 = t197 := (f202.g rfl).trans (ht198.symm)
      exact r_zretI D28_81 rfl (by omega) (⟨H201, f205, by omega, by first | (rw [g206]; omega) | rw [g206], by rw [((f202.g rfl).trans (ht194.symm)), ((f202.g rfl).trans (ht192.symm))]; exact kk, by first | (rw [g208]; omega) | rw [g208], by rw [((f202.g rfl).trans (ht192.symm)), ((f202.g rfl).trans (ht196.symm))]; exact RR.s4 (by omega) (kS1.rs rfl rfl (by omega)) (by omega) (kS2.at (by omega)), by rw [((f202.g rfl).trans (ht198.symm)), ((f202.g rfl).trans (ht192.symm))]; first | exact kF | exact kF.lit (by omega) | exact kF.up (by omega) (by omega)⟩)
  · refine s_blx (lv' := [(0, vR 14), (1, vI depth)]) (st' := [vI 0]) B28_8_9 rfl ?_
    have g210 : gi M6 14 2 = t17 := ht18.symm
    have g211 : gi M6 14 3 = t19 := ht20.symm
    have g212 : gi M6 14 4 = t21 := ht22.symm
    have g213 : gi M6 14 10 = t23 := ht24.symm
    exact r_zretI D28_9 rfl (by omega) (⟨H7, f16, by omega, by first | (rw [g210]; omega) | rw [g210], by rw [(ht20.symm), (ht18.symm)]; exact kk, by first | (rw [g212]; omega) | rw [g212], by rw [(ht18.symm), (ht22.symm)]; exact (RR.sb4 (by omega) (kS1.rs rfl rfl (by omega))).rs rfl rfl (by omega), by rw [(ht24.symm), (ht18.symm)]; first | exact kF | exact kF.lit (by omega) | exact kF.up (by omega) (by omega)⟩)
set_option maxRecDepth 4000 in
theorem L_k27_14p {base : Nat} {X : Nat → Option mC} {G : Nat → Value} (E : EnvOK base X G) {rr : Nat} (ihr : ∀ {d : Nat} (_ : 30 + 3 * rr ≤ d) {M : mH} (_ : HI base M) (depth : Int) (ct : Int) (at_ : Int) (kd : Int) (K : Int → Int) (st : Int → Int) (fo : Int) (pq : Int), (TKx K st ct M) → (K ct = 22) → (0 ≤ ct ∧ ct ≤ 400) → (gi M 14 2 = at_) → (gi M 14 3 = kd) → (kd = K at_) → (0 ≤ at_ ∧ at_ ≤ ct) → (0 ≤ kd ∧ kd ≤ 511) → (gi M 14 10 = fo) → (gi M 14 4 = pq) → (0 ≤ pq ∧ pq ≤ 50) → (0 ≤ depth ∧ depth ≤ 8) → 8 - depth < ((rr : Nat) : Int) → sOk base X G d T25 [vR 14, vI depth] M (pI (fun v M' => HI base M' ∧ Fr [(14, 3), (14, 4), (14, 5), (14, 10), (14, 11), (19, 0)] M M' ∧ (v = 0 ∨ v = 1) ∧ (at_ ≤ gi M' 14 2 ∧ gi M' 14 2 ≤ ct) ∧ (gi M' 14 3 = K (gi M' 14 2)) ∧ (0 ≤ gi M' 14 4 ∧ gi M' 14 4 ≤ 50) ∧ (RR K 0 depth at_ pq (gi M' 14 2, gi M' 14 4, -v)) ∧ (FTx st fo (gi M' 14 10) (gi M' 14 2) v)))) {d : Nat} (hd : 31 + 3 * rr ≤ d) {M : mH} (H : HI base M) (depth : Int) (ct : Int) (at_ : Int) (kd : Int) (K : Int → Int) (st : Int → Int) (fo : Int) (pq : Int) (h0 : TKx K st ct M) (h1 : K ct = 22) (h2 : 0 ≤ ct ∧ ct ≤ 400) (h3 : gi M 14 2 = at_) (h4 : gi M 14 3 = kd) (h5 : kd = K at_) (h6 : 0 ≤ at_ ∧ at_ ≤ ct) (h7 : 0 ≤ kd ∧ kd ≤ 511) (h8 : gi M 14 10 = fo) (h9 : gi M 14 4 = pq) (h10 : 0 ≤ pq ∧ pq ≤ 50) (h11 : 0 ≤ depth ∧ depth ≤ 8) (h12 : 8 - depth < (rr : Int) + 1) : ∀ mz : Nat, (∀ (x2 x3 a0 k0 : Int) (N : mH), HI base N → Fr [(14, 3), (14, 4), (14, 5), (14, 10), (14, 11), (19, 0)] M N → (gi N 14 2 = a0) → (gi N 14 3 = k0) → (k0 = K a0) → (at_ ≤ a0 ∧ a0 ≤ ct) → (0 ≤ k0 ∧ k0 ≤ 511) → (NTx K depth at_ pq a0) → (gi N 14 4 = pq) → (gi N 14 10 = fo) → (0 ≤ x2 ∧ x2 ≤ 400) → (x2 = x3) → (x2 = a0 - at_) → (0 ≤ x2) → (x2 ≤ 401) → (0 ≤ x3) → (x3 ≤ 400) → (400 - x3) * 1 + 0 < (mz : Int) → sRn base X G d T27 4 [(0, vR 14), (1, vI depth), (2, vI x2), (3, vI x3)] [] N (s_Q base (pI (fun v M' => HI base M' ∧ Fr [(14, 3), (14, 4), (14, 5), (14, 10), (14, 11), (19, 0)] M M' ∧ (v = 0 ∨ v = 1) ∧ (at_ ≤ gi M' 14 2 ∧ gi M' 14 2 ≤ ct) ∧ (gi M' 14 3 = K (gi M' 14 2)) ∧ (0 ≤ gi M' 14 4 ∧ gi M' 14 4 ≤ 50) ∧ (RR K 4 depth at_ pq (gi M' 14 2, gi M' 14 4, -v)) ∧ (FTx st fo (gi M' 14 10) (gi M' 14 2) v))))) := by
  have f0 : Fr [(14, 3), (14, 4), (14, 5), (14, 10), (14, 11), (19, 0)] M M := Fr.rf
  intro mz
  induction mz with
  | zero => exact fun x2 x3 a0 k0 N _ _ z0 z1 z2 z3 z4 z5 z6 z7 z8 z9 z10 z11 z12 z13 z14 z15 => by omega
  | succ mz ih =>
    intro x2 x3 a0 k0 N HN fN i0 i1 i2 i3 i4 i5 i6 i7 i8 i9 i10 i11 i12 i13 i14 hmu
    have kn : a0 = ct → K a0 = 22 := fun h => by rw [h]; exact h1
    have kk := i2
    have kF : FTx st fo fo at_ 1 := FTx.one
    refine s_blx (lv' := [(0, vR 14), (1, vI depth), (2, vI x2), (3, vI x3)]) (st' := [vI 400, vI x3]) B27_4_8 rfl ?_
    refine r_icmp (tgt := 33) (pc' := 11) D27_8 rfl rfl (by unfold inR; omega) (fun (c5 : 400 ≤ x3) => ?_) (fun (c5 : ¬ (400 ≤ x3)) => ?_)
    · refine s_blx (lv' := [(0, vR 14), (1, vI depth), (2, vI x2), (3, vI x3)]) (st' := [vR 14]) B27_33_34 rfl ?_
      refine r_gint (ki := 3) (pc' := 37) D27_34 rfl gf_4_22_14 rfl HN.1 ?_
      intro w6 e7 r8
      have e9 : k0 = w6 := (e7.trans (i1)).symm
      subst e9
      refine s_blx (lv' := [(0, vR 14), (1, vI depth), (2, vI x2), (3, vI x3)]) (st' := [vI 140, vI k0]) B27_37_40 rfl ?_
      refine r_icmp (tgt := 79) (pc' := 43) D27_40 rfl rfl (by unfold inR; omega) (fun (c10 : k0 ≠ 140) => ?_) (fun (c10 : ¬ (k0 ≠ 140)) => ?_)
      · refine s_blx (lv' := [(0, vR 14), (1, vI depth), (2, vI x2), (3, vI x3)]) (st' := [vR 14]) B27_79_80 rfl ?_
        refine r_gint (ki := 3) (pc' := 83) D27_80 rfl gf_4_22_14 rfl HN.1 ?_
        intro w11 e12 r13
        have e14 : k0 = w11 := (e12.trans (i1)).symm
        subst e14
        refine s_blx (lv' := [(0, vR 14), (1, vI depth), (2, vI x2), (3, vI x3)]) (st' := [vI 10, vI k0]) B27_83_85 rfl ?_
        refine r_icmp (tgt := 113) (pc' := 88) D27_85 rfl rfl (by unfold inR; omega) (fun (c15 : k0 < 10) => ?_) (fun (c15 : ¬ (k0 < 10)) => ?_)
        · refine s_blx (lv' := [(0, vR 14), (1, vI depth), (2, vI x2), (3, vI x3)]) (st' := [vI depth, vR 14]) B27_113_115 rfl ?_
          have g16 : gi N 14 2 = a0 := i0
          have g17 : gi N 14 3 = k0 := i1
          have g18 : gi N 14 10 = fo := i7
          have g19 : gi N 14 4 = pq := i6
          refine r_vI (c := 14) (args := [vI depth]) (rest := []) (pc' := 118) D27_115 rfl ck_4_virtual_135 TE28 rfl (Nat.le_of_ble_eq_true rfl) ⟨Nat.le_of_ble_eq_true rfl, Nat.le_of_ble_eq_true rfl⟩ sc_14 ⟨rfl, by decide⟩ HN.1 (by omega) (k28_14p E (by omega) HN depth ct a0 k0 K st fo pq ((h0.fr fN rfl)) (by omega) (by omega) (by omega) (by omega) (by omega) (by omega) (by omega) (by omega) (by omega) (by omega) (by omega) (by omega)) ?_
          intro v20 M21 q30
          obtain ⟨H22, f23, q24, q25, q26, q27, q28, q29⟩ := q30
          have f31 := fN.tr (f23.up rfl)
          obtain ⟨t32, ht33⟩ : ∃ q, q = gi M21 14 2 := ⟨_, rfl⟩
          have b_t32 := H22.2 14 2 0 400 rfl
          rw [← ht33] at b_t32
          obtain ⟨t34, ht35⟩ : ∃ q, q = gi M21 14 3 := ⟨_, rfl⟩
          have b_t34 := H22.2 14 3 0 511 rfl
          rw [← ht35] at b_t34
          obtain ⟨t36, ht37⟩ : ∃ q, q = gi M21 14 4 := ⟨_, rfl⟩
          have b_t36 := H22.2 14 4 0 50 rfl
          rw [← ht37] at b_t36
          obtain ⟨t38, ht39⟩ : ∃ q, q = gi M21 14 10 := ⟨_, rfl⟩
          have b_t38 := (H22.1.int sc_14 (i := 10) (by decide) (by decide) rfl).2
          unfold inR at b_t38; rw [← ht39] at b_t38
          rw [← ht33] at q25
          rw [← ht33, ← ht35] at q26
          rw [← ht37] at q27
          rw [← ht33, ← ht37] at q28
          rw [← ht33, ← ht39] at q29
          have kC := q28; clear q28
          have kk := q26; clear q26
          have kF := kF.tr (by omega) q29
          refine s_blx (lv' := [(3, vI v20), (0, vR 14), (1, vI depth), (2, vI x2)]) (st' := [vI v20]) B27_118_120 rfl ?_
          refine r_ifc (tgt := 138) (pc' := 123) D27_120 rfl rfl (by unfold inR; omega) (fun (c40 : v20 = 0) => ?_) (fun (c40 : ¬ (v20 = 0)) => ?_)
          · refine s_blx (lv' := [(3, vI v20), (0, vR 14), (1, vI depth), (2, vI x2)]) (st' := [vI v20]) B27_138_139 rfl ?_
            have g41 : gi M21 14 2 = t32 := ht33.symm
            have g42 : gi M21 14 3 = t34 := ht35.symm
            have g43 : gi M21 14 4 = t36 := ht37.symm
            have g44 : gi M21 14 10 = t38 := ht39.symm
            exact r_zretI D27_139 rfl (by omega) (⟨H22, f31, by omega, by first | (rw [g41]; omega) | rw [g41], by rw [(ht35.symm), (ht33.symm)]; exact kk, by first | (rw [g43]; omega) | rw [g43], by rw [(ht33.symm), (ht37.symm)]; exact i5 _ (by first | exact (RR.o4 (by omega) (by omega) ((kS.at (by omega)).rs rfl rfl (by omega)) (kG (by omega))).rs (by omega) (by omega) (by omega) | exact (RR.c4 (by omega) (by omega) ((kS.at (by omega)).rs rfl rfl (by omega)) (kH (by omega))).rs (by omega) (by omega) (by omega) | exact (RR.b4 (by omega) (by omega) ((kS.at (by omega)).rs rfl rfl (by omega))).rs (by omega) (by omega) (by omega) | exact (RR.p4 (by omega) kP).rs (by omega) (by omega) (by omega) | exact kC.rs (by omega) (by omega) (by omega) | exact (RR.d4 (by omega) (by omega)).rs (by omega) (by omega) (by omega)), by rw [(ht39.symm), (ht33.symm)]; first | exact kF | exact kF.lit (by omega) | exact kF.up (by omega) (by omega)⟩)
          · refine s_blx (lv' := [(3, vI v20), (0, vR 14), (1, vI depth), (2, vI x2)]) (st' := [vI 2, vI x2]) B27_123_125 rfl ?_
            refine r_irem (pc' := 126) D27_125 rfl (by omega) ?_
            refine s_blx (lv' := [(3, vI v20), (0, vR 14), (1, vI depth), (2, vI x2)]) (st' := [vI 1, vI (x2 % 2)]) B27_126_127 rfl ?_
            refine r_icmp (tgt := 138) (pc' := 130) D27_127 rfl rfl (by unfold inR; omega) (fun (c45 : (x2 % 2) ≠ 1) => ?_) (fun (c45 : ¬ ((x2 % 2) ≠ 1)) => ?_)
            · refine s_blx (lv' := [(3, vI v20), (0, vR 14), (1, vI depth), (2, vI x2)]) (st' := [vI v20]) B27_138_139 rfl ?_
              have g46 : gi M21 14 2 = t32 := ht33.symm
              have g47 : gi M21 14 3 = t34 := ht35.symm
              have g48 : gi M21 14 4 = t36 := ht37.symm
              have g49 : gi M21 14 10 = t38 := ht39.symm
              exact r_zretI D27_139 rfl (by omega) (⟨H22, f31, by omega, by first | (rw [g46]; omega) | rw [g46], by rw [(ht35.symm), (ht33.symm)]; exact kk, by first | (rw [g48]; omega) | rw [g48], by rw [(ht33.symm), (ht37.symm)]; exact i5 _ (by first | exact (RR.o4 (by omega) (by omega) ((kS.at (by omega)).rs rfl rfl (by omega)) (kG (by omega))).rs (by omega) (by omega) (by omega) | exact (RR.c4 (by omega) (by omega) ((kS.at (by omega)).rs rfl rfl (by omega)) (kH (by omega))).rs (by omega) (by omega) (by omega) | exact (RR.b4 (by omega) (by omega) ((kS.at (by omega)).rs rfl rfl (by omega))).rs (by omega) (by omega) (by omega) | exact (RR.p4 (by omega) kP).rs (by omega) (by omega) (by omega) | exact kC.rs (by omega) (by omega) (by omega) | exact (RR.d4 (by omega) (by omega)).rs (by omega) (by omega) (by omega)), by rw [(ht39.symm), (ht33.symm)]; first | exact kF | exact kF.lit (by omega) | exact kF.up (by omega) (by omega)⟩)
            · refine s_blx (lv' := [(3, vI v20), (0, vR 14), (1, vI depth), (2, vI x2)]) (st' := [vI 0, vI 9, vR 14]) B27_130_134 rfl ?_
              refine r_vI (c := 14) (args := [vI 9, vI 0]) (rest := []) (pc' := 137) D27_134 rfl ck_4_virtual_118 TE37 rfl (Nat.le_of_ble_eq_true rfl) ⟨Nat.le_of_ble_eq_true rfl, Nat.le_of_ble_eq_true rfl⟩ sc_14 ⟨rfl, by decide⟩ H22.1 (by omega) (k37_14p E (by omega) H22 9 0 (by omega) (by omega)) ?_
              intro v50 M51 q55
              obtain ⟨H52, f53, q54⟩ := q55
              have f56 := f31.tr (f53.up rfl)
              refine s_blx (lv' := [(3, vI v20), (0, vR 14), (1, vI depth), (2, vI x2)]) (st' := [vI v20]) B27_137_139 rfl ?_
              have g57 : gi M51 14 2 = t32 := (f53.g rfl).trans (ht33.symm)
              have g58 : gi M51 14 3 = t34 := (f53.g rfl).trans (ht35.symm)
              have g59 : gi M51 14 4 = t36 := (f53.g rfl).trans (ht37.symm)
              have g60 : gi M51 14 10 = t38 := (f53.g rfl).trans (ht39.symm)
              exact r_zretI D27_139 rfl (by omega) (⟨H52, f56, by omega, by first | (rw [g57]; omega) | rw [g57], by rw [((f53.g rfl).trans (ht35.symm)), ((f53.g rfl).trans (ht33.symm))]; exact kk, by first | (rw [g59]; omega) | rw [g59], by rw [((f53.g rfl).trans (ht33.symm)), ((f53.g rfl).trans (ht37.symm))]; exact i5 _ (by first | exact (RR.o4 (by omega) (by omega) ((kS.at (by omega)).rs rfl rfl (by omega)) (kG (by omega))).rs (by omega) (by omega) (by omega) | exact (RR.c4 (by omega) (by omega) ((kS.at (by omega)).rs rfl rfl (by omega)) (kH (by omega))).rs (by omega) (by omega) (by omega) | exact (RR.b4 (by omega) (by omega) ((kS.at (by omega)).rs rfl rfl (by omega))).rs (by omega) (by omega) (by omega) | exact (RR.p4 (by omega) kP).rs (by omega) (by omega) (by omega) | exact kC.rs (by omega) (by omega) (by omega) | exact (RR.d4 (by omega) (by omega)).rs (by omega) (by omega) (by omega)), by rw [((f53.g rfl).trans (ht39.symm)), ((f53.g rfl).trans (ht33.symm))]; first | exact kF | exact kF.lit (by omega) | exact kF.up (by omega) (by omega)⟩)
        · refine s_blx (lv' := [(0, vR 14), (1, vI depth), (2, vI x2), (3, vI x3)]) (st' := [vR 14]) B27_88_89 rfl ?_
          refine r_gint (ki := 3) (pc' := 92) D27_89 rfl gf_4_22_14 rfl HN.1 ?_
          intro w61 e62 r63
          have e64 : k0 = w61 := (e62.trans (i1)).symm
          subst e64
          refine s_blx (lv' := [(0, vR 14), (1, vI depth), (2, vI x2), (3, vI x3)]) (st' := [vI 12, vI k0]) B27_92_94 rfl ?_
          refine r_icmp (tgt := 113) (pc' := 97) D27_94 rfl rfl (by unfold inR; omega) (fun (c65 : 12 ≤ k0) => ?_) (fun (c65 : ¬ (12 ≤ k0)) => ?_)
          · refine s_blx (lv' := [(0, vR 14), (1, vI depth), (2, vI x2), (3, vI x3)]) (st' := [vI depth, vR 14]) B27_113_115 rfl ?_
            have g66 : gi N 14 2 = a0 := i0
            have g67 : gi N 14 3 = k0 := i1
            have g68 : gi N 14 10 = fo := i7
            have g69 : gi N 14 4 = pq := i6
            refine r_vI (c := 14) (args := [vI depth]) (rest := []) (pc' := 118) D27_115 rfl ck_4_virtual_135 TE28 rfl (Nat.le_of_ble_eq_true rfl) ⟨Nat.le_of_ble_eq_true rfl, Nat.le_of_ble_eq_true rfl⟩ sc_14 ⟨rfl, by decide⟩ HN.1 (by omega) (k28_14p E (by omega) HN depth ct a0 k0 K st fo pq ((h0.fr fN rfl)) (by omega) (by omega) (by omega) (by omega) (by omega) (by omega) (by omega) (by omega) (by omega) (by omega) (by omega) (by omega)) ?_
            intro v70 M71 q80
            obtain ⟨H72, f73, q74, q75, q76, q77, q78, q79⟩ := q80
            have f81 := fN.tr (f73.up rfl)
            obtain ⟨t82, ht83⟩ : ∃ q, q = gi M71 14 2 := ⟨_, rfl⟩
            have b_t82 := H72.2 14 2 0 400 rfl
            rw [← ht83] at b_t82
            obtain ⟨t84, ht85⟩ : ∃ q, q = gi M71 14 3 := ⟨_, rfl⟩
            have b_t84 := H72.2 14 3 0 511 rfl
            rw [← ht85] at b_t84
            obtain ⟨t86, ht87⟩ : ∃ q, q = gi M71 14 4 := ⟨_, rfl⟩
            have b_t86 := H72.2 14 4 0 50 rfl
            rw [← ht87] at b_t86
            obtain ⟨t88, ht89⟩ : ∃ q, q = gi M71 14 10 := ⟨_, rfl⟩
            have b_t88 := (H72.1.int sc_14 (i := 10) (by decide) (by decide) rfl).2
            unfold inR at b_t88; rw [← ht89] at b_t88
            rw [← ht83] at q75
            rw [← ht83, ← ht85] at q76
            rw [← ht87] at q77
            rw [← ht83, ← ht87] at q78
            rw [← ht83, ← ht89] at q79
            have kC := q78; clear q78
            have kk := q76; clear q76
            have kF := kF.tr (by omega) q79
            refine s_blx (lv' := [(3, vI v70), (0, vR 14), (1, vI depth), (2, vI x2)]) (st' := [vI v70]) B27_118_120 rfl ?_
            refine r_ifc (tgt := 138) (pc' := 123) D27_120 rfl rfl (by unfold inR; omega) (fun (c90 : v70 = 0) => ?_) (fun (c90 : ¬ (v70 = 0)) => ?_)
            · refine s_blx (lv' := [(3, vI v70), (0, vR 14), (1, vI depth), (2, vI x2)]) (st' := [vI v70]) B27_138_139 rfl ?_
              have g91 : gi M71 14 2 = t82 := ht83.symm
              have g92 : gi M71 14 3 = t84 := ht85.symm
              have g93 : gi M71 14 4 = t86 := ht87.symm
              have g94 : gi M71 14 10 = t88 := ht89.symm
              exact r_zretI D27_139 rfl (by omega) (⟨H72, f81, by omega, by first | (rw [g91]; omega) | rw [g91], by rw [(ht85.symm), (ht83.symm)]; exact kk, by first | (rw [g93]; omega) | rw [g93], by rw [(ht83.symm), (ht87.symm)]; exact i5 _ (by first | exact (RR.o4 (by omega) (by omega) ((kS.at (by omega)).rs rfl rfl (by omega)) (kG (by omega))).rs (by omega) (by omega) (by omega) | exact (RR.c4 (by omega) (by omega) ((kS.at (by omega)).rs rfl rfl (by omega)) (kH (by omega))).rs (by omega) (by omega) (by omega) | exact (RR.b4 (by omega) (by omega) ((kS.at (by omega)).rs rfl rfl (by omega))).rs (by omega) (by omega) (by omega) | exact (RR.p4 (by omega) kP).rs (by omega) (by omega) (by omega) | exact kC.rs (by omega) (by omega) (by omega) | exact (RR.d4 (by omega) (by omega)).rs (by omega) (by omega) (by omega)), by rw [(ht89.symm), (ht83.symm)]; first | exact kF | exact kF.lit (by omega) | exact kF.up (by omega) (by omega)⟩)
            · refine s_blx (lv' := [(3, vI v70), (0, vR 14), (1, vI depth), (2, vI x2)]) (st' := [vI 2, vI x2]) B27_123_125 rfl ?_
              refine r_irem (pc' := 126) D27_125 rfl (by omega) ?_
              refine s_blx (lv' := [(3, vI v70), (0, vR 14), (1, vI depth), (2, vI x2)]) (st' := [vI 1, vI (x2 % 2)]) B27_126_127 rfl ?_
              refine r_icmp (tgt := 138) (pc' := 130) D27_127 rfl rfl (by unfold inR; omega) (fun (c95 : (x2 % 2) ≠ 1) => ?_) (fun (c95 : ¬ ((x2 % 2) ≠ 1)) => ?_)
              · refine s_blx (lv' := [(3, vI v70), (0, vR 14), (1, vI depth), (2, vI x2)]) (st' := [vI v70]) B27_138_139 rfl ?_
                have g96 : gi M71 14 2 = t82 := ht83.symm
                have g97 : gi M71 14 3 = t84 := ht85.symm
                have g98 : gi M71 14 4 = t86 := ht87.symm
                have g99 : gi M71 14 10 = t88 := ht89.symm
                exact r_zretI D27_139 rfl (by omega) (⟨H72, f81, by omega, by first | (rw [g96]; omega) | rw [g96], by rw [(ht85.symm), (ht83.symm)]; exact kk, by first | (rw [g98]; omega) | rw [g98], by rw [(ht83.symm), (ht87.symm)]; exact i5 _ (by first | exact (RR.o4 (by omega) (by omega) ((kS.at (by omega)).rs rfl rfl (by omega)) (kG (by omega))).rs (by omega) (by omega) (by omega) | exact (RR.c4 (by omega) (by omega) ((kS.at (by omega)).rs rfl rfl (by omega)) (kH (by omega))).rs (by omega) (by omega) (by omega) | exact (RR.b4 (by omega) (by omega) ((kS.at (by omega)).rs rfl rfl (by omega))).rs (by omega) (by omega) (by omega) | exact (RR.p4 (by omega) kP).rs (by omega) (by omega) (by omega) | exact kC.rs (by omega) (by omega) (by omega) | exact (RR.d4 (by omega) (by omega)).rs (by omega) (by omega) (by omega)), by rw [(ht89.symm), (ht83.symm)]; first | exact kF | exact kF.lit (by omega) | exact kF.up (by omega) (by omega)⟩)
              · refine s_blx (lv' := [(3, vI v70), (0, vR 14), (1, vI depth), (2, vI x2)]) (st' := [vI 0, vI 9, vR 14]) B27_130_134 rfl ?_
                refine r_vI (c := 14) (args := [vI 9, vI 0]) (rest := []) (pc' := 137) D27_134 rfl ck_4_virtual_118 TE37 rfl (Nat.le_of_ble_eq_true rfl) ⟨Nat.le_of_ble_eq_true rfl, Nat.le_of_ble_eq_true rfl⟩ sc_14 ⟨rfl, by decide⟩ H72.1 (by omega) (k37_14p E (by omega) H72 9 0 (by omega) (by omega)) ?_
                intro v100 M101 q105
                obtain ⟨H102, f103, q104⟩ := q105
                have f106 := f81.tr (f103.up rfl)
                refine s_blx (lv' := [(3, vI v70), (0, vR 14), (1, vI depth), (2, vI x2)]) (st' := [vI v70]) B27_137_139 rfl ?_
                have g107 : gi M101 14 2 = t82 := (f103.g rfl).trans (ht83.symm)
                have g108 : gi M101 14 3 = t84 := (f103.g rfl).trans (ht85.symm)
                have g109 : gi M101 14 4 = t86 := (f103.g rfl).trans (ht87.symm)
                have g110 : gi M101 14 10 = t88 := (f103.g rfl).trans (ht89.symm)
                exact r_zretI D27_139 rfl (by omega) (⟨H102, f106, by omega, by first | (rw [g107]; omega) | rw [g107], by rw [((f103.g rfl).trans (ht85.symm)), ((f103.g rfl).trans (ht83.symm))]; exact kk, by first | (rw [g109]; omega) | rw [g109], by rw [((f103.g rfl).trans (ht83.symm)), ((f103.g rfl).trans (ht87.symm))]; exact i5 _ (by first | exact (RR.o4 (by omega) (by omega) ((kS.at (by omega)).rs rfl rfl (by omega)) (kG (by omega))).rs (by omega) (by omega) (by omega) | exact (RR.c4 (by omega) (by omega) ((kS.at (by omega)).rs rfl rfl (by omega)) (kH (by omega))).rs (by omega) (by omega) (by omega) | exact (RR.b4 (by omega) (by omega) ((kS.at (by omega)).rs rfl rfl (by omega))).rs (by omega) (by omega) (by omega) | exact (RR.p4 (by omega) kP).rs (by omega) (by omega) (by omega) | exact kC.rs (by omega) (by omega) (by omega) | exact (RR.d4 (by omega) (by omega)).rs (by omega) (by omega) (by omega)), by rw [((f103.g rfl).trans (ht89.symm)), ((f103.g rfl).trans (ht83.symm))]; first | exact kF | exact kF.lit (by omega) | exact kF.up (by omega) (by omega)⟩)
          · refine s_blx (lv' := [(0, vR 14), (1, vI depth), (2, vI x2), (3, vI x3)]) (st' := [vR 14, vI 1, vR 14]) B27_97_100 rfl ?_
            refine r_gint (ki := 3) (pc' := 103) D27_100 rfl gf_4_22_14 rfl HN.1 ?_
            intro w111 e112 r113
            have e114 : k0 = w111 := (e112.trans (i1)).symm
            subst e114
            refine s_blx (lv' := [(0, vR 14), (1, vI depth), (2, vI x2), (3, vI x3)]) (st' := [vI (k0 - 10), vI 1, vR 14]) B27_103_106 rfl ?_
            have g115 : gi N 14 2 = a0 := i0
            have g116 : gi N 14 3 = k0 := i1
            have g117 : gi N 14 10 = fo := i7
            have g118 : gi N 14 4 = pq := i6
            refine r_vI (c := 14) (args := [vI 1, vI (k0 - 10)]) (rest := []) (pc' := 109) D27_106 rfl ck_4_virtual_131 TE33 rfl (Nat.le_of_ble_eq_true rfl) ⟨Nat.le_of_ble_eq_true rfl, Nat.le_of_ble_eq_true rfl⟩ sc_14 ⟨rfl, by decide⟩ HN.1 (by omega) (k33_14p E (by omega) HN 1 (k0 - 10) ct a0 k0 K st fo pq ((h0.fr fN rfl)) (by omega) (by omega) (by omega) (by omega) (by omega) (by omega) (by omega) (by omega) (by omega) (by omega) (by omega) (by omega) (by omega)) ?_
            intro v119 M120 q130
            obtain ⟨H121, f122, q123, q124, q125, q126, q127, q128, q129⟩ := q130
            have f131 := fN.tr (f122.up rfl)
            obtain ⟨t132, ht133⟩ : ∃ q, q = gi M120 14 2 := ⟨_, rfl⟩
            have b_t132 := H121.2 14 2 0 400 rfl
            rw [← ht133] at b_t132
            obtain ⟨t134, ht135⟩ : ∃ q, q = gi M120 14 3 := ⟨_, rfl⟩
            have b_t134 := H121.2 14 3 0 511 rfl
            rw [← ht135] at b_t134
            obtain ⟨t136, ht137⟩ : ∃ q, q = gi M120 14 4 := ⟨_, rfl⟩
            have b_t136 := H121.2 14 4 0 50 rfl
            rw [← ht137] at b_t136
            obtain ⟨t138, ht139⟩ : ∃ q, q = gi M120 14 10 := ⟨_, rfl⟩
            have b_t138 := (H121.1.int sc_14 (i := 10) (by decide) (by decide) rfl).2
            unfold inR at b_t138; rw [← ht139] at b_t138
            rw [← ht133] at q124
            rw [← ht133, ← ht135] at q125
            rw [← ht137] at q127
            rw [← ht133, ← ht139] at q129
            have kF := kF.tr (by omega) q129
            have kk := q125; clear q125
            have kP := q128; clear q128
            have kQ := q127; clear q127
            refine s_blx (lv' := [(3, vI v119), (0, vR 14), (1, vI depth), (2, vI x2)]) (st' := []) B27_109_110 rfl ?_
            refine r_goto (tgt := 119) D27_110 rfl ?_
            refine s_blx (lv' := [(3, vI v119), (0, vR 14), (1, vI depth), (2, vI x2)]) (st' := [vI v119]) B27_119_120 rfl ?_
            refine r_ifc (tgt := 138) (pc' := 123) D27_120 rfl rfl (by unfold inR; omega) (fun (c140 : v119 = 0) => ?_) (fun (c140 : ¬ (v119 = 0)) => ?_)
            · refine s_blx (lv' := [(3, vI v119), (0, vR 14), (1, vI depth), (2, vI x2)]) (st' := [vI v119]) B27_138_139 rfl ?_
              have g141 : gi M120 14 2 = t132 := ht133.symm
              have g142 : gi M120 14 3 = t134 := ht135.symm
              have g143 : gi M120 14 4 = t136 := ht137.symm
              have g144 : gi M120 14 10 = t138 := ht139.symm
              exact r_zretI D27_139 rfl (by omega) (⟨H121, f131, by omega, by first | (rw [g141]; omega) | rw [g141], by rw [(ht135.symm), (ht133.symm)]; exact kk, by first | (rw [g143]; omega) | rw [g143], by rw [(ht133.symm), (ht137.symm)]; exact i5 _ (by first | exact (RR.o4 (by omega) (by omega) ((kS.at (by omega)).rs rfl rfl (by omega)) (kG (by omega))).rs (by omega) (by omega) (by omega) | exact (RR.c4 (by omega) (by omega) ((kS.at (by omega)).rs rfl rfl (by omega)) (kH (by omega))).rs (by omega) (by omega) (by omega) | exact (RR.b4 (by omega) (by omega) ((kS.at (by omega)).rs rfl rfl (by omega))).rs (by omega) (by omega) (by omega) | exact (RR.p4 (by omega) kP).rs (by omega) (by omega) (by omega) | exact kC.rs (by omega) (by omega) (by omega) | exact (RR.d4 (by omega) (by omega)).rs (by omega) (by omega) (by omega)), by rw [(ht139.symm), (ht133.symm)]; first | exact kF | exact kF.lit (by omega) | exact kF.up (by omega) (by omega)⟩)
            · refine s_blx (lv' := [(3, vI v119), (0, vR 14), (1, vI depth), (2, vI x2)]) (st' := [vI 2, vI x2]) B27_123_125 rfl ?_
              refine r_irem (pc' := 126) D27_125 rfl (by omega) ?_
              refine s_blx (lv' := [(3, vI v119), (0, vR 14), (1, vI depth), (2, vI x2)]) (st' := [vI 1, vI (x2 % 2)]) B27_126_127 rfl ?_
              refine r_icmp (tgt := 138) (pc' := 130) D27_127 rfl rfl (by unfold inR; omega) (fun (c145 : (x2 % 2) ≠ 1) => ?_) (fun (c145 : ¬ ((x2 % 2) ≠ 1)) => ?_)
              · refine s_blx (lv' := [(3, vI v119), (0, vR 14), (1, vI depth), (2, vI x2)]) (st' := [vI v119]) B27_138_139 rfl ?_
                have g146 : gi M120 14 2 = t132 := ht133.symm
                have g147 : gi M120 14 3 = t134 := ht135.symm
                have g148 : gi M120 14 4 = t136 := ht137.symm
                have g149 : gi M120 14 10 = t138 := ht139.symm
                exact r_zretI D27_139 rfl (by omega) (⟨H121, f131, by omega, by first | (rw [g146]; omega) | rw [g146], by rw [(ht135.symm), (ht133.symm)]; exact kk, by first | (rw [g148]; omega) | rw [g148], by rw [(ht133.symm), (ht137.symm)]; exact i5 _ (by first | exact (RR.o4 (by omega) (by omega) ((kS.at (by omega)).rs rfl rfl (by omega)) (kG (by omega))).rs (by omega) (by omega) (by omega) | exact (RR.c4 (by omega) (by omega) ((kS.at (by omega)).rs rfl rfl (by omega)) (kH (by omega))).rs (by omega) (by omega) (by omega) | exact (RR.b4 (by omega) (by omega) ((kS.at (by omega)).rs rfl rfl (by omega))).rs (by omega) (by omega) (by omega) | exact (RR.p4 (by omega) kP).rs (by omega) (by omega) (by omega) | exact kC.rs (by omega) (by omega) (by omega) | exact (RR.d4 (by omega) (by omega)).rs (by omega) (by omega) (by omega)), by rw [(ht139.symm), (ht133.symm)]; first | exact kF | exact kF.lit (by omega) | exact kF.up (by omega) (by omega)⟩)
              · refine s_blx (lv' := [(3, vI v119), (0, vR 14), (1, vI depth), (2, vI x2)]) (st' := [vI 0, vI 9, vR 14]) B27_130_134 rfl ?_
                refine r_vI (c := 14) (args := [vI 9, vI 0]) (rest := []) (pc' := 137) D27_134 rfl ck_4_virtual_118 TE37 rfl (Nat.le_of_ble_eq_true rfl) ⟨Nat.le_of_ble_eq_true rfl, Nat.le_of_ble_eq_true rfl⟩ sc_14 ⟨rfl, by decide⟩ H121.1 (by omega) (k37_14p E (by omega) H121 9 0 (by omega) (by omega)) ?_
                intro v150 M151 q155
                obtain ⟨H152, f153, q154⟩ := q155
                have f156 := f131.tr (f153.up rfl)
                refine s_blx (lv' := [(3, vI v119), (0, vR 14), (1, vI depth), (2, vI x2)]) (st' := [vI v119]) B27_137_139 rfl ?_
                have g157 : gi M151 14 2 = t132 := (f153.g rfl).trans (ht133.symm)
                have g158 : gi M151 14 3 = t134 := (f153.g rfl).trans (ht135.symm)
                have g159 : gi M151 14 4 = t136 := (f153.g rfl).trans (ht137.symm)
                have g160 : gi M151 14 10 = t138 := (f153.g rfl).trans (ht139.symm)
                exact r_zretI D27_139 rfl (by omega) (⟨H152, f156, by omega, by first | (rw [g157]; omega) | rw [g157], by rw [((f153.g rfl).trans (ht135.symm)), ((f153.g rfl).trans (ht133.symm))]; exact kk, by first | (rw [g159]; omega) | rw [g159], by rw [((f153.g rfl).trans (ht133.symm)), ((f153.g rfl).trans (ht137.symm))]; exact i5 _ (by first | exact (RR.o4 (by omega) (by omega) ((kS.at (by omega)).rs rfl rfl (by omega)) (kG (by omega))).rs (by omega) (by omega) (by omega) | exact (RR.c4 (by omega) (by omega) ((kS.at (by omega)).rs rfl rfl (by omega)) (kH (by omega))).rs (by omega) (by omega) (by omega) | exact (RR.b4 (by omega) (by omega) ((kS.at (by omega)).rs rfl rfl (by omega))).rs (by omega) (by omega) (by omega) | exact (RR.p4 (by omega) kP).rs (by omega) (by omega) (by omega) | exact kC.rs (by omega) (by omega) (by omega) | exact (RR.d4 (by omega) (by omega)).rs (by omega) (by omega) (by omega)), by rw [((f153.g rfl).trans (ht139.symm)), ((f153.g rfl).trans (ht133.symm))]; first | exact kF | exact kF.lit (by omega) | exact kF.up (by omega) (by omega)⟩)
      · refine s_blx (lv' := [(0, vR 14), (1, vI depth), (2, vI x2), (3, vI x3)]) (st' := [vI depth, vR 14]) B27_43_45 rfl ?_
        have g161 : gi N 14 2 = a0 := i0
        have g162 : gi N 14 3 = k0 := i1
        have g163 : gi N 14 10 = fo := i7
        refine r_vI (c := 14) (args := [vI depth]) (rest := []) (pc' := 48) D27_45 rfl ck_4_virtual_128 TE32 rfl (Nat.le_of_ble_eq_true rfl) ⟨Nat.le_of_ble_eq_true rfl, Nat.le_of_ble_eq_true rfl⟩ sc_14 ⟨rfl, by decide⟩ HN.1 (by omega) (k32_14p E (by omega) HN depth ct a0 k0 K st fo ((h0.fr fN rfl)) (by omega) (by omega) (by omega) (by omega) (by omega) (by omega) (by omega) (by omega) (by omega) (by omega)) ?_
        intro v164 M165 q175
        obtain ⟨H166, f167, q168, q169, q170, q171, q172, q173, q174⟩ := q175
        have f176 := fN.tr (f167.up rfl)
        obtain ⟨t177, ht178⟩ : ∃ q, q = gi M165 14 2 := ⟨_, rfl⟩
        have b_t177 := H166.2 14 2 0 400 rfl
        rw [← ht178] at b_t177
        obtain ⟨t179, ht180⟩ : ∃ q, q = gi M165 14 3 := ⟨_, rfl⟩
        have b_t179 := H166.2 14 3 0 511 rfl
        rw [← ht180] at b_t179
        obtain ⟨t181, ht182⟩ : ∃ q, q = gi M165 14 10 := ⟨_, rfl⟩
        have b_t181 := (H166.1.int sc_14 (i := 10) (by decide) (by decide) rfl).2
        unfold inR at b_t181; rw [← ht182] at b_t181
        rw [← ht178] at q169
        rw [← ht178, ← ht180] at q170
        rw [← ht178, ← ht182] at q174
        have kF := kF.tr (by omega) q174
        have kk := q170; clear q170
        refine r_ifc (tgt := 74) (pc' := 51) D27_48 rfl rfl (by unfold inR; omega) (fun (c183 : v164 = 0) => ?_) (fun (c183 : ¬ (v164 = 0)) => ?_)
        · refine s_blx (lv' := [(3, vI 0), (0, vR 14), (1, vI depth), (2, vI x2)]) (st' := []) B27_74_76 rfl ?_
          refine r_goto (tgt := 119) D27_76 rfl ?_
          refine s_blx (lv' := [(3, vI 0), (0, vR 14), (1, vI depth), (2, vI x2)]) (st' := [vI 0]) B27_119_120 rfl ?_
          refine r_ifc (tgt := 138) (pc' := 123) D27_120 rfl rfl (by unfold inR; omega) (fun (c184 : 0 = 0) => ?_) (fun (c184 : ¬ (0 = 0)) => ?_)
          · refine s_blx (lv' := [(3, vI 0), (0, vR 14), (1, vI depth), (2, vI x2)]) (st' := [vI 0]) B27_138_139 rfl ?_
            have g185 : gi M165 14 2 = t177 := ht178.symm
            have g186 : gi M165 14 3 = t179 := ht180.symm
            have g187 : gi M165 14 4 = pq := (f167.g rfl).trans (i6)
            have g188 : gi M165 14 10 = t181 := ht182.symm
            exact r_zretI D27_139 rfl (by omega) (⟨H166, f176, by omega, by first | (rw [g185]; omega) | rw [g185], by rw [(ht180.symm), (ht178.symm)]; exact kk, by first | (rw [g187]; omega) | rw [g187], by rw [(ht178.symm), ((f167.g rfl).trans (i6))]; exact i5 _ (by first | exact (RR.o4 (by omega) (by omega) ((kS.at (by omega)).rs rfl rfl (by omega)) (kG (by omega))).rs (by omega) (by omega) (by omega) | exact (RR.c4 (by omega) (by omega) ((kS.at (by omega)).rs rfl rfl (by omega)) (kH (by omega))).rs (by omega) (by omega) (by omega) | exact (RR.b4 (by omega) (by omega) ((kS.at (by omega)).rs rfl rfl (by omega))).rs (by omega) (by omega) (by omega) | exact (RR.p4 (by omega) kP).rs (by omega) (by omega) (by omega) | exact kC.rs (by omega) (by omega) (by omega) | exact (RR.d4 (by omega) (by omega)).rs (by omega) (by omega) (by omega)), by rw [(ht182.symm), (ht178.symm)]; first | exact kF | exact kF.lit (by omega) | exact kF.up (by omega) (by omega)⟩)
          · exfalso; omega
        · refine s_blx (lv' := [(0, vR 14), (1, vI depth), (2, vI x2), (3, vI x3)]) (st' := [vI (depth + 1), vR 14]) B27_51_55 rfl ?_
          have g189 : gi M165 14 2 = t177 := ht178.symm
          have g190 : gi M165 14 3 = t179 := ht180.symm
          have g191 : gi M165 14 10 = t181 := ht182.symm
          have g192 : gi M165 14 4 = pq := (f167.g rfl).trans (i6)
          refine r_vI (c := 14) (args := [vI (depth + 1)]) (rest := []) (pc' := 58) D27_55 rfl ck_4_virtual_108 TE25 rfl (Nat.le_of_ble_eq_true rfl) ⟨Nat.le_of_ble_eq_true rfl, Nat.le_of_ble_eq_true rfl⟩ sc_14 ⟨rfl, by decide⟩ H166.1 (by omega) (ihr (by omega) H166 (depth + 1) ct t177 t179 K st t181 pq ((h0.fr f176 rfl)) (by omega) (by omega) (by omega) (by omega) (by omega) (by omega) (by omega) (by omega) (by omega) (by omega) (by omega) (by omega)) ?_
          intro v193 M194 q203
          obtain ⟨H195, f196, q197, q198, q199, q200, q201, q202⟩ := q203
          have f204 := f176.tr (f196.up rfl)
          obtain ⟨t205, ht206⟩ : ∃ q, q = gi M194 14 2 := ⟨_, rfl⟩
          have b_t205 := H195.2 14 2 0 400 rfl
          rw [← ht206] at b_t205
          obtain ⟨t207, ht208⟩ : ∃ q, q = gi M194 14 3 := ⟨_, rfl⟩
          have b_t207 := H195.2 14 3 0 511 rfl
          rw [← ht208] at b_t207
          obtain ⟨t209, ht210⟩ : ∃ q, q = gi M194 14 4 := ⟨_, rfl⟩
          have b_t209 := H195.2 14 4 0 50 rfl
          rw [← ht210] at b_t209
          obtain ⟨t211, ht212⟩ : ∃ q, q = gi M194 14 10 := ⟨_, rfl⟩
          have b_t211 := (H195.1.int sc_14 (i := 10) (by decide) (by decide) rfl).2
          unfold inR at b_t211; rw [← ht212] at b_t211
          rw [← ht206] at q198
          rw [← ht206, ← ht208] at q199
          rw [← ht210] at q200
          rw [← ht206, ← ht210] at q201
          rw [← ht206, ← ht212] at q202
          have kS := q201; clear q201
          have kk := q199; clear q199
          have kF := kF.tr (by omega) q202
          refine r_ifc (tgt := 74) (pc' := 61) D27_58 rfl rfl (by unfold inR; omega) (fun (c213 : v193 = 0) => ?_) (fun (c213 : ¬ (v193 = 0)) => ?_)
          · refine s_blx (lv' := [(3, vI 0), (0, vR 14), (1, vI depth), (2, vI x2)]) (st' := []) B27_74_76 rfl ?_
            refine r_goto (tgt := 119) D27_76 rfl ?_
            refine s_blx (lv' := [(3, vI 0), (0, vR 14), (1, vI depth), (2, vI x2)]) (st' := [vI 0]) B27_119_120 rfl ?_
            refine r_ifc (tgt := 138) (pc' := 123) D27_120 rfl rfl (by unfold inR; omega) (fun (c214 : 0 = 0) => ?_) (fun (c214 : ¬ (0 = 0)) => ?_)
            · refine s_blx (lv' := [(3, vI 0), (0, vR 14), (1, vI depth), (2, vI x2)]) (st' := [vI 0]) B27_138_139 rfl ?_
              have g215 : gi M194 14 2 = t205 := ht206.symm
              have g216 : gi M194 14 3 = t207 := ht208.symm
              have g217 : gi M194 14 4 = t209 := ht210.symm
              have g218 : gi M194 14 10 = t211 := ht212.symm
              exact r_zretI D27_139 rfl (by omega) (⟨H195, f204, by omega, by first | (rw [g215]; omega) | rw [g215], by rw [(ht208.symm), (ht206.symm)]; exact kk, by first | (rw [g217]; omega) | rw [g217], by rw [(ht206.symm), (ht210.symm)]; exact i5 _ (by first | exact (RR.o4 (by omega) (by omega) ((kS.at (by omega)).rs rfl rfl (by omega)) (kG (by omega))).rs (by omega) (by omega) (by omega) | exact (RR.c4 (by omega) (by omega) ((kS.at (by omega)).rs rfl rfl (by omega)) (kH (by omega))).rs (by omega) (by omega) (by omega) | exact (RR.b4 (by omega) (by omega) ((kS.at (by omega)).rs rfl rfl (by omega))).rs (by omega) (by omega) (by omega) | exact (RR.p4 (by omega) kP).rs (by omega) (by omega) (by omega) | exact kC.rs (by omega) (by omega) (by omega) | exact (RR.d4 (by omega) (by omega)).rs (by omega) (by omega) (by omega)), by rw [(ht212.symm), (ht206.symm)]; first | exact kF | exact kF.lit (by omega) | exact kF.up (by omega) (by omega)⟩)
            · exfalso; omega
          · refine s_blx (lv' := [(0, vR 14), (1, vI depth), (2, vI x2), (3, vI x3)]) (st' := [vI 41, vR 14]) B27_61_64 rfl ?_
            have g219 : gi M194 14 2 = t205 := ht206.symm
            have g220 : gi M194 14 3 = t207 := ht208.symm
            have g221 : gi M194 14 10 = t211 := ht212.symm
            refine r_vI (c := 14) (args := [vI 41]) (rest := []) (pc' := 67) D27_64 rfl ck_4_virtual_111 TE34 rfl (Nat.le_of_ble_eq_true rfl) ⟨Nat.le_of_ble_eq_true rfl, Nat.le_of_ble_eq_true rfl⟩ sc_14 ⟨rfl, by decide⟩ H195.1 (by omega) (k34_14p E (by omega) H195 41 ct t205 t207 K st t211 ((h0.fr f204 rfl)) (by omega) (by omega) (by omega) (by omega) (by omega) (by omega) (by omega) (by omega) (by omega) (by omega)) ?_
            intro v222 M223 q233
            obtain ⟨H224, f225, q226, q227, q228, q229, q230, q231, q232⟩ := q233
            have f234 := f204.tr (f225.up rfl)
            obtain ⟨t235, ht236⟩ : ∃ q, q = gi M223 14 2 := ⟨_, rfl⟩
            have b_t235 := H224.2 14 2 0 400 rfl
            rw [← ht236] at b_t235
            obtain ⟨t237, ht238⟩ : ∃ q, q = gi M223 14 3 := ⟨_, rfl⟩
            have b_t237 := H224.2 14 3 0 511 rfl
            rw [← ht238] at b_t237
            obtain ⟨t239, ht240⟩ : ∃ q, q = gi M223 14 10 := ⟨_, rfl⟩
            have b_t239 := (H224.1.int sc_14 (i := 10) (by decide) (by decide) rfl).2
            unfold inR at b_t239; rw [← ht240] at b_t239
            rw [← ht236] at q227
            rw [← ht236, ← ht238] at q228
            rw [← ht236, ← ht240] at q232
            have kG : v222 = 1 → K t205 = 141 := fun h => by have w := q230 h; omega
            have kH : v222 = 0 → K t205 ≠ 141 := fun h => by have w := q231 h; omega
            have kF := kF.tr (by omega) q232
            have kk := q228; clear q228
            refine r_ifc (tgt := 74) (pc' := 70) D27_67 rfl rfl (by unfold inR; omega) (fun (c241 : v222 = 0) => ?_) (fun (c241 : ¬ (v222 = 0)) => ?_)
            · refine s_blx (lv' := [(3, vI 0), (0, vR 14), (1, vI depth), (2, vI x2)]) (st' := []) B27_74_76 rfl ?_
              refine r_goto (tgt := 119) D27_76 rfl ?_
              refine s_blx (lv' := [(3, vI 0), (0, vR 14), (1, vI depth), (2, vI x2)]) (st' := [vI 0]) B27_119_120 rfl ?_
              refine r_ifc (tgt := 138) (pc' := 123) D27_120 rfl rfl (by unfold inR; omega) (fun (c242 : 0 = 0) => ?_) (fun (c242 : ¬ (0 = 0)) => ?_)
              · refine s_blx (lv' := [(3, vI 0), (0, vR 14), (1, vI depth), (2, vI x2)]) (st' := [vI 0]) B27_138_139 rfl ?_
                have g243 : gi M223 14 2 = t235 := ht236.symm
                have g244 : gi M223 14 3 = t237 := ht238.symm
                have g245 : gi M223 14 4 = t209 := (f225.g rfl).trans (ht210.symm)
                have g246 : gi M223 14 10 = t239 := ht240.symm
                exact r_zretI D27_139 rfl (by omega) (⟨H224, f234, by omega, by first | (rw [g243]; omega) | rw [g243], by rw [(ht238.symm), (ht236.symm)]; exact kk, by first | (rw [g245]; omega) | rw [g245], by rw [(ht236.symm), ((f225.g rfl).trans (ht210.symm))]; exact i5 _ (by first | exact (RR.o4 (by omega) (by omega) ((kS.at (by omega)).rs rfl rfl (by omega)) (kG (by omega))).rs (by omega) (by omega) (by omega) | exact (RR.c4 (by omega) (by omega) ((kS.at (by omega)).rs rfl rfl (by omega)) (kH (by omega))).rs (by omega) (by omega) (by omega) | exact (RR.b4 (by omega) (by omega) ((kS.at (by omega)).rs rfl rfl (by omega))).rs (by omega) (by omega) (by omega) | exact (RR.p4 (by omega) kP).rs (by omega) (by omega) (by omega) | exact kC.rs (by omega) (by omega) (by omega) | exact (RR.d4 (by omega) (by omega)).rs (by omega) (by omega) (by omega)), by rw [(ht240.symm), (ht236.symm)]; first | exact kF | exact kF.lit (by omega) | exact kF.up (by omega) (by omega)⟩)
              · exfalso; omega
            · refine s_blx (lv' := [(0, vR 14), (1, vI depth), (2, vI x2), (3, vI x3)]) (st' := [vI 1]) B27_70_71 rfl ?_
              refine r_goto (tgt := 75) D27_71 rfl ?_
              refine s_blx (lv' := [(3, vI 1), (0, vR 14), (1, vI depth), (2, vI x2)]) (st' := []) B27_75_76 rfl ?_
              refine r_goto (tgt := 119) D27_76 rfl ?_
              refine s_blx (lv' := [(3, vI 1), (0, vR 14), (1, vI depth), (2, vI x2)]) (st' := [vI 1]) B27_119_120 rfl ?_
              refine r_ifc (tgt := 138) (pc' := 123) D27_120 rfl rfl (by unfold inR; omega) (fun (c247 : 1 = 0) => ?_) (fun (c247 : ¬ (1 = 0)) => ?_)
              · exfalso; omega
              · refine s_blx (lv' := [(3, vI 1), (0, vR 14), (1, vI depth), (2, vI x2)]) (st' := [vI 2, vI x2]) B27_123_125 rfl ?_
                refine r_irem (pc' := 126) D27_125 rfl (by omega) ?_
                refine s_blx (lv' := [(3, vI 1), (0, vR 14), (1, vI depth), (2, vI x2)]) (st' := [vI 1, vI (x2 % 2)]) B27_126_127 rfl ?_
                refine r_icmp (tgt := 138) (pc' := 130) D27_127 rfl rfl (by unfold inR; omega) (fun (c248 : (x2 % 2) ≠ 1) => ?_) (fun (c248 : ¬ ((x2 % 2) ≠ 1)) => ?_)
                · refine s_blx (lv' := [(3, vI 1), (0, vR 14), (1, vI depth), (2, vI x2)]) (st' := [vI 1]) B27_138_139 rfl ?_
                  have g249 : gi M223 14 2 = t235 := ht236.symm
                  have g250 : gi M223 14 3 = t237 := ht238.symm
                  have g251 : gi M223 14 4 = t209 := (f225.g rfl).trans (ht210.symm)
                  have g252 : gi M223 14 10 = t239 := ht240.symm
                  exact r_zretI D27_139 rfl (by omega) (⟨H224, f234, by omega, by first | (rw [g249]; omega) | rw [g249], by rw [(ht238.symm), (ht236.symm)]; exact kk, by first | (rw [g251]; omega) | rw [g251], by rw [(ht236.symm), ((f225.g rfl).trans (ht210.symm))]; exact i5 _ (by first | exact (RR.o4 (by omega) (by omega) ((kS.at (by omega)).rs rfl rfl (by omega)) (kG (by omega))).rs (by omega) (by omega) (by omega) | exact (RR.c4 (by omega) (by omega) ((kS.at (by omega)).rs rfl rfl (by omega)) (kH (by omega))).rs (by omega) (by omega) (by omega) | exact (RR.b4 (by omega) (by omega) ((kS.at (by omega)).rs rfl rfl (by omega))).rs (by omega) (by omega) (by omega) | exact (RR.p4 (by omega) kP).rs (by omega) (by omega) (by omega) | exact kC.rs (by omega) (by omega) (by omega) | exact (RR.d4 (by omega) (by omega)).rs (by omega) (by omega) (by omega)), by rw [(ht240.symm), (ht236.symm)]; first | exact kF | exact kF.lit (by omega) | exact kF.up (by omega) (by omega)⟩)
                · refine s_blx (lv' := [(3, vI 1), (0, vR 14), (1, vI depth), (2, vI x2)]) (st' := [vI 0, vI 9, vR 14]) B27_130_134 rfl ?_
                  refine r_vI (c := 14) (args := [vI 9, vI 0]) (rest := []) (pc' := 137) D27_134 rfl ck_4_virtual_118 TE37 rfl (Nat.le_of_ble_eq_true rfl) ⟨Nat.le_of_ble_eq_true rfl, Nat.le_of_ble_eq_true rfl⟩ sc_14 ⟨rfl, by decide⟩ H224.1 (by omega) (k37_14p E (by omega) H224 9 0 (by omega) (by omega)) ?_
                  intro v253 M254 q258
                  obtain ⟨H255, f256, q257⟩ := q258
                  have f259 := f234.tr (f256.up rfl)
                  refine s_blx (lv' := [(3, vI 1), (0, vR 14), (1, vI depth), (2, vI x2)]) (st' := [vI 1]) B27_137_139 rfl ?_
                  have g260 : gi M254 14 2 = t235 := (f256.g rfl).trans (ht236.symm)
                  have g261 : gi M254 14 3 = t237 := (f256.g rfl).trans (ht238.symm)
                  have g262 : gi M254 14 4 = t209 := (f256.g rfl).trans ((f225.g rfl).trans (ht210.symm))
                  have g263 : gi M254 14 10 = t239 := (f256.g rfl).trans (ht240.symm)
                  exact r_zretI D27_139 rfl (by omega) (⟨H255, f259, by omega, by first | (rw [g260]; omega) | rw [g260], by rw [((f256.g rfl).trans (ht238.symm)), ((f256.g rfl).trans (ht236.symm))]; exact kk, by first | (rw [g262]; omega) | rw [g262], by rw [((f256.g rfl).trans (ht236.symm)), ((f256.g rfl).trans ((f225.g rfl).trans (ht210.symm)))]; exact i5 _ (by first | exact (RR.o4 (by omega) (by omega) ((kS.at (by omega)).rs rfl rfl (by omega)) (kG (by omega))).rs (by omega) (by omega) (by omega) | exact (RR.c4 (by omega) (by omega) ((kS.at (by omega)).rs rfl rfl (by omega)) (kH (by omega))).rs (by omega) (by omega) (by omega) | exact (RR.b4 (by omega) (by omega) ((kS.at (by omega)).rs rfl rfl (by omega))).rs (by omega) (by omega) (by omega) | exact (RR.p4 (by omega) kP).rs (by omega) (by omega) (by omega) | exact kC.rs (by omega) (by omega) (by omega) | exact (RR.d4 (by omega) (by omega)).rs (by omega) (by omega) (by omega)), by rw [((f256.g rfl).trans (ht240.symm)), ((f256.g rfl).trans (ht236.symm))]; first | exact kF | exact kF.lit (by omega) | exact kF.up (by omega) (by omega)⟩)
    · refine s_blx (lv' := [(0, vR 14), (1, vI depth), (2, vI x2), (3, vI x3)]) (st' := [vR 14]) B27_11_12 rfl ?_
      refine r_gint (ki := 3) (pc' := 15) D27_12 rfl gf_4_22_14 rfl HN.1 ?_
      intro w264 e265 r266
      have e267 : k0 = w264 := (e265.trans (i1)).symm
      subst e267
      refine s_blx (lv' := [(0, vR 14), (1, vI depth), (2, vI x2), (3, vI x3)]) (st' := [vI 9, vI k0]) B27_15_17 rfl ?_
      refine r_icmp (tgt := 33) (pc' := 20) D27_17 rfl rfl (by unfold inR; omega) (fun (c268 : k0 ≠ 9) => ?_) (fun (c268 : ¬ (k0 ≠ 9)) => ?_)
      · refine s_blx (lv' := [(0, vR 14), (1, vI depth), (2, vI x2), (3, vI x3)]) (st' := [vR 14]) B27_33_34 rfl ?_
        refine r_gint (ki := 3) (pc' := 37) D27_34 rfl gf_4_22_14 rfl HN.1 ?_
        intro w269 e270 r271
        have e272 : k0 = w269 := (e270.trans (i1)).symm
        subst e272
        refine s_blx (lv' := [(0, vR 14), (1, vI depth), (2, vI x2), (3, vI x3)]) (st' := [vI 140, vI k0]) B27_37_40 rfl ?_
        refine r_icmp (tgt := 79) (pc' := 43) D27_40 rfl rfl (by unfold inR; omega) (fun (c273 : k0 ≠ 140) => ?_) (fun (c273 : ¬ (k0 ≠ 140)) => ?_)
        · refine s_blx (lv' := [(0, vR 14), (1, vI depth), (2, vI x2), (3, vI x3)]) (st' := [vR 14]) B27_79_80 rfl ?_
          refine r_gint (ki := 3) (pc' := 83) D27_80 rfl gf_4_22_14 rfl HN.1 ?_
          intro w274 e275 r276
          have e277 : k0 = w274 := (e275.trans (i1)).symm
          subst e277
          refine s_blx (lv' := [(0, vR 14), (1, vI depth), (2, vI x2), (3, vI x3)]) (st' := [vI 10, vI k0]) B27_83_85 rfl ?_
          refine r_icmp (tgt := 113) (pc' := 88) D27_85 rfl rfl (by unfold inR; omega) (fun (c278 : k0 < 10) => ?_) (fun (c278 : ¬ (k0 < 10)) => ?_)
          · refine s_blx (lv' := [(0, vR 14), (1, vI depth), (2, vI x2), (3, vI x3)]) (st' := [vI depth, vR 14]) B27_113_115 rfl ?_
            have g279 : gi N 14 2 = a0 := i0
            have g280 : gi N 14 3 = k0 := i1
            have g281 : gi N 14 10 = fo := i7
            have g282 : gi N 14 4 = pq := i6
            refine r_vI (c := 14) (args := [vI depth]) (rest := []) (pc' := 118) D27_115 rfl ck_4_virtual_135 TE28 rfl (Nat.le_of_ble_eq_true rfl) ⟨Nat.le_of_ble_eq_true rfl, Nat.le_of_ble_eq_true rfl⟩ sc_14 ⟨rfl, by decide⟩ HN.1 (by omega) (k28_14p E (by omega) HN depth ct a0 k0 K st fo pq ((h0.fr fN rfl)) (by omega) (by omega) (by omega) (by omega) (by omega) (by omega) (by omega) (by omega) (by omega) (by omega) (by omega) (by omega)) ?_
            intro v283 M284 q293
            obtain ⟨H285, f286, q287, q288, q289, q290, q291, q292⟩ := q293
            have f294 := fN.tr (f286.up rfl)
            obtain ⟨t295, ht296⟩ : ∃ q, q = gi M284 14 2 := ⟨_, rfl⟩
            have b_t295 := H285.2 14 2 0 400 rfl
            rw [← ht296] at b_t295
            obtain ⟨t297, ht298⟩ : ∃ q, q = gi M284 14 3 := ⟨_, rfl⟩
            have b_t297 := H285.2 14 3 0 511 rfl
            rw [← ht298] at b_t297
            obtain ⟨t299, ht300⟩ : ∃ q, q = gi M284 14 4 := ⟨_, rfl⟩
            have b_t299 := H285.2 14 4 0 50 rfl
            rw [← ht300] at b_t299
            obtain ⟨t301, ht302⟩ : ∃ q, q = gi M284 14 10 := ⟨_, rfl⟩
            have b_t301 := (H285.1.int sc_14 (i := 10) (by decide) (by decide) rfl).2
            unfold inR at b_t301; rw [← ht302] at b_t301
            rw [← ht296] at q288
            rw [← ht296, ← ht298] at q289
            rw [← ht300] at q290
            rw [← ht296, ← ht300] at q291
            rw [← ht296, ← ht302] at q292
            have kC := q291; clear q291
            have kk := q289; clear q289
            have kF := kF.tr (by omega) q292
            refine s_blx (lv' := [(3, vI v283), (0, vR 14), (1, vI depth), (2, vI x2)]) (st' := [vI v283]) B27_118_120 rfl ?_
            refine r_ifc (tgt := 138) (pc' := 123) D27_120 rfl rfl (by unfold inR; omega) (fun (c303 : v283 = 0) => ?_) (fun (c303 : ¬ (v283 = 0)) => ?_)
            · refine s_blx (lv' := [(3, vI v283), (0, vR 14), (1, vI depth), (2, vI x2)]) (st' := [vI v283]) B27_138_139 rfl ?_
              have g304 : gi M284 14 2 = t295 := ht296.symm
              have g305 : gi M284 14 3 = t297 := ht298.symm
              have g306 : gi M284 14 4 = t299 := ht300.symm
              have g307 : gi M284 14 10 = t301 := ht302.symm
              exact r_zretI D27_139 rfl (by omega) (⟨H285, f294, by omega, by first | (rw [g304]; omega) | rw [g304], by rw [(ht298.symm), (ht296.symm)]; exact kk, by first | (rw [g306]; omega) | rw [g306], by rw [(ht296.symm), (ht300.symm)]; exact i5 _ (by first | exact (RR.o4 (by omega) (by omega) ((kS.at (by omega)).rs rfl rfl (by omega)) (kG (by omega))).rs (by omega) (by omega) (by omega) | exact (RR.c4 (by omega) (by omega) ((kS.at (by omega)).rs rfl rfl (by omega)) (kH (by omega))).rs (by omega) (by omega) (by omega) | exact (RR.b4 (by omega) (by omega) ((kS.at (by omega)).rs rfl rfl (by omega))).rs (by omega) (by omega) (by omega) | exact (RR.p4 (by omega) kP).rs (by omega) (by omega) (by omega) | exact kC.rs (by omega) (by omega) (by omega) | exact (RR.d4 (by omega) (by omega)).rs (by omega) (by omega) (by omega)), by rw [(ht302.symm), (ht296.symm)]; first | exact kF | exact kF.lit (by omega) | exact kF.up (by omega) (by omega)⟩)
            · refine s_blx (lv' := [(3, vI v283), (0, vR 14), (1, vI depth), (2, vI x2)]) (st' := [vI 2, vI x2]) B27_123_125 rfl ?_
              refine r_irem (pc' := 126) D27_125 rfl (by omega) ?_
              refine s_blx (lv' := [(3, vI v283), (0, vR 14), (1, vI depth), (2, vI x2)]) (st' := [vI 1, vI (x2 % 2)]) B27_126_127 rfl ?_
              refine r_icmp (tgt := 138) (pc' := 130) D27_127 rfl rfl (by unfold inR; omega) (fun (c308 : (x2 % 2) ≠ 1) => ?_) (fun (c308 : ¬ ((x2 % 2) ≠ 1)) => ?_)
              · refine s_blx (lv' := [(3, vI v283), (0, vR 14), (1, vI depth), (2, vI x2)]) (st' := [vI v283]) B27_138_139 rfl ?_
                have g309 : gi M284 14 2 = t295 := ht296.symm
                have g310 : gi M284 14 3 = t297 := ht298.symm
                have g311 : gi M284 14 4 = t299 := ht300.symm
                have g312 : gi M284 14 10 = t301 := ht302.symm
                exact r_zretI D27_139 rfl (by omega) (⟨H285, f294, by omega, by first | (rw [g309]; omega) | rw [g309], by rw [(ht298.symm), (ht296.symm)]; exact kk, by first | (rw [g311]; omega) | rw [g311], by rw [(ht296.symm), (ht300.symm)]; exact i5 _ (by first | exact (RR.o4 (by omega) (by omega) ((kS.at (by omega)).rs rfl rfl (by omega)) (kG (by omega))).rs (by omega) (by omega) (by omega) | exact (RR.c4 (by omega) (by omega) ((kS.at (by omega)).rs rfl rfl (by omega)) (kH (by omega))).rs (by omega) (by omega) (by omega) | exact (RR.b4 (by omega) (by omega) ((kS.at (by omega)).rs rfl rfl (by omega))).rs (by omega) (by omega) (by omega) | exact (RR.p4 (by omega) kP).rs (by omega) (by omega) (by omega) | exact kC.rs (by omega) (by omega) (by omega) | exact (RR.d4 (by omega) (by omega)).rs (by omega) (by omega) (by omega)), by rw [(ht302.symm), (ht296.symm)]; first | exact kF | exact kF.lit (by omega) | exact kF.up (by omega) (by omega)⟩)
              · refine s_blx (lv' := [(3, vI v283), (0, vR 14), (1, vI depth), (2, vI x2)]) (st' := [vI 0, vI 9, vR 14]) B27_130_134 rfl ?_
                refine r_vI (c := 14) (args := [vI 9, vI 0]) (rest := []) (pc' := 137) D27_134 rfl ck_4_virtual_118 TE37 rfl (Nat.le_of_ble_eq_true rfl) ⟨Nat.le_of_ble_eq_true rfl, Nat.le_of_ble_eq_true rfl⟩ sc_14 ⟨rfl, by decide⟩ H285.1 (by omega) (k37_14p E (by omega) H285 9 0 (by omega) (by omega)) ?_
                intro v313 M314 q318
                obtain ⟨H315, f316, q317⟩ := q318
                have f319 := f294.tr (f316.up rfl)
                refine s_blx (lv' := [(3, vI v283), (0, vR 14), (1, vI depth), (2, vI x2)]) (st' := [vI v283]) B27_137_139 rfl ?_
                have g320 : gi M314 14 2 = t295 := (f316.g rfl).trans (ht296.symm)
                have g321 : gi M314 14 3 = t297 := (f316.g rfl).trans (ht298.symm)
                have g322 : gi M314 14 4 = t299 := (f316.g rfl).trans (ht300.symm)
                have g323 : gi M314 14 10 = t301 := (f316.g rfl).trans (ht302.symm)
                exact r_zretI D27_139 rfl (by omega) (⟨H315, f319, by omega, by first | (rw [g320]; omega) | rw [g320], by rw [((f316.g rfl).trans (ht298.symm)), ((f316.g rfl).trans (ht296.symm))]; exact kk, by first | (rw [g322]; omega) | rw [g322], by rw [((f316.g rfl).trans (ht296.symm)), ((f316.g rfl).trans (ht300.symm))]; exact i5 _ (by first | exact (RR.o4 (by omega) (by omega) ((kS.at (by omega)).rs rfl rfl (by omega)) (kG (by omega))).rs (by omega) (by omega) (by omega) | exact (RR.c4 (by omega) (by omega) ((kS.at (by omega)).rs rfl rfl (by omega)) (kH (by omega))).rs (by omega) (by omega) (by omega) | exact (RR.b4 (by omega) (by omega) ((kS.at (by omega)).rs rfl rfl (by omega))).rs (by omega) (by omega) (by omega) | exact (RR.p4 (by omega) kP).rs (by omega) (by omega) (by omega) | exact kC.rs (by omega) (by omega) (by omega) | exact (RR.d4 (by omega) (by omega)).rs (by omega) (by omega) (by omega)), by rw [((f316.g rfl).trans (ht302.symm)), ((f316.g rfl).trans (ht296.symm))]; first | exact kF | exact kF.lit (by omega) | exact kF.up (by omega) (by omega)⟩)
          · refine s_blx (lv' := [(0, vR 14), (1, vI depth), (2, vI x2), (3, vI x3)]) (st' := [vR 14]) B27_88_89 rfl ?_
            refine r_gint (ki := 3) (pc' := 92) D27_89 rfl gf_4_22_14 rfl HN.1 ?_
            intro w324 e325 r326
            have e327 : k0 = w324 := (e325.trans (i1)).symm
            subst e327
            refine s_blx (lv' := [(0, vR 14), (1, vI depth), (2, vI x2), (3, vI x3)]) (st' := [vI 12, vI k0]) B27_92_94 rfl ?_
            refine r_icmp (tgt := 113) (pc' := 97) D27_94 rfl rfl (by unfold inR; omega) (fun (c328 : 12 ≤ k0) => ?_) (fun (c328 : ¬ (12 ≤ k0)) => ?_)
            · refine s_blx (lv' := [(0, vR 14), (1, vI depth), (2, vI x2), (3, vI x3)]) (st' := [vI depth, vR 14]) B27_113_115 rfl ?_
              have g329 : gi N 14 2 = a0 := i0
              have g330 : gi N 14 3 = k0 := i1
              have g331 : gi N 14 10 = fo := i7
              have g332 : gi N 14 4 = pq := i6
              refine r_vI (c := 14) (args := [vI depth]) (rest := []) (pc' := 118) D27_115 rfl ck_4_virtual_135 TE28 rfl (Nat.le_of_ble_eq_true rfl) ⟨Nat.le_of_ble_eq_true rfl, Nat.le_of_ble_eq_true rfl⟩ sc_14 ⟨rfl, by decide⟩ HN.1 (by omega) (k28_14p E (by omega) HN depth ct a0 k0 K st fo pq ((h0.fr fN rfl)) (by omega) (by omega) (by omega) (by omega) (by omega) (by omega) (by omega) (by omega) (by omega) (by omega) (by omega) (by omega)) ?_
              intro v333 M334 q343
              obtain ⟨H335, f336, q337, q338, q339, q340, q341, q342⟩ := q343
              have f344 := fN.tr (f336.up rfl)
              obtain ⟨t345, ht346⟩ : ∃ q, q = gi M334 14 2 := ⟨_, rfl⟩
              have b_t345 := H335.2 14 2 0 400 rfl
              rw [← ht346] at b_t345
              obtain ⟨t347, ht348⟩ : ∃ q, q = gi M334 14 3 := ⟨_, rfl⟩
              have b_t347 := H335.2 14 3 0 511 rfl
              rw [← ht348] at b_t347
              obtain ⟨t349, ht350⟩ : ∃ q, q = gi M334 14 4 := ⟨_, rfl⟩
              have b_t349 := H335.2 14 4 0 50 rfl
              rw [← ht350] at b_t349
              obtain ⟨t351, ht352⟩ : ∃ q, q = gi M334 14 10 := ⟨_, rfl⟩
              have b_t351 := (H335.1.int sc_14 (i := 10) (by decide) (by decide) rfl).2
              unfold inR at b_t351; rw [← ht352] at b_t351
              rw [← ht346] at q338
              rw [← ht346, ← ht348] at q339
              rw [← ht350] at q340
              rw [← ht346, ← ht350] at q341
              rw [← ht346, ← ht352] at q342
              have kC := q341; clear q341
              have kk := q339; clear q339
              have kF := kF.tr (by omega) q342
              refine s_blx (lv' := [(3, vI v333), (0, vR 14), (1, vI depth), (2, vI x2)]) (st' := [vI v333]) B27_118_120 rfl ?_
              refine r_ifc (tgt := 138) (pc' := 123) D27_120 rfl rfl (by unfold inR; omega) (fun (c353 : v333 = 0) => ?_) (fun (c353 : ¬ (v333 = 0)) => ?_)
              · refine s_blx (lv' := [(3, vI v333), (0, vR 14), (1, vI depth), (2, vI x2)]) (st' := [vI v333]) B27_138_139 rfl ?_
                have g354 : gi M334 14 2 = t345 := ht346.symm
                have g355 : gi M334 14 3 = t347 := ht348.symm
                have g356 : gi M334 14 4 = t349 := ht350.symm
                have g357 : gi M334 14 10 = t351 := ht352.symm
                exact r_zretI D27_139 rfl (by omega) (⟨H335, f344, by omega, by first | (rw [g354]; omega) | rw [g354], by rw [(ht348.symm), (ht346.symm)]; exact kk, by first | (rw [g356]; omega) | rw [g356], by rw [(ht346.symm), (ht350.symm)]; exact i5 _ (by first | exact (RR.o4 (by omega) (by omega) ((kS.at (by omega)).rs rfl rfl (by omega)) (kG (by omega))).rs (by omega) (by omega) (by omega) | exact (RR.c4 (by omega) (by omega) ((kS.at (by omega)).rs rfl rfl (by omega)) (kH (by omega))).rs (by omega) (by omega) (by omega) | exact (RR.b4 (by omega) (by omega) ((kS.at (by omega)).rs rfl rfl (by omega))).rs (by omega) (by omega) (by omega) | exact (RR.p4 (by omega) kP).rs (by omega) (by omega) (by omega) | exact kC.rs (by omega) (by omega) (by omega) | exact (RR.d4 (by omega) (by omega)).rs (by omega) (by omega) (by omega)), by rw [(ht352.symm), (ht346.symm)]; first | exact kF | exact kF.lit (by omega) | exact kF.up (by omega) (by omega)⟩)
              · refine s_blx (lv' := [(3, vI v333), (0, vR 14), (1, vI depth), (2, vI x2)]) (st' := [vI 2, vI x2]) B27_123_125 rfl ?_
                refine r_irem (pc' := 126) D27_125 rfl (by omega) ?_
                refine s_blx (lv' := [(3, vI v333), (0, vR 14), (1, vI depth), (2, vI x2)]) (st' := [vI 1, vI (x2 % 2)]) B27_126_127 rfl ?_
                refine r_icmp (tgt := 138) (pc' := 130) D27_127 rfl rfl (by unfold inR; omega) (fun (c358 : (x2 % 2) ≠ 1) => ?_) (fun (c358 : ¬ ((x2 % 2) ≠ 1)) => ?_)
                · refine s_blx (lv' := [(3, vI v333), (0, vR 14), (1, vI depth), (2, vI x2)]) (st' := [vI v333]) B27_138_139 rfl ?_
                  have g359 : gi M334 14 2 = t345 := ht346.symm
                  have g360 : gi M334 14 3 = t347 := ht348.symm
                  have g361 : gi M334 14 4 = t349 := ht350.symm
                  have g362 : gi M334 14 10 = t351 := ht352.symm
                  exact r_zretI D27_139 rfl (by omega) (⟨H335, f344, by omega, by first | (rw [g359]; omega) | rw [g359], by rw [(ht348.symm), (ht346.symm)]; exact kk, by first | (rw [g361]; omega) | rw [g361], by rw [(ht346.symm), (ht350.symm)]; exact i5 _ (by first | exact (RR.o4 (by omega) (by omega) ((kS.at (by omega)).rs rfl rfl (by omega)) (kG (by omega))).rs (by omega) (by omega) (by omega) | exact (RR.c4 (by omega) (by omega) ((kS.at (by omega)).rs rfl rfl (by omega)) (kH (by omega))).rs (by omega) (by omega) (by omega) | exact (RR.b4 (by omega) (by omega) ((kS.at (by omega)).rs rfl rfl (by omega))).rs (by omega) (by omega) (by omega) | exact (RR.p4 (by omega) kP).rs (by omega) (by omega) (by omega) | exact kC.rs (by omega) (by omega) (by omega) | exact (RR.d4 (by omega) (by omega)).rs (by omega) (by omega) (by omega)), by rw [(ht352.symm), (ht346.symm)]; first | exact kF | exact kF.lit (by omega) | exact kF.up (by omega) (by omega)⟩)
                · refine s_blx (lv' := [(3, vI v333), (0, vR 14), (1, vI depth), (2, vI x2)]) (st' := [vI 0, vI 9, vR 14]) B27_130_134 rfl ?_
                  refine r_vI (c := 14) (args := [vI 9, vI 0]) (rest := []) (pc' := 137) D27_134 rfl ck_4_virtual_118 TE37 rfl (Nat.le_of_ble_eq_true rfl) ⟨Nat.le_of_ble_eq_true rfl, Nat.le_of_ble_eq_true rfl⟩ sc_14 ⟨rfl, by decide⟩ H335.1 (by omega) (k37_14p E (by omega) H335 9 0 (by omega) (by omega)) ?_
                  intro v363 M364 q368
                  obtain ⟨H365, f366, q367⟩ := q368
                  have f369 := f344.tr (f366.up rfl)
                  refine s_blx (lv' := [(3, vI v333), (0, vR 14), (1, vI depth), (2, vI x2)]) (st' := [vI v333]) B27_137_139 rfl ?_
                  have g370 : gi M364 14 2 = t345 := (f366.g rfl).trans (ht346.symm)
                  have g371 : gi M364 14 3 = t347 := (f366.g rfl).trans (ht348.symm)
                  have g372 : gi M364 14 4 = t349 := (f366.g rfl).trans (ht350.symm)
                  have g373 : gi M364 14 10 = t351 := (f366.g rfl).trans (ht352.symm)
                  exact r_zretI D27_139 rfl (by omega) (⟨H365, f369, by omega, by first | (rw [g370]; omega) | rw [g370], by rw [((f366.g rfl).trans (ht348.symm)), ((f366.g rfl).trans (ht346.symm))]; exact kk, by first | (rw [g372]; omega) | rw [g372], by rw [((f366.g rfl).trans (ht346.symm)), ((f366.g rfl).trans (ht350.symm))]; exact i5 _ (by first | exact (RR.o4 (by omega) (by omega) ((kS.at (by omega)).rs rfl rfl (by omega)) (kG (by omega))).rs (by omega) (by omega) (by omega) | exact (RR.c4 (by omega) (by omega) ((kS.at (by omega)).rs rfl rfl (by omega)) (kH (by omega))).rs (by omega) (by omega) (by omega) | exact (RR.b4 (by omega) (by omega) ((kS.at (by omega)).rs rfl rfl (by omega))).rs (by omega) (by omega) (by omega) | exact (RR.p4 (by omega) kP).rs (by omega) (by omega) (by omega) | exact kC.rs (by omega) (by omega) (by omega) | exact (RR.d4 (by omega) (by omega)).rs (by omega) (by omega) (by omega)), by rw [((f366.g rfl).trans (ht352.symm)), ((f366.g rfl).trans (ht346.symm))]; first | exact kF | exact kF.lit (by omega) | exact kF.up (by omega) (by omega)⟩)
            · refine s_blx (lv' := [(0, vR 14), (1, vI depth), (2, vI x2), (3, vI x3)]) (st' := [vR 14, vI 1, vR 14]) B27_97_100 rfl ?_
              refine r_gint (ki := 3) (pc' := 103) D27_100 rfl gf_4_22_14 rfl HN.1 ?_
              intro w374 e375 r376
              have e377 : k0 = w374 := (e375.trans (i1)).symm
              subst e377
              refine s_blx (lv' := [(0, vR 14), (1, vI depth), (2, vI x2), (3, vI x3)]) (st' := [vI (k0 - 10), vI 1, vR 14]) B27_103_106 rfl ?_
              have g378 : gi N 14 2 = a0 := i0
              have g379 : gi N 14 3 = k0 := i1
              have g380 : gi N 14 10 = fo := i7
              have g381 : gi N 14 4 = pq := i6
              refine r_vI (c := 14) (args := [vI 1, vI (k0 - 10)]) (rest := []) (pc' := 109) D27_106 rfl ck_4_virtual_131 TE33 rfl (Nat.le_of_ble_eq_true rfl) ⟨Nat.le_of_ble_eq_true rfl, Nat.le_of_ble_eq_true rfl⟩ sc_14 ⟨rfl, by decide⟩ HN.1 (by omega) (k33_14p E (by omega) HN 1 (k0 - 10) ct a0 k0 K st fo pq ((h0.fr fN rfl)) (by omega) (by omega) (by omega) (by omega) (by omega) (by omega) (by omega) (by omega) (by omega) (by omega) (by omega) (by omega) (by omega)) ?_
              intro v382 M383 q393
              obtain ⟨H384, f385, q386, q387, q388, q389, q390, q391, q392⟩ := q393
              have f394 := fN.tr (f385.up rfl)
              obtain ⟨t395, ht396⟩ : ∃ q, q = gi M383 14 2 := ⟨_, rfl⟩
              have b_t395 := H384.2 14 2 0 400 rfl
              rw [← ht396] at b_t395
              obtain ⟨t397, ht398⟩ : ∃ q, q = gi M383 14 3 := ⟨_, rfl⟩
              have b_t397 := H384.2 14 3 0 511 rfl
              rw [← ht398] at b_t397
              obtain ⟨t399, ht400⟩ : ∃ q, q = gi M383 14 4 := ⟨_, rfl⟩
              have b_t399 := H384.2 14 4 0 50 rfl
              rw [← ht400] at b_t399
              obtain ⟨t401, ht402⟩ : ∃ q, q = gi M383 14 10 := ⟨_, rfl⟩
              have b_t401 := (H384.1.int sc_14 (i := 10) (by decide) (by decide) rfl).2
              unfold inR at b_t401; rw [← ht402] at b_t401
              rw [← ht396] at q387
              rw [← ht396, ← ht398] at q388
              rw [← ht400] at q390
              rw [← ht396, ← ht402] at q392
              have kF := kF.tr (by omega) q392
              have kk := q388; clear q388
              have kP := q391; clear q391
              have kQ := q390; clear q390
              refine s_blx (lv' := [(3, vI v382), (0, vR 14), (1, vI depth), (2, vI x2)]) (st' := []) B27_109_110 rfl ?_
              refine r_goto (tgt := 119) D27_110 rfl ?_
              refine s_blx (lv' := [(3, vI v382), (0, vR 14), (1, vI depth), (2, vI x2)]) (st' := [vI v382]) B27_119_120 rfl ?_
              refine r_ifc (tgt := 138) (pc' := 123) D27_120 rfl rfl (by unfold inR; omega) (fun (c403 : v382 = 0) => ?_) (fun (c403 : ¬ (v382 = 0)) => ?_)
              · refine s_blx (lv' := [(3, vI v382), (0, vR 14), (1, vI depth), (2, vI x2)]) (st' := [vI v382]) B27_138_139 rfl ?_
                have g404 : gi M383 14 2 = t395 := ht396.symm
                have g405 : gi M383 14 3 = t397 := ht398.symm
                have g406 : gi M383 14 4 = t399 := ht400.symm
                have g407 : gi M383 14 10 = t401 := ht402.symm
                exact r_zretI D27_139 rfl (by omega) (⟨H384, f394, by omega, by first | (rw [g404]; omega) | rw [g404], by rw [(ht398.symm), (ht396.symm)]; exact kk, by first | (rw [g406]; omega) | rw [g406], by rw [(ht396.symm), (ht400.symm)]; exact i5 _ (by first | exact (RR.o4 (by omega) (by omega) ((kS.at (by omega)).rs rfl rfl (by omega)) (kG (by omega))).rs (by omega) (by omega) (by omega) | exact (RR.c4 (by omega) (by omega) ((kS.at (by omega)).rs rfl rfl (by omega)) (kH (by omega))).rs (by omega) (by omega) (by omega) | exact (RR.b4 (by omega) (by omega) ((kS.at (by omega)).rs rfl rfl (by omega))).rs (by omega) (by omega) (by omega) | exact (RR.p4 (by omega) kP).rs (by omega) (by omega) (by omega) | exact kC.rs (by omega) (by omega) (by omega) | exact (RR.d4 (by omega) (by omega)).rs (by omega) (by omega) (by omega)), by rw [(ht402.symm), (ht396.symm)]; first | exact kF | exact kF.lit (by omega) | exact kF.up (by omega) (by omega)⟩)
              · refine s_blx (lv' := [(3, vI v382), (0, vR 14), (1, vI depth), (2, vI x2)]) (st' := [vI 2, vI x2]) B27_123_125 rfl ?_
                refine r_irem (pc' := 126) D27_125 rfl (by omega) ?_
                refine s_blx (lv' := [(3, vI v382), (0, vR 14), (1, vI depth), (2, vI x2)]) (st' := [vI 1, vI (x2 % 2)]) B27_126_127 rfl ?_
                refine r_icmp (tgt := 138) (pc' := 130) D27_127 rfl rfl (by unfold inR; omega) (fun (c408 : (x2 % 2) ≠ 1) => ?_) (fun (c408 : ¬ ((x2 % 2) ≠ 1)) => ?_)
                · refine s_blx (lv' := [(3, vI v382), (0, vR 14), (1, vI depth), (2, vI x2)]) (st' := [vI v382]) B27_138_139 rfl ?_
                  have g409 : gi M383 14 2 = t395 := ht396.symm
                  have g410 : gi M383 14 3 = t397 := ht398.symm
                  have g411 : gi M383 14 4 = t399 := ht400.symm
                  have g412 : gi M383 14 10 = t401 := ht402.symm
                  exact r_zretI D27_139 rfl (by omega) (⟨H384, f394, by omega, by first | (rw [g409]; omega) | rw [g409], by rw [(ht398.symm), (ht396.symm)]; exact kk, by first | (rw [g411]; omega) | rw [g411], by rw [(ht396.symm), (ht400.symm)]; exact i5 _ (by first | exact (RR.o4 (by omega) (by omega) ((kS.at (by omega)).rs rfl rfl (by omega)) (kG (by omega))).rs (by omega) (by omega) (by omega) | exact (RR.c4 (by omega) (by omega) ((kS.at (by omega)).rs rfl rfl (by omega)) (kH (by omega))).rs (by omega) (by omega) (by omega) | exact (RR.b4 (by omega) (by omega) ((kS.at (by omega)).rs rfl rfl (by omega))).rs (by omega) (by omega) (by omega) | exact (RR.p4 (by omega) kP).rs (by omega) (by omega) (by omega) | exact kC.rs (by omega) (by omega) (by omega) | exact (RR.d4 (by omega) (by omega)).rs (by omega) (by omega) (by omega)), by rw [(ht402.symm), (ht396.symm)]; first | exact kF | exact kF.lit (by omega) | exact kF.up (by omega) (by omega)⟩)
                · refine s_blx (lv' := [(3, vI v382), (0, vR 14), (1, vI depth), (2, vI x2)]) (st' := [vI 0, vI 9, vR 14]) B27_130_134 rfl ?_
                  refine r_vI (c := 14) (args := [vI 9, vI 0]) (rest := []) (pc' := 137) D27_134 rfl ck_4_virtual_118 TE37 rfl (Nat.le_of_ble_eq_true rfl) ⟨Nat.le_of_ble_eq_true rfl, Nat.le_of_ble_eq_true rfl⟩ sc_14 ⟨rfl, by decide⟩ H384.1 (by omega) (k37_14p E (by omega) H384 9 0 (by omega) (by omega)) ?_
                  intro v413 M414 q418
                  obtain ⟨H415, f416, q417⟩ := q418
                  have f419 := f394.tr (f416.up rfl)
                  refine s_blx (lv' := [(3, vI v382), (0, vR 14), (1, vI depth), (2, vI x2)]) (st' := [vI v382]) B27_137_139 rfl ?_
                  have g420 : gi M414 14 2 = t395 := (f416.g rfl).trans (ht396.symm)
                  have g421 : gi M414 14 3 = t397 := (f416.g rfl).trans (ht398.symm)
                  have g422 : gi M414 14 4 = t399 := (f416.g rfl).trans (ht400.symm)
                  have g423 : gi M414 14 10 = t401 := (f416.g rfl).trans (ht402.symm)
                  exact r_zretI D27_139 rfl (by omega) (⟨H415, f419, by omega, by first | (rw [g420]; omega) | rw [g420], by rw [((f416.g rfl).trans (ht398.symm)), ((f416.g rfl).trans (ht396.symm))]; exact kk, by first | (rw [g422]; omega) | rw [g422], by rw [((f416.g rfl).trans (ht396.symm)), ((f416.g rfl).trans (ht400.symm))]; exact i5 _ (by first | exact (RR.o4 (by omega) (by omega) ((kS.at (by omega)).rs rfl rfl (by omega)) (kG (by omega))).rs (by omega) (by omega) (by omega) | exact (RR.c4 (by omega) (by omega) ((kS.at (by omega)).rs rfl rfl (by omega)) (kH (by omega))).rs (by omega) (by omega) (by omega) | exact (RR.b4 (by omega) (by omega) ((kS.at (by omega)).rs rfl rfl (by omega))).rs (by omega) (by omega) (by omega) | exact (RR.p4 (by omega) kP).rs (by omega) (by omega) (by omega) | exact kC.rs (by omega) (by omega) (by omega) | exact (RR.d4 (by omega) (by omega)).rs (by omega) (by omega) (by omega)), by rw [((f416.g rfl).trans (ht402.symm)), ((f416.g rfl).trans (ht396.symm))]; first | exact kF | exact kF.lit (by omega) | exact kF.up (by omega) (by omega)⟩)
        · refine s_blx (lv' := [(0, vR 14), (1, vI depth), (2, vI x2), (3, vI x3)]) (st' := [vI depth, vR 14]) B27_43_45 rfl ?_
          have g424 : gi N 14 2 = a0 := i0
          have g425 : gi N 14 3 = k0 := i1
          have g426 : gi N 14 10 = fo := i7
          refine r_vI (c := 14) (args := [vI depth]) (rest := []) (pc' := 48) D27_45 rfl ck_4_virtual_128 TE32 rfl (Nat.le_of_ble_eq_true rfl) ⟨Nat.le_of_ble_eq_true rfl, Nat.le_of_ble_eq_true rfl⟩ sc_14 ⟨rfl, by decide⟩ HN.1 (by omega) (k32_14p E (by omega) HN depth ct a0 k0 K st fo ((h0.fr fN rfl)) (by omega) (by omega) (by omega) (by omega) (by omega) (by omega) (by omega) (by omega) (by omega) (by omega)) ?_
          intro v427 M428 q438
          obtain ⟨H429, f430, q431, q432, q433, q434, q435, q436, q437⟩ := q438
          have f439 := fN.tr (f430.up rfl)
          obtain ⟨t440, ht441⟩ : ∃ q, q = gi M428 14 2 := ⟨_, rfl⟩
          have b_t440 := H429.2 14 2 0 400 rfl
          rw [← ht441] at b_t440
          obtain ⟨t442, ht443⟩ : ∃ q, q = gi M428 14 3 := ⟨_, rfl⟩
          have b_t442 := H429.2 14 3 0 511 rfl
          rw [← ht443] at b_t442
          obtain ⟨t444, ht445⟩ : ∃ q, q = gi M428 14 10 := ⟨_, rfl⟩
          have b_t444 := (H429.1.int sc_14 (i := 10) (by decide) (by decide) rfl).2
          unfold inR at b_t444; rw [← ht445] at b_t444
          rw [← ht441] at q432
          rw [← ht441, ← ht443] at q433
          rw [← ht441, ← ht445] at q437
          have kF := kF.tr (by omega) q437
          have kk := q433; clear q433
          refine r_ifc (tgt := 74) (pc' := 51) D27_48 rfl rfl (by unfold inR; omega) (fun (c446 : v427 = 0) => ?_) (fun (c446 : ¬ (v427 = 0)) => ?_)
          · refine s_blx (lv' := [(3, vI 0), (0, vR 14), (1, vI depth), (2, vI x2)]) (st' := []) B27_74_76 rfl ?_
            refine r_goto (tgt := 119) D27_76 rfl ?_
            refine s_blx (lv' := [(3, vI 0), (0, vR 14), (1, vI depth), (2, vI x2)]) (st' := [vI 0]) B27_119_120 rfl ?_
            refine r_ifc (tgt := 138) (pc' := 123) D27_120 rfl rfl (by unfold inR; omega) (fun (c447 : 0 = 0) => ?_) (fun (c447 : ¬ (0 = 0)) => ?_)
            · refine s_blx (lv' := [(3, vI 0), (0, vR 14), (1, vI depth), (2, vI x2)]) (st' := [vI 0]) B27_138_139 rfl ?_
              have g448 : gi M428 14 2 = t440 := ht441.symm
              have g449 : gi M428 14 3 = t442 := ht443.symm
              have g450 : gi M428 14 4 = pq := (f430.g rfl).trans (i6)
              have g451 : gi M428 14 10 = t444 := ht445.symm
              exact r_zretI D27_139 rfl (by omega) (⟨H429, f439, by omega, by first | (rw [g448]; omega) | rw [g448], by rw [(ht443.symm), (ht441.symm)]; exact kk, by first | (rw [g450]; omega) | rw [g450], by rw [(ht441.symm), ((f430.g rfl).trans (i6))]; exact i5 _ (by first | exact (RR.o4 (by omega) (by omega) ((kS.at (by omega)).rs rfl rfl (by omega)) (kG (by omega))).rs (by omega) (by omega) (by omega) | exact (RR.c4 (by omega) (by omega) ((kS.at (by omega)).rs rfl rfl (by omega)) (kH (by omega))).rs (by omega) (by omega) (by omega) | exact (RR.b4 (by omega) (by omega) ((kS.at (by omega)).rs rfl rfl (by omega))).rs (by omega) (by omega) (by omega) | exact (RR.p4 (by omega) kP).rs (by omega) (by omega) (by omega) | exact kC.rs (by omega) (by omega) (by omega) | exact (RR.d4 (by omega) (by omega)).rs (by omega) (by omega) (by omega)), by rw [(ht445.symm), (ht441.symm)]; first | exact kF | exact kF.lit (by omega) | exact kF.up (by omega) (by omega)⟩)
            · exfalso; omega
          · refine s_blx (lv' := [(0, vR 14), (1, vI depth), (2, vI x2), (3, vI x3)]) (st' := [vI (depth + 1), vR 14]) B27_51_55 rfl ?_
            have g452 : gi M428 14 2 = t440 := ht441.symm
            have g453 : gi M428 14 3 = t442 := ht443.symm
            have g454 : gi M428 14 10 = t444 := ht445.symm
            have g455 : gi M428 14 4 = pq := (f430.g rfl).trans (i6)
            refine r_vI (c := 14) (args := [vI (depth + 1)]) (rest := []) (pc' := 58) D27_55 rfl ck_4_virtual_108 TE25 rfl (Nat.le_of_ble_eq_true rfl) ⟨Nat.le_of_ble_eq_true rfl, Nat.le_of_ble_eq_true rfl⟩ sc_14 ⟨rfl, by decide⟩ H429.1 (by omega) (ihr (by omega) H429 (depth + 1) ct t440 t442 K st t444 pq ((h0.fr f439 rfl)) (by omega) (by omega) (by omega) (by omega) (by omega) (by omega) (by omega) (by omega) (by omega) (by omega) (by omega) (by omega)) ?_
            intro v456 M457 q466
            obtain ⟨H458, f459, q460, q461, q462, q463, q464, q465⟩ := q466
            have f467 := f439.tr (f459.up rfl)
            obtain ⟨t468, ht469⟩ : ∃ q, q = gi M457 14 2 := ⟨_, rfl⟩
            have b_t468 := H458.2 14 2 0 400 rfl
            rw [← ht469] at b_t468
            obtain ⟨t470, ht471⟩ : ∃ q, q = gi M457 14 3 := ⟨_, rfl⟩
            have b_t470 := H458.2 14 3 0 511 rfl
            rw [← ht471] at b_t470
            obtain ⟨t472, ht473⟩ : ∃ q, q = gi M457 14 4 := ⟨_, rfl⟩
            have b_t472 := H458.2 14 4 0 50 rfl
            rw [← ht473] at b_t472
            obtain ⟨t474, ht475⟩ : ∃ q, q = gi M457 14 10 := ⟨_, rfl⟩
            have b_t474 := (H458.1.int sc_14 (i := 10) (by decide) (by decide) rfl).2
            unfold inR at b_t474; rw [← ht475] at b_t474
            rw [← ht469] at q461
            rw [← ht469, ← ht471] at q462
            rw [← ht473] at q463
            rw [← ht469, ← ht473] at q464
            rw [← ht469, ← ht475] at q465
            have kS := q464; clear q464
            have kk := q462; clear q462
            have kF := kF.tr (by omega) q465
            refine r_ifc (tgt := 74) (pc' := 61) D27_58 rfl rfl (by unfold inR; omega) (fun (c476 : v456 = 0) => ?_) (fun (c476 : ¬ (v456 = 0)) => ?_)
            · refine s_blx (lv' := [(3, vI 0), (0, vR 14), (1, vI depth), (2, vI x2)]) (st' := []) B27_74_76 rfl ?_
              refine r_goto (tgt := 119) D27_76 rfl ?_
              refine s_blx (lv' := [(3, vI 0), (0, vR 14), (1, vI depth), (2, vI x2)]) (st' := [vI 0]) B27_119_120 rfl ?_
              refine r_ifc (tgt := 138) (pc' := 123) D27_120 rfl rfl (by unfold inR; omega) (fun (c477 : 0 = 0) => ?_) (fun (c477 : ¬ (0 = 0)) => ?_)
              · refine s_blx (lv' := [(3, vI 0), (0, vR 14), (1, vI depth), (2, vI x2)]) (st' := [vI 0]) B27_138_139 rfl ?_
                have g478 : gi M457 14 2 = t468 := ht469.symm
                have g479 : gi M457 14 3 = t470 := ht471.symm
                have g480 : gi M457 14 4 = t472 := ht473.symm
                have g481 : gi M457 14 10 = t474 := ht475.symm
                exact r_zretI D27_139 rfl (by omega) (⟨H458, f467, by omega, by first | (rw [g478]; omega) | rw [g478], by rw [(ht471.symm), (ht469.symm)]; exact kk, by first | (rw [g480]; omega) | rw [g480], by rw [(ht469.symm), (ht473.symm)]; exact i5 _ (by first | exact (RR.o4 (by omega) (by omega) ((kS.at (by omega)).rs rfl rfl (by omega)) (kG (by omega))).rs (by omega) (by omega) (by omega) | exact (RR.c4 (by omega) (by omega) ((kS.at (by omega)).rs rfl rfl (by omega)) (kH (by omega))).rs (by omega) (by omega) (by omega) | exact (RR.b4 (by omega) (by omega) ((kS.at (by omega)).rs rfl rfl (by omega))).rs (by omega) (by omega) (by omega) | exact (RR.p4 (by omega) kP).rs (by omega) (by omega) (by omega) | exact kC.rs (by omega) (by omega) (by omega) | exact (RR.d4 (by omega) (by omega)).rs (by omega) (by omega) (by omega)), by rw [(ht475.symm), (ht469.symm)]; first | exact kF | exact kF.lit (by omega) | exact kF.up (by omega) (by omega)⟩)
              · exfalso; omega
            · refine s_blx (lv' := [(0, vR 14), (1, vI depth), (2, vI x2), (3, vI x3)]) (st' := [vI 41, vR 14]) B27_61_64 rfl ?_
              have g482 : gi M457 14 2 = t468 := ht469.symm
              have g483 : gi M457 14 3 = t470 := ht471.symm
              have g484 : gi M457 14 10 = t474 := ht475.symm
              refine r_vI (c := 14) (args := [vI 41]) (rest := []) (pc' := 67) D27_64 rfl ck_4_virtual_111 TE34 rfl (Nat.le_of_ble_eq_true rfl) ⟨Nat.le_of_ble_eq_true rfl, Nat.le_of_ble_eq_true rfl⟩ sc_14 ⟨rfl, by decide⟩ H458.1 (by omega) (k34_14p E (by omega) H458 41 ct t468 t470 K st t474 ((h0.fr f467 rfl)) (by omega) (by omega) (by omega) (by omega) (by omega) (by omega) (by omega) (by omega) (by omega) (by omega)) ?_
              intro v485 M486 q496
              obtain ⟨H487, f488, q489, q490, q491, q492, q493, q494, q495⟩ := q496
              have f497 := f467.tr (f488.up rfl)
              obtain ⟨t498, ht499⟩ : ∃ q, q = gi M486 14 2 := ⟨_, rfl⟩
              have b_t498 := H487.2 14 2 0 400 rfl
              rw [← ht499] at b_t498
              obtain ⟨t500, ht501⟩ : ∃ q, q = gi M486 14 3 := ⟨_, rfl⟩
              have b_t500 := H487.2 14 3 0 511 rfl
              rw [← ht501] at b_t500
              obtain ⟨t502, ht503⟩ : ∃ q, q = gi M486 14 10 := ⟨_, rfl⟩
              have b_t502 := (H487.1.int sc_14 (i := 10) (by decide) (by decide) rfl).2
              unfold inR at b_t502; rw [← ht503] at b_t502
              rw [← ht499] at q490
              rw [← ht499, ← ht501] at q491
              rw [← ht499, ← ht503] at q495
              have kG : v485 = 1 → K t468 = 141 := fun h => by have w := q493 h; omega
              have kH : v485 = 0 → K t468 ≠ 141 := fun h => by have w := q494 h; omega
              have kF := kF.tr (by omega) q495
              have kk := q491; clear q491
              refine r_ifc (tgt := 74) (pc' := 70) D27_67 rfl rfl (by unfold inR; omega) (fun (c504 : v485 = 0) => ?_) (fun (c504 : ¬ (v485 = 0)) => ?_)
              · refine s_blx (lv' := [(3, vI 0), (0, vR 14), (1, vI depth), (2, vI x2)]) (st' := []) B27_74_76 rfl ?_
                refine r_goto (tgt := 119) D27_76 rfl ?_
                refine s_blx (lv' := [(3, vI 0), (0, vR 14), (1, vI depth), (2, vI x2)]) (st' := [vI 0]) B27_119_120 rfl ?_
                refine r_ifc (tgt := 138) (pc' := 123) D27_120 rfl rfl (by unfold inR; omega) (fun (c505 : 0 = 0) => ?_) (fun (c505 : ¬ (0 = 0)) => ?_)
                · refine s_blx (lv' := [(3, vI 0), (0, vR 14), (1, vI depth), (2, vI x2)]) (st' := [vI 0]) B27_138_139 rfl ?_
                  have g506 : gi M486 14 2 = t498 := ht499.symm
                  have g507 : gi M486 14 3 = t500 := ht501.symm
                  have g508 : gi M486 14 4 = t472 := (f488.g rfl).trans (ht473.symm)
                  have g509 : gi M486 14 10 = t502 := ht503.symm
                  exact r_zretI D27_139 rfl (by omega) (⟨H487, f497, by omega, by first | (rw [g506]; omega) | rw [g506], by rw [(ht501.symm), (ht499.symm)]; exact kk, by first | (rw [g508]; omega) | rw [g508], by rw [(ht499.symm), ((f488.g rfl).trans (ht473.symm))]; exact i5 _ (by first | exact (RR.o4 (by omega) (by omega) ((kS.at (by omega)).rs rfl rfl (by omega)) (kG (by omega))).rs (by omega) (by omega) (by omega) | exact (RR.c4 (by omega) (by omega) ((kS.at (by omega)).rs rfl rfl (by omega)) (kH (by omega))).rs (by omega) (by omega) (by omega) | exact (RR.b4 (by omega) (by omega) ((kS.at (by omega)).rs rfl rfl (by omega))).rs (by omega) (by omega) (by omega) | exact (RR.p4 (by omega) kP).rs (by omega) (by omega) (by omega) | exact kC.rs (by omega) (by omega) (by omega) | exact (RR.d4 (by omega) (by omega)).rs (by omega) (by omega) (by omega)), by rw [(ht503.symm), (ht499.symm)]; first | exact kF | exact kF.lit (by omega) | exact kF.up (by omega) (by omega)⟩)
                · exfalso; omega
              · refine s_blx (lv' := [(0, vR 14), (1, vI depth), (2, vI x2), (3, vI x3)]) (st' := [vI 1]) B27_70_71 rfl ?_
                refine r_goto (tgt := 75) D27_71 rfl ?_
                refine s_blx (lv' := [(3, vI 1), (0, vR 14), (1, vI depth), (2, vI x2)]) (st' := []) B27_75_76 rfl ?_
                refine r_goto (tgt := 119) D27_76 rfl ?_
                refine s_blx (lv' := [(3, vI 1), (0, vR 14), (1, vI depth), (2, vI x2)]) (st' := [vI 1]) B27_119_120 rfl ?_
                refine r_ifc (tgt := 138) (pc' := 123) D27_120 rfl rfl (by unfold inR; omega) (fun (c510 : 1 = 0) => ?_) (fun (c510 : ¬ (1 = 0)) => ?_)
                · exfalso; omega
                · refine s_blx (lv' := [(3, vI 1), (0, vR 14), (1, vI depth), (2, vI x2)]) (st' := [vI 2, vI x2]) B27_123_125 rfl ?_
                  refine r_irem (pc' := 126) D27_125 rfl (by omega) ?_
                  refine s_blx (lv' := [(3, vI 1), (0, vR 14), (1, vI depth), (2, vI x2)]) (st' := [vI 1, vI (x2 % 2)]) B27_126_127 rfl ?_
                  refine r_icmp (tgt := 138) (pc' := 130) D27_127 rfl rfl (by unfold inR; omega) (fun (c511 : (x2 % 2) ≠ 1) => ?_) (fun (c511 : ¬ ((x2 % 2) ≠ 1)) => ?_)
                  · refine s_blx (lv' := [(3, vI 1), (0, vR 14), (1, vI depth), (2, vI x2)]) (st' := [vI 1]) B27_138_139 rfl ?_
                    have g512 : gi M486 14 2 = t498 := ht499.symm
                    have g513 : gi M486 14 3 = t500 := ht501.symm
                    have g514 : gi M486 14 4 = t472 := (f488.g rfl).trans (ht473.symm)
                    have g515 : gi M486 14 10 = t502 := ht503.symm
                    exact r_zretI D27_139 rfl (by omega) (⟨H487, f497, by omega, by first | (rw [g512]; omega) | rw [g512], by rw [(ht501.symm), (ht499.symm)]; exact kk, by first | (rw [g514]; omega) | rw [g514], by rw [(ht499.symm), ((f488.g rfl).trans (ht473.symm))]; exact i5 _ (by first | exact (RR.o4 (by omega) (by omega) ((kS.at (by omega)).rs rfl rfl (by omega)) (kG (by omega))).rs (by omega) (by omega) (by omega) | exact (RR.c4 (by omega) (by omega) ((kS.at (by omega)).rs rfl rfl (by omega)) (kH (by omega))).rs (by omega) (by omega) (by omega) | exact (RR.b4 (by omega) (by omega) ((kS.at (by omega)).rs rfl rfl (by omega))).rs (by omega) (by omega) (by omega) | exact (RR.p4 (by omega) kP).rs (by omega) (by omega) (by omega) | exact kC.rs (by omega) (by omega) (by omega) | exact (RR.d4 (by omega) (by omega)).rs (by omega) (by omega) (by omega)), by rw [(ht503.symm), (ht499.symm)]; first | exact kF | exact kF.lit (by omega) | exact kF.up (by omega) (by omega)⟩)
                  · refine s_blx (lv' := [(3, vI 1), (0, vR 14), (1, vI depth), (2, vI x2)]) (st' := [vI 0, vI 9, vR 14]) B27_130_134 rfl ?_
                    refine r_vI (c := 14) (args := [vI 9, vI 0]) (rest := []) (pc' := 137) D27_134 rfl ck_4_virtual_118 TE37 rfl (Nat.le_of_ble_eq_true rfl) ⟨Nat.le_of_ble_eq_true rfl, Nat.le_of_ble_eq_true rfl⟩ sc_14 ⟨rfl, by decide⟩ H487.1 (by omega) (k37_14p E (by omega) H487 9 0 (by omega) (by omega)) ?_
                    intro v516 M517 q521
                    obtain ⟨H518, f519, q520⟩ := q521
                    have f522 := f497.tr (f519.up rfl)
                    refine s_blx (lv' := [(3, vI 1), (0, vR 14), (1, vI depth), (2, vI x2)]) (st' := [vI 1]) B27_137_139 rfl ?_
                    have g523 : gi M517 14 2 = t498 := (f519.g rfl).trans (ht499.symm)
                    have g524 : gi M517 14 3 = t500 := (f519.g rfl).trans (ht501.symm)
                    have g525 : gi M517 14 4 = t472 := (f519.g rfl).trans ((f488.g rfl).trans (ht473.symm))
                    have g526 : gi M517 14 10 = t502 := (f519.g rfl).trans (ht503.symm)
                    exact r_zretI D27_139 rfl (by omega) (⟨H518, f522, by omega, by first | (rw [g523]; omega) | rw [g523], by rw [((f519.g rfl).trans (ht501.symm)), ((f519.g rfl).trans (ht499.symm))]; exact kk, by first | (rw [g525]; omega) | rw [g525], by rw [((f519.g rfl).trans (ht499.symm)), ((f519.g rfl).trans ((f488.g rfl).trans (ht473.symm)))]; exact i5 _ (by first | exact (RR.o4 (by omega) (by omega) ((kS.at (by omega)).rs rfl rfl (by omega)) (kG (by omega))).rs (by omega) (by omega) (by omega) | exact (RR.c4 (by omega) (by omega) ((kS.at (by omega)).rs rfl rfl (by omega)) (kH (by omega))).rs (by omega) (by omega) (by omega) | exact (RR.b4 (by omega) (by omega) ((kS.at (by omega)).rs rfl rfl (by omega))).rs (by omega) (by omega) (by omega) | exact (RR.p4 (by omega) kP).rs (by omega) (by omega) (by omega) | exact kC.rs (by omega) (by omega) (by omega) | exact (RR.d4 (by omega) (by omega)).rs (by omega) (by omega) (by omega)), by rw [((f519.g rfl).trans (ht503.symm)), ((f519.g rfl).trans (ht499.symm))]; first | exact kF | exact kF.lit (by omega) | exact kF.up (by omega) (by omega)⟩)
      · refine s_blx (lv' := [(2, vI (x2 + 1)), (0, vR 14), (1, vI depth), (3, vI x3)]) (st' := [vR 14]) B27_20_24 rfl ?_
        have g527 : gi N 14 2 = a0 := i0
        have g528 : gi N 14 3 = k0 := i1
        refine r_vV (c := 14) (args := []) (rest := []) (pc' := 27) D27_24 rfl ck_4_virtual_105 TE35 rfl (Nat.le_of_ble_eq_true rfl) ⟨Nat.le_of_ble_eq_true rfl, Nat.le_of_ble_eq_true rfl⟩ sc_14 ⟨rfl, by decide⟩ HN.1 (by omega) (k35_14p E (by omega) HN ct a0 k0 K st ((h0.fr fN rfl)) (by omega) (by omega) (by omega) (by omega) (by omega) (by omega) (by omega) (by omega)) ?_
        intro M530 q537
        obtain ⟨H531, f532, q533, q534, q535, q536⟩ := q537
        have f538 := fN.tr (f532.up rfl)
        obtain ⟨t539, ht540⟩ : ∃ q, q = gi M530 14 2 := ⟨_, rfl⟩
        have b_t539 := H531.2 14 2 0 400 rfl
        rw [← ht540] at b_t539
        obtain ⟨t541, ht542⟩ : ∃ q, q = gi M530 14 3 := ⟨_, rfl⟩
        have b_t541 := H531.2 14 3 0 511 rfl
        rw [← ht542] at b_t541
        rw [← ht540] at q533
        rw [← ht540, ← ht542] at q534
        rw [← ht540] at q535
        rw [← ht542] at q536
        have kk := q534; clear q534
        refine s_blx (lv' := [(3, vI (x3 + 1)), (2, vI (x2 + 1)), (0, vR 14), (1, vI depth)]) (st' := []) B27_27_30 rfl ?_
        refine r_goto (tgt := 4) D27_30 rfl ?_
        refine r_loc (lv' := [(0, vR 14), (1, vI depth), (2, vI (x2 + 1)), (3, vI (x3 + 1))]) ⟨rfl, rfl, rfl, rfl, trivial⟩ rfl rfl ?_
        have g543 : gi M530 14 2 = t539 := ht540.symm
        have g544 : gi M530 14 3 = t541 := ht542.symm
        have g545 : gi M530 14 4 = pq := (f532.g rfl).trans (i6)
        have g546 : gi M530 14 10 = fo := (f532.g rfl).trans (i7)
        exact ih (x2 + 1) (x3 + 1) t539 t541 M530 H531 f538 (by omega) (by omega) (by omega) (by omega) (by omega) (fun r h => i5 r (RR.n4 (by omega) (h.at (by omega)))) (by omega) (by omega) (by omega) (by omega) (by omega) (by omega) (by omega) (by omega) (by omega) (by omega)
set_option maxRecDepth 4000 in
theorem k27_14p {base : Nat} {X : Nat → Option mC} {G : Nat → Value} (E : EnvOK base X G) {rr : Nat} (ihr : ∀ {d : Nat} (_ : 30 + 3 * rr ≤ d) {M : mH} (_ : HI base M) (depth : Int) (ct : Int) (at_ : Int) (kd : Int) (K : Int → Int) (st : Int → Int) (fo : Int) (pq : Int), (TKx K st ct M) → (K ct = 22) → (0 ≤ ct ∧ ct ≤ 400) → (gi M 14 2 = at_) → (gi M 14 3 = kd) → (kd = K at_) → (0 ≤ at_ ∧ at_ ≤ ct) → (0 ≤ kd ∧ kd ≤ 511) → (gi M 14 10 = fo) → (gi M 14 4 = pq) → (0 ≤ pq ∧ pq ≤ 50) → (0 ≤ depth ∧ depth ≤ 8) → 8 - depth < ((rr : Nat) : Int) → sOk base X G d T25 [vR 14, vI depth] M (pI (fun v M' => HI base M' ∧ Fr [(14, 3), (14, 4), (14, 5), (14, 10), (14, 11), (19, 0)] M M' ∧ (v = 0 ∨ v = 1) ∧ (at_ ≤ gi M' 14 2 ∧ gi M' 14 2 ≤ ct) ∧ (gi M' 14 3 = K (gi M' 14 2)) ∧ (0 ≤ gi M' 14 4 ∧ gi M' 14 4 ≤ 50) ∧ (RR K 0 depth at_ pq (gi M' 14 2, gi M' 14 4, -v)) ∧ (FTx st fo (gi M' 14 10) (gi M' 14 2) v)))) {d : Nat} (hd : 31 + 3 * rr ≤ d) {M : mH} (H : HI base M) (depth : Int) (ct : Int) (at_ : Int) (kd : Int) (K : Int → Int) (st : Int → Int) (fo : Int) (pq : Int) (h0 : TKx K st ct M) (h1 : K ct = 22) (h2 : 0 ≤ ct ∧ ct ≤ 400) (h3 : gi M 14 2 = at_) (h4 : gi M 14 3 = kd) (h5 : kd = K at_) (h6 : 0 ≤ at_ ∧ at_ ≤ ct) (h7 : 0 ≤ kd ∧ kd ≤ 511) (h8 : gi M 14 10 = fo) (h9 : gi M 14 4 = pq) (h10 : 0 ≤ pq ∧ pq ≤ 50) (h11 : 0 ≤ depth ∧ depth ≤ 8) (h12 : 8 - depth < (rr : Int) + 1) : sOk base X G d T27 [vR 14, vI depth] M (pI (fun v M' => HI base M' ∧ Fr [(14, 3), (14, 4), (14, 5), (14, 10), (14, 11), (19, 0)] M M' ∧ (v = 0 ∨ v = 1) ∧ (at_ ≤ gi M' 14 2 ∧ gi M' 14 2 ≤ ct) ∧ (gi M' 14 3 = K (gi M' 14 2)) ∧ (0 ≤ gi M' 14 4 ∧ gi M' 14 4 ≤ 50) ∧ (RR K 4 depth at_ pq (gi M' 14 2, gi M' 14 4, -v)) ∧ (FTx st fo (gi M' 14 10) (gi M' 14 2) v))) := by
  have f0 : Fr [(14, 3), (14, 4), (14, 5), (14, 10), (14, 11), (19, 0)] M M := Fr.rf
  refine sOk.of (show sRn base X G d T27 0 [(0, vR 14), (1, vI depth)] [] M _ from ?_)
  have kk := h5
  have kF : FTx st fo fo at_ 1 := FTx.one
  refine s_blx (lv' := [(3, vI 0), (2, vI 0), (0, vR 14), (1, vI depth)]) (st' := []) B27_0_4 rfl ?_
  refine r_loc (lv' := [(0, vR 14), (1, vI depth), (2, vI 0), (3, vI 0)]) ⟨rfl, rfl, rfl, rfl, trivial⟩ rfl rfl ?_
  have g1 : gi M 14 2 = at_ := h3
  have g2 : gi M 14 3 = kd := h4
  have g3 : gi M 14 4 = pq := h9
  have g4 : gi M 14 10 = fo := h8
  exact (L_k27_14p E ihr hd H depth ct at_ kd K st fo pq h0 h1 h2 h3 h4 h5 h6 h7 h8 h9 h10 h11 h12 (((400 - 0) * 1 + 0 : Int) + 1).toNat) 0 0 at_ kd M H f0 (by omega) (by omega) (by omega) (by omega) (by omega) (fun r h => h) (by omega) (by omega) (by omega) (by omega) (by omega) (by omega) (by omega) (by omega) (by omega) (by omega)
set_option maxRecDepth 4000 in
theorem L_k26_14p {base : Nat} {X : Nat → Option mC} {G : Nat → Value} (E : EnvOK base X G) {rr : Nat} (ihr : ∀ {d : Nat} (_ : 30 + 3 * rr ≤ d) {M : mH} (_ : HI base M) (depth : Int) (ct : Int) (at_ : Int) (kd : Int) (K : Int → Int) (st : Int → Int) (fo : Int) (pq : Int), (TKx K st ct M) → (K ct = 22) → (0 ≤ ct ∧ ct ≤ 400) → (gi M 14 2 = at_) → (gi M 14 3 = kd) → (kd = K at_) → (0 ≤ at_ ∧ at_ ≤ ct) → (0 ≤ kd ∧ kd ≤ 511) → (gi M 14 10 = fo) → (gi M 14 4 = pq) → (0 ≤ pq ∧ pq ≤ 50) → (0 ≤ depth ∧ depth ≤ 8) → 8 - depth < ((rr : Nat) : Int) → sOk base X G d T25 [vR 14, vI depth] M (pI (fun v M' => HI base M' ∧ Fr [(14, 3), (14, 4), (14, 5), (14, 10), (14, 11), (19, 0)] M M' ∧ (v = 0 ∨ v = 1) ∧ (at_ ≤ gi M' 14 2 ∧ gi M' 14 2 ≤ ct) ∧ (gi M' 14 3 = K (gi M' 14 2)) ∧ (0 ≤ gi M' 14 4 ∧ gi M' 14 4 ≤ 50) ∧ (RR K 0 depth at_ pq (gi M' 14 2, gi M' 14 4, -v)) ∧ (FTx st fo (gi M' 14 10) (gi M' 14 2) v)))) {d : Nat} (hd : 32 + 3 * rr ≤ d) {M : mH} (H : HI base M) (depth : Int) (ct : Int) (at_ : Int) (kd : Int) (K : Int → Int) (st : Int → Int) (fo : Int) (pq : Int) (h0 : TKx K st ct M) (h1 : K ct = 22) (h2 : 0 ≤ ct ∧ ct ≤ 400) (h3 : gi M 14 2 = at_) (h4 : gi M 14 3 = kd) (h5 : kd = K at_) (h6 : 0 ≤ at_ ∧ at_ ≤ ct) (h7 : 0 ≤ kd ∧ kd ≤ 511) (h8 : gi M 14 10 = fo) (h9 : gi M 14 4 = pq) (h10 : 0 ≤ pq ∧ pq ≤ 50) (h11 : 0 ≤ depth ∧ depth ≤ 8) (h12 : 8 - depth < (rr : Int) + 1) : ∀ mz : Nat, (∀ (x2 x3 a0 k0 p0 y0 : Int) (N : mH), HI base N → Fr [(14, 3), (14, 4), (14, 5), (14, 10), (14, 11), (19, 0)] M N → (gi N 14 2 = a0) → (gi N 14 3 = k0) → (gi N 14 4 = p0) → (gi N 14 10 = y0) → (k0 = K a0) → (at_ ≤ a0 ∧ a0 ≤ ct) → (0 ≤ k0 ∧ k0 ≤ 511) → (0 ≤ p0 ∧ p0 ≤ 50) → (0 ≤ x2 ∧ x2 ≤ 1) → (0 ≤ x3 ∧ x3 ≤ a0 - at_) → (LPx K 2 3 depth at_ pq a0 p0 x2) → (FTx st fo y0 a0 x2) → (0 ≤ x2) → (x2 ≤ 1) → (0 ≤ x3) → (x3 ≤ 400) → (400 - x3) * 1 + 0 < (mz : Int) → sRn base X G d T26 8 [(0, vR 14), (1, vI depth), (2, vI x2), (3, vI x3)] [] N (s_Q base (pI (fun v M' => HI base M' ∧ Fr [(14, 3), (14, 4), (14, 5), (14, 10), (14, 11), (19, 0)] M M' ∧ (v = 0 ∨ v = 1) ∧ (at_ ≤ gi M' 14 2 ∧ gi M' 14 2 ≤ ct) ∧ (gi M' 14 3 = K (gi M' 14 2)) ∧ (0 ≤ gi M' 14 4 ∧ gi M' 14 4 ≤ 50) ∧ (RR K 2 depth at_ pq (gi M' 14 2, gi M' 14 4, -v)) ∧ (FTx st fo (gi M' 14 10) (gi M' 14 2) v))))) := by
  have f0 : Fr [(14, 3), (14, 4), (14, 5), (14, 10), (14, 11), (19, 0)] M M := Fr.rf
  intro mz
  induction mz with
  | zero => exact fun x2 x3 a0 k0 p0 y0 N _ _ z0 z1 z2 z3 z4 z5 z6 z7 z8 z9 z10 z11 z12 z13 z14 z15 z16 => by omega
  | succ mz ih =>
    intro x2 x3 a0 k0 p0 y0 N HN fN i0 i1 i2 i3 i4 i5 i6 i7 i8 i9 i10 i11 i12 i13 i14 i15 hmu
    have kn : a0 = ct → K a0 = 22 := fun h => by rw [h]; exact h1
    have kk := i4
    have kF := i11
    refine s_blx (lv' := [(0, vR 14), (1, vI depth), (2, vI x2), (3, vI x3)]) (st' := [vI 400, vI x3]) B26_8_12 rfl ?_
    refine r_icmp (tgt := 59) (pc' := 15) D26_12 rfl rfl (by unfold inR; omega) (fun (c29 : 400 ≤ x3) => ?_) (fun (c29 : ¬ (400 ≤ x3)) => ?_)
    · refine s_blx (lv' := [(0, vR 14), (1, vI depth), (2, vI x2), (3, vI x3)]) (st' := [vI x2]) B26_59_60 rfl ?_
      have g30 : gi N 14 2 = a0 := i0
      have g31 : gi N 14 3 = k0 := i1
      have g32 : gi N 14 4 = p0 := i2
      have g33 : gi N 14 10 = y0 := i3
      exact r_zretI D26_60 rfl (by omega) (⟨HN, fN, by omega, by first | (rw [g30]; omega) | rw [g30], by rw [(i1), (i0)]; exact kk, by first | (rw [g32]; omega) | rw [g32], by rw [(i0), (i2)]; exact LPx.fin i10 (by omega) (fun hx => RR.e3 (by omega)), by rw [(i3), (i0)]; first | exact kF | exact kF.lit (by omega) | exact kF.up (by omega) (by omega)⟩)
    · refine s_blx (lv' := [(0, vR 14), (1, vI depth), (2, vI x2), (3, vI x3)]) (st' := [vI x2]) B26_15_16 rfl ?_
      refine r_ifc (tgt := 59) (pc' := 19) D26_16 rfl rfl (by unfold inR; omega) (fun (c34 : x2 = 0) => ?_) (fun (c34 : ¬ (x2 = 0)) => ?_)
      · refine s_blx (lv' := [(0, vR 14), (1, vI depth), (2, vI x2), (3, vI x3)]) (st' := [vI x2]) B26_59_60 rfl ?_
        have g35 : gi N 14 2 = a0 := i0
        have g36 : gi N 14 3 = k0 := i1
        have g37 : gi N 14 4 = p0 := i2
        have g38 : gi N 14 10 = y0 := i3
        exact r_zretI D26_60 rfl (by omega) (⟨HN, fN, by omega, by first | (rw [g35]; omega) | rw [g35], by rw [(i1), (i0)]; exact kk, by first | (rw [g37]; omega) | rw [g37], by rw [(i0), (i2)]; exact LPx.fin i10 (by omega) (fun hx => RR.e3 (by omega)), by rw [(i3), (i0)]; first | exact kF | exact kF.lit (by omega) | exact kF.up (by omega) (by omega)⟩)
      · refine s_blx (lv' := [(0, vR 14), (1, vI depth), (2, vI x2), (3, vI x3)]) (st' := [vR 14]) B26_19_20 rfl ?_
        refine r_gint (ki := 3) (pc' := 23) D26_20 rfl gf_4_22_14 rfl HN.1 ?_
        intro w39 e40 r41
        have e42 : k0 = w39 := (e40.trans (i1)).symm
        subst e42
        refine s_blx (lv' := [(0, vR 14), (1, vI depth), (2, vI x2), (3, vI x3)]) (st' := [vI 8, vI k0]) B26_23_25 rfl ?_
        refine r_icmp (tgt := 59) (pc' := 28) D26_25 rfl rfl (by unfold inR; omega) (fun (c43 : k0 ≠ 8) => ?_) (fun (c43 : ¬ (k0 ≠ 8)) => ?_)
        · refine s_blx (lv' := [(0, vR 14), (1, vI depth), (2, vI x2), (3, vI x3)]) (st' := [vI x2]) B26_59_60 rfl ?_
          have g44 : gi N 14 2 = a0 := i0
          have g45 : gi N 14 3 = k0 := i1
          have g46 : gi N 14 4 = p0 := i2
          have g47 : gi N 14 10 = y0 := i3
          exact r_zretI D26_60 rfl (by omega) (⟨HN, fN, by omega, by first | (rw [g44]; omega) | rw [g44], by rw [(i1), (i0)]; exact kk, by first | (rw [g46]; omega) | rw [g46], by rw [(i0), (i2)]; exact LPx.fin i10 (by omega) (fun hx => RR.e3 (by omega)), by rw [(i3), (i0)]; first | exact kF | exact kF.lit (by omega) | exact kF.up (by omega) (by omega)⟩)
        · refine s_blx (lv' := [(0, vR 14), (1, vI depth), (2, vI x2), (3, vI x3)]) (st' := [vI 0, vI 10, vR 14]) B26_28_32 rfl ?_
          refine r_vI (c := 14) (args := [vI 10, vI 0]) (rest := []) (pc' := 35) D26_32 rfl ck_4_virtual_118 TE37 rfl (Nat.le_of_ble_eq_true rfl) ⟨Nat.le_of_ble_eq_true rfl, Nat.le_of_ble_eq_true rfl⟩ sc_14 ⟨rfl, by decide⟩ HN.1 (by omega) (k37_14p E (by omega) HN 10 0 (by omega) (by omega)) ?_
          intro v48 M49 q53
          obtain ⟨H50, f51, q52⟩ := q53
          have f54 := fN.tr (f51.up rfl)
          refine s_blx (lv' := [(4, vI v48), (0, vR 14), (1, vI depth), (2, vI x2), (3, vI x3)]) (st' := [vR 14]) B26_35_38 rfl ?_
          have g55 : gi M49 14 2 = a0 := (f51.g rfl).trans (i0)
          have g56 : gi M49 14 3 = k0 := (f51.g rfl).trans (i1)
          refine r_vV (c := 14) (args := []) (rest := []) (pc' := 41) D26_38 rfl ck_4_virtual_105 TE35 rfl (Nat.le_of_ble_eq_true rfl) ⟨Nat.le_of_ble_eq_true rfl, Nat.le_of_ble_eq_true rfl⟩ sc_14 ⟨rfl, by decide⟩ H50.1 (by omega) (k35_14p E (by omega) H50 ct a0 k0 K st ((h0.fr f54 rfl)) (by omega) (by omega) (by omega) (by omega) (by omega) (by omega) (by omega) (by omega)) ?_
          intro M58 q65
          obtain ⟨H59, f60, q61, q62, q63, q64⟩ := q65
          have f66 := f54.tr (f60.up rfl)
          obtain ⟨t67, ht68⟩ : ∃ q, q = gi M58 14 2 := ⟨_, rfl⟩
          have b_t67 := H59.2 14 2 0 400 rfl
          rw [← ht68] at b_t67
          obtain ⟨t69, ht70⟩ : ∃ q, q = gi M58 14 3 := ⟨_, rfl⟩
          have b_t69 := H59.2 14 3 0 511 rfl
          rw [← ht70] at b_t69
          rw [← ht68] at q61
          rw [← ht68, ← ht70] at q62
          rw [← ht68] at q63
          rw [← ht70] at q64
          refine s_blx (lv' := [(4, vI v48), (0, vR 14), (1, vI depth), (2, vI x2), (3, vI x3)]) (st' := [vI depth, vR 14]) B26_41_43 rfl ?_
          have g71 : gi M58 14 2 = t67 := ht68.symm
          have g72 : gi M58 14 3 = t69 := ht70.symm
          have g73 : gi M58 14 10 = y0 := (f60.g rfl).trans ((f51.g rfl).trans (i3))
          have g74 : gi M58 14 4 = p0 := (f60.g rfl).trans ((f51.g rfl).trans (i2))
          refine r_vI (c := 14) (args := [vI depth]) (rest := []) (pc' := 46) D26_43 rfl ck_4_virtual_125 TE27 rfl (Nat.le_of_ble_eq_true rfl) ⟨Nat.le_of_ble_eq_true rfl, Nat.le_of_ble_eq_true rfl⟩ sc_14 ⟨rfl, by decide⟩ H59.1 (by omega) (k27_14p E ihr (by omega) H59 depth ct t67 t69 K st y0 p0 ((h0.fr f66 rfl)) (by omega) (by omega) (by omega) (by omega) (by omega) (by omega) (by omega) (by omega) (by omega) (by omega) (by omega) (by omega)) ?_
          intro v75 M76 q85
          obtain ⟨H77, f78, q79, q80, q81, q82, q83, q84⟩ := q85
          have f86 := f66.tr (f78.up rfl)
          obtain ⟨t87, ht88⟩ : ∃ q, q = gi M76 14 2 := ⟨_, rfl⟩
          have b_t87 := H77.2 14 2 0 400 rfl
          rw [← ht88] at b_t87
          obtain ⟨t89, ht90⟩ : ∃ q, q = gi M76 14 3 := ⟨_, rfl⟩
          have b_t89 := H77.2 14 3 0 511 rfl
          rw [← ht90] at b_t89
          obtain ⟨t91, ht92⟩ : ∃ q, q = gi M76 14 4 := ⟨_, rfl⟩
          have b_t91 := H77.2 14 4 0 50 rfl
          rw [← ht92] at b_t91
          obtain ⟨t93, ht94⟩ : ∃ q, q = gi M76 14 10 := ⟨_, rfl⟩
          have b_t93 := (H77.1.int sc_14 (i := 10) (by decide) (by decide) rfl).2
          unfold inR at b_t93; rw [← ht94] at b_t93
          rw [← ht88] at q80
          rw [← ht88, ← ht90] at q81
          rw [← ht92] at q82
          rw [← ht88, ← ht92] at q83
          rw [← ht88, ← ht94] at q84
          have kS := q83; clear q83
          have kk := q81; clear q81
          have kF := kF.tr (by omega) q84
          refine s_blx (lv' := [(2, vI v75), (4, vI v48), (0, vR 14), (1, vI depth), (3, vI x3)]) (st' := [vI v48, vR 14]) B26_46_50 rfl ?_
          refine r_vV (c := 14) (args := [vI v48]) (rest := []) (pc' := 53) D26_50 rfl ck_4_virtual_121 TE38 rfl (Nat.le_of_ble_eq_true rfl) ⟨Nat.le_of_ble_eq_true rfl, Nat.le_of_ble_eq_true rfl⟩ sc_14 ⟨rfl, by decide⟩ H77.1 (by omega) (k38_14p E (by omega) H77 v48 (by omega)) ?_
          intro M96 q99
          obtain ⟨H97, f98⟩ := q99
          have f100 := f86.tr (f98.up rfl)
          refine s_blx (lv' := [(3, vI (x3 + 1)), (2, vI v75), (4, vI v48), (0, vR 14), (1, vI depth)]) (st' := []) B26_53_56 rfl ?_
          refine r_goto (tgt := 8) D26_56 rfl ?_
          refine r_loc (lv' := [(0, vR 14), (1, vI depth), (2, vI v75), (3, vI (x3 + 1))]) ⟨rfl, rfl, rfl, rfl, trivial⟩ rfl rfl ?_
          have g101 : gi M96 14 2 = t87 := (f98.g rfl).trans (ht88.symm)
          have g102 : gi M96 14 3 = t89 := (f98.g rfl).trans (ht90.symm)
          have g103 : gi M96 14 4 = t91 := (f98.g rfl).trans (ht92.symm)
          have g104 : gi M96 14 10 = t93 := (f98.g rfl).trans (ht94.symm)
          exact ih v75 (x3 + 1) t87 t89 t91 t93 M96 H97 f100 (by omega) (by omega) (by omega) (by omega) (by omega) (by omega) (by omega) (by omega) (by omega) (by omega) (LPx.stp (fun _ _ _ g1 g2 => RR.m3 (by omega) g1 g2) (fun _ _ g1 => RR.b3 (by omega) g1) i10 (by omega) (by omega) (kS.at (by omega))) (kF) (by omega) (by omega) (by omega) (by omega) (by omega)
set_option maxRecDepth 4000 in
theorem k26_14p {base : Nat} {X : Nat → Option mC} {G : Nat → Value} (E : EnvOK base X G) {rr : Nat} (ihr : ∀ {d : Nat} (_ : 30 + 3 * rr ≤ d) {M : mH} (_ : HI base M) (depth : Int) (ct : Int) (at_ : Int) (kd : Int) (K : Int → Int) (st : Int → Int) (fo : Int) (pq : Int), (TKx K st ct M) → (K ct = 22) → (0 ≤ ct ∧ ct ≤ 400) → (gi M 14 2 = at_) → (gi M 14 3 = kd) → (kd = K at_) → (0 ≤ at_ ∧ at_ ≤ ct) → (0 ≤ kd ∧ kd ≤ 511) → (gi M 14 10 = fo) → (gi M 14 4 = pq) → (0 ≤ pq ∧ pq ≤ 50) → (0 ≤ depth ∧ depth ≤ 8) → 8 - depth < ((rr : Nat) : Int) → sOk base X G d T25 [vR 14, vI depth] M (pI (fun v M' => HI base M' ∧ Fr [(14, 3), (14, 4), (14, 5), (14, 10), (14, 11), (19, 0)] M M' ∧ (v = 0 ∨ v = 1) ∧ (at_ ≤ gi M' 14 2 ∧ gi M' 14 2 ≤ ct) ∧ (gi M' 14 3 = K (gi M' 14 2)) ∧ (0 ≤ gi M' 14 4 ∧ gi M' 14 4 ≤ 50) ∧ (RR K 0 depth at_ pq (gi M' 14 2, gi M' 14 4, -v)) ∧ (FTx st fo (gi M' 14 10) (gi M' 14 2) v)))) {d : Nat} (hd : 32 + 3 * rr ≤ d) {M : mH} (H : HI base M) (depth : Int) (ct : Int) (at_ : Int) (kd : Int) (K : Int → Int) (st : Int → Int) (fo : Int) (pq : Int) (h0 : TKx K st ct M) (h1 : K ct = 22) (h2 : 0 ≤ ct ∧ ct ≤ 400) (h3 : gi M 14 2 = at_) (h4 : gi M 14 3 = kd) (h5 : kd = K at_) (h6 : 0 ≤ at_ ∧ at_ ≤ ct) (h7 : 0 ≤ kd ∧ kd ≤ 511) (h8 : gi M 14 10 = fo) (h9 : gi M 14 4 = pq) (h10 : 0 ≤ pq ∧ pq ≤ 50) (h11 : 0 ≤ depth ∧ depth ≤ 8) (h12 : 8 - depth < (rr : Int) + 1) : sOk base X G d T26 [vR 14, vI depth] M (pI (fun v M' => HI base M' ∧ Fr [(14, 3), (14, 4), (14, 5), (14, 10), (14, 11), (19, 0)] M M' ∧ (v = 0 ∨ v = 1) ∧ (at_ ≤ gi M' 14 2 ∧ gi M' 14 2 ≤ ct) ∧ (gi M' 14 3 = K (gi M' 14 2)) ∧ (0 ≤ gi M' 14 4 ∧ gi M' 14 4 ≤ 50) ∧ (RR K 2 depth at_ pq (gi M' 14 2, gi M' 14 4, -v)) ∧ (FTx st fo (gi M' 14 10) (gi M' 14 2) v))) := by
  have f0 : Fr [(14, 3), (14, 4), (14, 5), (14, 10), (14, 11), (19, 0)] M M := Fr.rf
  refine sOk.of (show sRn base X G d T26 0 [(0, vR 14), (1, vI depth)] [] M _ from ?_)
  have kk := h5
  have kF : FTx st fo fo at_ 1 := FTx.one
  refine s_blx (lv' := [(0, vR 14), (1, vI depth)]) (st' := [vI depth, vR 14]) B26_0_2 rfl ?_
  have g1 : gi M 14 2 = at_ := h3
  have g2 : gi M 14 3 = kd := h4
  have g3 : gi M 14 10 = fo := h8
  have g4 : gi M 14 4 = pq := h9
  refine r_vI (c := 14) (args := [vI depth]) (rest := []) (pc' := 5) D26_2 rfl ck_4_virtual_125 TE27 rfl (Nat.le_of_ble_eq_true rfl) ⟨Nat.le_of_ble_eq_true rfl, Nat.le_of_ble_eq_true rfl⟩ sc_14 ⟨rfl, by decide⟩ H.1 (by omega) (k27_14p E ihr (by omega) H depth ct at_ kd K st fo pq (h0) (by omega) (by omega) (by omega) (by omega) (by omega) (by omega) (by omega) (by omega) (by omega) (by omega) (by omega) (by omega)) ?_
  intro v5 M6 q15
  obtain ⟨H7, f8, q9, q10, q11, q12, q13, q14⟩ := q15
  have f16 := f0.tr (f8.up rfl)
  obtain ⟨t17, ht18⟩ : ∃ q, q = gi M6 14 2 := ⟨_, rfl⟩
  have b_t17 := H7.2 14 2 0 400 rfl
  rw [← ht18] at b_t17
  obtain ⟨t19, ht20⟩ : ∃ q, q = gi M6 14 3 := ⟨_, rfl⟩
  have b_t19 := H7.2 14 3 0 511 rfl
  rw [← ht20] at b_t19
  obtain ⟨t21, ht22⟩ : ∃ q, q = gi M6 14 4 := ⟨_, rfl⟩
  have b_t21 := H7.2 14 4 0 50 rfl
  rw [← ht22] at b_t21
  obtain ⟨t23, ht24⟩ : ∃ q, q = gi M6 14 10 := ⟨_, rfl⟩
  have b_t23 := (H7.1.int sc_14 (i := 10) (by decide) (by decide) rfl).2
  unfold inR at b_t23; rw [← ht24] at b_t23
  rw [← ht18] at q10
  rw [← ht18, ← ht20] at q11
  rw [← ht22] at q12
  rw [← ht18, ← ht22] at q13
  rw [← ht18, ← ht24] at q14
  have kS := q13; clear q13
  have kk := q11; clear q11
  have kF := kF.tr (by omega) q14
  refine s_blx (lv' := [(3, vI 0), (2, vI v5), (0, vR 14), (1, vI depth)]) (st' := []) B26_5_8 rfl ?_
  refine r_loc (lv' := [(0, vR 14), (1, vI depth), (2, vI v5), (3, vI 0)]) ⟨rfl, rfl, rfl, rfl, trivial⟩ rfl rfl ?_
  have g25 : gi M6 14 2 = t17 := ht18.symm
  have g26 : gi M6 14 3 = t19 := ht20.symm
  have g27 : gi M6 14 4 = t21 := ht22.symm
  have g28 : gi M6 14 10 = t23 := ht24.symm
  exact (L_k26_14p E ihr hd H depth ct at_ kd K st fo pq h0 h1 h2 h3 h4 h5 h6 h7 h8 h9 h10 h11 h12 (((400 - 0) * 1 + 0 : Int) + 1).toNat) v5 0 t17 t19 t21 t23 M6 H7 f16 (by omega) (by omega) (by omega) (by omega) (by omega) (by omega) (by omega) (by omega) (by omega) (by omega) (LPx.ini (fun _ _ _ g1 g2 => RR.m2 g1 g2) (fun _ _ g1 => RR.b2 g1) (by omega) kS) (kF) (by omega) (by omega) (by omega) (by omega) (by omega)
set_option maxRecDepth 4000 in
theorem L_k25_14p {base : Nat} {X : Nat → Option mC} {G : Nat → Value} (E : EnvOK base X G) {rr : Nat} (ihr : ∀ {d : Nat} (_ : 30 + 3 * rr ≤ d) {M : mH} (_ : HI base M) (depth : Int) (ct : Int) (at_ : Int) (kd : Int) (K : Int → Int) (st : Int → Int) (fo : Int) (pq : Int), (TKx K st ct M) → (K ct = 22) → (0 ≤ ct ∧ ct ≤ 400) → (gi M 14 2 = at_) → (gi M 14 3 = kd) → (kd = K at_) → (0 ≤ at_ ∧ at_ ≤ ct) → (0 ≤ kd ∧ kd ≤ 511) → (gi M 14 10 = fo) → (gi M 14 4 = pq) → (0 ≤ pq ∧ pq ≤ 50) → (0 ≤ depth ∧ depth ≤ 8) → 8 - depth < ((rr : Nat) : Int) → sOk base X G d T25 [vR 14, vI depth] M (pI (fun v M' => HI base M' ∧ Fr [(14, 3), (14, 4), (14, 5), (14, 10), (14, 11), (19, 0)] M M' ∧ (v = 0 ∨ v = 1) ∧ (at_ ≤ gi M' 14 2 ∧ gi M' 14 2 ≤ ct) ∧ (gi M' 14 3 = K (gi M' 14 2)) ∧ (0 ≤ gi M' 14 4 ∧ gi M' 14 4 ≤ 50) ∧ (RR K 0 depth at_ pq (gi M' 14 2, gi M' 14 4, -v)) ∧ (FTx st fo (gi M' 14 10) (gi M' 14 2) v)))) {d : Nat} (hd : 30 + 3 * (rr + 1) ≤ d) {M : mH} (H : HI base M) (depth : Int) (ct : Int) (at_ : Int) (kd : Int) (K : Int → Int) (st : Int → Int) (fo : Int) (pq : Int) (h0 : TKx K st ct M) (h1 : K ct = 22) (h2 : 0 ≤ ct ∧ ct ≤ 400) (h3 : gi M 14 2 = at_) (h4 : gi M 14 3 = kd) (h5 : kd = K at_) (h6 : 0 ≤ at_ ∧ at_ ≤ ct) (h7 : 0 ≤ kd ∧ kd ≤ 511) (h8 : gi M 14 10 = fo) (h9 : gi M 14 4 = pq) (h10 : 0 ≤ pq ∧ pq ≤ 50) (h11 : 0 ≤ depth ∧ depth ≤ 8) (hrr : 8 - depth < ((rr + 1 : Nat) : Int)) : ∀ mz : Nat, (∀ (x2 x3 a0 k0 p0 y0 : Int) (N : mH), HI base N → Fr [(14, 3), (14, 4), (14, 5), (14, 10), (14, 11), (19, 0)] M N → (gi N 14 2 = a0) → (gi N 14 3 = k0) → (gi N 14 4 = p0) → (gi N 14 10 = y0) → (k0 = K a0) → (at_ ≤ a0 ∧ a0 ≤ ct) → (0 ≤ k0 ∧ k0 ≤ 511) → (0 ≤ p0 ∧ p0 ≤ 50) → (0 ≤ x2 ∧ x2 ≤ 1) → (0 ≤ x3 ∧ x3 ≤ a0 - at_) → (LPx K 0 1 depth at_ pq a0 p0 x2) → (FTx st fo y0 a0 x2) → (0 ≤ x2) → (x2 ≤ 1) → (0 ≤ x3) → (x3 ≤ 400) → (400 - x3) * 1 + 0 < (mz : Int) → sRn base X G d T25 8 [(0, vR 14), (1, vI depth), (2, vI x2), (3, vI x3)] [] N (s_Q base (pI (fun v M' => HI base M' ∧ Fr [(14, 3), (14, 4), (14, 5), (14, 10), (14, 11), (19, 0)] M M' ∧ (v = 0 ∨ v = 1) ∧ (at_ ≤ gi M' 14 2 ∧ gi M' 14 2 ≤ ct) ∧ (gi M' 14 3 = K (gi M' 14 2)) ∧ (0 ≤ gi M' 14 4 ∧ gi M' 14 4 ≤ 50) ∧ (RR K 0 depth at_ pq (gi M' 14 2, gi M' 14 4, -v)) ∧ (FTx st fo (gi M' 14 10) (gi M' 14 2) v))))) := by
  have f0 : Fr [(14, 3), (14, 4), (14, 5), (14, 10), (14, 11), (19, 0)] M M := Fr.rf
  intro mz
  induction mz with
  | zero => exact fun x2 x3 a0 k0 p0 y0 N _ _ z0 z1 z2 z3 z4 z5 z6 z7 z8 z9 z10 z11 z12 z13 z14 z15 z16 => by omega
  | succ mz ih =>
    intro x2 x3 a0 k0 p0 y0 N HN fN i0 i1 i2 i3 i4 i5 i6 i7 i8 i9 i10 i11 i12 i13 i14 i15 hmu
    have kn : a0 = ct → K a0 = 22 := fun h => by rw [h]; exact h1
    have kk := i4
    have kF := i11
    refine s_blx (lv' := [(0, vR 14), (1, vI depth), (2, vI x2), (3, vI x3)]) (st' := [vI 400, vI x3]) B25_8_12 rfl ?_
    refine r_icmp (tgt := 59) (pc' := 15) D25_12 rfl rfl (by unfold inR; omega) (fun (c29 : 400 ≤ x3) => ?_) (fun (c29 : ¬ (400 ≤ x3)) => ?_)
    · refine s_blx (lv' := [(0, vR 14), (1, vI depth), (2, vI x2), (3, vI x3)]) (st' := [vI x2]) B25_59_60 rfl ?_
      have g30 : gi N 14 2 = a0 := i0
      have g31 : gi N 14 3 = k0 := i1
      have g32 : gi N 14 4 = p0 := i2
      have g33 : gi N 14 10 = y0 := i3
      exact r_zretI D25_60 rfl (by omega) (⟨HN, fN, by omega, by first | (rw [g30]; omega) | rw [g30], by rw [(i1), (i0)]; exact kk, by first | (rw [g32]; omega) | rw [g32], by rw [(i0), (i2)]; exact LPx.fin i10 (by omega) (fun hx => RR.e1 (by omega)), by rw [(i3), (i0)]; first | exact kF | exact kF.lit (by omega) | exact kF.up (by omega) (by omega)⟩)
    · refine s_blx (lv' := [(0, vR 14), (1, vI depth), (2, vI x2), (3, vI x3)]) (st' := [vI x2]) B25_15_16 rfl ?_
      refine r_ifc (tgt := 59) (pc' := 19) D25_16 rfl rfl (by unfold inR; omega) (fun (c34 : x2 = 0) => ?_) (fun (c34 : ¬ (x2 = 0)) => ?_)
      · refine s_blx (lv' := [(0, vR 14), (1, vI depth), (2, vI x2), (3, vI x3)]) (st' := [vI x2]) B25_59_60 rfl ?_
        have g35 : gi N 14 2 = a0 := i0
        have g36 : gi N 14 3 = k0 := i1
        have g37 : gi N 14 4 = p0 := i2
        have g38 : gi N 14 10 = y0 := i3
        exact r_zretI D25_60 rfl (by omega) (⟨HN, fN, by omega, by first | (rw [g35]; omega) | rw [g35], by rw [(i1), (i0)]; exact kk, by first | (rw [g37]; omega) | rw [g37], by rw [(i0), (i2)]; exact LPx.fin i10 (by omega) (fun hx => RR.e1 (by omega)), by rw [(i3), (i0)]; first | exact kF | exact kF.lit (by omega) | exact kF.up (by omega) (by omega)⟩)
      · refine s_blx (lv' := [(0, vR 14), (1, vI depth), (2, vI x2), (3, vI x3)]) (st' := [vR 14]) B25_19_20 rfl ?_
        refine r_gint (ki := 3) (pc' := 23) D25_20 rfl gf_4_22_14 rfl HN.1 ?_
        intro w39 e40 r41
        have e42 : k0 = w39 := (e40.trans (i1)).symm
        subst e42
        refine s_blx (lv' := [(0, vR 14), (1, vI depth), (2, vI x2), (3, vI x3)]) (st' := [vI 7, vI k0]) B25_23_25 rfl ?_
        refine r_icmp (tgt := 59) (pc' := 28) D25_25 rfl rfl (by unfold inR; omega) (fun (c43 : k0 ≠ 7) => ?_) (fun (c43 : ¬ (k0 ≠ 7)) => ?_)
        · refine s_blx (lv' := [(0, vR 14), (1, vI depth), (2, vI x2), (3, vI x3)]) (st' := [vI x2]) B25_59_60 rfl ?_
          have g44 : gi N 14 2 = a0 := i0
          have g45 : gi N 14 3 = k0 := i1
          have g46 : gi N 14 4 = p0 := i2
          have g47 : gi N 14 10 = y0 := i3
          exact r_zretI D25_60 rfl (by omega) (⟨HN, fN, by omega, by first | (rw [g44]; omega) | rw [g44], by rw [(i1), (i0)]; exact kk, by first | (rw [g46]; omega) | rw [g46], by rw [(i0), (i2)]; exact LPx.fin i10 (by omega) (fun hx => RR.e1 (by omega)), by rw [(i3), (i0)]; first | exact kF | exact kF.lit (by omega) | exact kF.up (by omega) (by omega)⟩)
        · refine s_blx (lv' := [(0, vR 14), (1, vI depth), (2, vI x2), (3, vI x3)]) (st' := [vI 0, vI 11, vR 14]) B25_28_32 rfl ?_
          refine r_vI (c := 14) (args := [vI 11, vI 0]) (rest := []) (pc' := 35) D25_32 rfl ck_4_virtual_118 TE37 rfl (Nat.le_of_ble_eq_true rfl) ⟨Nat.le_of_ble_eq_true rfl, Nat.le_of_ble_eq_true rfl⟩ sc_14 ⟨rfl, by decide⟩ HN.1 (by omega) (k37_14p E (by omega) HN 11 0 (by omega) (by omega)) ?_
          intro v48 M49 q53
          obtain ⟨H50, f51, q52⟩ := q53
          have f54 := fN.tr (f51.up rfl)
          refine s_blx (lv' := [(4, vI v48), (0, vR 14), (1, vI depth), (2, vI x2), (3, vI x3)]) (st' := [vR 14]) B25_35_38 rfl ?_
          have g55 : gi M49 14 2 = a0 := (f51.g rfl).trans (i0)
          have g56 : gi M49 14 3 = k0 := (f51.g rfl).trans (i1)
          refine r_vV (c := 14) (args := []) (rest := []) (pc' := 41) D25_38 rfl ck_4_virtual_105 TE35 rfl (Nat.le_of_ble_eq_true rfl) ⟨Nat.le_of_ble_eq_true rfl, Nat.le_of_ble_eq_true rfl⟩ sc_14 ⟨rfl, by decide⟩ H50.1 (by omega) (k35_14p E (by omega) H50 ct a0 k0 K st ((h0.fr f54 rfl)) (by omega) (by omega) (by omega) (by omega) (by omega) (by omega) (by omega) (by omega)) ?_
          intro M58 q65
          obtain ⟨H59, f60, q61, q62, q63, q64⟩ := q65
          have f66 := f54.tr (f60.up rfl)
          obtain ⟨t67, ht68⟩ : ∃ q, q = gi M58 14 2 := ⟨_, rfl⟩
          have b_t67 := H59.2 14 2 0 400 rfl
          rw [← ht68] at b_t67
          obtain ⟨t69, ht70⟩ : ∃ q, q = gi M58 14 3 := ⟨_, rfl⟩
          have b_t69 := H59.2 14 3 0 511 rfl
          rw [← ht70] at b_t69
          rw [← ht68] at q61
          rw [← ht68, ← ht70] at q62
          rw [← ht68] at q63
          rw [← ht70] at q64
          refine s_blx (lv' := [(4, vI v48), (0, vR 14), (1, vI depth), (2, vI x2), (3, vI x3)]) (st' := [vI depth, vR 14]) B25_41_43 rfl ?_
          have g71 : gi M58 14 2 = t67 := ht68.symm
          have g72 : gi M58 14 3 = t69 := ht70.symm
          have g73 : gi M58 14 10 = y0 := (f60.g rfl).trans ((f51.g rfl).trans (i3))
          have g74 : gi M58 14 4 = p0 := (f60.g rfl).trans ((f51.g rfl).trans (i2))
          refine r_vI (c := 14) (args := [vI depth]) (rest := []) (pc' := 46) D25_43 rfl ck_4_virtual_115 TE26 rfl (Nat.le_of_ble_eq_true rfl) ⟨Nat.le_of_ble_eq_true rfl, Nat.le_of_ble_eq_true rfl⟩ sc_14 ⟨rfl, by decide⟩ H59.1 (by omega) (k26_14p E ihr (by omega) H59 depth ct t67 t69 K st y0 p0 ((h0.fr f66 rfl)) (by omega) (by omega) (by omega) (by omega) (by omega) (by omega) (by omega) (by omega) (by omega) (by omega) (by omega) (by omega)) ?_
          intro v75 M76 q85
          obtain ⟨H77, f78, q79, q80, q81, q82, q83, q84⟩ := q85
          have f86 := f66.tr (f78.up rfl)
          obtain ⟨t87, ht88⟩ : ∃ q, q = gi M76 14 2 := ⟨_, rfl⟩
          have b_t87 := H77.2 14 2 0 400 rfl
          rw [← ht88] at b_t87
          obtain ⟨t89, ht90⟩ : ∃ q, q = gi M76 14 3 := ⟨_, rfl⟩
          have b_t89 := H77.2 14 3 0 511 rfl
          rw [← ht90] at b_t89
          obtain ⟨t91, ht92⟩ : ∃ q, q = gi M76 14 4 := ⟨_, rfl⟩
          have b_t91 := H77.2 14 4 0 50 rfl
          rw [← ht92] at b_t91
          obtain ⟨t93, ht94⟩ : ∃ q, q = gi M76 14 10 := ⟨_, rfl⟩
          have b_t93 := (H77.1.int sc_14 (i := 10) (by decide) (by decide) rfl).2
          unfold inR at b_t93; rw [← ht94] at b_t93
          rw [← ht88] at q80
          rw [← ht88, ← ht90] at q81
          rw [← ht92] at q82
          rw [← ht88, ← ht92] at q83
          rw [← ht88, ← ht94] at q84
          have kS := q83; clear q83
          have kk := q81; clear q81
          have kF := kF.tr (by omega) q84
          refine s_blx (lv' := [(2, vI v75), (4, vI v48), (0, vR 14), (1, vI depth), (3, vI x3)]) (st' := [vI v48, vR 14]) B25_46_50 rfl ?_
          refine r_vV (c := 14) (args := [vI v48]) (rest := []) (pc' := 53) D25_50 rfl ck_4_virtual_121 TE38 rfl (Nat.le_of_ble_eq_true rfl) ⟨Nat.le_of_ble_eq_true rfl, Nat.le_of_ble_eq_true rfl⟩ sc_14 ⟨rfl, by decide⟩ H77.1 (by omega) (k38_14p E (by omega) H77 v48 (by omega)) ?_
          intro M96 q99
          obtain ⟨H97, f98⟩ := q99
          have f100 := f86.tr (f98.up rfl)
          refine s_blx (lv' := [(3, vI (x3 + 1)), (2, vI v75), (4, vI v48), (0, vR 14), (1, vI depth)]) (st' := []) B25_53_56 rfl ?_
          refine r_goto (tgt := 8) D25_56 rfl ?_
          refine r_loc (lv' := [(0, vR 14), (1, vI depth), (2, vI v75), (3, vI (x3 + 1))]) ⟨rfl, rfl, rfl, rfl, trivial⟩ rfl rfl ?_
          have g101 : gi M96 14 2 = t87 := (f98.g rfl).trans (ht88.symm)
          have g102 : gi M96 14 3 = t89 := (f98.g rfl).trans (ht90.symm)
          have g103 : gi M96 14 4 = t91 := (f98.g rfl).trans (ht92.symm)
          have g104 : gi M96 14 10 = t93 := (f98.g rfl).trans (ht94.symm)
          exact ih v75 (x3 + 1) t87 t89 t91 t93 M96 H97 f100 (by omega) (by omega) (by omega) (by omega) (by omega) (by omega) (by omega) (by omega) (by omega) (by omega) (LPx.stp (fun _ _ _ g1 g2 => RR.m1 (by omega) g1 g2) (fun _ _ g1 => RR.b1 (by omega) g1) i10 (by omega) (by omega) (kS.at (by omega))) (kF) (by omega) (by omega) (by omega) (by omega) (by omega)
set_option maxRecDepth 4000 in
theorem k25_14pr {base : Nat} {X : Nat → Option mC} {G : Nat → Value} (E : EnvOK base X G) : ∀ rr : Nat, ∀ {d : Nat} (_ : 30 + 3 * rr ≤ d) {M : mH} (_ : HI base M) (depth : Int) (ct : Int) (at_ : Int) (kd : Int) (K : Int → Int) (st : Int → Int) (fo : Int) (pq : Int), (TKx K st ct M) → (K ct = 22) → (0 ≤ ct ∧ ct ≤ 400) → (gi M 14 2 = at_) → (gi M 14 3 = kd) → (kd = K at_) → (0 ≤ at_ ∧ at_ ≤ ct) → (0 ≤ kd ∧ kd ≤ 511) → (gi M 14 10 = fo) → (gi M 14 4 = pq) → (0 ≤ pq ∧ pq ≤ 50) → (0 ≤ depth ∧ depth ≤ 8) → 8 - depth < ((rr : Nat) : Int) → sOk base X G d T25 [vR 14, vI depth] M (pI (fun v M' => HI base M' ∧ Fr [(14, 3), (14, 4), (14, 5), (14, 10), (14, 11), (19, 0)] M M' ∧ (v = 0 ∨ v = 1) ∧ (at_ ≤ gi M' 14 2 ∧ gi M' 14 2 ≤ ct) ∧ (gi M' 14 3 = K (gi M' 14 2)) ∧ (0 ≤ gi M' 14 4 ∧ gi M' 14 4 ≤ 50) ∧ (RR K 0 depth at_ pq (gi M' 14 2, gi M' 14 4, -v)) ∧ (FTx st fo (gi M' 14 10) (gi M' 14 2) v))) := by
  intro rr
  induction rr with
  | zero => intro d hd M H depth ct at_ kd K st fo pq h0 h1 h2 h3 h4 h5 h6 h7 h8 h9 h10 h11 hrr; exfalso; omega
  | succ rr ihr =>
  intro d hd M H depth ct at_ kd K st fo pq h0 h1 h2 h3 h4 h5 h6 h7 h8 h9 h10 h11 hrr
  have f0 : Fr [(14, 3), (14, 4), (14, 5), (14, 10), (14, 11), (19, 0)] M M := Fr.rf
  refine sOk.of (show sRn base X G d T25 0 [(0, vR 14), (1, vI depth)] [] M _ from ?_)
  have kk := h5
  have kF : FTx st fo fo at_ 1 := FTx.one
  refine s_blx (lv' := [(0, vR 14), (1, vI depth)]) (st' := [vI depth, vR 14]) B25_0_2 rfl ?_
  have g1 : gi M 14 2 = at_ := h3
  have g2 : gi M 14 3 = kd := h4
  have g3 : gi M 14 10 = fo := h8
  have g4 : gi M 14 4 = pq := h9
  refine r_vI (c := 14) (args := [vI depth]) (rest := []) (pc' := 5) D25_2 rfl ck_4_virtual_115 TE26 rfl (Nat.le_of_ble_eq_true rfl) ⟨Nat.le_of_ble_eq_true rfl, Nat.le_of_ble_eq_true rfl⟩ sc_14 ⟨rfl, by decide⟩ H.1 (by omega) (k26_14p E ihr (by omega) H depth ct at_ kd K st fo pq (h0) (by omega) (by omega) (by omega) (by omega) (by omega) (by omega) (by omega) (by omega) (by omega) (by omega) (by omega) (by omega)) ?_
  intro v5 M6 q15
  obtain ⟨H7, f8, q9, q10, q11, q12, q13, q14⟩ := q15
  have f16 := f0.tr (f8.up rfl)
  obtain ⟨t17, ht18⟩ : ∃ q, q = gi M6 14 2 := ⟨_, rfl⟩
  have b_t17 := H7.2 14 2 0 400 rfl
  rw [← ht18] at b_t17
  obtain ⟨t19, ht20⟩ : ∃ q, q = gi M6 14 3 := ⟨_, rfl⟩
  have b_t19 := H7.2 14 3 0 511 rfl
  rw [← ht20] at b_t19
  obtain ⟨t21, ht22⟩ : ∃ q, q = gi M6 14 4 := ⟨_, rfl⟩
  have b_t21 := H7.2 14 4 0 50 rfl
  rw [← ht22] at b_t21
  obtain ⟨t23, ht24⟩ : ∃ q, q = gi M6 14 10 := ⟨_, rfl⟩
  have b_t23 := (H7.1.int sc_14 (i := 10) (by decide) (by decide) rfl).2
  unfold inR at b_t23; rw [← ht24] at b_t23
  rw [← ht18] at q10
  rw [← ht18, ← ht20] at q11
  rw [← ht22] at q12
  rw [← ht18, ← ht22] at q13
  rw [← ht18, ← ht24] at q14
  have kS := q13; clear q13
  have kk := q11; clear q11
  have kF := kF.tr (by omega) q14
  refine s_blx (lv' := [(3, vI 0), (2, vI v5), (0, vR 14), (1, vI depth)]) (st' := []) B25_5_8 rfl ?_
  refine r_loc (lv' := [(0, vR 14), (1, vI depth), (2, vI v5), (3, vI 0)]) ⟨rfl, rfl, rfl, rfl, trivial⟩ rfl rfl ?_
  have g25 : gi M6 14 2 = t17 := ht18.symm
  have g26 : gi M6 14 3 = t19 := ht20.symm
  have g27 : gi M6 14 4 = t21 := ht22.symm
  have g28 : gi M6 14 10 = t23 := ht24.symm
  exact (L_k25_14p E ihr hd H depth ct at_ kd K st fo pq h0 h1 h2 h3 h4 h5 h6 h7 h8 h9 h10 h11 hrr (((400 - 0) * 1 + 0 : Int) + 1).toNat) v5 0 t17 t19 t21 t23 M6 H7 f16 (by omega) (by omega) (by omega) (by omega) (by omega) (by omega) (by omega) (by omega) (by omega) (by omega) (LPx.ini (fun _ _ _ g1 g2 => RR.m0 g1 g2) (fun _ _ g1 => RR.b0 g1) (by omega) kS) (kF) (by omega) (by omega) (by omega) (by omega) (by omega)
theorem k25_14p {base : Nat} {X : Nat → Option mC} {G : Nat → Value} (E : EnvOK base X G) {d : Nat} (hd : 57 ≤ d) {M : mH} (H : HI base M) (depth : Int) (ct : Int) (at_ : Int) (kd : Int) (K : Int → Int) (st : Int → Int) (fo : Int) (pq : Int) (h0 : TKx K st ct M) (h1 : K ct = 22) (h2 : 0 ≤ ct ∧ ct ≤ 400) (h3 : gi M 14 2 = at_) (h4 : gi M 14 3 = kd) (h5 : kd = K at_) (h6 : 0 ≤ at_ ∧ at_ ≤ ct) (h7 : 0 ≤ kd ∧ kd ≤ 511) (h8 : gi M 14 10 = fo) (h9 : gi M 14 4 = pq) (h10 : 0 ≤ pq ∧ pq ≤ 50) (h11 : 0 ≤ depth ∧ depth ≤ 8) : sOk base X G d T25 [vR 14, vI depth] M (pI (fun v M' => HI base M' ∧ Fr [(14, 3), (14, 4), (14, 5), (14, 10), (14, 11), (19, 0)] M M' ∧ (v = 0 ∨ v = 1) ∧ (at_ ≤ gi M' 14 2 ∧ gi M' 14 2 ≤ ct) ∧ (gi M' 14 3 = K (gi M' 14 2)) ∧ (0 ≤ gi M' 14 4 ∧ gi M' 14 4 ≤ 50) ∧ (RR K 0 depth at_ pq (gi M' 14 2, gi M' 14 4, -v)) ∧ (FTx st fo (gi M' 14 10) (gi M' 14 2) v))) := k25_14pr E 9 (by omega) H depth ct at_ kd K st fo pq h0 h1 h2 h3 h4 h5 h6 h7 h8 h9 h10 h11 (by omega)
