set_option maxRecDepth 4000 in
theorem k101n {base : Nat} {X : Nat → Option mC} {G : Nat → Value} (E : EnvOK base X G) {d : Nat} (hd : 2 ≤ d) {M : mH} (H : HI base M) (a : Int) (b : Int) (c : Int) (h0 : -2147483648 ≤ a ∧ a ≤ 2147483647) (h1 : -2147483648 ≤ b ∧ b ≤ 2147483647) (h2 : -2147483648 ≤ c ∧ c ≤ 2147483647) : sOk base X G d T101 [vR 0, vI a, vI b, vI c] M (pI (fun v M' => HI base M' ∧ Fr [(0, 4), (0, 6), (0, 10), (1, 11), (5, 0), (6, 0), (7, 0), (8, 0)] M M' ∧ (-2147483648 ≤ v ∧ v ≤ 2147483647) ∧ (gi M' 0 9 = 1 ∨ gi M' 0 9 = gi M 0 9) ∧ (gi M' 0 3 = 0) ∧ (SnC v a b c M M'))) := by
  have f0 : Fr [(0, 4), (0, 6), (0, 10), (1, 11), (5, 0), (6, 0), (7, 0), (8, 0)] M M := Fr.rf
  refine sOk.of (show sRn base X G d T101 0 [(0, vR 0), (1, vI a), (2, vI b), (3, vI c)] [] M _ from ?_)
  refine s_blx (lv' := [(0, vR 0), (1, vI a), (2, vI b), (3, vI c)]) (st' := [vR 0]) B101_0_1 rfl ?_
  refine r_vI (c := 0) (args := []) (rest := []) (pc' := 4) D101_1 rfl ck_10_virtual_149 TE135 rfl (Nat.le_of_ble_eq_true rfl) ⟨Nat.le_of_ble_eq_true rfl, Nat.le_of_ble_eq_true rfl⟩ sc_0 ⟨rfl, by decide⟩ H.1 (dp_0 hd rfl) (k135e E (dp_n hd rfl) H ) ?_
  intro v1 M2 q8
  obtain ⟨H3, f4, q5, q6, q7⟩ := q8
  have f9 := f0.tr (f4.up rfl)
  have kt := f4
  have kv := q6
  refine s_blx (lv' := [(4, vI v1), (0, vR 0), (1, vI a), (2, vI b), (3, vI c)]) (st' := [vI a]) B101_4_7 rfl ?_
  refine r_sIp (args := [vI a]) (rest := []) (pc' := 10) D101_7 rfl ck_10_static_153 TE144 rfl (Nat.le_of_ble_eq_true rfl) ⟨Nat.le_of_ble_eq_true rfl, Nat.le_of_ble_eq_true rfl⟩ (by decide) (dp_0 hd rfl) (k144n E (dp_n hd rfl) H3 a (by omega)) ?_
  intro v10 q15
  obtain ⟨q12, q13, q14⟩ := q15
  refine r_ifc (tgt := 27) (pc' := 13) D101_10 rfl rfl (by unfold inR; omega) (fun (c16 : v10 = 0) => ?_) (fun (c16 : ¬ (v10 = 0)) => ?_)
  · refine s_blx (lv' := [(4, vI v1), (0, vR 0), (1, vI a), (2, vI b), (3, vI c)]) (st' := [vI (-1), vR 0]) B101_27_29 rfl ?_
    refine r_vI (c := 0) (args := [vI (-1)]) (rest := []) (pc' := 32) D101_29 rfl ck_10_virtual_106 TE133 rfl (Nat.le_of_ble_eq_true rfl) ⟨Nat.le_of_ble_eq_true rfl, Nat.le_of_ble_eq_true rfl⟩ sc_0 ⟨rfl, by decide⟩ H3.1 (dp_0 hd rfl) (k133 E (dp_n hd rfl) H3 (-1) (by omega)) ?_
    intro v17 M18 q22
    obtain ⟨H19, f20, q21⟩ := q22
    have f23 := f9.tr (f20.up rfl)
    have kfr : Fr [(0, 4), (0, 6)] M M18 := (kt.up rfl).tr (f20.up rfl)
    have g24 : gi M18 0 9 = gi M 0 9 := (f20.g rfl).trans ((f4.g rfl).trans (rfl))
    have g25 : gi M18 0 3 = 0 := (f20.g rfl).trans (q7)
    exact r_iretI D101_32 rfl (⟨H19, f23, by omega, by first | (rw [g24]; omega) | rw [g24], by first | (rw [g25]; omega) | rw [g25], Or.inl ⟨fun h => by unfold AB at h; omega, by omega, kfr⟩⟩)
  · refine s_blx (lv' := [(4, vI v1), (0, vR 0), (1, vI a), (2, vI b), (3, vI c)]) (st' := [vI b]) B101_13_14 rfl ?_
    refine r_sIp (args := [vI b]) (rest := []) (pc' := 17) D101_14 rfl ck_10_static_153 TE144 rfl (Nat.le_of_ble_eq_true rfl) ⟨Nat.le_of_ble_eq_true rfl, Nat.le_of_ble_eq_true rfl⟩ (by decide) (dp_0 hd rfl) (k144n E (dp_n hd rfl) H3 b (by omega)) ?_
    intro v26 q31
    obtain ⟨q28, q29, q30⟩ := q31
    refine r_ifc (tgt := 27) (pc' := 20) D101_17 rfl rfl (by unfold inR; omega) (fun (c32 : v26 = 0) => ?_) (fun (c32 : ¬ (v26 = 0)) => ?_)
    · refine s_blx (lv' := [(4, vI v1), (0, vR 0), (1, vI a), (2, vI b), (3, vI c)]) (st' := [vI (-1), vR 0]) B101_27_29 rfl ?_
      refine r_vI (c := 0) (args := [vI (-1)]) (rest := []) (pc' := 32) D101_29 rfl ck_10_virtual_106 TE133 rfl (Nat.le_of_ble_eq_true rfl) ⟨Nat.le_of_ble_eq_true rfl, Nat.le_of_ble_eq_true rfl⟩ sc_0 ⟨rfl, by decide⟩ H3.1 (dp_0 hd rfl) (k133 E (dp_n hd rfl) H3 (-1) (by omega)) ?_
      intro v33 M34 q38
      obtain ⟨H35, f36, q37⟩ := q38
      have f39 := f9.tr (f36.up rfl)
      have kfr : Fr [(0, 4), (0, 6)] M M34 := (kt.up rfl).tr (f36.up rfl)
      have g40 : gi M34 0 9 = gi M 0 9 := (f36.g rfl).trans ((f4.g rfl).trans (rfl))
      have g41 : gi M34 0 3 = 0 := (f36.g rfl).trans (q7)
      exact r_iretI D101_32 rfl (⟨H35, f39, by omega, by first | (rw [g40]; omega) | rw [g40], by first | (rw [g41]; omega) | rw [g41], Or.inl ⟨fun h => by unfold AB at h; omega, by omega, kfr⟩⟩)
    · refine s_blx (lv' := [(4, vI v1), (0, vR 0), (1, vI a), (2, vI b), (3, vI c)]) (st' := [vI c]) B101_20_21 rfl ?_
      refine r_sIp (args := [vI c]) (rest := []) (pc' := 24) D101_21 rfl ck_10_static_153 TE144 rfl (Nat.le_of_ble_eq_true rfl) ⟨Nat.le_of_ble_eq_true rfl, Nat.le_of_ble_eq_true rfl⟩ (by decide) (dp_0 hd rfl) (k144n E (dp_n hd rfl) H3 c (by omega)) ?_
      intro v42 q47
      obtain ⟨q44, q45, q46⟩ := q47
      refine r_ifc (tgt := 33) (pc' := 27) D101_24 rfl rfl (by unfold inR; omega) (fun (c48 : v42 ≠ 0) => ?_) (fun (c48 : ¬ (v42 ≠ 0)) => ?_)
      · refine s_blx (lv' := [(4, vI v1), (0, vR 0), (1, vI a), (2, vI b), (3, vI c)]) (st' := [vI v1, vR 0]) B101_33_36 rfl ?_
        refine r_vIp (c := 0) (args := [vI v1]) (rest := []) (pc' := 39) D101_36 rfl ck_10_virtual_156 TE137 rfl (Nat.le_of_ble_eq_true rfl) ⟨Nat.le_of_ble_eq_true rfl, Nat.le_of_ble_eq_true rfl⟩ sc_0 ⟨rfl, by decide⟩ H3.1 (dp_0 hd rfl) (k137n E (dp_n hd rfl) H3 v1 (by omega)) ?_
        intro v49 q55
        obtain ⟨q51, q52, q53, q54⟩ := q55
        have ktc := q53
        have krw := q54
        refine r_ifc (tgt := 49) (pc' := 42) D101_39 rfl rfl (by unfold inR; omega) (fun (c56 : v49 ≠ 0) => ?_) (fun (c56 : ¬ (v49 ≠ 0)) => ?_)
        · refine s_blx (lv' := [(4, vI v1), (0, vR 0), (1, vI a), (2, vI b), (3, vI c)]) (st' := [vR 0]) B101_49_50 rfl ?_
          refine r_gfix (r := 1) (pc' := 53) D101_50 rfl gf_10_10_0 H3.1 ?_
          refine s_blx (lv' := [(4, vI v1), (0, vR 0), (1, vI a), (2, vI b), (3, vI c)]) (st' := [vR 0, vR 1]) B101_53_54 rfl ?_
          refine r_gfix (r := 13) (pc' := 57) D101_54 rfl gf_10_20_0 H3.1 ?_
          refine s_blx (lv' := [(4, vI v1), (0, vR 0), (1, vI a), (2, vI b), (3, vI c)]) (st' := [vI v1, vR 13, vR 1]) B101_57_59 rfl ?_
          refine r_vIp (c := 1) (args := [vR 13, vI v1]) (rest := []) (pc' := 62) D101_59 rfl ck_10_virtual_159 TE64 rfl (Nat.le_of_ble_eq_true rfl) ⟨Nat.le_of_ble_eq_true rfl, Nat.le_of_ble_eq_true rfl⟩ sc_1 ⟨rfl, by decide⟩ H3.1 (dp_0 hd rfl) (k64_1_13n E (dp_n hd rfl) H3 v1 (by omega)) ?_
          intro v57 q62
          obtain ⟨q59, q60, q61⟩ := q62
          have khr := q60
          have knr := q61
          refine r_ifc (tgt := 72) (pc' := 65) D101_62 rfl rfl (by unfold inR; omega) (fun (c63 : v57 = 0) => ?_) (fun (c63 : ¬ (v57 = 0)) => ?_)
          · refine s_blx (lv' := [(4, vI v1), (0, vR 0), (1, vI a), (2, vI b), (3, vI c)]) (st' := [vR 0]) B101_72_73 rfl ?_
            refine r_gfix (r := 1) (pc' := 76) D101_73 rfl gf_10_10_0 H3.1 ?_
            refine r_gint (ki := 10) (pc' := 79) D101_76 rfl gf_10_163_1 rfl H3.1 ?_
            intro w64 e65 r66
            have b_w64 := H3.2 1 (10) 0 16 rfl
            rw [← e65] at b_w64; clear r66
            have kct : w64 = gi M 1 10 := e65.trans (fr04 kt (by decide) 10)
            refine s_blx (lv' := [(4, vI v1), (0, vR 0), (1, vI a), (2, vI b), (3, vI c)]) (st' := [vI 16, vI w64]) B101_79_81 rfl ?_
            refine r_icmp (tgt := 91) (pc' := 84) D101_81 rfl rfl (by unfold inR; omega) (fun (c67 : w64 < 16) => ?_) (fun (c67 : ¬ (w64 < 16)) => ?_)
            · refine s_blx (lv' := [(4, vI v1), (0, vR 0), (1, vI a), (2, vI b), (3, vI c)]) (st' := [vR 0]) B101_91_92 rfl ?_
              refine r_gfix (r := 1) (pc' := 95) D101_92 rfl gf_10_10_0 H3.1 ?_
              refine s_blx (lv' := [(4, vI v1), (0, vR 0), (1, vI a), (2, vI b), (3, vI c)]) (st' := [vR 0, vR 1]) B101_95_96 rfl ?_
              refine r_gfix (r := 13) (pc' := 99) D101_96 rfl gf_10_20_0 H3.1 ?_
              refine s_blx (lv' := [(4, vI v1), (0, vR 0), (1, vI a), (2, vI b), (3, vI c)]) (st' := [vI v1, vR 13, vR 1]) B101_99_101 rfl ?_
              have g68 : gi M2 1 10 = w64 := e65.symm
              refine r_vI (c := 1) (args := [vR 13, vI v1]) (rest := []) (pc' := 104) D101_101 rfl ck_10_virtual_166 TE60 rfl (Nat.le_of_ble_eq_true rfl) ⟨Nat.le_of_ble_eq_true rfl, Nat.le_of_ble_eq_true rfl⟩ sc_1 ⟨rfl, by decide⟩ H3.1 (dp_0 hd rfl) (k60_1_13n E (dp_n hd rfl) H3 v1 (ktc (by omega)) (by omega) (by omega)) ?_
              intro v69 M70 q79
              obtain ⟨H71, f72, q73, q74, q75, q76, q77, q78⟩ := q79
              have f80 := f9.tr (f72.up rfl)
              obtain ⟨t81, ht82⟩ : ∃ q, q = gi M70 1 10 := ⟨_, rfl⟩
              have b_t81 := H71.2 1 10 0 16 rfl
              rw [← ht82] at b_t81
              rw [← ht82] at q75
              have r1 := q74
              have r2 := ((ht82.symm)).trans q75
              have r3 := q76
              have r4 := q77
              have r5 := q78
              have rf3 := f72
              refine s_blx (lv' := [(5, vI v69), (4, vI v1), (0, vR 0), (1, vI a), (2, vI b), (3, vI c)]) (st' := [vR 0]) B101_104_107 rfl ?_
              refine r_gfix (r := 1) (pc' := 110) D101_107 rfl gf_10_10_0 H71.1 ?_
              refine s_blx (lv' := [(5, vI v69), (4, vI v1), (0, vR 0), (1, vI a), (2, vI b), (3, vI c)]) (st' := [vI c, vI b, vI a, vI v69, vR 1]) B101_110_115 rfl ?_
              refine r_vV (c := 1) (args := [vI v69, vI a, vI b, vI c]) (rest := []) (pc' := 118) D101_115 rfl ck_10_virtual_170 TE61 rfl (Nat.le_of_ble_eq_true rfl) ⟨Nat.le_of_ble_eq_true rfl, Nat.le_of_ble_eq_true rfl⟩ sc_1 ⟨rfl, by decide⟩ H71.1 (dp_0 hd rfl) (k61_1n E (dp_n hd rfl) H71 v69 a b c (by omega) (by omega) (by omega) (by omega)) ?_
              intro M84 q88
              obtain ⟨H85, f86, q87⟩ := q88
              have f89 := f80.tr (f86.up rfl)
              have r7 := q87
              have rf4 := f86
              refine s_blx (lv' := [(5, vI v69), (4, vI v1), (0, vR 0), (1, vI a), (2, vI b), (3, vI c)]) (st' := [vI v69, vR 0]) B101_118_121 rfl ?_
              refine r_vI (c := 0) (args := [vI v69]) (rest := []) (pc' := 124) D101_121 rfl ck_10_virtual_123 TE134 rfl (Nat.le_of_ble_eq_true rfl) ⟨Nat.le_of_ble_eq_true rfl, Nat.le_of_ble_eq_true rfl⟩ sc_0 ⟨rfl, by decide⟩ H85.1 (dp_0 hd rfl) (k134s E (dp_n hd rfl) H85 v69 (by omega)) ?_
              intro v90 M91 q96
              obtain ⟨H92, f93, q94, q95⟩ := q96
              have f97 := f89.tr (f93.up rfl)
              have rf5 := f93
              have g98 : gi M91 0 9 = 1 := q95
              have g99 : gi M91 0 3 = 0 := (f93.g rfl).trans ((f86.g rfl).trans ((f72.g rfl).trans (q7)))
              exact r_iretI D101_124 rfl (⟨H92, f97, by omega, by first | (rw [g98]; omega) | rw [g98], by first | (rw [g99]; omega) | rw [g99], Or.inr (Or.inr (Or.inr (Or.inr ⟨(by unfold AB; omega), ⟨by omega, by omega, (by rw [← kv]; exact (ktc (by omega)).of (fun j => (fr04 kt (by decide) j).symm))⟩, (fun h => knr (by omega) (by rw [kv]; exact h.of (fun c i hc => fr04 kt hc i))), by omega, by omega, SAd.make kt kv rf3 rfl r1 r2 r3 r4 r5 rf4 r7 rf5⟩)))⟩)
            · refine s_blx (lv' := [(4, vI v1), (0, vR 0), (1, vI a), (2, vI b), (3, vI c)]) (st' := [vI (-5), vR 0]) B101_84_87 rfl ?_
              refine r_vI (c := 0) (args := [vI (-5)]) (rest := []) (pc' := 90) D101_87 rfl ck_10_virtual_106 TE133 rfl (Nat.le_of_ble_eq_true rfl) ⟨Nat.le_of_ble_eq_true rfl, Nat.le_of_ble_eq_true rfl⟩ sc_0 ⟨rfl, by decide⟩ H3.1 (dp_0 hd rfl) (k133 E (dp_n hd rfl) H3 (-5) (by omega)) ?_
              intro v100 M101 q105
              obtain ⟨H102, f103, q104⟩ := q105
              have f106 := f9.tr (f103.up rfl)
              have kfr : Fr [(0, 4), (0, 6)] M M101 := (kt.up rfl).tr (f103.up rfl)
              have g107 : gi M101 0 9 = gi M 0 9 := (f103.g rfl).trans ((f4.g rfl).trans (rfl))
              have g108 : gi M101 0 3 = 0 := (f103.g rfl).trans (q7)
              exact r_iretI D101_90 rfl (⟨H102, f106, by omega, by first | (rw [g107]; omega) | rw [g107], by first | (rw [g108]; omega) | rw [g108], Or.inr (Or.inr (Or.inr (Or.inl ⟨(by unfold AB; omega), ⟨by omega, by omega, (by rw [← kv]; exact (ktc (by omega)).of (fun j => (fr04 kt (by decide) j).symm))⟩, (fun h => knr (by omega) (by rw [kv]; exact h.of (fun c i hc => fr04 kt hc i))), by omega, by omega, kfr⟩)))⟩)
          · refine s_blx (lv' := [(4, vI v1), (0, vR 0), (1, vI a), (2, vI b), (3, vI c)]) (st' := [vI (-4), vR 0]) B101_65_68 rfl ?_
            refine r_vI (c := 0) (args := [vI (-4)]) (rest := []) (pc' := 71) D101_68 rfl ck_10_virtual_106 TE133 rfl (Nat.le_of_ble_eq_true rfl) ⟨Nat.le_of_ble_eq_true rfl, Nat.le_of_ble_eq_true rfl⟩ sc_0 ⟨rfl, by decide⟩ H3.1 (dp_0 hd rfl) (k133 E (dp_n hd rfl) H3 (-4) (by omega)) ?_
            intro v109 M110 q114
            obtain ⟨H111, f112, q113⟩ := q114
            have f115 := f9.tr (f112.up rfl)
            have kfr : Fr [(0, 4), (0, 6)] M M110 := (kt.up rfl).tr (f112.up rfl)
            have g116 : gi M110 0 9 = gi M 0 9 := (f112.g rfl).trans ((f4.g rfl).trans (rfl))
            have g117 : gi M110 0 3 = 0 := (f112.g rfl).trans (q7)
            exact r_iretI D101_71 rfl (⟨H111, f115, by omega, by first | (rw [g116]; omega) | rw [g116], by first | (rw [g117]; omega) | rw [g117], Or.inr (Or.inr (Or.inl ⟨(by unfold AB; omega), ⟨by omega, by omega, (by rw [← kv]; exact (ktc (by omega)).of (fun j => (fr04 kt (by decide) j).symm))⟩, (by rw [← kv]; exact (khr (by omega)).of (fun c i h => (fr04 kt h i).symm)), by omega, kfr⟩))⟩)
        · refine s_blx (lv' := [(4, vI v1), (0, vR 0), (1, vI a), (2, vI b), (3, vI c)]) (st' := [vI (-6), vR 0]) B101_42_45 rfl ?_
          refine r_vI (c := 0) (args := [vI (-6)]) (rest := []) (pc' := 48) D101_45 rfl ck_10_virtual_106 TE133 rfl (Nat.le_of_ble_eq_true rfl) ⟨Nat.le_of_ble_eq_true rfl, Nat.le_of_ble_eq_true rfl⟩ sc_0 ⟨rfl, by decide⟩ H3.1 (dp_0 hd rfl) (k133 E (dp_n hd rfl) H3 (-6) (by omega)) ?_
          intro v118 M119 q123
          obtain ⟨H120, f121, q122⟩ := q123
          have f124 := f9.tr (f121.up rfl)
          have kfr : Fr [(0, 4), (0, 6)] M M119 := (kt.up rfl).tr (f121.up rfl)
          have g125 : gi M119 0 9 = gi M 0 9 := (f121.g rfl).trans ((f4.g rfl).trans (rfl))
          have g126 : gi M119 0 3 = 0 := (f121.g rfl).trans (q7)
          exact r_iretI D101_48 rfl (⟨H120, f124, by omega, by first | (rw [g125]; omega) | rw [g125], by first | (rw [g126]; omega) | rw [g126], Or.inr (Or.inl ⟨(by unfold AB; omega), fun h => krw (by omega) ⟨by have q := h.1; omega, by have q := h.2.1; omega, by rw [kv]; exact h.2.2.of (fun j => fr04 kt (by decide) j)⟩, by omega, kfr⟩)⟩)
      · refine s_blx (lv' := [(4, vI v1), (0, vR 0), (1, vI a), (2, vI b), (3, vI c)]) (st' := [vI (-1), vR 0]) B101_27_29 rfl ?_
        refine r_vI (c := 0) (args := [vI (-1)]) (rest := []) (pc' := 32) D101_29 rfl ck_10_virtual_106 TE133 rfl (Nat.le_of_ble_eq_true rfl) ⟨Nat.le_of_ble_eq_true rfl, Nat.le_of_ble_eq_true rfl⟩ sc_0 ⟨rfl, by decide⟩ H3.1 (dp_0 hd rfl) (k133 E (dp_n hd rfl) H3 (-1) (by omega)) ?_
        intro v127 M128 q132
        obtain ⟨H129, f130, q131⟩ := q132
        have f133 := f9.tr (f130.up rfl)
        have kfr : Fr [(0, 4), (0, 6)] M M128 := (kt.up rfl).tr (f130.up rfl)
        have g134 : gi M128 0 9 = gi M 0 9 := (f130.g rfl).trans ((f4.g rfl).trans (rfl))
        have g135 : gi M128 0 3 = 0 := (f130.g rfl).trans (q7)
        exact r_iretI D101_32 rfl (⟨H129, f133, by omega, by first | (rw [g134]; omega) | rw [g134], by first | (rw [g135]; omega) | rw [g135], Or.inl ⟨fun h => by unfold AB at h; omega, by omega, kfr⟩⟩)
