set_option maxRecDepth 4000 in
set_option maxHeartbeats 4000000 in
theorem k188f {base : Nat} {X : Nat → Option mC} {G : Nat → Value} (E : EnvOK base X G) {d : Nat} (hd : 3 ≤ d) {M : mH} (H : HI base M) (said : Int) (move : Int) (o : Int) (ov : Int) (U : Int → Int) (A : Int → Int) (O : Int → Int) (h0 : TB M) (h1 : C3 84 U M) (h2 : C3 83 A M) (h3 : C3 85 O M) (h4 : gi M 78 473 = o) (h5 : gi M 77 9 = ov) (h6 : 0 ≤ ov ∧ ov ≤ 1) (h7 : 0 ≤ said ∧ said ≤ 1110) (h8 : 0 ≤ move ∧ move ≤ 22) (h9 : move ≤ 4 ∨ 10 ≤ move) (h10 : move ≤ 17 ∨ 20 ≤ move) : sOk base X G d T188 [vR 77, vI said, vI move] M (pI (fun v M' => HI base M' ∧ Fr [(77, 14), (77, 15), (77, 16)] M M' ∧ (v = 0 ∨ v = 1) ∧ (v = 1 → LG o ov U A O said move) ∧ (v = 0 → ¬ LG o ov U A O said move) ∧ (v = 1 → move = 0 ∨ move = 4 ∨ mu o U (gi M' 77 14) = mu o U said - 1) ∧ (move = 0 ∨ move = 4 ∨ v = 0 → gi M' 77 14 = said))) := by
  have f0 : Fr [(77, 14), (77, 15), (77, 16)] M M := Fr.rf
  refine sOk.of (show sRn base X G d T188 0 [(0, vR 77), (1, vI said), (2, vI move)] [] M _ from ?_)
  refine s_blx (lv' := [(0, vR 77), (1, vI said), (2, vI move)]) (st' := [vR 77]) B188_0_1 rfl ?_
  refine r_gfix (r := 81) (pc' := 4) D188_1 rfl gf_11_24_77 H.1 ?_
  refine s_blx (lv' := [(0, vR 77), (1, vI said), (2, vI move)]) (st' := [vI said, vR 81]) B188_4_5 rfl ?_
  refine r_iald (pc' := 6) D188_5 rfl sc_81 H.1 (by omega) ?_
  intro w1 e2 r3
  have b_w1 := H.2 81 (said) 0 3 rfl
  rw [← e2] at b_w1; clear r3
  have kt := DN_of said
  have kdn : DN said = w1 := by have q := h0.dn (s := said) (by omega); omega
  have ko5 : 0 ≤ o ∧ o ≤ 5 := by have q := H.2 78 473 0 5 (rk_order (by omega)); omega
  refine s_blx (lv' := [(3, vI w1), (0, vR 77), (1, vI said), (2, vI move)]) (st' := [vI 3, vI w1, vR 77]) B188_6_10 rfl ?_
  refine r_icmp (tgt := 21) (pc' := 13) D188_10 rfl rfl (by unfold inR; omega) (fun (c4 : 3 ≤ w1) => ?_) (fun (c4 : ¬ (3 ≤ w1)) => ?_)
  · refine s_blx (lv' := [(3, vI w1), (0, vR 77), (1, vI said), (2, vI move)]) (st' := [vI (-1), vR 77]) B188_21_22 rfl ?_
    refine r_pint (ki := 13) (pc' := 25) D188_22 rfl pf_11_212_77 rfl H (by unfold inR; omega) (show (-1) ≤ (-1) ∧ (-1) ≤ 2 by omega) ?_
    intro M5 u6 H7 p8
    have f9 := f0.wr u6 rfl
    refine s_blx (lv' := [(3, vI w1), (0, vR 77), (1, vI said), (2, vI move)]) (st' := [vI said, vR 77]) B188_25_27 rfl ?_
    refine r_pint (ki := 14) (pc' := 30) D188_27 rfl pf_11_215_77 rfl H7 (by unfold inR; omega) (show 0 ≤ said ∧ said ≤ 1110 by omega) ?_
    intro M10 u11 H12 p13
    have f14 := f9.wr u11 rfl
    refine s_blx (lv' := [(3, vI w1), (0, vR 77), (1, vI said), (2, vI move)]) (st' := [vI 0, vR 77]) B188_30_32 rfl ?_
    refine r_pint (ki := 15) (pc' := 35) D188_32 rfl pf_11_218_77 rfl H12 (by unfold inR; omega) trivial ?_
    intro M15 u16 H17 p18
    have f19 := f14.wr u16 rfl
    refine s_blx (lv' := [(3, vI w1), (0, vR 77), (1, vI said), (2, vI move)]) (st' := [vI move]) B188_35_36 rfl ?_
    refine r_ifc (tgt := 52) (pc' := 39) D188_36 rfl rfl (by unfold inR; omega) (fun (c20 : move ≠ 0) => ?_) (fun (c20 : ¬ (move ≠ 0)) => ?_)
    · refine s_blx (lv' := [(3, vI w1), (0, vR 77), (1, vI said), (2, vI move)]) (st' := [vI 4, vI move]) B188_52_54 rfl ?_
      refine r_icmp (tgt := 75) (pc' := 57) D188_54 rfl rfl (by unfold inR; omega) (fun (c21 : move ≠ 4) => ?_) (fun (c21 : ¬ (move ≠ 4)) => ?_)
      · refine s_blx (lv' := [(3, vI w1), (0, vR 77), (1, vI said), (2, vI move)]) (st' := [vI 20, vI move]) B188_75_78 rfl ?_
        refine r_icmp (tgt := 149) (pc' := 81) D188_78 rfl rfl (by unfold inR; omega) (fun (c22 : move < 20) => ?_) (fun (c22 : ¬ (move < 20)) => ?_)
        · refine s_blx (lv' := [(3, vI w1), (0, vR 77), (1, vI said), (2, vI move)]) (st' := [vR 77]) B188_149_150 rfl ?_
          refine r_gint (ki := 13) (pc' := 153) D188_150 rfl gf_11_212_77 rfl H17.1 ?_
          intro w23 e24 r25
          have e26 : -1 = w23 := (e24.trans ((u16.gi_ne (by decide) (Or.inr (by decide))).trans ((u11.gi_ne (by decide) (Or.inr (by decide))).trans (p8)))).symm
          subst e26
          refine s_blx (lv' := [(3, vI w1), (0, vR 77), (1, vI said), (2, vI move)]) (st' := [vI (-1), vI (-1)]) B188_153_154 rfl ?_
          refine r_icmp (tgt := 159) (pc' := 157) D188_154 rfl rfl (by unfold inR; omega) (fun (c27 : (-1) ≠ (-1)) => ?_) (fun (c27 : ¬ ((-1) ≠ (-1))) => ?_)
          · exfalso; omega
          · refine s_blx (lv' := [(3, vI w1), (0, vR 77), (1, vI said), (2, vI move)]) (st' := [vI 0]) B188_157_158 rfl ?_
            have g28 : gi M15 77 14 = said := (u16.gi_ne (by decide) (Or.inr (by decide))).trans (p13)
            exact r_zretI D188_158 rfl (by omega) (⟨H17, f19, by omega, fun h => absurd h (by omega), fun _ => LG_n (by omega) (by omega) (by omega) (by omega), fun h => absurd h (by omega), by rw [g28]; omega⟩)
        · refine s_blx (lv' := [(4, vI (move - 20)), (3, vI w1), (0, vR 77), (1, vI said), (2, vI move)]) (st' := [vI (move - 20), vI said, vR 77]) B188_81_91 rfl ?_
          have g29 : gi M15 78 473 = o := (u16.gi_ne (by decide) (Or.inl (by decide))).trans ((u11.gi_ne (by decide) (Or.inl (by decide))).trans ((u6.gi_ne (by decide) (Or.inl (by decide))).trans (h4)))
          refine r_vIp (c := 77) (args := [vI said, vI (move - 20)]) (rest := []) (pc' := 94) D188_91 rfl ck_11_virtual_221 TE186 rfl (Nat.le_of_ble_eq_true rfl) ⟨Nat.le_of_ble_eq_true rfl, Nat.le_of_ble_eq_true rfl⟩ sc_77 ⟨rfl, by decide⟩ H17.1 (dp_0 hd rfl) (k186f E (dp_n hd rfl) H17 said (move - 20) o U ((h0.fr f19 rfl)) ((h1.fr f19 rfl)) (by omega) (by omega) (by omega)) ?_
          intro v30 q35
          obtain ⟨q32, q33, q34⟩ := q35
          have kc1 := q33
          have kc0 := q34
          refine r_ifc (tgt := 99) (pc' := 97) D188_94 rfl rfl (by unfold inR; omega) (fun (c36 : v30 ≠ 0) => ?_) (fun (c36 : ¬ (v30 ≠ 0)) => ?_)
          · refine s_blx (lv' := [(4, vI (move - 20)), (3, vI w1), (0, vR 77), (1, vI said), (2, vI move)]) (st' := [vI (move - 20), vR 77]) B188_99_102 rfl ?_
            have g37 : gi M15 78 473 = o := (u16.gi_ne (by decide) (Or.inl (by decide))).trans ((u11.gi_ne (by decide) (Or.inl (by decide))).trans ((u6.gi_ne (by decide) (Or.inl (by decide))).trans (h4)))
            refine r_vIp (c := 77) (args := [vI (move - 20)]) (rest := []) (pc' := 105) D188_102 rfl ck_11_virtual_209 TE185 rfl (Nat.le_of_ble_eq_true rfl) ⟨Nat.le_of_ble_eq_true rfl, Nat.le_of_ble_eq_true rfl⟩ sc_77 ⟨rfl, by decide⟩ H17.1 (dp_0 hd rfl) (k185f E (dp_n hd rfl) H17 (move - 20) o (by omega) (by omega)) ?_
            intro v38 q42
            obtain ⟨q40, q41⟩ := q42
            have ki := q41
            obtain ⟨kI, ka1, ka2, ka3, ka4, ka5, ka6, ka7⟩ := kc1 (by omega)
            have kie : kI = v38 := sl_inj (o := o) ko5 ⟨ka1, ka2⟩ (by omega) (by rw [ka3, ki])
            rw [kie] at ka1 ka2 ka4 ka5 ka7
            refine s_blx (lv' := [(5, vI v38), (4, vI (move - 20)), (3, vI w1), (0, vR 77), (1, vI said), (2, vI move)]) (st' := [vR 77, vI said, vI w1, vR 77]) B188_105_111 rfl ?_
            refine r_gfix (r := 84) (pc' := 114) D188_111 rfl gf_11_33_77 H17.1 ?_
            refine s_blx (lv' := [(5, vI v38), (4, vI (move - 20)), (3, vI w1), (0, vR 77), (1, vI said), (2, vI move)]) (st' := [vI (move - 20), vR 84, vI said, vI w1, vR 77]) B188_114_116 rfl ?_
            refine r_iald (pc' := 117) D188_116 rfl sc_84 H17.1 (by omega) ?_
            intro w43 e44 r45
            have b_w43 := H17.2 84 (move - 20) (-1) 7 rfl
            rw [← e44] at b_w43; clear r45
            have ks : w43 = U ((move - 20)) := by have q := ((h1.fr f19 rfl)) ((move - 20)) (by omega) (by omega); omega
            refine s_blx (lv' := [(5, vI v38), (4, vI (move - 20)), (3, vI w1), (0, vR 77), (1, vI said), (2, vI move)]) (st' := [vR 77, vI w43, vI said, vI w1, vR 77]) B188_117_118 rfl ?_
            refine r_gfix (r := 82) (pc' := 121) D188_118 rfl gf_11_27_77 H17.1 ?_
            refine s_blx (lv' := [(5, vI v38), (4, vI (move - 20)), (3, vI w1), (0, vR 77), (1, vI said), (2, vI move)]) (st' := [vI ((3 * said) + v38), vR 82, vI w43, vI said, vI w1, vR 77]) B188_121_127 rfl ?_
            refine r_iald (pc' := 128) D188_127 rfl sc_82 H17.1 (by omega) ?_
            intro w46 e47 r48
            have b_w46 := H17.2 82 ((3 * said) + v38) 0 9 rfl
            rw [← e47] at b_w46; clear r48
            have kgd : w46 = DG said v38 := by rw [e47]; exact ((h0.fr f19 rfl)).dg (by omega) (by omega) (by omega)
            refine s_blx (lv' := [(5, vI v38), (4, vI (move - 20)), (3, vI w1), (0, vR 77), (1, vI said), (2, vI move)]) (st' := [vI v38, vI (w43 - w46), vI said, vI w1, vR 77]) B188_128_131 rfl ?_
            refine r_sIp (args := [vI w1, vI said, vI (w43 - w46), vI v38]) (rest := [vR 77]) (pc' := 134) D188_131 rfl ck_11_static_224 TE187 rfl (Nat.le_of_ble_eq_true rfl) ⟨Nat.le_of_ble_eq_true rfl, Nat.le_of_ble_eq_true rfl⟩ (by decide) (dp_0 hd rfl) (k187x E (dp_n hd rfl) H17 w1 said (w43 - w46) v38 (by omega) (by omega) (by omega) (by omega)) ?_
            intro v49 q55
            obtain ⟨q51, q52, q53, q54⟩ := q55
            refine r_pint (ki := 14) (pc' := 137) D188_134 rfl pf_11_215_77 rfl H17 (by unfold inR; omega) (show 0 ≤ _ ∧ _ ≤ 1110 from chg_rng (s := said) (i := v38) (u := U ((move - 20))) (by omega) (by omega) (by omega) (by omega) (by omega) (by omega)) ?_
            intro M56 u57 H58 p59
            have f60 := f19.wr u57 rfl
            refine s_blx (lv' := [(5, vI v38), (4, vI (move - 20)), (3, vI w1), (0, vR 77), (1, vI said), (2, vI move)]) (st' := [vI 6, vR 77, vR 77]) B188_137_141 rfl ?_
            refine r_vIp (c := 77) (args := [vI 6]) (rest := [vR 77]) (pc' := 144) D188_141 rfl ck_11_virtual_141 TE153 rfl (Nat.le_of_ble_eq_true rfl) ⟨Nat.le_of_ble_eq_true rfl, Nat.le_of_ble_eq_true rfl⟩ sc_77 ⟨rfl, by decide⟩ H58.1 (dp_0 hd rfl) (k153 E (dp_n hd rfl) H58 6 (by omega)) ?_
            intro v61 q64
            have q63 := q64
            refine r_pint (ki := 15) (pc' := 147) D188_144 rfl pf_11_218_77 rfl H58 (by unfold inR; omega) trivial ?_
            intro M65 u66 H67 p68
            have f69 := f60.wr u66 rfl
            refine s_blx (lv' := [(5, vI v38), (4, vI (move - 20)), (3, vI w1), (0, vR 77), (1, vI said), (2, vI move)]) (st' := [vI 1]) B188_147_148 rfl ?_
            have g70 : gi M65 77 14 = v49 := (u66.gi_ne (by decide) (Or.inr (by decide))).trans (p59)
            exact r_zretI D188_148 rfl (by omega) (⟨H67, f69, by omega, fun _ => (LG_m (by omega)).mpr (kc1 (by omega)), fun h => absurd h (by omega), fun _ => Or.inr (Or.inr (by rw [((u66.gi_ne (by decide) (Or.inr (by decide))).trans (p59))]; exact mu_chg (i := v38) (by omega) (by omega) (by rw [ki]; exact mb_1 (by omega)) (by rw [ki]; omega) (by rw [ki]; omega) (by rw [ki]; omega) (by rw [ki]; omega))), by rw [g70]; omega⟩)
          · refine s_blx (lv' := [(4, vI (move - 20)), (3, vI w1), (0, vR 77), (1, vI said), (2, vI move)]) (st' := [vI 0]) B188_97_98 rfl ?_
            have g71 : gi M15 77 14 = said := (u16.gi_ne (by decide) (Or.inr (by decide))).trans (p13)
            exact r_zretI D188_98 rfl (by omega) (⟨H17, f19, by omega, fun h => absurd h (by omega), fun _ hl => kc0 (by omega) ((LG_m (by omega)).mp hl), fun h => absurd h (by omega), by rw [g71]; omega⟩)
      · refine s_blx (lv' := [(3, vI w1), (0, vR 77), (1, vI said), (2, vI move)]) (st' := [vR 77]) B188_57_58 rfl ?_
        refine r_gint (ki := 9) (pc' := 61) D188_58 rfl gf_11_190_77 rfl H17.1 ?_
        intro w72 e73 r74
        have e75 : ov = w72 := (e73.trans ((u16.gi_ne (by decide) (Or.inr (by decide))).trans ((u11.gi_ne (by decide) (Or.inr (by decide))).trans ((u6.gi_ne (by decide) (Or.inr (by decide))).trans (h5))))).symm
        subst e75
        refine r_ifc (tgt := 73) (pc' := 64) D188_61 rfl rfl (by unfold inR; omega) (fun (c76 : ov = 0) => ?_) (fun (c76 : ¬ (ov = 0)) => ?_)
        · refine s_blx (lv' := [(3, vI w1), (0, vR 77), (1, vI said), (2, vI move)]) (st' := [vI 0]) B188_73_74 rfl ?_
          have g77 : gi M15 77 14 = said := (u16.gi_ne (by decide) (Or.inr (by decide))).trans (p13)
          exact r_zretI D188_74 rfl (by omega) (⟨H17, f19, by omega, fun h => (LG_4 (by omega)).mpr (by omega), fun h hl => by have q := (LG_4 (by omega)).mp hl; omega, fun _ => Or.inr (Or.inl (by omega)), by rw [g77]; omega⟩)
        · refine s_blx (lv' := [(3, vI w1), (0, vR 77), (1, vI said), (2, vI move)]) (st' := [vI 3, vI w1]) B188_64_66 rfl ?_
          refine r_icmp (tgt := 73) (pc' := 69) D188_66 rfl rfl (by unfold inR; omega) (fun (c78 : w1 ≠ 3) => ?_) (fun (c78 : ¬ (w1 ≠ 3)) => ?_)
          · exfalso; omega
          · refine s_blx (lv' := [(3, vI w1), (0, vR 77), (1, vI said), (2, vI move)]) (st' := [vI 1]) B188_69_70 rfl ?_
            refine r_goto (tgt := 74) D188_70 rfl ?_
            have g79 : gi M15 77 14 = said := (u16.gi_ne (by decide) (Or.inr (by decide))).trans (p13)
            exact r_zretI D188_74 rfl (by omega) (⟨H17, f19, by omega, fun h => (LG_4 (by omega)).mpr (by omega), fun h hl => by have q := (LG_4 (by omega)).mp hl; omega, fun _ => Or.inr (Or.inl (by omega)), by rw [g79]; omega⟩)
    · refine s_blx (lv' := [(3, vI w1), (0, vR 77), (1, vI said), (2, vI move)]) (st' := [vR 77]) B188_39_40 rfl ?_
      refine r_gint (ki := 9) (pc' := 43) D188_40 rfl gf_11_190_77 rfl H17.1 ?_
      intro w80 e81 r82
      have e83 : ov = w80 := (e81.trans ((u16.gi_ne (by decide) (Or.inr (by decide))).trans ((u11.gi_ne (by decide) (Or.inr (by decide))).trans ((u6.gi_ne (by decide) (Or.inr (by decide))).trans (h5))))).symm
      subst e83
      refine r_ifc (tgt := 50) (pc' := 46) D188_43 rfl rfl (by unfold inR; omega) (fun (c84 : ov ≠ 0) => ?_) (fun (c84 : ¬ (ov ≠ 0)) => ?_)
      · refine s_blx (lv' := [(3, vI w1), (0, vR 77), (1, vI said), (2, vI move)]) (st' := [vI 0]) B188_50_51 rfl ?_
        have g85 : gi M15 77 14 = said := (u16.gi_ne (by decide) (Or.inr (by decide))).trans (p13)
        exact r_zretI D188_51 rfl (by omega) (⟨H17, f19, by omega, fun h => (LG_0 (by omega)).mpr (by omega), fun h hl => by have q := (LG_0 (by omega)).mp hl; omega, fun _ => Or.inl (by omega), by rw [g85]; omega⟩)
      · refine s_blx (lv' := [(3, vI w1), (0, vR 77), (1, vI said), (2, vI move)]) (st' := [vI 1]) B188_46_47 rfl ?_
        refine r_goto (tgt := 51) D188_47 rfl ?_
        have g86 : gi M15 77 14 = said := (u16.gi_ne (by decide) (Or.inr (by decide))).trans (p13)
        exact r_zretI D188_51 rfl (by omega) (⟨H17, f19, by omega, fun h => (LG_0 (by omega)).mpr (by omega), fun h hl => by have q := (LG_0 (by omega)).mp hl; omega, fun _ => Or.inl (by omega), by rw [g86]; omega⟩)
  · refine s_blx (lv' := [(3, vI w1), (0, vR 77), (1, vI said), (2, vI move)]) (st' := [vI w1, vR 77, vR 77]) B188_13_15 rfl ?_
    have g87 : gi M 78 473 = o := h4
    refine r_vIp (c := 77) (args := [vI w1]) (rest := [vR 77]) (pc' := 18) D188_15 rfl ck_11_virtual_206 TE182 rfl (Nat.le_of_ble_eq_true rfl) ⟨Nat.le_of_ble_eq_true rfl, Nat.le_of_ble_eq_true rfl⟩ sc_77 ⟨rfl, by decide⟩ H.1 (dp_0 hd rfl) (k182f E (dp_n hd rfl) H w1 o (by omega) (by omega)) ?_
    intro v88 q92
    obtain ⟨q90, q91⟩ := q92
    have kn : sl o (DN said) = v88 := by rw [kdn]; exact q91.symm
    refine r_goto (tgt := 22) D188_18 rfl ?_
    refine r_pint (ki := 13) (pc' := 25) D188_22 rfl pf_11_212_77 rfl H (by unfold inR; omega) (show (-1) ≤ v88 ∧ v88 ≤ 2 by omega) ?_
    intro M93 u94 H95 p96
    have f97 := f0.wr u94 rfl
    refine s_blx (lv' := [(3, vI w1), (0, vR 77), (1, vI said), (2, vI move)]) (st' := [vI said, vR 77]) B188_25_27 rfl ?_
    refine r_pint (ki := 14) (pc' := 30) D188_27 rfl pf_11_215_77 rfl H95 (by unfold inR; omega) (show 0 ≤ said ∧ said ≤ 1110 by omega) ?_
    intro M98 u99 H100 p101
    have f102 := f97.wr u99 rfl
    refine s_blx (lv' := [(3, vI w1), (0, vR 77), (1, vI said), (2, vI move)]) (st' := [vI 0, vR 77]) B188_30_32 rfl ?_
    refine r_pint (ki := 15) (pc' := 35) D188_32 rfl pf_11_218_77 rfl H100 (by unfold inR; omega) trivial ?_
    intro M103 u104 H105 p106
    have f107 := f102.wr u104 rfl
    refine s_blx (lv' := [(3, vI w1), (0, vR 77), (1, vI said), (2, vI move)]) (st' := [vI move]) B188_35_36 rfl ?_
    refine r_ifc (tgt := 52) (pc' := 39) D188_36 rfl rfl (by unfold inR; omega) (fun (c108 : move ≠ 0) => ?_) (fun (c108 : ¬ (move ≠ 0)) => ?_)
    · refine s_blx (lv' := [(3, vI w1), (0, vR 77), (1, vI said), (2, vI move)]) (st' := [vI 4, vI move]) B188_52_54 rfl ?_
      refine r_icmp (tgt := 75) (pc' := 57) D188_54 rfl rfl (by unfold inR; omega) (fun (c109 : move ≠ 4) => ?_) (fun (c109 : ¬ (move ≠ 4)) => ?_)
      · refine s_blx (lv' := [(3, vI w1), (0, vR 77), (1, vI said), (2, vI move)]) (st' := [vI 20, vI move]) B188_75_78 rfl ?_
        refine r_icmp (tgt := 149) (pc' := 81) D188_78 rfl rfl (by unfold inR; omega) (fun (c110 : move < 20) => ?_) (fun (c110 : ¬ (move < 20)) => ?_)
        · refine s_blx (lv' := [(3, vI w1), (0, vR 77), (1, vI said), (2, vI move)]) (st' := [vR 77]) B188_149_150 rfl ?_
          refine r_gint (ki := 13) (pc' := 153) D188_150 rfl gf_11_212_77 rfl H105.1 ?_
          intro w111 e112 r113
          have e114 : v88 = w111 := (e112.trans ((u104.gi_ne (by decide) (Or.inr (by decide))).trans ((u99.gi_ne (by decide) (Or.inr (by decide))).trans (p96)))).symm
          subst e114
          refine s_blx (lv' := [(3, vI w1), (0, vR 77), (1, vI said), (2, vI move)]) (st' := [vI (-1), vI v88]) B188_153_154 rfl ?_
          refine r_icmp (tgt := 159) (pc' := 157) D188_154 rfl rfl (by unfold inR; omega) (fun (c115 : v88 ≠ (-1)) => ?_) (fun (c115 : ¬ (v88 ≠ (-1))) => ?_)
          · refine s_blx (lv' := [(3, vI w1), (0, vR 77), (1, vI said), (2, vI move)]) (st' := [vI 3, vI move]) B188_159_161 rfl ?_
            refine r_icmp (tgt := 177) (pc' := 164) D188_161 rfl rfl (by unfold inR; omega) (fun (c116 : move ≠ 3) => ?_) (fun (c116 : ¬ (move ≠ 3)) => ?_)
            · refine s_blx (lv' := [(3, vI w1), (0, vR 77), (1, vI said), (2, vI move)]) (st' := [vI 1, vI move]) B188_177_179 rfl ?_
              refine r_icmp (tgt := 217) (pc' := 182) D188_179 rfl rfl (by unfold inR; omega) (fun (c117 : move ≠ 1) => ?_) (fun (c117 : ¬ (move ≠ 1)) => ?_)
              · refine s_blx (lv' := [(3, vI w1), (0, vR 77), (1, vI said), (2, vI move)]) (st' := [vR 77]) B188_217_218 rfl ?_
                refine r_gfix (r := 84) (pc' := 221) D188_218 rfl gf_11_33_77 H105.1 ?_
                refine s_blx (lv' := [(3, vI w1), (0, vR 77), (1, vI said), (2, vI move)]) (st' := [vR 77, vR 84]) B188_221_222 rfl ?_
                refine r_gint (ki := 13) (pc' := 225) D188_222 rfl gf_11_212_77 rfl H105.1 ?_
                intro w118 e119 r120
                have e121 : v88 = w118 := (e119.trans ((u104.gi_ne (by decide) (Or.inr (by decide))).trans ((u99.gi_ne (by decide) (Or.inr (by decide))).trans (p96)))).symm
                subst e121
                refine r_iald (pc' := 226) D188_225 rfl sc_84 H105.1 (by omega) ?_
                intro w122 e123 r124
                have b_w122 := H105.2 84 (v88) (-1) 7 rfl
                rw [← e123] at b_w122; clear r124
                have ks : w122 = U (sl o (DN said)) := by rw [kn]; have q := ((h1.fr f107 rfl)) (v88) (by omega) (by omega); omega
                refine s_blx (lv' := [(3, vI w1), (0, vR 77), (1, vI said), (2, vI move)]) (st' := [vI (-1), vI w122]) B188_226_227 rfl ?_
                refine r_icmp (tgt := 232) (pc' := 230) D188_227 rfl rfl (by unfold inR; omega) (fun (c125 : w122 = (-1)) => ?_) (fun (c125 : ¬ (w122 = (-1))) => ?_)
                · refine s_blx (lv' := [(3, vI w1), (0, vR 77), (1, vI said), (2, vI move)]) (st' := [vI 2, vI move]) B188_232_234 rfl ?_
                  refine r_icmp (tgt := 297) (pc' := 237) D188_234 rfl rfl (by unfold inR; omega) (fun (c126 : move ≠ 2) => ?_) (fun (c126 : ¬ (move ≠ 2)) => ?_)
                  · refine s_blx (lv' := [(3, vI w1), (0, vR 77), (1, vI said), (2, vI move)]) (st' := [vR 77]) B188_297_298 rfl ?_
                    refine r_gfix (r := 83) (pc' := 301) D188_298 rfl gf_11_30_77 H105.1 ?_
                    refine s_blx (lv' := [(3, vI w1), (0, vR 77), (1, vI said), (2, vI move)]) (st' := [vR 77, vR 83]) B188_301_302 rfl ?_
                    refine r_gint (ki := 13) (pc' := 305) D188_302 rfl gf_11_212_77 rfl H105.1 ?_
                    intro w127 e128 r129
                    have e130 : v88 = w127 := (e128.trans ((u104.gi_ne (by decide) (Or.inr (by decide))).trans ((u99.gi_ne (by decide) (Or.inr (by decide))).trans (p96)))).symm
                    subst e130
                    refine r_iald (pc' := 306) D188_305 rfl sc_83 H105.1 (by omega) ?_
                    intro w131 e132 r133
                    unfold inR at r133
                    have ka : w131 = A (sl o (DN said)) := by rw [kn]; have q := ((h2.fr f107 rfl)) (v88) (by omega) (by omega); omega
                    refine s_blx (lv' := [(3, vI w1), (0, vR 77), (1, vI said), (2, vI move)]) (st' := [vI (move - 10), vI w131]) B188_306_310 rfl ?_
                    refine r_bin (pc' := 311) D188_310 rfl rfl ?_
                    intro z134 r135 kq; unfold inR at r135
                    have kz : z134 = srI (A (sl o (DN said))) (move - 10) := by rw [← ka]; exact srI_of (by unfold inR; omega) kq
                    refine s_blx (lv' := [(3, vI w1), (0, vR 77), (1, vI said), (2, vI move)]) (st' := [vI 1, vI z134]) B188_311_312 rfl ?_
                    refine r_and1 (pc' := 313) D188_312 rfl ?_
                    refine r_ifc (tgt := 318) (pc' := 316) D188_313 rfl rfl (by unfold inR; omega) (fun (c136 : (z134 % 2) ≠ 0) => ?_) (fun (c136 : ¬ ((z134 % 2) ≠ 0)) => ?_)
                    · refine s_blx (lv' := [(3, vI w1), (0, vR 77), (1, vI said), (2, vI move)]) (st' := [vI (move - 10), vI said, vI w1, vR 77]) B188_318_325 rfl ?_
                      refine r_sIp (args := [vI w1, vI said, vI (move - 10)]) (rest := [vR 77]) (pc' := 328) D188_325 rfl ck_11_static_228 TE184 rfl (Nat.le_of_ble_eq_true rfl) ⟨Nat.le_of_ble_eq_true rfl, Nat.le_of_ble_eq_true rfl⟩ (by decide) (dp_0 hd rfl) (k184x E (dp_n hd rfl) H105 w1 said (move - 10) (by omega) (by omega) (by omega)) ?_
                      intro v137 q143
                      obtain ⟨q139, q140, q141, q142⟩ := q143
                      refine r_pint (ki := 14) (pc' := 331) D188_328 rfl pf_11_215_77 rfl H105 (by unfold inR; omega) (show 0 ≤ v137 ∧ v137 ≤ 1110 by omega) ?_
                      intro M144 u145 H146 p147
                      have f148 := f107.wr u145 rfl
                      refine s_blx (lv' := [(3, vI w1), (0, vR 77), (1, vI said), (2, vI move)]) (st' := [vI 1]) B188_331_332 rfl ?_
                      have g149 : gi M144 77 14 = v137 := p147
                      exact r_zretI D188_332 rfl (by omega) (⟨H146, f148, by omega, fun _ => (LG_g (by omega) (by omega) (by omega) (by omega) (by omega) (by omega) (by omega) (by omega)).mpr (by rw [← kz]; omega), fun h => absurd h (by omega), fun _ => Or.inr (Or.inr (by rw [(p147)]; exact mu_add (d := move - 10) (by omega) (by omega) (by omega) (mb_0 (Or.inr (Or.inl (by omega)))) (by omega) (by omega) (by omega))), by rw [g149]; omega⟩)
                    · refine s_blx (lv' := [(3, vI w1), (0, vR 77), (1, vI said), (2, vI move)]) (st' := [vI 0]) B188_316_317 rfl ?_
                      have g150 : gi M103 77 14 = said := (u104.gi_ne (by decide) (Or.inr (by decide))).trans (p101)
                      exact r_zretI D188_317 rfl (by omega) (⟨H105, f107, by omega, fun h => absurd h (by omega), fun _ hl => (LG_g (by omega) (by omega) (by omega) (by omega) (by omega) (by omega) (by omega) (by omega)).mp hl (by rw [← kz]; omega), fun h => absurd h (by omega), by rw [g150]; omega⟩)
                  · refine s_blx (lv' := [(3, vI w1), (0, vR 77), (1, vI said), (2, vI move)]) (st' := [vR 77]) B188_237_238 rfl ?_
                    refine r_gfix (r := 85) (pc' := 241) D188_238 rfl gf_11_36_77 H105.1 ?_
                    refine s_blx (lv' := [(3, vI w1), (0, vR 77), (1, vI said), (2, vI move)]) (st' := [vR 77, vR 85]) B188_241_242 rfl ?_
                    refine r_gint (ki := 13) (pc' := 245) D188_242 rfl gf_11_212_77 rfl H105.1 ?_
                    intro w151 e152 r153
                    have e154 : v88 = w151 := (e152.trans ((u104.gi_ne (by decide) (Or.inr (by decide))).trans ((u99.gi_ne (by decide) (Or.inr (by decide))).trans (p96)))).symm
                    subst e154
                    refine r_iald (pc' := 246) D188_245 rfl sc_85 H105.1 (by omega) ?_
                    intro w155 e156 r157
                    have b_w155 := H105.2 85 (v88) (-1) 11 rfl
                    rw [← e156] at b_w155; clear r157
                    have kop : w155 = O (sl o (DN said)) := by rw [kn]; have q := ((h3.fr f107 rfl)) (v88) (by omega) (by omega); omega
                    refine s_blx (lv' := [(3, vI w1), (0, vR 77), (1, vI said), (2, vI move)]) (st' := [vI (-1), vI w155]) B188_246_247 rfl ?_
                    refine r_icmp (tgt := 252) (pc' := 250) D188_247 rfl rfl (by unfold inR; omega) (fun (c158 : w155 ≠ (-1)) => ?_) (fun (c158 : ¬ (w155 ≠ (-1))) => ?_)
                    · refine s_blx (lv' := [(3, vI w1), (0, vR 77), (1, vI said), (2, vI move)]) (st' := [vI 8, vI said, vI w1, vR 77]) B188_252_257 rfl ?_
                      refine r_sIp (args := [vI w1, vI said, vI 8]) (rest := [vR 77]) (pc' := 260) D188_257 rfl ck_11_static_228 TE184 rfl (Nat.le_of_ble_eq_true rfl) ⟨Nat.le_of_ble_eq_true rfl, Nat.le_of_ble_eq_true rfl⟩ (by decide) (dp_0 hd rfl) (k184x E (dp_n hd rfl) H105 w1 said 8 (by omega) (by omega) (by omega)) ?_
                      intro v159 q165
                      obtain ⟨q161, q162, q163, q164⟩ := q165
                      refine r_pint (ki := 14) (pc' := 263) D188_260 rfl pf_11_215_77 rfl H105 (by unfold inR; omega) (show 0 ≤ v159 ∧ v159 ≤ 1110 by omega) ?_
                      intro M166 u167 H168 p169
                      have f170 := f107.wr u167 rfl
                      refine s_blx (lv' := [(3, vI w1), (0, vR 77), (1, vI said), (2, vI move)]) (st' := [vI 7, vR 77, vR 77]) B188_263_267 rfl ?_
                      refine r_vIp (c := 77) (args := [vI 7]) (rest := [vR 77]) (pc' := 270) D188_267 rfl ck_11_virtual_141 TE153 rfl (Nat.le_of_ble_eq_true rfl) ⟨Nat.le_of_ble_eq_true rfl, Nat.le_of_ble_eq_true rfl⟩ sc_77 ⟨rfl, by decide⟩ H168.1 (dp_0 hd rfl) (k153 E (dp_n hd rfl) H168 7 (by omega)) ?_
                      intro v171 q174
                      have q173 := q174
                      refine s_blx (lv' := [(3, vI w1), (0, vR 77), (1, vI said), (2, vI move)]) (st' := [vR 77, vI v171, vR 77]) B188_270_271 rfl ?_
                      refine r_gfix (r := 78) (pc' := 274) D188_271 rfl gf_11_13_77 H168.1 ?_
                      refine s_blx (lv' := [(3, vI w1), (0, vR 77), (1, vI said), (2, vI move)]) (st' := [vR 77, vI 3, vI 99, vR 78, vI v171, vR 77]) B188_274_278 rfl ?_
                      refine r_gfix (r := 85) (pc' := 281) D188_278 rfl gf_11_36_77 H168.1 ?_
                      refine s_blx (lv' := [(3, vI w1), (0, vR 77), (1, vI said), (2, vI move)]) (st' := [vR 77, vR 85, vI 3, vI 99, vR 78, vI v171, vR 77]) B188_281_282 rfl ?_
                      refine r_gint (ki := 13) (pc' := 285) D188_282 rfl gf_11_212_77 rfl H168.1 ?_
                      intro w175 e176 r177
                      have e178 : v88 = w175 := (e176.trans ((u167.gi_ne (by decide) (Or.inr (by decide))).trans ((u104.gi_ne (by decide) (Or.inr (by decide))).trans ((u99.gi_ne (by decide) (Or.inr (by decide))).trans (p96))))).symm
                      subst e178
                      refine r_iald (pc' := 286) D188_285 rfl sc_85 H168.1 (by omega) ?_
                      intro w179 e180 r181
                      have e182 : w155 = w179 := (e180.trans ((u167.gi_ne (by decide) (Or.inl (by decide))).trans (e156.symm))).symm
                      subst e182
                      refine s_blx (lv' := [(3, vI w1), (0, vR 77), (1, vI said), (2, vI move)]) (st' := [vI ((99 + (3 * w155)) + 2), vR 78, vI v171, vR 77]) B188_286_290 rfl ?_
                      refine r_iald (pc' := 291) D188_290 rfl sc_78 H168.1 (by omega) ?_
                      intro w183 e184 r185
                      have b_w183 := H168.2 78 ((99 + (3 * w155)) + 2) 0 255 (rk_opening (by omega))
                      rw [← e184] at b_w183; clear r185
                      refine s_blx (lv' := [(3, vI w1), (0, vR 77), (1, vI said), (2, vI move)]) (st' := [vI (v171 * w183), vR 77]) B188_291_292 rfl ?_
                      refine r_norm ?_
                      intro z186 r187 _; unfold inR at r187
                      refine r_pint (ki := 15) (pc' := 295) D188_292 rfl pf_11_218_77 rfl H168 (by unfold inR; omega) trivial ?_
                      intro M188 u189 H190 p191
                      have f192 := f170.wr u189 rfl
                      refine s_blx (lv' := [(3, vI w1), (0, vR 77), (1, vI said), (2, vI move)]) (st' := [vI 1]) B188_295_296 rfl ?_
                      have g193 : gi M188 77 14 = v159 := (u189.gi_ne (by decide) (Or.inr (by decide))).trans (p169)
                      exact r_zretI D188_296 rfl (by omega) (⟨H190, f192, by omega, fun _ => (LG_2 (by omega) (by omega) (by omega)).mpr (by omega), fun h => absurd h (by omega), fun _ => Or.inr (Or.inr (by rw [((u189.gi_ne (by decide) (Or.inr (by decide))).trans (p169))]; exact mu_add (d := 8) (by omega) (by omega) (by omega) (mb_0 (Or.inl (by omega))) (by omega) (by omega) (by omega))), by rw [g193]; omega⟩)
                    · refine s_blx (lv' := [(3, vI w1), (0, vR 77), (1, vI said), (2, vI move)]) (st' := [vI 0]) B188_250_251 rfl ?_
                      have g194 : gi M103 77 14 = said := (u104.gi_ne (by decide) (Or.inr (by decide))).trans (p101)
                      exact r_zretI D188_251 rfl (by omega) (⟨H105, f107, by omega, fun h => absurd h (by omega), fun _ hl => (LG_2 (by omega) (by omega) (by omega)).mp hl (by omega), fun h => absurd h (by omega), by rw [g194]; omega⟩)
                · refine s_blx (lv' := [(3, vI w1), (0, vR 77), (1, vI said), (2, vI move)]) (st' := [vI 0]) B188_230_231 rfl ?_
                  have g195 : gi M103 77 14 = said := (u104.gi_ne (by decide) (Or.inr (by decide))).trans (p101)
                  exact r_zretI D188_231 rfl (by omega) (⟨H105, f107, by omega, fun h => absurd h (by omega), fun _ => LG_s (by omega) (by omega) (by omega) (by omega) (by omega) (by omega) (by omega), fun h => absurd h (by omega), by rw [g195]; omega⟩)
              · refine s_blx (lv' := [(3, vI w1), (0, vR 77), (1, vI said), (2, vI move)]) (st' := [vR 77]) B188_182_183 rfl ?_
                refine r_gfix (r := 84) (pc' := 186) D188_183 rfl gf_11_33_77 H105.1 ?_
                refine s_blx (lv' := [(3, vI w1), (0, vR 77), (1, vI said), (2, vI move)]) (st' := [vR 77, vR 84]) B188_186_187 rfl ?_
                refine r_gint (ki := 13) (pc' := 190) D188_187 rfl gf_11_212_77 rfl H105.1 ?_
                intro w196 e197 r198
                have e199 : v88 = w196 := (e197.trans ((u104.gi_ne (by decide) (Or.inr (by decide))).trans ((u99.gi_ne (by decide) (Or.inr (by decide))).trans (p96)))).symm
                subst e199
                refine r_iald (pc' := 191) D188_190 rfl sc_84 H105.1 (by omega) ?_
                intro w200 e201 r202
                have b_w200 := H105.2 84 (v88) (-1) 7 rfl
                rw [← e201] at b_w200; clear r202
                have ks : w200 = U (sl o (DN said)) := by rw [kn]; have q := ((h1.fr f107 rfl)) (v88) (by omega) (by omega); omega
                refine s_blx (lv' := [(3, vI w1), (0, vR 77), (1, vI said), (2, vI move)]) (st' := [vI (-1), vI w200]) B188_191_192 rfl ?_
                refine r_icmp (tgt := 197) (pc' := 195) D188_192 rfl rfl (by unfold inR; omega) (fun (c203 : w200 ≠ (-1)) => ?_) (fun (c203 : ¬ (w200 ≠ (-1))) => ?_)
                · refine s_blx (lv' := [(3, vI w1), (0, vR 77), (1, vI said), (2, vI move)]) (st' := [vR 77, vI said, vI w1, vR 77]) B188_197_201 rfl ?_
                  refine r_gfix (r := 84) (pc' := 204) D188_201 rfl gf_11_33_77 H105.1 ?_
                  refine s_blx (lv' := [(3, vI w1), (0, vR 77), (1, vI said), (2, vI move)]) (st' := [vR 77, vR 84, vI said, vI w1, vR 77]) B188_204_205 rfl ?_
                  refine r_gint (ki := 13) (pc' := 208) D188_205 rfl gf_11_212_77 rfl H105.1 ?_
                  intro w204 e205 r206
                  have e207 : v88 = w204 := (e205.trans ((u104.gi_ne (by decide) (Or.inr (by decide))).trans ((u99.gi_ne (by decide) (Or.inr (by decide))).trans (p96)))).symm
                  subst e207
                  refine r_iald (pc' := 209) D188_208 rfl sc_84 H105.1 (by omega) ?_
                  intro w208 e209 r210
                  have e211 : w200 = w208 := (e209.trans (e201.symm)).symm
                  subst e211
                  refine r_sIp (args := [vI w1, vI said, vI w200]) (rest := [vR 77]) (pc' := 212) D188_209 rfl ck_11_static_228 TE184 rfl (Nat.le_of_ble_eq_true rfl) ⟨Nat.le_of_ble_eq_true rfl, Nat.le_of_ble_eq_true rfl⟩ (by decide) (dp_0 hd rfl) (k184x E (dp_n hd rfl) H105 w1 said w200 (by omega) (by omega) (by omega)) ?_
                  intro v212 q218
                  obtain ⟨q214, q215, q216, q217⟩ := q218
                  refine r_pint (ki := 14) (pc' := 215) D188_212 rfl pf_11_215_77 rfl H105 (by unfold inR; omega) (show 0 ≤ v212 ∧ v212 ≤ 1110 by omega) ?_
                  intro M219 u220 H221 p222
                  have f223 := f107.wr u220 rfl
                  refine s_blx (lv' := [(3, vI w1), (0, vR 77), (1, vI said), (2, vI move)]) (st' := [vI 1]) B188_215_216 rfl ?_
                  have g224 : gi M219 77 14 = v212 := p222
                  exact r_zretI D188_216 rfl (by omega) (⟨H221, f223, by omega, fun _ => (LG_1 (by omega) (by omega)).mpr (by omega), fun h => absurd h (by omega), fun _ => Or.inr (Or.inr (by rw [(p222)]; exact mu_add (d := U (sl o (DN said))) (by omega) (by omega) (by omega) (mb_0 (Or.inr (Or.inr rfl))) (by omega) (by omega) (by omega))), by rw [g224]; omega⟩)
                · refine s_blx (lv' := [(3, vI w1), (0, vR 77), (1, vI said), (2, vI move)]) (st' := [vI 0]) B188_195_196 rfl ?_
                  have g225 : gi M103 77 14 = said := (u104.gi_ne (by decide) (Or.inr (by decide))).trans (p101)
                  exact r_zretI D188_196 rfl (by omega) (⟨H105, f107, by omega, fun h => absurd h (by omega), fun _ hl => (LG_1 (by omega) (by omega)).mp hl (by omega), fun h => absurd h (by omega), by rw [g225]; omega⟩)
            · refine s_blx (lv' := [(3, vI w1), (0, vR 77), (1, vI said), (2, vI move)]) (st' := [vI 9, vI said, vI w1, vR 77]) B188_164_169 rfl ?_
              refine r_sIp (args := [vI w1, vI said, vI 9]) (rest := [vR 77]) (pc' := 172) D188_169 rfl ck_11_static_228 TE184 rfl (Nat.le_of_ble_eq_true rfl) ⟨Nat.le_of_ble_eq_true rfl, Nat.le_of_ble_eq_true rfl⟩ (by decide) (dp_0 hd rfl) (k184x E (dp_n hd rfl) H105 w1 said 9 (by omega) (by omega) (by omega)) ?_
              intro v226 q232
              obtain ⟨q228, q229, q230, q231⟩ := q232
              refine r_pint (ki := 14) (pc' := 175) D188_172 rfl pf_11_215_77 rfl H105 (by unfold inR; omega) (show 0 ≤ v226 ∧ v226 ≤ 1110 by omega) ?_
              intro M233 u234 H235 p236
              have f237 := f107.wr u234 rfl
              refine s_blx (lv' := [(3, vI w1), (0, vR 77), (1, vI said), (2, vI move)]) (st' := [vI 1]) B188_175_176 rfl ?_
              have g238 : gi M233 77 14 = v226 := p236
              exact r_zretI D188_176 rfl (by omega) (⟨H235, f237, by omega, fun _ => LG_3 (by omega) (by omega), fun h => absurd h (by omega), fun _ => Or.inr (Or.inr (by rw [(p236)]; exact mu_add (d := 9) (by omega) (by omega) (by omega) (mb_0 (Or.inl (by omega))) (by omega) (by omega) (by omega))), by rw [g238]; omega⟩)
          · exfalso; omega
        · refine s_blx (lv' := [(4, vI (move - 20)), (3, vI w1), (0, vR 77), (1, vI said), (2, vI move)]) (st' := [vI (move - 20), vI said, vR 77]) B188_81_91 rfl ?_
          have g239 : gi M103 78 473 = o := (u104.gi_ne (by decide) (Or.inl (by decide))).trans ((u99.gi_ne (by decide) (Or.inl (by decide))).trans ((u94.gi_ne (by decide) (Or.inl (by decide))).trans (h4)))
          refine r_vIp (c := 77) (args := [vI said, vI (move - 20)]) (rest := []) (pc' := 94) D188_91 rfl ck_11_virtual_221 TE186 rfl (Nat.le_of_ble_eq_true rfl) ⟨Nat.le_of_ble_eq_true rfl, Nat.le_of_ble_eq_true rfl⟩ sc_77 ⟨rfl, by decide⟩ H105.1 (dp_0 hd rfl) (k186f E (dp_n hd rfl) H105 said (move - 20) o U ((h0.fr f107 rfl)) ((h1.fr f107 rfl)) (by omega) (by omega) (by omega)) ?_
          intro v240 q245
          obtain ⟨q242, q243, q244⟩ := q245
          have kc1 := q243
          have kc0 := q244
          refine r_ifc (tgt := 99) (pc' := 97) D188_94 rfl rfl (by unfold inR; omega) (fun (c246 : v240 ≠ 0) => ?_) (fun (c246 : ¬ (v240 ≠ 0)) => ?_)
          · refine s_blx (lv' := [(4, vI (move - 20)), (3, vI w1), (0, vR 77), (1, vI said), (2, vI move)]) (st' := [vI (move - 20), vR 77]) B188_99_102 rfl ?_
            have g247 : gi M103 78 473 = o := (u104.gi_ne (by decide) (Or.inl (by decide))).trans ((u99.gi_ne (by decide) (Or.inl (by decide))).trans ((u94.gi_ne (by decide) (Or.inl (by decide))).trans (h4)))
            refine r_vIp (c := 77) (args := [vI (move - 20)]) (rest := []) (pc' := 105) D188_102 rfl ck_11_virtual_209 TE185 rfl (Nat.le_of_ble_eq_true rfl) ⟨Nat.le_of_ble_eq_true rfl, Nat.le_of_ble_eq_true rfl⟩ sc_77 ⟨rfl, by decide⟩ H105.1 (dp_0 hd rfl) (k185f E (dp_n hd rfl) H105 (move - 20) o (by omega) (by omega)) ?_
            intro v248 q252
            obtain ⟨q250, q251⟩ := q252
            have ki := q251
            obtain ⟨kI, ka1, ka2, ka3, ka4, ka5, ka6, ka7⟩ := kc1 (by omega)
            have kie : kI = v248 := sl_inj (o := o) ko5 ⟨ka1, ka2⟩ (by omega) (by rw [ka3, ki])
            rw [kie] at ka1 ka2 ka4 ka5 ka7
            refine s_blx (lv' := [(5, vI v248), (4, vI (move - 20)), (3, vI w1), (0, vR 77), (1, vI said), (2, vI move)]) (st' := [vR 77, vI said, vI w1, vR 77]) B188_105_111 rfl ?_
            refine r_gfix (r := 84) (pc' := 114) D188_111 rfl gf_11_33_77 H105.1 ?_
            refine s_blx (lv' := [(5, vI v248), (4, vI (move - 20)), (3, vI w1), (0, vR 77), (1, vI said), (2, vI move)]) (st' := [vI (move - 20), vR 84, vI said, vI w1, vR 77]) B188_114_116 rfl ?_
            refine r_iald (pc' := 117) D188_116 rfl sc_84 H105.1 (by omega) ?_
            intro w253 e254 r255
            have b_w253 := H105.2 84 (move - 20) (-1) 7 rfl
            rw [← e254] at b_w253; clear r255
            have ks : w253 = U ((move - 20)) := by have q := ((h1.fr f107 rfl)) ((move - 20)) (by omega) (by omega); omega
            refine s_blx (lv' := [(5, vI v248), (4, vI (move - 20)), (3, vI w1), (0, vR 77), (1, vI said), (2, vI move)]) (st' := [vR 77, vI w253, vI said, vI w1, vR 77]) B188_117_118 rfl ?_
            refine r_gfix (r := 82) (pc' := 121) D188_118 rfl gf_11_27_77 H105.1 ?_
            refine s_blx (lv' := [(5, vI v248), (4, vI (move - 20)), (3, vI w1), (0, vR 77), (1, vI said), (2, vI move)]) (st' := [vI ((3 * said) + v248), vR 82, vI w253, vI said, vI w1, vR 77]) B188_121_127 rfl ?_
            refine r_iald (pc' := 128) D188_127 rfl sc_82 H105.1 (by omega) ?_
            intro w256 e257 r258
            have b_w256 := H105.2 82 ((3 * said) + v248) 0 9 rfl
            rw [← e257] at b_w256; clear r258
            have kgd : w256 = DG said v248 := by rw [e257]; exact ((h0.fr f107 rfl)).dg (by omega) (by omega) (by omega)
            refine s_blx (lv' := [(5, vI v248), (4, vI (move - 20)), (3, vI w1), (0, vR 77), (1, vI said), (2, vI move)]) (st' := [vI v248, vI (w253 - w256), vI said, vI w1, vR 77]) B188_128_131 rfl ?_
            refine r_sIp (args := [vI w1, vI said, vI (w253 - w256), vI v248]) (rest := [vR 77]) (pc' := 134) D188_131 rfl ck_11_static_224 TE187 rfl (Nat.le_of_ble_eq_true rfl) ⟨Nat.le_of_ble_eq_true rfl, Nat.le_of_ble_eq_true rfl⟩ (by decide) (dp_0 hd rfl) (k187x E (dp_n hd rfl) H105 w1 said (w253 - w256) v248 (by omega) (by omega) (by omega) (by omega)) ?_
            intro v259 q265
            obtain ⟨q261, q262, q263, q264⟩ := q265
            refine r_pint (ki := 14) (pc' := 137) D188_134 rfl pf_11_215_77 rfl H105 (by unfold inR; omega) (show 0 ≤ _ ∧ _ ≤ 1110 from chg_rng (s := said) (i := v248) (u := U ((move - 20))) (by omega) (by omega) (by omega) (by omega) (by omega) (by omega)) ?_
            intro M266 u267 H268 p269
            have f270 := f107.wr u267 rfl
            refine s_blx (lv' := [(5, vI v248), (4, vI (move - 20)), (3, vI w1), (0, vR 77), (1, vI said), (2, vI move)]) (st' := [vI 6, vR 77, vR 77]) B188_137_141 rfl ?_
            refine r_vIp (c := 77) (args := [vI 6]) (rest := [vR 77]) (pc' := 144) D188_141 rfl ck_11_virtual_141 TE153 rfl (Nat.le_of_ble_eq_true rfl) ⟨Nat.le_of_ble_eq_true rfl, Nat.le_of_ble_eq_true rfl⟩ sc_77 ⟨rfl, by decide⟩ H268.1 (dp_0 hd rfl) (k153 E (dp_n hd rfl) H268 6 (by omega)) ?_
            intro v271 q274
            have q273 := q274
            refine r_pint (ki := 15) (pc' := 147) D188_144 rfl pf_11_218_77 rfl H268 (by unfold inR; omega) trivial ?_
            intro M275 u276 H277 p278
            have f279 := f270.wr u276 rfl
            refine s_blx (lv' := [(5, vI v248), (4, vI (move - 20)), (3, vI w1), (0, vR 77), (1, vI said), (2, vI move)]) (st' := [vI 1]) B188_147_148 rfl ?_
            have g280 : gi M275 77 14 = v259 := (u276.gi_ne (by decide) (Or.inr (by decide))).trans (p269)
            exact r_zretI D188_148 rfl (by omega) (⟨H277, f279, by omega, fun _ => (LG_m (by omega)).mpr (kc1 (by omega)), fun h => absurd h (by omega), fun _ => Or.inr (Or.inr (by rw [((u276.gi_ne (by decide) (Or.inr (by decide))).trans (p269))]; exact mu_chg (i := v248) (by omega) (by omega) (by rw [ki]; exact mb_1 (by omega)) (by rw [ki]; omega) (by rw [ki]; omega) (by rw [ki]; omega) (by rw [ki]; omega))), by rw [g280]; omega⟩)
          · refine s_blx (lv' := [(4, vI (move - 20)), (3, vI w1), (0, vR 77), (1, vI said), (2, vI move)]) (st' := [vI 0]) B188_97_98 rfl ?_
            have g281 : gi M103 77 14 = said := (u104.gi_ne (by decide) (Or.inr (by decide))).trans (p101)
            exact r_zretI D188_98 rfl (by omega) (⟨H105, f107, by omega, fun h => absurd h (by omega), fun _ hl => kc0 (by omega) ((LG_m (by omega)).mp hl), fun h => absurd h (by omega), by rw [g281]; omega⟩)
      · refine s_blx (lv' := [(3, vI w1), (0, vR 77), (1, vI said), (2, vI move)]) (st' := [vR 77]) B188_57_58 rfl ?_
        refine r_gint (ki := 9) (pc' := 61) D188_58 rfl gf_11_190_77 rfl H105.1 ?_
        intro w282 e283 r284
        have e285 : ov = w282 := (e283.trans ((u104.gi_ne (by decide) (Or.inr (by decide))).trans ((u99.gi_ne (by decide) (Or.inr (by decide))).trans ((u94.gi_ne (by decide) (Or.inr (by decide))).trans (h5))))).symm
        subst e285
        refine r_ifc (tgt := 73) (pc' := 64) D188_61 rfl rfl (by unfold inR; omega) (fun (c286 : ov = 0) => ?_) (fun (c286 : ¬ (ov = 0)) => ?_)
        · refine s_blx (lv' := [(3, vI w1), (0, vR 77), (1, vI said), (2, vI move)]) (st' := [vI 0]) B188_73_74 rfl ?_
          have g287 : gi M103 77 14 = said := (u104.gi_ne (by decide) (Or.inr (by decide))).trans (p101)
          exact r_zretI D188_74 rfl (by omega) (⟨H105, f107, by omega, fun h => (LG_4 (by omega)).mpr (by omega), fun h hl => by have q := (LG_4 (by omega)).mp hl; omega, fun _ => Or.inr (Or.inl (by omega)), by rw [g287]; omega⟩)
        · refine s_blx (lv' := [(3, vI w1), (0, vR 77), (1, vI said), (2, vI move)]) (st' := [vI 3, vI w1]) B188_64_66 rfl ?_
          refine r_icmp (tgt := 73) (pc' := 69) D188_66 rfl rfl (by unfold inR; omega) (fun (c288 : w1 ≠ 3) => ?_) (fun (c288 : ¬ (w1 ≠ 3)) => ?_)
          · refine s_blx (lv' := [(3, vI w1), (0, vR 77), (1, vI said), (2, vI move)]) (st' := [vI 0]) B188_73_74 rfl ?_
            have g289 : gi M103 77 14 = said := (u104.gi_ne (by decide) (Or.inr (by decide))).trans (p101)
            exact r_zretI D188_74 rfl (by omega) (⟨H105, f107, by omega, fun h => (LG_4 (by omega)).mpr (by omega), fun h hl => by have q := (LG_4 (by omega)).mp hl; omega, fun _ => Or.inr (Or.inl (by omega)), by rw [g289]; omega⟩)
          · exfalso; omega
    · refine s_blx (lv' := [(3, vI w1), (0, vR 77), (1, vI said), (2, vI move)]) (st' := [vR 77]) B188_39_40 rfl ?_
      refine r_gint (ki := 9) (pc' := 43) D188_40 rfl gf_11_190_77 rfl H105.1 ?_
      intro w290 e291 r292
      have e293 : ov = w290 := (e291.trans ((u104.gi_ne (by decide) (Or.inr (by decide))).trans ((u99.gi_ne (by decide) (Or.inr (by decide))).trans ((u94.gi_ne (by decide) (Or.inr (by decide))).trans (h5))))).symm
      subst e293
      refine r_ifc (tgt := 50) (pc' := 46) D188_43 rfl rfl (by unfold inR; omega) (fun (c294 : ov ≠ 0) => ?_) (fun (c294 : ¬ (ov ≠ 0)) => ?_)
      · refine s_blx (lv' := [(3, vI w1), (0, vR 77), (1, vI said), (2, vI move)]) (st' := [vI 0]) B188_50_51 rfl ?_
        have g295 : gi M103 77 14 = said := (u104.gi_ne (by decide) (Or.inr (by decide))).trans (p101)
        exact r_zretI D188_51 rfl (by omega) (⟨H105, f107, by omega, fun h => (LG_0 (by omega)).mpr (by omega), fun h hl => by have q := (LG_0 (by omega)).mp hl; omega, fun _ => Or.inl (by omega), by rw [g295]; omega⟩)
      · refine s_blx (lv' := [(3, vI w1), (0, vR 77), (1, vI said), (2, vI move)]) (st' := [vI 1]) B188_46_47 rfl ?_
        refine r_goto (tgt := 51) D188_47 rfl ?_
        have g296 : gi M103 77 14 = said := (u104.gi_ne (by decide) (Or.inr (by decide))).trans (p101)
        exact r_zretI D188_51 rfl (by omega) (⟨H105, f107, by omega, fun h => (LG_0 (by omega)).mpr (by omega), fun h hl => by have q := (LG_0 (by omega)).mp hl; omega, fun _ => Or.inl (by omega), by rw [g296]; omega⟩)

