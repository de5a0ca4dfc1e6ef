set_option maxRecDepth 4000 in
set_option maxHeartbeats 4000000 in
theorem k241x {base : Nat} {X : Nat → Option mC} {G : Nat → Value} (E : EnvOK base X G) {rr : Nat} (ihr : ∀ {d : Nat} (_ : 31 + 4 * rr ≤ d) {M : mH} (_ : HI base M) (live : Int) (p : Int) (a : Int) (e : Int) (gg : Int) (F : Int → Int) (C : Int → Int), ((live = 0 ∨ live = 1)) → (KC C M) → (∀ j : Int, a ≤ j → j < e → F (j + 1) = dl (F j) (C j) ∧ F (j + 1) ≠ 0) → (F e = 2 ∨ F e = 20 ∨ F e = 2001) → (gi M 77 41 = e) → (0 ≤ a ∧ e ≤ 3200) → (gi M 77 40 = gg) → (a ≤ gg ∧ gg ≤ e) → (F gg = 10 + p) → (0 ≤ p ∧ p ≤ 8) → 8 - p < ((rr : Nat) : Int) → sOk base X G d T238 [vR 77, vI live] M (pI (fun v M' => HI base M' ∧ Fr [(77, 41), (77, 43)] M M' ∧ (v = 0 ∨ v = 1) ∧ (gg < gi M' 77 40 ∧ gi M' 77 40 ≤ e) ∧ (F (gi M' 77 40) = 20 + p ∨ (F (gi M' 77 40) = 2001 + 100 * p ∧ ((gi M' 77 40) < e → C (gi M' 77 40) ≠ 142 ∧ C (gi M' 77 40) ≠ 143 ∧ C (gi M' 77 40) ≠ 145 ∧ C (gi M' 77 40) ≠ 147))) ∧ ((gi M' 77 40) < e → C (gi M' 77 40) ≠ 8 ∧ C (gi M' 77 40) ≠ 9)))) {d : Nat} (hd : 32 + 4 * rr ≤ d) {M : mH} (H : HI base M) (live : Int) (p : Int) (a : Int) (e : Int) (gg : Int) (F : Int → Int) (C : Int → Int) (h0 : (live = 0 ∨ live = 1)) (h1 : KC C M) (h2 : ∀ j : Int, a ≤ j → j < e → F (j + 1) = dl (F j) (C j) ∧ F (j + 1) ≠ 0) (h3 : F e = 2 ∨ F e = 20 ∨ F e = 2001) (h4 : gi M 77 41 = e) (h5 : 0 ≤ a ∧ e ≤ 3200) (h6 : gi M 77 40 = gg) (h7 : a ≤ gg ∧ gg ≤ e) (h8 : F gg = 10 + p) (h9 : 0 ≤ p ∧ p ≤ 8) (h10 : gg < e → C gg ≠ 10) (h11 : 8 - p < (rr : Int) + 1) : sOk base X G d T241 [vR 77, vI live] M (pI (fun v M' => HI base M' ∧ Fr [(77, 41), (77, 43)] M M' ∧ (v = 0 ∨ v = 1) ∧ (gg < gi M' 77 40 ∧ gi M' 77 40 ≤ e) ∧ (F (gi M' 77 40) = 20 + p ∨ (F (gi M' 77 40) = 2001 + 100 * p ∧ ((gi M' 77 40) < e → C (gi M' 77 40) ≠ 142 ∧ C (gi M' 77 40) ≠ 143 ∧ C (gi M' 77 40) ≠ 145 ∧ C (gi M' 77 40) ≠ 147))))) := by
  have f0 : Fr [(77, 41), (77, 43)] M M := Fr.rf
  refine sOk.of (show sRn base X G d T241 0 [(0, vR 77), (1, vI live)] [] M _ from ?_)
  refine s_blx (lv' := [(0, vR 77), (1, vI live)]) (st' := [vI 40, vR 77]) B241_0_3 rfl ?_
  have kne : gg ≠ e := ne_acc h3 h8 (by omega)
  have kd := h2 gg (by omega) (by omega)
  have ks := e_T (x := F gg) (c := C gg) (p := p) (by omega) (by omega) (by omega) (by omega)
  refine r_sIp (args := [vI 40]) (rest := [vR 77]) (pc' := 6) D241_3 rfl ck_11_static_346 TE221 rfl (Nat.le_of_ble_eq_true rfl) ⟨Nat.le_of_ble_eq_true rfl, Nat.le_of_ble_eq_true rfl⟩ (by decide) (by omega) (k221 E (by omega) H 40 (by omega)) ?_
  intro v1 q4
  have q3 := q4
  have e5 : v1 = 140 := by omega
  subst e5
  have g6 : gi M 77 41 = e := h4
  have g7 : gi M 77 40 = gg := h6
  refine r_vI (c := 77) (args := [vI 140]) (rest := []) (pc' := 9) D241_6 rfl ck_11_virtual_402 TE233 rfl (Nat.le_of_ble_eq_true rfl) ⟨Nat.le_of_ble_eq_true rfl, Nat.le_of_ble_eq_true rfl⟩ sc_77 ⟨rfl, by decide⟩ H.1 (by omega) (k233x E (by omega) H 140 a e gg F C (h1) (h2) (by omega) (by omega) (by omega) (by omega) (by omega) (by omega) (by omega)) ?_
  intro v8 M9 q16
  obtain ⟨H10, f11, q12, q13, q14, q15⟩ := q16
  have f17 := f0.tr (f11.up rfl)
  obtain ⟨t18, ht19⟩ : ∃ q, q = gi M9 77 40 := ⟨_, rfl⟩
  rw [← ht19] at q13
  rw [← ht19] at q14
  rw [← ht19] at q15
  have kpa := q14
  have kpb := q15
  clear q14 q15
  refine r_ifc (tgt := 30) (pc' := 12) D241_9 rfl rfl (by unfold inR; omega) (fun (c20 : v8 = 0) => ?_) (fun (c20 : ¬ (v8 = 0)) => ?_)
  · refine s_blx (lv' := [(0, vR 77), (1, vI live)]) (st' := [vR 77, vR 77]) B241_30_32 rfl ?_
    refine r_gint (ki := 40) (pc' := 35) D241_32 rfl gf_11_378_77 rfl H10.1 ?_
    intro w21 e22 r23
    have e24 : t18 = w21 := (e22.trans (ht19.symm)).symm
    subst e24
    have kpp := kpb (by omega)
    clear kpa kpb
    have g25 : gi M9 77 41 = e := (f11.g rfl).trans (h4)
    refine r_vIp (c := 77) (args := [vI t18]) (rest := []) (pc' := 38) D241_35 rfl ck_11_virtual_381 TE232 rfl (Nat.le_of_ble_eq_true rfl) ⟨Nat.le_of_ble_eq_true rfl, Nat.le_of_ble_eq_true rfl⟩ sc_77 ⟨rfl, by decide⟩ H10.1 (by omega) (k232x E (by omega) H10 t18 e C ((h1.fr f17 rfl)) (by omega) (by omega) (by omega)) ?_
    intro v26 q31
    obtain ⟨q28, q29, q30⟩ := q31
    refine s_blx (lv' := [(2, vI v26), (0, vR 77), (1, vI live)]) (st' := [vI 11, vI v26]) B241_38_42 rfl ?_
    refine r_icmp (tgt := 51) (pc' := 45) D241_42 rfl rfl (by unfold inR; omega) (fun (c32 : v26 = 11) => ?_) (fun (c32 : ¬ (v26 = 11)) => ?_)
    · refine s_blx (lv' := [(2, vI v26), (0, vR 77), (1, vI live)]) (st' := [vR 77, vR 77]) B241_51_53 rfl ?_
      refine r_gint (ki := 40) (pc' := 56) D241_53 rfl gf_11_378_77 rfl H10.1 ?_
      intro w33 e34 r35
      have e36 : t18 = w33 := (e34.trans (ht19.symm)).symm
      subst e36
      refine s_blx (lv' := [(2, vI v26), (0, vR 77), (1, vI live)]) (st' := [vI (t18 + 1), vR 77]) B241_56_58 rfl ?_
      refine r_pint (ki := 40) (pc' := 61) D241_58 rfl pf_11_378_77 rfl H10 (by unfold inR; omega) trivial ?_
      intro M37 u38 H39 p40
      have f41 := f17.wr u38 rfl
      have kf : F ((t18 + 1)) = dl (F gg) (C gg) := by rw [show (t18 + 1) = gg + 1 by omega]; exact kd.1
      have k3 := d_kn (x := F gg) (c := C gg) (by omega) (by omega) (by omega)
      clear ks
      refine s_blx (lv' := [(2, vI v26), (0, vR 77), (1, vI live)]) (st' := [vI live]) B241_61_62 rfl ?_
      refine r_ifc (tgt := 113) (pc' := 65) D241_62 rfl rfl (by unfold inR; omega) (fun (c42 : live = 0) => ?_) (fun (c42 : ¬ (live = 0)) => ?_)
      · refine s_blx (lv' := [(2, vI v26), (0, vR 77), (1, vI live)]) (st' := [vI 0]) B241_113_114 rfl ?_
        have g43 : gi M37 77 40 = t18 + 1 := p40
        exact r_zretI D241_114 rfl (by omega) (⟨H39, f41, by omega, by rw [g43]; omega, by rw [g43]; omega⟩)
      · refine s_blx (lv' := [(2, vI v26), (0, vR 77), (1, vI live)]) (st' := [vR 77]) B241_65_66 rfl ?_
        refine r_gint (ki := 42) (pc' := 69) D241_66 rfl gf_11_388_77 rfl H39.1 ?_
        intro w44 e45 r46
        have b_w44 := H39.2 77 (42) 0 1 rfl
        rw [← e45] at b_w44; clear r46
        refine r_ifc (tgt := 113) (pc' := 72) D241_69 rfl rfl (by unfold inR; omega) (fun (c47 : w44 ≠ 0) => ?_) (fun (c47 : ¬ (w44 ≠ 0)) => ?_)
        · refine s_blx (lv' := [(2, vI v26), (0, vR 77), (1, vI live)]) (st' := [vI 0]) B241_113_114 rfl ?_
          have g48 : gi M37 77 40 = t18 + 1 := p40
          exact r_zretI D241_114 rfl (by omega) (⟨H39, f41, by omega, by rw [g48]; omega, by rw [g48]; omega⟩)
        · refine s_blx (lv' := [(2, vI v26), (0, vR 77), (1, vI live)]) (st' := [vI 12, vI v26]) B241_72_75 rfl ?_
          refine r_icmp (tgt := 88) (pc' := 78) D241_75 rfl rfl (by unfold inR; omega) (fun (c49 : v26 ≠ 12) => ?_) (fun (c49 : ¬ (v26 ≠ 12)) => ?_)
          · refine s_blx (lv' := [(2, vI v26), (0, vR 77), (1, vI live)]) (st' := [vR 77]) B241_88_89 rfl ?_
            refine r_gint (ki := 13) (pc' := 92) D241_89 rfl gf_11_212_77 rfl H39.1 ?_
            intro w50 e51 r52
            have b_w50 := H39.2 77 (13) (-1) 2 rfl
            rw [← e51] at b_w50; clear r52
            refine s_blx (lv' := [(2, vI v26), (0, vR 77), (1, vI live)]) (st' := [vI (-1), vI w50]) B241_92_93 rfl ?_
            refine r_icmp (tgt := 113) (pc' := 96) D241_93 rfl rfl (by unfold inR; omega) (fun (c53 : w50 = (-1)) => ?_) (fun (c53 : ¬ (w50 = (-1))) => ?_)
            · refine s_blx (lv' := [(2, vI v26), (0, vR 77), (1, vI live)]) (st' := [vI 0]) B241_113_114 rfl ?_
              have g54 : gi M37 77 40 = t18 + 1 := p40
              exact r_zretI D241_114 rfl (by omega) (⟨H39, f41, by omega, by rw [g54]; omega, by rw [g54]; omega⟩)
            · refine s_blx (lv' := [(2, vI v26), (0, vR 77), (1, vI live)]) (st' := [vR 77]) B241_96_97 rfl ?_
              refine r_gfix (r := 84) (pc' := 100) D241_97 rfl gf_11_33_77 H39.1 ?_
              refine s_blx (lv' := [(2, vI v26), (0, vR 77), (1, vI live)]) (st' := [vR 77, vR 84]) B241_100_101 rfl ?_
              refine r_gint (ki := 13) (pc' := 104) D241_101 rfl gf_11_212_77 rfl H39.1 ?_
              intro w55 e56 r57
              have e58 : w50 = w55 := (e56.trans (e51.symm)).symm
              subst e58
              refine r_iald (pc' := 105) D241_104 rfl sc_84 H39.1 (by omega) ?_
              intro w59 e60 r61
              have b_w59 := H39.2 84 (w50) (-1) 7 rfl
              rw [← e60] at b_w59; clear r61
              refine s_blx (lv' := [(2, vI v26), (0, vR 77), (1, vI live)]) (st' := [vI (-1), vI w59]) B241_105_106 rfl ?_
              refine r_icmp (tgt := 113) (pc' := 109) D241_106 rfl rfl (by unfold inR; omega) (fun (c62 : w59 = (-1)) => ?_) (fun (c62 : ¬ (w59 = (-1))) => ?_)
              · refine s_blx (lv' := [(2, vI v26), (0, vR 77), (1, vI live)]) (st' := [vI 0]) B241_113_114 rfl ?_
                have g63 : gi M37 77 40 = t18 + 1 := p40
                exact r_zretI D241_114 rfl (by omega) (⟨H39, f41, by omega, by rw [g63]; omega, by rw [g63]; omega⟩)
              · refine s_blx (lv' := [(2, vI v26), (0, vR 77), (1, vI live)]) (st' := [vI 1]) B241_109_110 rfl ?_
                refine r_goto (tgt := 114) D241_110 rfl ?_
                have g64 : gi M37 77 40 = t18 + 1 := p40
                exact r_zretI D241_114 rfl (by omega) (⟨H39, f41, by omega, by rw [g64]; omega, by rw [g64]; omega⟩)
          · exfalso; omega
    · refine s_blx (lv' := [(2, vI v26), (0, vR 77), (1, vI live)]) (st' := [vI 12, vI v26]) B241_45_48 rfl ?_
      refine r_icmp (tgt := 115) (pc' := 51) D241_48 rfl rfl (by unfold inR; omega) (fun (c65 : v26 ≠ 12) => ?_) (fun (c65 : ¬ (v26 ≠ 12)) => ?_)
      · refine s_blx (lv' := [(2, vI v26), (0, vR 77), (1, vI live)]) (st' := [vI live, vR 77]) B241_115_117 rfl ?_
        have ksp : C t18 ≠ 10 ∧ C t18 ≠ 140 ∧ C t18 ≠ 11 ∧ C t18 ≠ 12 := by omega
        have ksq : F t18 = 10 + p := by omega
        clear ks kd h11
        have g66 : gi M9 77 41 = e := (f11.g rfl).trans (h4)
        have g67 : gi M9 77 40 = t18 := ht19.symm
        refine r_vL (c := 77) (args := [vI live]) (rest := []) (pc' := 120) D241_117 rfl ck_11_virtual_405 TE235 rfl (Nat.le_of_ble_eq_true rfl) ⟨Nat.le_of_ble_eq_true rfl, Nat.le_of_ble_eq_true rfl⟩ sc_77 ⟨rfl, by decide⟩ H10.1 (by omega) (k235x E (by omega) H10 live p 0 0 a e t18 F C (by omega) ((h1.fr f17 rfl)) (h2) (by omega) (by omega) (by omega) (by omega) (by omega) (Or.inr ⟨ksq, rfl, rfl, ksp⟩) (by omega) (by omega)) ?_
        intro v68 M69 q76
        obtain ⟨H70, f71, q72, q73, q74, q75⟩ := q76
        have f77 := f17.tr (f71.up rfl)
        obtain ⟨t78, ht79⟩ : ∃ q, q = gi M69 77 40 := ⟨_, rfl⟩
        rw [← ht79] at q72
        rw [← ht79] at q73
        rw [← ht79] at q74
        rw [← ht79] at q75
        have km : t78 ≠ e := ne_acc h3 q73 (by omega)
        have kd2 := h2 t78 (by omega) (by omega)
        have ka1 := q74 (by omega)
        have ka2 := q75 (by omega)
        clear q74 q75
        have ka := e_A (x := F t78) (c := C t78) (p := p) (q := 0) (s := 0) (by omega) (by omega) (by omega) (by omega) (by omega) (by omega) (by omega) (by omega) (by omega) (by omega) (by omega)
        have kcm : C t78 = 160 ∨ C t78 = 161 ∨ C t78 = 162 := by omega
        clear ka ka1 ka2
        have kb := d_cm (x := F t78) (C t78) kcm (by omega) (by omega) (by omega)
        refine s_blx (lv' := [(3, vL v68), (2, vI v26), (0, vR 77), (1, vI live)]) (st' := [vR 77, vR 77]) B241_120_123 rfl ?_
        refine r_gint (ki := 40) (pc' := 126) D241_123 rfl gf_11_378_77 rfl H70.1 ?_
        intro w80 e81 r82
        have e83 : t78 = w80 := (e81.trans (ht79.symm)).symm
        subst e83
        have g84 : gi M69 77 41 = e := (f71.g rfl).trans ((f11.g rfl).trans (h4))
        refine r_vIp (c := 77) (args := [vI t78]) (rest := []) (pc' := 129) D241_126 rfl ck_11_virtual_381 TE232 rfl (Nat.le_of_ble_eq_true rfl) ⟨Nat.le_of_ble_eq_true rfl, Nat.le_of_ble_eq_true rfl⟩ sc_77 ⟨rfl, by decide⟩ H70.1 (by omega) (k232x E (by omega) H70 t78 e C ((h1.fr f77 rfl)) (by omega) (by omega) (by omega)) ?_
        intro v85 q90
        obtain ⟨q87, q88, q89⟩ := q90
        refine s_blx (lv' := [(5, vI v85), (3, vL v68), (2, vI v26), (0, vR 77), (1, vI live)]) (st' := [vR 77, vR 77]) B241_129_133 rfl ?_
        refine r_gint (ki := 40) (pc' := 136) D241_133 rfl gf_11_378_77 rfl H70.1 ?_
        intro w91 e92 r93
        have e94 : t78 = w91 := (e92.trans (ht79.symm)).symm
        subst e94
        refine s_blx (lv' := [(5, vI v85), (3, vL v68), (2, vI v26), (0, vR 77), (1, vI live)]) (st' := [vI (t78 + 1), vR 77]) B241_136_138 rfl ?_
        refine r_pint (ki := 40) (pc' := 141) D241_138 rfl pf_11_378_77 rfl H70 (by unfold inR; omega) trivial ?_
        intro M95 u96 H97 p98
        have f99 := f77.wr u96 rfl
        refine s_blx (lv' := [(5, vI v85), (3, vL v68), (2, vI v26), (0, vR 77), (1, vI live)]) (st' := [vI live, vR 77]) B241_141_143 rfl ?_
        have g100 : gi M95 77 41 = e := (u96.gi_ne (by decide) (Or.inr (by decide))).trans ((f71.g rfl).trans ((f11.g rfl).trans (h4)))
        have g101 : gi M95 77 40 = t78 + 1 := p98
        refine r_vL (c := 77) (args := [vI live]) (rest := []) (pc' := 146) D241_143 rfl ck_11_virtual_405 TE235 rfl (Nat.le_of_ble_eq_true rfl) ⟨Nat.le_of_ble_eq_true rfl, Nat.le_of_ble_eq_true rfl⟩ sc_77 ⟨rfl, by decide⟩ H97.1 (by omega) (k235x E (by omega) H97 live p 0 1 a e (t78 + 1) F C (by omega) ((h1.fr f99 rfl)) (h2) (by omega) (by omega) (by omega) (by omega) (by omega) (by omega) (by omega) (by omega)) ?_
        intro v102 M103 q110
        obtain ⟨H104, f105, q106, q107, q108, q109⟩ := q110
        have f111 := f99.tr (f105.up rfl)
        obtain ⟨t112, ht113⟩ : ∃ q, q = gi M103 77 40 := ⟨_, rfl⟩
        rw [← ht113] at q106
        rw [← ht113] at q107
        rw [← ht113] at q108
        rw [← ht113] at q109
        refine s_blx (lv' := [(6, vL v102), (5, vI v85), (3, vL v68), (2, vI v26), (0, vR 77), (1, vI live)]) (st' := [vI live]) B241_146_149 rfl ?_
        refine r_ifc (tgt := 210) (pc' := 152) D241_149 rfl rfl (by unfold inR; omega) (fun (c114 : live = 0) => ?_) (fun (c114 : ¬ (live = 0)) => ?_)
        · refine s_blx (lv' := [(6, vL v102), (5, vI v85), (3, vL v68), (2, vI v26), (0, vR 77), (1, vI live)]) (st' := [vI 0]) B241_210_211 rfl ?_
          have g115 : gi M103 77 40 = t112 := ht113.symm
          exact r_zretI D241_211 rfl (by omega) (⟨H104, f111, by omega, by rw [g115]; omega, by rw [g115]; omega⟩)
        · refine s_blx (lv' := [(6, vL v102), (5, vI v85), (3, vL v68), (2, vI v26), (0, vR 77), (1, vI live)]) (st' := [vR 77]) B241_152_153 rfl ?_
          refine r_gint (ki := 42) (pc' := 156) D241_153 rfl gf_11_388_77 rfl H104.1 ?_
          intro w116 e117 r118
          have b_w116 := H104.2 77 (42) 0 1 rfl
          rw [← e117] at b_w116; clear r118
          refine r_ifc (tgt := 210) (pc' := 159) D241_156 rfl rfl (by unfold inR; omega) (fun (c119 : w116 ≠ 0) => ?_) (fun (c119 : ¬ (w116 ≠ 0)) => ?_)
          · refine s_blx (lv' := [(6, vL v102), (5, vI v85), (3, vL v68), (2, vI v26), (0, vR 77), (1, vI live)]) (st' := [vI 0]) B241_210_211 rfl ?_
            have g120 : gi M103 77 40 = t112 := ht113.symm
            exact r_zretI D241_211 rfl (by omega) (⟨H104, f111, by omega, by rw [g120]; omega, by rw [g120]; omega⟩)
          · refine s_blx (lv' := [(6, vL v102), (5, vI v85), (3, vL v68), (2, vI v26), (0, vR 77), (1, vI live)]) (st' := [vI 60, vI v85]) B241_159_163 rfl ?_
            refine r_sIp (args := [vI 60]) (rest := [vI v85]) (pc' := 166) D241_163 rfl ck_11_static_346 TE221 rfl (Nat.le_of_ble_eq_true rfl) ⟨Nat.le_of_ble_eq_true rfl, Nat.le_of_ble_eq_true rfl⟩ (by decide) (by omega) (k221 E (by omega) H104 60 (by omega)) ?_
            intro v121 q124
            have q123 := q124
            have e125 : v121 = 160 := by omega
            subst e125
            refine r_icmp (tgt := 179) (pc' := 169) D241_166 rfl rfl (by unfold inR; omega) (fun (c126 : v85 ≠ 160) => ?_) (fun (c126 : ¬ (v85 ≠ 160)) => ?_)
            · refine s_blx (lv' := [(6, vL v102), (5, vI v85), (3, vL v68), (2, vI v26), (0, vR 77), (1, vI live)]) (st' := [vI 62, vI v85]) B241_179_183 rfl ?_
              refine r_sIp (args := [vI 62]) (rest := [vI v85]) (pc' := 186) D241_183 rfl ck_11_static_346 TE221 rfl (Nat.le_of_ble_eq_true rfl) ⟨Nat.le_of_ble_eq_true rfl, Nat.le_of_ble_eq_true rfl⟩ (by decide) (by omega) (k221 E (by omega) H104 62 (by omega)) ?_
              intro v127 q130
              have q129 := q130
              have e131 : v127 = 162 := by omega
              subst e131
              refine r_icmp (tgt := 199) (pc' := 189) D241_186 rfl rfl (by unfold inR; omega) (fun (c132 : v85 ≠ 162) => ?_) (fun (c132 : ¬ (v85 ≠ 162)) => ?_)
              · refine s_blx (lv' := [(6, vL v102), (5, vI v85), (3, vL v68), (2, vI v26), (0, vR 77), (1, vI live)]) (st' := [vL v102, vL v68]) B241_199_202 rfl ?_
                refine r_lcmp (pc' := 203) D241_202 rfl ?_
                intro z133 r134 r135
                refine r_ifc (tgt := 210) (pc' := 206) D241_203 rfl rfl (by unfold inR; omega) (fun (c136 : z133 ≠ 0) => ?_) (fun (c136 : ¬ (z133 ≠ 0)) => ?_)
                · refine s_blx (lv' := [(6, vL v102), (5, vI v85), (3, vL v68), (2, vI v26), (0, vR 77), (1, vI live)]) (st' := [vI 0]) B241_210_211 rfl ?_
                  have g137 : gi M103 77 40 = t112 := ht113.symm
                  exact r_zretI D241_211 rfl (by omega) (⟨H104, f111, by omega, by rw [g137]; omega, by rw [g137]; omega⟩)
                · refine s_blx (lv' := [(6, vL v102), (5, vI v85), (3, vL v68), (2, vI v26), (0, vR 77), (1, vI live)]) (st' := [vI 1]) B241_206_207 rfl ?_
                  refine r_goto (tgt := 211) D241_207 rfl ?_
                  have g138 : gi M103 77 40 = t112 := ht113.symm
                  exact r_zretI D241_211 rfl (by omega) (⟨H104, f111, by omega, by rw [g138]; omega, by rw [g138]; omega⟩)
              · refine s_blx (lv' := [(6, vL v102), (5, vI v85), (3, vL v68), (2, vI v26), (0, vR 77), (1, vI live)]) (st' := [vL v102, vL v68]) B241_189_192 rfl ?_
                refine r_lcmp (pc' := 193) D241_192 rfl ?_
                intro z139 r140 r141
                refine r_ifc (tgt := 210) (pc' := 196) D241_193 rfl rfl (by unfold inR; omega) (fun (c142 : z139 ≤ 0) => ?_) (fun (c142 : ¬ (z139 ≤ 0)) => ?_)
                · refine s_blx (lv' := [(6, vL v102), (5, vI v85), (3, vL v68), (2, vI v26), (0, vR 77), (1, vI live)]) (st' := [vI 0]) B241_210_211 rfl ?_
                  have g143 : gi M103 77 40 = t112 := ht113.symm
                  exact r_zretI D241_211 rfl (by omega) (⟨H104, f111, by omega, by rw [g143]; omega, by rw [g143]; omega⟩)
                · refine r_goto (tgt := 206) D241_196 rfl ?_
                  refine s_blx (lv' := [(6, vL v102), (5, vI v85), (3, vL v68), (2, vI v26), (0, vR 77), (1, vI live)]) (st' := [vI 1]) B241_206_207 rfl ?_
                  refine r_goto (tgt := 211) D241_207 rfl ?_
                  have g144 : gi M103 77 40 = t112 := ht113.symm
                  exact r_zretI D241_211 rfl (by omega) (⟨H104, f111, by omega, by rw [g144]; omega, by rw [g144]; omega⟩)
            · refine s_blx (lv' := [(6, vL v102), (5, vI v85), (3, vL v68), (2, vI v26), (0, vR 77), (1, vI live)]) (st' := [vL v102, vL v68]) B241_169_172 rfl ?_
              refine r_lcmp (pc' := 173) D241_172 rfl ?_
              intro z145 r146 r147
              refine r_ifc (tgt := 210) (pc' := 176) D241_173 rfl rfl (by unfold inR; omega) (fun (c148 : 0 ≤ z145) => ?_) (fun (c148 : ¬ (0 ≤ z145)) => ?_)
              · refine s_blx (lv' := [(6, vL v102), (5, vI v85), (3, vL v68), (2, vI v26), (0, vR 77), (1, vI live)]) (st' := [vI 0]) B241_210_211 rfl ?_
                have g149 : gi M103 77 40 = t112 := ht113.symm
                exact r_zretI D241_211 rfl (by omega) (⟨H104, f111, by omega, by rw [g149]; omega, by rw [g149]; omega⟩)
              · refine r_goto (tgt := 206) D241_176 rfl ?_
                refine s_blx (lv' := [(6, vL v102), (5, vI v85), (3, vL v68), (2, vI v26), (0, vR 77), (1, vI live)]) (st' := [vI 1]) B241_206_207 rfl ?_
                refine r_goto (tgt := 211) D241_207 rfl ?_
                have g150 : gi M103 77 40 = t112 := ht113.symm
                exact r_zretI D241_211 rfl (by omega) (⟨H104, f111, by omega, by rw [g150]; omega, by rw [g150]; omega⟩)
      · refine s_blx (lv' := [(2, vI v26), (0, vR 77), (1, vI live)]) (st' := [vR 77, vR 77]) B241_51_53 rfl ?_
        refine r_gint (ki := 40) (pc' := 56) D241_53 rfl gf_11_378_77 rfl H10.1 ?_
        intro w151 e152 r153
        have e154 : t18 = w151 := (e152.trans (ht19.symm)).symm
        subst e154
        refine s_blx (lv' := [(2, vI v26), (0, vR 77), (1, vI live)]) (st' := [vI (t18 + 1), vR 77]) B241_56_58 rfl ?_
        refine r_pint (ki := 40) (pc' := 61) D241_58 rfl pf_11_378_77 rfl H10 (by unfold inR; omega) trivial ?_
        intro M155 u156 H157 p158
        have f159 := f17.wr u156 rfl
        have kf : F ((t18 + 1)) = dl (F gg) (C gg) := by rw [show (t18 + 1) = gg + 1 by omega]; exact kd.1
        have k3 := d_kn (x := F gg) (c := C gg) (by omega) (by omega) (by omega)
        clear ks
        refine s_blx (lv' := [(2, vI v26), (0, vR 77), (1, vI live)]) (st' := [vI live]) B241_61_62 rfl ?_
        refine r_ifc (tgt := 113) (pc' := 65) D241_62 rfl rfl (by unfold inR; omega) (fun (c160 : live = 0) => ?_) (fun (c160 : ¬ (live = 0)) => ?_)
        · refine s_blx (lv' := [(2, vI v26), (0, vR 77), (1, vI live)]) (st' := [vI 0]) B241_113_114 rfl ?_
          have g161 : gi M155 77 40 = t18 + 1 := p158
          exact r_zretI D241_114 rfl (by omega) (⟨H157, f159, by omega, by rw [g161]; omega, by rw [g161]; omega⟩)
        · refine s_blx (lv' := [(2, vI v26), (0, vR 77), (1, vI live)]) (st' := [vR 77]) B241_65_66 rfl ?_
          refine r_gint (ki := 42) (pc' := 69) D241_66 rfl gf_11_388_77 rfl H157.1 ?_
          intro w162 e163 r164
          have b_w162 := H157.2 77 (42) 0 1 rfl
          rw [← e163] at b_w162; clear r164
          refine r_ifc (tgt := 113) (pc' := 72) D241_69 rfl rfl (by unfold inR; omega) (fun (c165 : w162 ≠ 0) => ?_) (fun (c165 : ¬ (w162 ≠ 0)) => ?_)
          · refine s_blx (lv' := [(2, vI v26), (0, vR 77), (1, vI live)]) (st' := [vI 0]) B241_113_114 rfl ?_
            have g166 : gi M155 77 40 = t18 + 1 := p158
            exact r_zretI D241_114 rfl (by omega) (⟨H157, f159, by omega, by rw [g166]; omega, by rw [g166]; omega⟩)
          · refine s_blx (lv' := [(2, vI v26), (0, vR 77), (1, vI live)]) (st' := [vI 12, vI v26]) B241_72_75 rfl ?_
            refine r_icmp (tgt := 88) (pc' := 78) D241_75 rfl rfl (by unfold inR; omega) (fun (c167 : v26 ≠ 12) => ?_) (fun (c167 : ¬ (v26 ≠ 12)) => ?_)
            · exfalso; omega
            · refine s_blx (lv' := [(2, vI v26), (0, vR 77), (1, vI live)]) (st' := [vR 77]) B241_78_79 rfl ?_
              refine r_gint (ki := 9) (pc' := 82) D241_79 rfl gf_11_190_77 rfl H157.1 ?_
              intro w168 e169 r170
              have b_w168 := H157.2 77 (9) 0 1 rfl
              rw [← e169] at b_w168; clear r170
              refine r_ifc (tgt := 113) (pc' := 85) D241_82 rfl rfl (by unfold inR; omega) (fun (c171 : w168 = 0) => ?_) (fun (c171 : ¬ (w168 = 0)) => ?_)
              · refine s_blx (lv' := [(2, vI v26), (0, vR 77), (1, vI live)]) (st' := [vI 0]) B241_113_114 rfl ?_
                have g172 : gi M155 77 40 = t18 + 1 := p158
                exact r_zretI D241_114 rfl (by omega) (⟨H157, f159, by omega, by rw [g172]; omega, by rw [g172]; omega⟩)
              · refine r_goto (tgt := 109) D241_85 rfl ?_
                refine s_blx (lv' := [(2, vI v26), (0, vR 77), (1, vI live)]) (st' := [vI 1]) B241_109_110 rfl ?_
                refine r_goto (tgt := 114) D241_110 rfl ?_
                have g173 : gi M155 77 40 = t18 + 1 := p158
                exact r_zretI D241_114 rfl (by omega) (⟨H157, f159, by omega, by rw [g173]; omega, by rw [g173]; omega⟩)
  · refine s_blx (lv' := [(0, vR 77), (1, vI live)]) (st' := [vI live, vR 77]) B241_12_14 rfl ?_
    have kpp := kpa (by omega)
    clear kpa kpb
    have kp7 : p ≤ 7 := by omega
    have k1 := d_po (x := F gg) (by omega) (by omega)
    clear ks
    have g174 : gi M9 77 41 = e := (f11.g rfl).trans (h4)
    have g175 : gi M9 77 40 = t18 := ht19.symm
    refine r_vI (c := 77) (args := [vI live]) (rest := []) (pc' := 17) D241_14 rfl ck_11_virtual_418 TE238 rfl (Nat.le_of_ble_eq_true rfl) ⟨Nat.le_of_ble_eq_true rfl, Nat.le_of_ble_eq_true rfl⟩ sc_77 ⟨rfl, by decide⟩ H10.1 (by omega) (ihr (by omega) H10 live (p + 1) a e t18 F C (by omega) ((h1.fr f17 rfl)) (h2) (by omega) (by omega) (by omega) (by omega) (by omega) (by omega) (by omega) (by omega)) ?_
    intro v176 M177 q184
    obtain ⟨H178, f179, q180, q181, q182, q183⟩ := q184
    have f185 := f17.tr (f179.up rfl)
    obtain ⟨t186, ht187⟩ : ∃ q, q = gi M177 77 40 := ⟨_, rfl⟩
    rw [← ht187] at q181
    rw [← ht187] at q182
    rw [← ht187] at q183
    have km : t186 ≠ e := ne_accB h3 q182 (by omega) (by omega)
    have kd2 := h2 t186 (by omega) (by omega)
    have ka := e_B (x := F t186) (c := C t186) (p := p + 1) (by omega) (by omega) (by omega) (by omega) (by omega) (by omega)
    have kb := d_cp (x := F t186) (p := p + 1) (by omega) (by omega) (by omega)
    have kb2 : C t186 = 141 := by omega
    clear ka q182 q183
    rw [kb2] at kd2
    refine s_blx (lv' := [(2, vI v176), (0, vR 77), (1, vI live)]) (st' := [vR 77, vR 77]) B241_17_20 rfl ?_
    refine r_gint (ki := 40) (pc' := 23) D241_20 rfl gf_11_378_77 rfl H178.1 ?_
    intro w188 e189 r190
    have e191 : t186 = w188 := (e189.trans (ht187.symm)).symm
    subst e191
    refine s_blx (lv' := [(2, vI v176), (0, vR 77), (1, vI live)]) (st' := [vI (t186 + 1), vR 77]) B241_23_25 rfl ?_
    refine r_pint (ki := 40) (pc' := 28) D241_25 rfl pf_11_378_77 rfl H178 (by unfold inR; omega) trivial ?_
    intro M192 u193 H194 p195
    have f196 := f185.wr u193 rfl
    refine s_blx (lv' := [(2, vI v176), (0, vR 77), (1, vI live)]) (st' := [vI v176]) B241_28_29 rfl ?_
    have g197 : gi M192 77 40 = t186 + 1 := p195
    exact r_zretI D241_29 rfl (by omega) (⟨H194, f196, by omega, by rw [g197]; omega, by rw [g197]; omega⟩)
