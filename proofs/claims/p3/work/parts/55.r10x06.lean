set_option maxRecDepth 4000 in
theorem k228x {base : Nat} {X : Nat → Option mC} {G : Nat → Value} (E : EnvOK base X G) {rr : Nat} (ihr : ∀ {d : Nat} (_ : 3 + 3 * rr ≤ d) {M : mH} (_ : HI base M) (deep : Int) (p : Int) (q : Int) (s : Int) (tk : Int) (tok : Int) (F : Int → Int) (C : Int → Int), (PC C M) → (∀ j : Int, 0 ≤ j → F (j + 1) = dl (F j) (C j)) → (gi M 77 36 = tk) → (C tk = 0) → (0 ≤ tk ∧ tk ≤ 400) → (gi M 77 37 = tok) → (0 ≤ tok ∧ tok ≤ tk) → (gi M 77 39 = -1 → F tok = 1000 + 100 * p + 10 * q + s ∨ (F tok = 10 + p ∧ q = 0 ∧ s = 0)) → (0 ≤ p ∧ 0 ≤ q ∧ p + q = deep) → (0 ≤ deep ∧ deep ≤ 8) → (0 ≤ s ∧ s ≤ 1) → 8 - deep < ((rr : Nat) : Int) → sOk base X G d T226 [vR 77, vI deep] M (pV (fun M' => HI base M' ∧ Fr [(77, 38), (77, 39), (77, 40)] M M' ∧ (tok ≤ gi M' 77 37 ∧ gi M' 77 37 ≤ tk) ∧ (gi M' 77 39 = -1 → gi M 77 39 = -1 ∧ F (gi M' 77 37) = 2000 + 100 * p + 10 * q + s)))) {d : Nat} (hd : 4 + 3 * rr ≤ d) {M : mH} (H : HI base M) (deep : Int) (p : Int) (q : Int) (s : Int) (tk : Int) (tok : Int) (F : Int → Int) (C : Int → Int) (h0 : PC C M) (h1 : ∀ j : Int, 0 ≤ j → F (j + 1) = dl (F j) (C j)) (h2 : gi M 77 36 = tk) (h3 : C tk = 0) (h4 : 0 ≤ tk ∧ tk ≤ 400) (h5 : gi M 77 37 = tok) (h6 : 0 ≤ tok ∧ tok ≤ tk) (h7 : gi M 77 39 = -1 → F tok = 1000 + 100 * p + 10 * q + s ∨ (F tok = 10 + p ∧ q = 0 ∧ s = 0)) (h8 : 0 ≤ p ∧ 0 ≤ q ∧ p + q = deep) (h9 : 0 ≤ deep ∧ deep ≤ 8) (h10 : 0 ≤ s ∧ s ≤ 1) (h11 : 8 - deep < (rr : Int) + 1) : sOk base X G d T228 [vR 77, vI deep] M (pV (fun M' => HI base M' ∧ Fr [(77, 38), (77, 39), (77, 40)] M M' ∧ (tok ≤ gi M' 77 37 ∧ gi M' 77 37 ≤ tk) ∧ (gi M' 77 39 = -1 → gi M 77 39 = -1 ∧ F (gi M' 77 37) = 2000 + 100 * p + 10 * q + s))) := by
  have f0 : Fr [(77, 38), (77, 39), (77, 40)] M M := Fr.rf
  refine sOk.of (show sRn base X G d T228 0 [(0, vR 77), (1, vI deep)] [] M _ from ?_)
  refine s_blx (lv' := [(0, vR 77), (1, vI deep)]) (st' := [vR 77]) B228_0_1 rfl ?_
  refine r_vIp (c := 77) (args := []) (rest := []) (pc' := 4) D228_1 rfl ck_11_virtual_321 TE216 rfl (Nat.le_of_ble_eq_true rfl) ⟨Nat.le_of_ble_eq_true rfl, Nat.le_of_ble_eq_true rfl⟩ sc_77 ⟨rfl, by decide⟩ H.1 (by omega) (k216x E (by omega) H ) ?_
  intro v1 q6
  obtain ⟨q3, q4, q5⟩ := q6
  refine r_ifc (tgt := 8) (pc' := 7) D228_4 rfl rfl (by unfold inR; omega) (fun (c7 : v1 ≠ 0) => ?_) (fun (c7 : ¬ (v1 ≠ 0)) => ?_)
  · refine s_blx (lv' := [(0, vR 77), (1, vI deep)]) (st' := [vR 77]) B228_8_9 rfl ?_
    refine r_gfix (r := 97) (pc' := 12) D228_9 rfl gf_11_78_77 H.1 ?_
    refine s_blx (lv' := [(0, vR 77), (1, vI deep)]) (st' := [vR 77, vR 97]) B228_12_13 rfl ?_
    refine r_gint (ki := 37) (pc' := 16) D228_13 rfl gf_11_325_77 rfl H.1 ?_
    intro w8 e9 r10
    have e11 : tok = w8 := (e9.trans (h5)).symm
    subst e11
    refine r_iald (pc' := 17) D228_16 rfl sc_97 H.1 (by omega) ?_
    intro w12 e13 r14
    unfold inR at r14
    have kc := h0 tok
    have kn := tk_lt (t := tok) h3 (by omega)
    refine s_blx (lv' := [(2, vI w12), (0, vR 77), (1, vI deep)]) (st' := [vI 91, vI w12]) B228_17_21 rfl ?_
    refine r_sIp (args := [vI 91]) (rest := [vI w12]) (pc' := 24) D228_21 rfl ck_11_static_346 TE221 rfl (Nat.le_of_ble_eq_true rfl) ⟨Nat.le_of_ble_eq_true rfl, Nat.le_of_ble_eq_true rfl⟩ (by decide) (by omega) (k221 E (by omega) H 91 (by omega)) ?_
    intro v15 q18
    have q17 := q18
    have e19 : v15 = 191 := by omega
    subst e19
    refine r_icmp (tgt := 74) (pc' := 27) D228_24 rfl rfl (by unfold inR; omega) (fun (c20 : w12 ≠ 191) => ?_) (fun (c20 : ¬ (w12 ≠ 191)) => ?_)
    · refine s_blx (lv' := [(2, vI w12), (0, vR 77), (1, vI deep)]) (st' := [vI 50, vI w12]) B228_74_77 rfl ?_
      refine r_icmp (tgt := 95) (pc' := 80) D228_77 rfl rfl (by unfold inR; omega) (fun (c21 : w12 ≠ 50) => ?_) (fun (c21 : ¬ (w12 ≠ 50)) => ?_)
      · refine s_blx (lv' := [(2, vI w12), (0, vR 77), (1, vI deep)]) (st' := [vI 13, vI w12]) B228_95_98 rfl ?_
        refine r_icmp (tgt := 114) (pc' := 101) D228_98 rfl rfl (by unfold inR; omega) (fun (c22 : w12 < 13) => ?_) (fun (c22 : ¬ (w12 < 13)) => ?_)
        · refine s_blx (lv' := [(2, vI w12), (0, vR 77), (1, vI deep)]) (st' := [vR 77]) B228_114_115 rfl ?_
          refine r_vV (c := 77) (args := []) (rest := []) (pc' := 118) D228_115 rfl ck_11_virtual_331 TE217 rfl (Nat.le_of_ble_eq_true rfl) ⟨Nat.le_of_ble_eq_true rfl, Nat.le_of_ble_eq_true rfl⟩ sc_77 ⟨rfl, by decide⟩ H.1 (by omega) (k217x E (by omega) H ) ?_
          intro M24 q28
          obtain ⟨H25, f26, q27⟩ := q28
          have f29 := f0.tr (f26.up rfl)
          obtain ⟨t30, ht31⟩ : ∃ q, q = gi M24 77 39 := ⟨_, rfl⟩
          rw [← ht31] at q27
          have g32 : gi M24 77 37 = tok := (f26.g rfl).trans (h5)
          have g33 : gi M24 77 39 = t30 := ht31.symm
          exact r_retV D228_118 rfl (⟨H25, f29, by rw [g32]; omega, by rw [g32, g33]; omega⟩)
        · refine s_blx (lv' := [(2, vI w12), (0, vR 77), (1, vI deep)]) (st' := [vI 21, vI w12]) B228_101_104 rfl ?_
          refine r_icmp (tgt := 114) (pc' := 107) D228_104 rfl rfl (by unfold inR; omega) (fun (c34 : 21 < w12) => ?_) (fun (c34 : ¬ (21 < w12)) => ?_)
          · refine s_blx (lv' := [(2, vI w12), (0, vR 77), (1, vI deep)]) (st' := [vR 77]) B228_114_115 rfl ?_
            refine r_vV (c := 77) (args := []) (rest := []) (pc' := 118) D228_115 rfl ck_11_virtual_331 TE217 rfl (Nat.le_of_ble_eq_true rfl) ⟨Nat.le_of_ble_eq_true rfl, Nat.le_of_ble_eq_true rfl⟩ sc_77 ⟨rfl, by decide⟩ H.1 (by omega) (k217x E (by omega) H ) ?_
            intro M36 q40
            obtain ⟨H37, f38, q39⟩ := q40
            have f41 := f0.tr (f38.up rfl)
            obtain ⟨t42, ht43⟩ : ∃ q, q = gi M36 77 39 := ⟨_, rfl⟩
            rw [← ht43] at q39
            have g44 : gi M36 77 37 = tok := (f38.g rfl).trans (h5)
            have g45 : gi M36 77 39 = t42 := ht43.symm
            exact r_retV D228_118 rfl (⟨H37, f41, by rw [g44]; omega, by rw [g44, g45]; omega⟩)
          · refine s_blx (lv' := [(2, vI w12), (0, vR 77), (1, vI deep)]) (st' := [vR 77]) B228_107_108 rfl ?_
            have k3 := d_lf (x := F tok) (c := C tok) (p := p) (q := q) (s := s)
            have g46 : gi M 77 36 = tk := h2
            have g47 : gi M 77 37 = tok := h5
            refine r_vV (c := 77) (args := []) (rest := []) (pc' := 111) D228_108 rfl ck_11_virtual_353 TE220 rfl (Nat.le_of_ble_eq_true rfl) ⟨Nat.le_of_ble_eq_true rfl, Nat.le_of_ble_eq_true rfl⟩ sc_77 ⟨rfl, by decide⟩ H.1 (by omega) (k220x E (by omega) H tk tok F C (h0) (h1) (by omega) (by omega) (by omega) (by omega) (by omega) (by omega) (by omega)) ?_
            intro M49 q54
            obtain ⟨H50, f51, q52, q53⟩ := q54
            have f55 := f0.tr (f51.up rfl)
            obtain ⟨t56, ht57⟩ : ∃ q, q = gi M49 77 37 := ⟨_, rfl⟩
            obtain ⟨t58, ht59⟩ : ∃ q, q = gi M49 77 39 := ⟨_, rfl⟩
            rw [← ht57] at q52
            rw [← ht57, ← ht59] at q53
            refine r_goto (tgt := 118) D228_111 rfl ?_
            have g60 : gi M49 77 37 = t56 := ht57.symm
            have g61 : gi M49 77 39 = t58 := ht59.symm
            exact r_retV D228_118 rfl (⟨H50, f55, by rw [g60]; omega, by rw [g60, g61]; omega⟩)
      · refine s_blx (lv' := [(2, vI w12), (0, vR 77), (1, vI deep)]) (st' := [vR 77]) B228_80_81 rfl ?_
        refine r_gfix (r := 98) (pc' := 84) D228_81 rfl gf_11_81_77 H.1 ?_
        refine s_blx (lv' := [(2, vI w12), (0, vR 77), (1, vI deep)]) (st' := [vR 77, vR 98]) B228_84_85 rfl ?_
        refine r_gint (ki := 37) (pc' := 88) D228_85 rfl gf_11_325_77 rfl H.1 ?_
        intro w62 e63 r64
        have e65 : tok = w62 := (e63.trans (h5)).symm
        subst e65
        refine r_iald (pc' := 89) D228_88 rfl sc_98 H.1 (by omega) ?_
        intro w66 e67 r68
        unfold inR at r68
        refine r_ldcw (e := 100000) (pc' := 92) D228_89 rfl ci_11_365 (by decide) ?_
        refine r_icmp (tgt := 107) (pc' := 95) D228_92 rfl rfl (by unfold inR; omega) (fun (c69 : w66 ≤ 100000) => ?_) (fun (c69 : ¬ (w66 ≤ 100000)) => ?_)
        · refine s_blx (lv' := [(2, vI w12), (0, vR 77), (1, vI deep)]) (st' := [vR 77]) B228_107_108 rfl ?_
          have k3 := d_lf (x := F tok) (c := C tok) (p := p) (q := q) (s := s)
          have g70 : gi M 77 36 = tk := h2
          have g71 : gi M 77 37 = tok := h5
          refine r_vV (c := 77) (args := []) (rest := []) (pc' := 111) D228_108 rfl ck_11_virtual_353 TE220 rfl (Nat.le_of_ble_eq_true rfl) ⟨Nat.le_of_ble_eq_true rfl, Nat.le_of_ble_eq_true rfl⟩ sc_77 ⟨rfl, by decide⟩ H.1 (by omega) (k220x E (by omega) H tk tok F C (h0) (h1) (by omega) (by omega) (by omega) (by omega) (by omega) (by omega) (by omega)) ?_
          intro M73 q78
          obtain ⟨H74, f75, q76, q77⟩ := q78
          have f79 := f0.tr (f75.up rfl)
          obtain ⟨t80, ht81⟩ : ∃ q, q = gi M73 77 37 := ⟨_, rfl⟩
          obtain ⟨t82, ht83⟩ : ∃ q, q = gi M73 77 39 := ⟨_, rfl⟩
          rw [← ht81] at q76
          rw [← ht81, ← ht83] at q77
          refine r_goto (tgt := 118) D228_111 rfl ?_
          have g84 : gi M73 77 37 = t80 := ht81.symm
          have g85 : gi M73 77 39 = t82 := ht83.symm
          exact r_retV D228_118 rfl (⟨H74, f79, by rw [g84]; omega, by rw [g84, g85]; omega⟩)
        · refine s_blx (lv' := [(2, vI w12), (0, vR 77), (1, vI deep)]) (st' := [vI 13, vI w12]) B228_95_98 rfl ?_
          refine r_icmp (tgt := 114) (pc' := 101) D228_98 rfl rfl (by unfold inR; omega) (fun (c86 : w12 < 13) => ?_) (fun (c86 : ¬ (w12 < 13)) => ?_)
          · exfalso; omega
          · refine s_blx (lv' := [(2, vI w12), (0, vR 77), (1, vI deep)]) (st' := [vI 21, vI w12]) B228_101_104 rfl ?_
            refine r_icmp (tgt := 114) (pc' := 107) D228_104 rfl rfl (by unfold inR; omega) (fun (c87 : 21 < w12) => ?_) (fun (c87 : ¬ (21 < w12)) => ?_)
            · refine s_blx (lv' := [(2, vI w12), (0, vR 77), (1, vI deep)]) (st' := [vR 77]) B228_114_115 rfl ?_
              refine r_vV (c := 77) (args := []) (rest := []) (pc' := 118) D228_115 rfl ck_11_virtual_331 TE217 rfl (Nat.le_of_ble_eq_true rfl) ⟨Nat.le_of_ble_eq_true rfl, Nat.le_of_ble_eq_true rfl⟩ sc_77 ⟨rfl, by decide⟩ H.1 (by omega) (k217x E (by omega) H ) ?_
              intro M89 q93
              obtain ⟨H90, f91, q92⟩ := q93
              have f94 := f0.tr (f91.up rfl)
              obtain ⟨t95, ht96⟩ : ∃ q, q = gi M89 77 39 := ⟨_, rfl⟩
              rw [← ht96] at q92
              have g97 : gi M89 77 37 = tok := (f91.g rfl).trans (h5)
              have g98 : gi M89 77 39 = t95 := ht96.symm
              exact r_retV D228_118 rfl (⟨H90, f94, by rw [g97]; omega, by rw [g97, g98]; omega⟩)
            · exfalso; omega
    · refine s_blx (lv' := [(2, vI w12), (0, vR 77), (1, vI deep)]) (st' := [vI 8, vI deep]) B228_27_30 rfl ?_
      refine r_icmp (tgt := 37) (pc' := 33) D228_30 rfl rfl (by unfold inR; omega) (fun (c99 : deep ≠ 8) => ?_) (fun (c99 : ¬ (deep ≠ 8)) => ?_)
      · refine s_blx (lv' := [(2, vI w12), (0, vR 77), (1, vI deep)]) (st' := [vR 77]) B228_37_38 rfl ?_
        refine r_vIp (c := 77) (args := []) (rest := []) (pc' := 41) D228_38 rfl ck_11_virtual_321 TE216 rfl (Nat.le_of_ble_eq_true rfl) ⟨Nat.le_of_ble_eq_true rfl, Nat.le_of_ble_eq_true rfl⟩ sc_77 ⟨rfl, by decide⟩ H.1 (by omega) (k216x E (by omega) H ) ?_
        intro v100 q105
        obtain ⟨q102, q103, q104⟩ := q105
        refine r_ifc (tgt := 45) (pc' := 44) D228_41 rfl rfl (by unfold inR; omega) (fun (c106 : v100 ≠ 0) => ?_) (fun (c106 : ¬ (v100 ≠ 0)) => ?_)
        · refine s_blx (lv' := [(2, vI w12), (0, vR 77), (1, vI deep)]) (st' := [vR 77, vR 77]) B228_45_47 rfl ?_
          refine r_gint (ki := 37) (pc' := 50) D228_47 rfl gf_11_325_77 rfl H.1 ?_
          intro w107 e108 r109
          have e110 : tok = w107 := (e108.trans (h5)).symm
          subst e110
          refine s_blx (lv' := [(2, vI w12), (0, vR 77), (1, vI deep)]) (st' := [vI (tok + 1), vR 77]) B228_50_52 rfl ?_
          refine r_pint (ki := 37) (pc' := 55) D228_52 rfl pf_11_325_77 rfl H (by unfold inR; omega) (show 0 ≤ (tok + 1) ∧ (tok + 1) ≤ 400 by omega) ?_
          intro M111 u112 H113 p114
          have f115 := f0.wr u112 rfl
          have kd := h1 tok (by omega)
          have ke : C tok = 191 := by omega
          rw [ke] at kd
          have k1 := d_ob (x := F tok) (p := p) (q := q) (s := s)
          refine s_blx (lv' := [(2, vI w12), (0, vR 77), (1, vI deep)]) (st' := [vI (deep + 1), vR 77]) B228_55_59 rfl ?_
          have g116 : gi M111 77 36 = tk := (u112.gi_ne (by decide) (Or.inr (by decide))).trans (h2)
          have g117 : gi M111 77 37 = tok + 1 := p114
          have g118 : gi M111 77 39 = gi M 77 39 := (u112.gi_ne (by decide) (Or.inr (by decide))).trans (rfl)
          refine r_vV (c := 77) (args := [vI (deep + 1)]) (rest := []) (pc' := 62) D228_59 rfl ck_11_virtual_356 TE226 rfl (Nat.le_of_ble_eq_true rfl) ⟨Nat.le_of_ble_eq_true rfl, Nat.le_of_ble_eq_true rfl⟩ sc_77 ⟨rfl, by decide⟩ H113.1 (by omega) (ihr (by omega) H113 (deep + 1) p (q + 1) s tk (tok + 1) F C ((h0.fr f115 rfl)) (h1) (by omega) (by omega) (by omega) (by omega) (by omega) (by omega) (by omega) (by omega) (by omega) (by omega)) ?_
          intro M120 q125
          obtain ⟨H121, f122, q123, q124⟩ := q125
          have f126 := f115.tr (f122.up rfl)
          obtain ⟨t127, ht128⟩ : ∃ q, q = gi M120 77 37 := ⟨_, rfl⟩
          obtain ⟨t129, ht130⟩ : ∃ q, q = gi M120 77 39 := ⟨_, rfl⟩
          rw [← ht128] at q123
          rw [← ht128, ← ht130] at q124
          refine s_blx (lv' := [(2, vI w12), (0, vR 77), (1, vI deep)]) (st' := [vI 93, vR 77]) B228_62_65 rfl ?_
          refine r_sIp (args := [vI 93]) (rest := [vR 77]) (pc' := 68) D228_65 rfl ck_11_static_346 TE221 rfl (Nat.le_of_ble_eq_true rfl) ⟨Nat.le_of_ble_eq_true rfl, Nat.le_of_ble_eq_true rfl⟩ (by decide) (by omega) (k221 E (by omega) H121 93 (by omega)) ?_
          intro v131 q134
          have q133 := q134
          have e135 : v131 = 193 := by omega
          subst e135
          have k2 := d_cb (x := F t127)
          have g136 : gi M120 77 36 = tk := (f122.g rfl).trans ((u112.gi_ne (by decide) (Or.inr (by decide))).trans (h2))
          have g137 : gi M120 77 37 = t127 := ht128.symm
          have g138 : gi M120 77 39 = t129 := ht130.symm
          refine r_vV (c := 77) (args := [vI 193]) (rest := []) (pc' := 71) D228_68 rfl ck_11_virtual_350 TE219 rfl (Nat.le_of_ble_eq_true rfl) ⟨Nat.le_of_ble_eq_true rfl, Nat.le_of_ble_eq_true rfl⟩ sc_77 ⟨rfl, by decide⟩ H121.1 (by omega) (k219x E (by omega) H121 193 tk t127 F C ((h0.fr f126 rfl)) (h1) (by omega) (by omega) (by omega) (by omega) (by omega) (by omega) (by omega)) ?_
          intro M140 q145
          obtain ⟨H141, f142, q143, q144⟩ := q145
          have f146 := f126.tr (f142.up rfl)
          obtain ⟨t147, ht148⟩ : ∃ q, q = gi M140 77 37 := ⟨_, rfl⟩
          obtain ⟨t149, ht150⟩ : ∃ q, q = gi M140 77 39 := ⟨_, rfl⟩
          rw [← ht148] at q143
          rw [← ht148, ← ht150] at q144
          refine r_goto (tgt := 118) D228_71 rfl ?_
          have g151 : gi M140 77 37 = t147 := ht148.symm
          have g152 : gi M140 77 39 = t149 := ht150.symm
          exact r_retV D228_118 rfl (⟨H141, f146, by rw [g151]; omega, by rw [g151, g152]; omega⟩)
        · have g153 : gi M 77 37 = tok := h5
          exact r_retV D228_44 rfl (⟨H, f0, by rw [g153]; omega, by rw [g153]; omega⟩)
      · refine s_blx (lv' := [(2, vI w12), (0, vR 77), (1, vI deep)]) (st' := [vR 77]) B228_33_34 rfl ?_
        refine r_vV (c := 77) (args := []) (rest := []) (pc' := 37) D228_34 rfl ck_11_virtual_331 TE217 rfl (Nat.le_of_ble_eq_true rfl) ⟨Nat.le_of_ble_eq_true rfl, Nat.le_of_ble_eq_true rfl⟩ sc_77 ⟨rfl, by decide⟩ H.1 (by omega) (k217x E (by omega) H ) ?_
        intro M155 q159
        obtain ⟨H156, f157, q158⟩ := q159
        have f160 := f0.tr (f157.up rfl)
        obtain ⟨t161, ht162⟩ : ∃ q, q = gi M155 77 39 := ⟨_, rfl⟩
        rw [← ht162] at q158
        refine s_blx (lv' := [(2, vI w12), (0, vR 77), (1, vI deep)]) (st' := [vR 77]) B228_37_38 rfl ?_
        have g163 : gi M155 77 39 = t161 := ht162.symm
        refine r_vIp (c := 77) (args := []) (rest := []) (pc' := 41) D228_38 rfl ck_11_virtual_321 TE216 rfl (Nat.le_of_ble_eq_true rfl) ⟨Nat.le_of_ble_eq_true rfl, Nat.le_of_ble_eq_true rfl⟩ sc_77 ⟨rfl, by decide⟩ H156.1 (by omega) (k216x E (by omega) H156 ) ?_
        intro v164 q169
        obtain ⟨q166, q167, q168⟩ := q169
        refine r_ifc (tgt := 45) (pc' := 44) D228_41 rfl rfl (by unfold inR; omega) (fun (c170 : v164 ≠ 0) => ?_) (fun (c170 : ¬ (v164 ≠ 0)) => ?_)
        · refine s_blx (lv' := [(2, vI w12), (0, vR 77), (1, vI deep)]) (st' := [vR 77, vR 77]) B228_45_47 rfl ?_
          refine r_gint (ki := 37) (pc' := 50) D228_47 rfl gf_11_325_77 rfl H156.1 ?_
          intro w171 e172 r173
          have e174 : tok = w171 := (e172.trans ((f157.g rfl).trans (h5))).symm
          subst e174
          refine s_blx (lv' := [(2, vI w12), (0, vR 77), (1, vI deep)]) (st' := [vI (tok + 1), vR 77]) B228_50_52 rfl ?_
          refine r_pint (ki := 37) (pc' := 55) D228_52 rfl pf_11_325_77 rfl H156 (by unfold inR; omega) (show 0 ≤ (tok + 1) ∧ (tok + 1) ≤ 400 by omega) ?_
          intro M175 u176 H177 p178
          have f179 := f160.wr u176 rfl
          have kd := h1 tok (by omega)
          have ke : C tok = 191 := by omega
          rw [ke] at kd
          have k1 := d_ob (x := F tok) (p := p) (q := q) (s := s)
          refine s_blx (lv' := [(2, vI w12), (0, vR 77), (1, vI deep)]) (st' := [vI (deep + 1), vR 77]) B228_55_59 rfl ?_
          have g180 : gi M175 77 36 = tk := (u176.gi_ne (by decide) (Or.inr (by decide))).trans ((f157.g rfl).trans (h2))
          have g181 : gi M175 77 37 = tok + 1 := p178
          have g182 : gi M175 77 39 = t161 := (u176.gi_ne (by decide) (Or.inr (by decide))).trans (ht162.symm)
          refine r_vV (c := 77) (args := [vI (deep + 1)]) (rest := []) (pc' := 62) D228_59 rfl ck_11_virtual_356 TE226 rfl (Nat.le_of_ble_eq_true rfl) ⟨Nat.le_of_ble_eq_true rfl, Nat.le_of_ble_eq_true rfl⟩ sc_77 ⟨rfl, by decide⟩ H177.1 (by omega) (ihr (by omega) H177 (deep + 1) p (q + 1) s tk (tok + 1) F C ((h0.fr f179 rfl)) (h1) (by omega) (by omega) (by omega) (by omega) (by omega) (by omega) (by omega) (by omega) (by omega) (by omega)) ?_
          intro M184 q189
          obtain ⟨H185, f186, q187, q188⟩ := q189
          have f190 := f179.tr (f186.up rfl)
          obtain ⟨t191, ht192⟩ : ∃ q, q = gi M184 77 37 := ⟨_, rfl⟩
          obtain ⟨t193, ht194⟩ : ∃ q, q = gi M184 77 39 := ⟨_, rfl⟩
          rw [← ht192] at q187
          rw [← ht192, ← ht194] at q188
          refine s_blx (lv' := [(2, vI w12), (0, vR 77), (1, vI deep)]) (st' := [vI 93, vR 77]) B228_62_65 rfl ?_
          refine r_sIp (args := [vI 93]) (rest := [vR 77]) (pc' := 68) D228_65 rfl ck_11_static_346 TE221 rfl (Nat.le_of_ble_eq_true rfl) ⟨Nat.le_of_ble_eq_true rfl, Nat.le_of_ble_eq_true rfl⟩ (by decide) (by omega) (k221 E (by omega) H185 93 (by omega)) ?_
          intro v195 q198
          have q197 := q198
          have e199 : v195 = 193 := by omega
          subst e199
          have k2 := d_cb (x := F t191)
          have g200 : gi M184 77 36 = tk := (f186.g rfl).trans ((u176.gi_ne (by decide) (Or.inr (by decide))).trans ((f157.g rfl).trans (h2)))
          have g201 : gi M184 77 37 = t191 := ht192.symm
          have g202 : gi M184 77 39 = t193 := ht194.symm
          refine r_vV (c := 77) (args := [vI 193]) (rest := []) (pc' := 71) D228_68 rfl ck_11_virtual_350 TE219 rfl (Nat.le_of_ble_eq_true rfl) ⟨Nat.le_of_ble_eq_true rfl, Nat.le_of_ble_eq_true rfl⟩ sc_77 ⟨rfl, by decide⟩ H185.1 (by omega) (k219x E (by omega) H185 193 tk t191 F C ((h0.fr f190 rfl)) (h1) (by omega) (by omega) (by omega) (by omega) (by omega) (by omega) (by omega)) ?_
          intro M204 q209
          obtain ⟨H205, f206, q207, q208⟩ := q209
          have f210 := f190.tr (f206.up rfl)
          obtain ⟨t211, ht212⟩ : ∃ q, q = gi M204 77 37 := ⟨_, rfl⟩
          obtain ⟨t213, ht214⟩ : ∃ q, q = gi M204 77 39 := ⟨_, rfl⟩
          rw [← ht212] at q207
          rw [← ht212, ← ht214] at q208
          refine r_goto (tgt := 118) D228_71 rfl ?_
          have g215 : gi M204 77 37 = t211 := ht212.symm
          have g216 : gi M204 77 39 = t213 := ht214.symm
          exact r_retV D228_118 rfl (⟨H205, f210, by rw [g215]; omega, by rw [g215, g216]; omega⟩)
        · have g217 : gi M155 77 37 = tok := (f157.g rfl).trans (h5)
          have g218 : gi M155 77 39 = t161 := ht162.symm
          exact r_retV D228_44 rfl (⟨H156, f160, by rw [g217]; omega, by rw [g217, g218]; omega⟩)
  · have g219 : gi M 77 37 = tok := h5
    exact r_retV D228_7 rfl (⟨H, f0, by rw [g219]; omega, by rw [g219]; omega⟩)
