
set_option maxRecDepth 4000 in
theorem L_k225p {base : Nat} {X : Nat → Option mC} {G : Nat → Value} (E : EnvOK base X G) {rr : Nat} (ihr : ∀ {d : Nat} (_ : 30 + 3 * rr ≤ d) {M : mH} (_ : HI base M) (deep : Int) (n : Int) (tok : Int) (bd : Int) (lq : Int) (K : Int → Int) (C : Int → Int) (V : Int → Int) (st : Int → Int), (RTx C V st n M) → (KQ K C V n) → (0 ≤ n ∧ n ≤ 400) → (gi M 77 36 = n) → (gi M 77 37 = tok) → (0 ≤ tok ∧ tok ≤ n) → (gi M 77 38 = lq) → (gi M 77 39 = bd) → (0 ≤ lq ∧ lq ≤ 51) → (bd = -1 → lq ≤ 50) → (0 ≤ deep ∧ deep ≤ 8) → 8 - deep < ((rr : Nat) : Int) → sOk base X G d T223 [vR 77, vI deep] M (pV (fun M' => HI base M' ∧ Fr [(77, 38), (77, 39), (77, 40)] M M' ∧ (tok ≤ gi M' 77 37 ∧ gi M' 77 37 ≤ n) ∧ (0 ≤ gi M' 77 38 ∧ gi M' 77 38 ≤ 51) ∧ (gi M' 77 39 = -1 → gi M' 77 38 ≤ 50) ∧ (RBx K st 0 deep tok lq bd (gi M' 77 37) (gi M' 77 38) (gi M' 77 39))))) {d : Nat} (hd : 31 + 3 * rr ≤ d) {M : mH} (H : HI base M) (deep : Int) (n : Int) (tok : Int) (bd : Int) (lq : Int) (K : Int → Int) (C : Int → Int) (V : Int → Int) (st : Int → Int) (h0 : RTx C V st n M) (h1 : KQ K C V n) (h2 : 0 ≤ n ∧ n ≤ 400) (h3 : gi M 77 36 = n) (h4 : gi M 77 37 = tok) (h5 : 0 ≤ tok ∧ tok ≤ n) (h6 : gi M 77 38 = lq) (h7 : gi M 77 39 = bd) (h8 : 0 ≤ lq ∧ lq ≤ 51) (h9 : bd = -1 → lq ≤ 50) (h10 : 0 ≤ deep ∧ deep ≤ 8) (h11 : 8 - deep < (rr : Int) + 1) : ∀ mz : Nat, (∀ (x2 t0 : Int) (N : mH), HI base N → Fr [(77, 38), (77, 39), (77, 40)] M N → (gi N 77 37 = t0) → (gi N 77 36 = n) → (gi N 77 38 = lq) → (gi N 77 39 = bd) → (tok ≤ t0 ∧ t0 ≤ n) → (0 ≤ x2 ∧ x2 ≤ 1) → (x2 = 0 → bd ≠ -1 ∨ K t0 ≠ 9) → (bd ≠ -1 → t0 = tok) → (NTx K deep tok lq t0) → (0 ≤ x2) → (x2 ≤ 1) → ((400 - t0) * 2 + x2) * 1 + 0 < (mz : Int) → sRn base X G d T225 2 [(0, vR 77), (1, vI deep), (2, vI x2)] [] N (s_Q base (pV (fun M' => HI base M' ∧ Fr [(77, 38), (77, 39), (77, 40)] M M' ∧ (tok ≤ gi M' 77 37 ∧ gi M' 77 37 ≤ n) ∧ (0 ≤ gi M' 77 38 ∧ gi M' 77 38 ≤ 51) ∧ (gi M' 77 39 = -1 → gi M' 77 38 ≤ 50) ∧ (RBx K st 4 deep tok lq bd (gi M' 77 37) (gi M' 77 38) (gi M' 77 39)))))) := by
  have f0 : Fr [(77, 38), (77, 39), (77, 40)] M M := Fr.rf
  intro mz
  induction mz with
  | zero => exact fun x2 t0 N _ _ z0 z1 z2 z3 z4 z5 z6 z7 z8 z9 z10 z11 => by omega
  | succ mz ih =>
    intro x2 t0 N HN fN i0 i1 i2 i3 i4 i5 i6 i7 i8 i9 i10 hmu
    refine s_blx (lv' := [(0, vR 77), (1, vI deep), (2, vI x2)]) (st' := [vI x2]) B225_2_3 rfl ?_
    refine r_ifc (tgt := 16) (pc' := 6) D225_3 rfl rfl (by unfold inR; omega) (fun (c5 : x2 = 0) => ?_) (fun (c5 : ¬ (x2 = 0)) => ?_)
    · refine s_blx (lv' := [(0, vR 77), (1, vI deep), (2, vI x2)]) (st' := [vR 77]) B225_16_17 rfl ?_
      have g6 : gi N 77 39 = bd := i3
      refine r_vIp (c := 77) (args := []) (rest := []) (pc' := 20) D225_17 rfl ck_11_virtual_321 TE216 rfl (Nat.le_of_ble_eq_true rfl) ⟨Nat.le_of_ble_eq_true rfl, Nat.le_of_ble_eq_true rfl⟩ sc_77 ⟨rfl, by decide⟩ HN.1 (by omega) (k216x E (by omega) HN ) ?_
      intro v7 q12
      obtain ⟨q9, q10, q11⟩ := q12
      refine r_ifc (tgt := 24) (pc' := 23) D225_20 rfl rfl (by unfold inR; omega) (fun (c13 : v7 ≠ 0) => ?_) (fun (c13 : ¬ (v7 ≠ 0)) => ?_)
      · refine s_blx (lv' := [(0, vR 77), (1, vI deep), (2, vI x2)]) (st' := [vR 77]) B225_24_25 rfl ?_
        have kbd : bd = -1 := by omega
        have kq50 : lq ≤ 50 := h9 kbd
        have k9 : K t0 ≠ 9 := by omega
        clear h9 i6 i7 q10 q11
        refine r_gfix (r := 97) (pc' := 28) D225_25 rfl gf_11_78_77 HN.1 ?_
        refine s_blx (lv' := [(0, vR 77), (1, vI deep), (2, vI x2)]) (st' := [vR 77, vR 97]) B225_28_29 rfl ?_
        refine r_gint (ki := 37) (pc' := 32) D225_29 rfl gf_11_325_77 rfl HN.1 ?_
        intro w14 e15 r16
        have e17 : t0 = w14 := (e15.trans (i0)).symm
        subst e17
        refine r_iald (pc' := 33) D225_32 rfl sc_97 HN.1 (by omega) ?_
        intro w18 e19 r20
        unfold inR at r20
        have kc : w18 = C t0 := by rw [e19]; exact ((h0.fr fN rfl)).1 t0
        refine s_blx (lv' := [(3, vI w18), (0, vR 77), (1, vI deep), (2, vI x2)]) (st' := [vI 40, vI w18]) B225_33_37 rfl ?_
        refine r_sIp (args := [vI 40]) (rest := [vI w18]) (pc' := 40) D225_37 rfl ck_11_static_346 TE221 rfl (Nat.le_of_ble_eq_true rfl) ⟨Nat.le_of_ble_eq_true rfl, Nat.le_of_ble_eq_true rfl⟩ (by decide) (by omega) (k221 E (by omega) HN 40 (by omega)) ?_
        intro v21 q24
        have q23 := q24; clear q24
        have e25 : v21 = 140 := by omega
        subst e25
        refine r_icmp (tgt := 90) (pc' := 43) D225_40 rfl rfl (by unfold inR; omega) (fun (c26 : w18 ≠ 140) => ?_) (fun (c26 : ¬ (w18 ≠ 140)) => ?_)
        · refine s_blx (lv' := [(3, vI w18), (0, vR 77), (1, vI deep), (2, vI x2)]) (st' := [vI 11, vI w18]) B225_90_93 rfl ?_
          refine r_icmp (tgt := 102) (pc' := 96) D225_93 rfl rfl (by unfold inR; omega) (fun (c27 : w18 = 11) => ?_) (fun (c27 : ¬ (w18 = 11)) => ?_)
          · refine s_blx (lv' := [(3, vI w18), (0, vR 77), (1, vI deep), (2, vI x2)]) (st' := [vR 77]) B225_102_103 rfl ?_
            have kn4 : (K t0 = 10 ∨ K t0 = 11) ∧ t0 < n := by have w_ := h1 t0 (by omega) (by omega); unfold KOK at w_; omega
            have g28 : gi N 77 36 = n := i1
            have g29 : gi N 77 37 = t0 := i0
            have g30 : gi N 77 38 = lq := i2
            have g31 : gi N 77 39 = bd := i3
            refine r_vV (c := 77) (args := []) (rest := []) (pc' := 106) D225_103 rfl ck_11_virtual_353 TE220 rfl (Nat.le_of_ble_eq_true rfl) ⟨Nat.le_of_ble_eq_true rfl, Nat.le_of_ble_eq_true rfl⟩ sc_77 ⟨rfl, by decide⟩ HN.1 (by omega) (k220p E (by omega) HN n t0 bd lq K C V st ((h0.fr fN rfl)) (h1) (by omega) (by omega) (by omega) (by omega) (by omega) (by omega) (by omega) (by omega) (by omega) (by omega)) ?_
            intro M33 q40
            obtain ⟨H34, f35, q36, q37, q38, q39⟩ := q40
            have f41 := fN.tr (f35.up rfl)
            obtain ⟨t42, ht43⟩ : ∃ q, q = gi M33 77 37 := ⟨_, rfl⟩
            have b_t42 := H34.2 77 37 0 400 rfl
            rw [← ht43] at b_t42
            obtain ⟨t44, ht45⟩ : ∃ q, q = gi M33 77 38 := ⟨_, rfl⟩
            have b_t44 := (H34.1.int sc_77 (i := 38) (by decide) (by decide) rfl).2
            unfold inR at b_t44; rw [← ht45] at b_t44
            obtain ⟨t46, ht47⟩ : ∃ q, q = gi M33 77 39 := ⟨_, rfl⟩
            have b_t46 := (H34.1.int sc_77 (i := 39) (by decide) (by decide) rfl).2
            unfold inR at b_t46; rw [← ht47] at b_t46
            rw [← ht43, ← ht45, ← ht47] at q36
            rw [← ht43] at q37
            rw [← ht45] at q38
            rw [← ht45, ← ht47] at q39
            have kL := q36; clear q36
            refine r_goto (tgt := 152) D225_106 rfl ?_
            have g48 : gi M33 77 37 = t42 := ht43.symm
            have g49 : gi M33 77 38 = t44 := ht45.symm
            have g50 : gi M33 77 39 = t46 := ht47.symm
            exact r_retV D225_152 rfl (⟨H34, f41, by first | (rw [g48]; omega) | rw [g48], by first | (rw [g49]; omega) | rw [g49], by first | (rw [g49, g50]; omega) | rw [g49, g50], by rw [(ht43.symm), (ht45.symm), (ht47.symm)]; first | exact (RBx.nots i8 (RBx.o4 kn.1 (by omega) (kS.at (by omega) rfl (by omega)) kM)).at rfl rfl (by omega) | exact (RBx.nots i8 (RBx.l4 kn4.1 kL)).at rfl rfl (by omega) | exact (RBx.nots i8 (RBx.cmp kq4 (kS1.at rfl rfl (by omega)) khs kS2)).at rfl rfl (by omega)⟩)
          · refine s_blx (lv' := [(3, vI w18), (0, vR 77), (1, vI deep), (2, vI x2)]) (st' := [vI 12, vI w18]) B225_96_99 rfl ?_
            refine r_icmp (tgt := 109) (pc' := 102) D225_99 rfl rfl (by unfold inR; omega) (fun (c51 : w18 ≠ 12) => ?_) (fun (c51 : ¬ (w18 ≠ 12)) => ?_)
            · refine s_blx (lv' := [(3, vI w18), (0, vR 77), (1, vI deep), (2, vI x2)]) (st' := [vI deep, vR 77]) B225_109_111 rfl ?_
              have kq4 : K t0 ≠ 9 ∧ K t0 ≠ 140 ∧ K t0 ≠ 10 ∧ K t0 ≠ 11 := by have w_ := h1 t0 (by omega) (by omega); unfold KOK at w_; omega
              have g52 : gi N 77 36 = n := i1
              have g53 : gi N 77 37 = t0 := i0
              have g54 : gi N 77 38 = lq := i2
              have g55 : gi N 77 39 = bd := i3
              refine r_vV (c := 77) (args := [vI deep]) (rest := []) (pc' := 114) D225_111 rfl ck_11_virtual_356 TE226 rfl (Nat.le_of_ble_eq_true rfl) ⟨Nat.le_of_ble_eq_true rfl, Nat.le_of_ble_eq_true rfl⟩ sc_77 ⟨rfl, by decide⟩ HN.1 (by omega) (k226p E (by omega) HN deep n t0 bd lq K C V st ((h0.fr fN rfl)) (h1) (by omega) (by omega) (by omega) (by omega) (by omega) (by omega) (by omega) (by omega) (by omega)) ?_
              intro M57 q64
              obtain ⟨H58, f59, q60, q61, q62, q63⟩ := q64
              have f65 := fN.tr (f59.up rfl)
              obtain ⟨t66, ht67⟩ : ∃ q, q = gi M57 77 37 := ⟨_, rfl⟩
              have b_t66 := H58.2 77 37 0 400 rfl
              rw [← ht67] at b_t66
              obtain ⟨t68, ht69⟩ : ∃ q, q = gi M57 77 38 := ⟨_, rfl⟩
              have b_t68 := (H58.1.int sc_77 (i := 38) (by decide) (by decide) rfl).2
              unfold inR at b_t68; rw [← ht69] at b_t68
              obtain ⟨t70, ht71⟩ : ∃ q, q = gi M57 77 39 := ⟨_, rfl⟩
              have b_t70 := (H58.1.int sc_77 (i := 39) (by decide) (by decide) rfl).2
              unfold inR at b_t70; rw [← ht71] at b_t70
              rw [← ht67] at q60
              rw [← ht69] at q61
              rw [← ht69, ← ht71] at q62
              rw [← ht67, ← ht69, ← ht71] at q63
              have kS1 := q63; clear q63
              refine s_blx (lv' := [(3, vI w18), (0, vR 77), (1, vI deep), (2, vI x2)]) (st' := [vI 60, vR 77]) B225_114_117 rfl ?_
              refine r_sIp (args := [vI 60]) (rest := [vR 77]) (pc' := 120) D225_117 rfl ck_11_static_346 TE221 rfl (Nat.le_of_ble_eq_true rfl) ⟨Nat.le_of_ble_eq_true rfl, Nat.le_of_ble_eq_true rfl⟩ (by decide) (by omega) (k221 E (by omega) H58 60 (by omega)) ?_
              intro v72 q75
              have q74 := q75; clear q75
              have e76 : v72 = 160 := by omega
              subst e76
              have g77 : gi M57 77 36 = n := (f59.g rfl).trans (i1)
              have g78 : gi M57 77 37 = t66 := ht67.symm
              have g79 : gi M57 77 38 = t68 := ht69.symm
              have g80 : gi M57 77 39 = t70 := ht71.symm
              refine r_vI (c := 77) (args := [vI 160]) (rest := []) (pc' := 123) D225_120 rfl ck_11_virtual_328 TE218 rfl (Nat.le_of_ble_eq_true rfl) ⟨Nat.le_of_ble_eq_true rfl, Nat.le_of_ble_eq_true rfl⟩ sc_77 ⟨rfl, by decide⟩ H58.1 (by omega) (k218p E (by omega) H58 160 160 n t66 t70 t68 K C V st ((h0.fr f65 rfl)) (h1) (by omega) (by omega) (by omega) (by omega) (by omega) (by omega) (by omega) (by omega) (by first | assumption | (unfold isC; omega)) (by omega)) ?_
              intro v81 M82 q90
              obtain ⟨H83, f84, q85, q86, q87, q88, q89⟩ := q90
              have f91 := f65.tr (f84.up rfl)
              obtain ⟨t92, ht93⟩ : ∃ q, q = gi M82 77 37 := ⟨_, rfl⟩
              have b_t92 := H83.2 77 37 0 400 rfl
              rw [← ht93] at b_t92
              rw [← ht93] at q86
              rw [← ht93] at q87
              refine r_ifc (tgt := 147) (pc' := 126) D225_123 rfl rfl (by unfold inR; omega) (fun (c94 : v81 ≠ 0) => ?_) (fun (c94 : ¬ (v81 ≠ 0)) => ?_)
              · refine s_blx (lv' := [(3, vI w18), (0, vR 77), (1, vI deep), (2, vI x2)]) (st' := [vI deep, vR 77]) B225_147_149 rfl ?_
                have khs : (t70 ≠ -1 ∧ t92 = t66 ∧ t70 = t70) ∨ (t70 = -1 ∧ (K t66 = 160 ∨ K t66 = 161 ∨ K t66 = 162) ∧ t92 = t66 + 1 ∧ t70 = -1) ∨ (t70 = -1 ∧ ¬ (K t66 = 160 ∨ K t66 = 161 ∨ K t66 = 162) ∧ t92 = t66 ∧ t70 = st t66 ∧ t70 ≠ -1) := by first | (unfold MUx at kM; omega) | omega
                try clear q88
                try clear q89
                try clear kno
                try clear kno
                try clear kno
                try clear kt1
                try clear kt2
                have g95 : gi M82 77 36 = n := (f84.g rfl).trans ((f59.g rfl).trans (i1))
                have g96 : gi M82 77 37 = t92 := ht93.symm
                have g97 : gi M82 77 38 = t68 := (f84.g rfl).trans (ht69.symm)
                have g98 : gi M82 77 39 = t70 := (f84.g rfl).trans (ht71.symm)
                refine r_vV (c := 77) (args := [vI deep]) (rest := []) (pc' := 152) D225_149 rfl ck_11_virtual_356 TE226 rfl (Nat.le_of_ble_eq_true rfl) ⟨Nat.le_of_ble_eq_true rfl, Nat.le_of_ble_eq_true rfl⟩ sc_77 ⟨rfl, by decide⟩ H83.1 (by omega) (k226p E (by omega) H83 deep n t92 t70 t68 K C V st ((h0.fr f91 rfl)) (h1) (by omega) (by omega) (by omega) (by omega) (by omega) (by omega) (by omega) (by omega) (by omega)) ?_
                intro M100 q107
                obtain ⟨H101, f102, q103, q104, q105, q106⟩ := q107
                have f108 := f91.tr (f102.up rfl)
                obtain ⟨t109, ht110⟩ : ∃ q, q = gi M100 77 37 := ⟨_, rfl⟩
                have b_t109 := H101.2 77 37 0 400 rfl
                rw [← ht110] at b_t109
                obtain ⟨t111, ht112⟩ : ∃ q, q = gi M100 77 38 := ⟨_, rfl⟩
                have b_t111 := (H101.1.int sc_77 (i := 38) (by decide) (by decide) rfl).2
                unfold inR at b_t111; rw [← ht112] at b_t111
                obtain ⟨t113, ht114⟩ : ∃ q, q = gi M100 77 39 := ⟨_, rfl⟩
                have b_t113 := (H101.1.int sc_77 (i := 39) (by decide) (by decide) rfl).2
                unfold inR at b_t113; rw [← ht114] at b_t113
                rw [← ht110] at q103
                rw [← ht112] at q104
                rw [← ht112, ← ht114] at q105
                rw [← ht110, ← ht112, ← ht114] at q106
                have kS2 := q106; clear q106
                have g115 : gi M100 77 37 = t109 := ht110.symm
                have g116 : gi M100 77 38 = t111 := ht112.symm
                have g117 : gi M100 77 39 = t113 := ht114.symm
                exact r_retV D225_152 rfl (⟨H101, f108, by first | (rw [g115]; omega) | rw [g115], by first | (rw [g116]; omega) | rw [g116], by first | (rw [g116, g117]; omega) | rw [g116, g117], by rw [(ht110.symm), (ht112.symm), (ht114.symm)]; first | exact (RBx.nots i8 (RBx.o4 kn.1 (by omega) (kS.at (by omega) rfl (by omega)) kM)).at rfl rfl (by omega) | exact (RBx.nots i8 (RBx.l4 kn4.1 kL)).at rfl rfl (by omega) | exact (RBx.nots i8 (RBx.cmp kq4 (kS1.at rfl rfl (by omega)) khs kS2)).at rfl rfl (by omega)⟩)
              · refine s_blx (lv' := [(3, vI w18), (0, vR 77), (1, vI deep), (2, vI x2)]) (st' := [vI 62, vR 77]) B225_126_129 rfl ?_
                refine r_sIp (args := [vI 62]) (rest := [vR 77]) (pc' := 132) D225_129 rfl ck_11_static_346 TE221 rfl (Nat.le_of_ble_eq_true rfl) ⟨Nat.le_of_ble_eq_true rfl, Nat.le_of_ble_eq_true rfl⟩ (by decide) (by omega) (k221 E (by omega) H83 62 (by omega)) ?_
                intro v118 q121
                have q120 := q121; clear q121
                have e122 : v118 = 162 := by omega
                subst e122
                have kt1 := q89 (by omega)
                clear q88 q89
                have kq1 : K t92 = K t66 := by rw [show t92 = t66 by omega]
                have g123 : gi M82 77 36 = n := (f84.g rfl).trans ((f59.g rfl).trans (i1))
                have g124 : gi M82 77 37 = t92 := ht93.symm
                have g125 : gi M82 77 38 = t68 := (f84.g rfl).trans (ht69.symm)
                have g126 : gi M82 77 39 = t70 := (f84.g rfl).trans (ht71.symm)
                refine r_vI (c := 77) (args := [vI 162]) (rest := []) (pc' := 135) D225_132 rfl ck_11_virtual_328 TE218 rfl (Nat.le_of_ble_eq_true rfl) ⟨Nat.le_of_ble_eq_true rfl, Nat.le_of_ble_eq_true rfl⟩ sc_77 ⟨rfl, by decide⟩ H83.1 (by omega) (k218p E (by omega) H83 162 162 n t92 t70 t68 K C V st ((h0.fr f91 rfl)) (h1) (by omega) (by omega) (by omega) (by omega) (by omega) (by omega) (by omega) (by omega) (by first | assumption | (unfold isC; omega)) (by omega)) ?_
                intro v127 M128 q136
                obtain ⟨H129, f130, q131, q132, q133, q134, q135⟩ := q136
                have f137 := f91.tr (f130.up rfl)
                obtain ⟨t138, ht139⟩ : ∃ q, q = gi M128 77 37 := ⟨_, rfl⟩
                have b_t138 := H129.2 77 37 0 400 rfl
                rw [← ht139] at b_t138
                rw [← ht139] at q132
                rw [← ht139] at q133
                refine r_ifc (tgt := 147) (pc' := 138) D225_135 rfl rfl (by unfold inR; omega) (fun (c140 : v127 ≠ 0) => ?_) (fun (c140 : ¬ (v127 ≠ 0)) => ?_)
                · refine s_blx (lv' := [(3, vI w18), (0, vR 77), (1, vI deep), (2, vI x2)]) (st' := [vI deep, vR 77]) B225_147_149 rfl ?_
                  have khs : (t70 ≠ -1 ∧ t138 = t66 ∧ t70 = t70) ∨ (t70 = -1 ∧ (K t66 = 160 ∨ K t66 = 161 ∨ K t66 = 162) ∧ t138 = t66 + 1 ∧ t70 = -1) ∨ (t70 = -1 ∧ ¬ (K t66 = 160 ∨ K t66 = 161 ∨ K t66 = 162) ∧ t138 = t66 ∧ t70 = st t66 ∧ t70 ≠ -1) := by first | (unfold MUx at kM; omega) | omega
                  try clear kno
                  try clear kno
                  try clear q134
                  try clear q135
                  try clear kno
                  try clear kt1
                  try clear kt2
                  have g141 : gi M128 77 36 = n := (f130.g rfl).trans ((f84.g rfl).trans ((f59.g rfl).trans (i1)))
                  have g142 : gi M128 77 37 = t138 := ht139.symm
                  have g143 : gi M128 77 38 = t68 := (f130.g rfl).trans ((f84.g rfl).trans (ht69.symm))
                  have g144 : gi M128 77 39 = t70 := (f130.g rfl).trans ((f84.g rfl).trans (ht71.symm))
                  refine r_vV (c := 77) (args := [vI deep]) (rest := []) (pc' := 152) D225_149 rfl ck_11_virtual_356 TE226 rfl (Nat.le_of_ble_eq_true rfl) ⟨Nat.le_of_ble_eq_true rfl, Nat.le_of_ble_eq_true rfl⟩ sc_77 ⟨rfl, by decide⟩ H129.1 (by omega) (k226p E (by omega) H129 deep n t138 t70 t68 K C V st ((h0.fr f137 rfl)) (h1) (by omega) (by omega) (by omega) (by omega) (by omega) (by omega) (by omega) (by omega) (by omega)) ?_
                  intro M146 q153
                  obtain ⟨H147, f148, q149, q150, q151, q152⟩ := q153
                  have f154 := f137.tr (f148.up rfl)
                  obtain ⟨t155, ht156⟩ : ∃ q, q = gi M146 77 37 := ⟨_, rfl⟩
                  have b_t155 := H147.2 77 37 0 400 rfl
                  rw [← ht156] at b_t155
                  obtain ⟨t157, ht158⟩ : ∃ q, q = gi M146 77 38 := ⟨_, rfl⟩
                  have b_t157 := (H147.1.int sc_77 (i := 38) (by decide) (by decide) rfl).2
                  unfold inR at b_t157; rw [← ht158] at b_t157
                  obtain ⟨t159, ht160⟩ : ∃ q, q = gi M146 77 39 := ⟨_, rfl⟩
                  have b_t159 := (H147.1.int sc_77 (i := 39) (by decide) (by decide) rfl).2
                  unfold inR at b_t159; rw [← ht160] at b_t159
                  rw [← ht156] at q149
                  rw [← ht158] at q150
                  rw [← ht158, ← ht160] at q151
                  rw [← ht156, ← ht158, ← ht160] at q152
                  have kS2 := q152; clear q152
                  have g161 : gi M146 77 37 = t155 := ht156.symm
                  have g162 : gi M146 77 38 = t157 := ht158.symm
                  have g163 : gi M146 77 39 = t159 := ht160.symm
                  exact r_retV D225_152 rfl (⟨H147, f154, by first | (rw [g161]; omega) | rw [g161], by first | (rw [g162]; omega) | rw [g162], by first | (rw [g162, g163]; omega) | rw [g162, g163], by rw [(ht156.symm), (ht158.symm), (ht160.symm)]; first | exact (RBx.nots i8 (RBx.o4 kn.1 (by omega) (kS.at (by omega) rfl (by omega)) kM)).at rfl rfl (by omega) | exact (RBx.nots i8 (RBx.l4 kn4.1 kL)).at rfl rfl (by omega) | exact (RBx.nots i8 (RBx.cmp kq4 (kS1.at rfl rfl (by omega)) khs kS2)).at rfl rfl (by omega)⟩)
                · refine s_blx (lv' := [(3, vI w18), (0, vR 77), (1, vI deep), (2, vI x2)]) (st' := [vI 61, vR 77]) B225_138_141 rfl ?_
                  refine r_sIp (args := [vI 61]) (rest := [vR 77]) (pc' := 144) D225_141 rfl ck_11_static_346 TE221 rfl (Nat.le_of_ble_eq_true rfl) ⟨Nat.le_of_ble_eq_true rfl, Nat.le_of_ble_eq_true rfl⟩ (by decide) (by omega) (k221 E (by omega) H129 61 (by omega)) ?_
                  intro v164 q167
                  have q166 := q167; clear q167
                  have e168 : v164 = 161 := by omega
                  subst e168
                  have kt2 := q135 (by omega)
                  clear q134 q135
                  have kq2 : K t138 = K t66 := by rw [show t138 = t66 by omega]
                  have g169 : gi M128 77 36 = n := (f130.g rfl).trans ((f84.g rfl).trans ((f59.g rfl).trans (i1)))
                  have g170 : gi M128 77 37 = t138 := ht139.symm
                  have g171 : gi M128 77 38 = t68 := (f130.g rfl).trans ((f84.g rfl).trans (ht69.symm))
                  have g172 : gi M128 77 39 = t70 := (f130.g rfl).trans ((f84.g rfl).trans (ht71.symm))
                  refine r_vV (c := 77) (args := [vI 161]) (rest := []) (pc' := 147) D225_144 rfl ck_11_virtual_350 TE219 rfl (Nat.le_of_ble_eq_true rfl) ⟨Nat.le_of_ble_eq_true rfl, Nat.le_of_ble_eq_true rfl⟩ sc_77 ⟨rfl, by decide⟩ H129.1 (by omega) (k219p E (by omega) H129 161 161 n t138 t70 t68 K C V st ((h0.fr f137 rfl)) (h1) (by omega) (by omega) (by omega) (by omega) (by omega) (by omega) (by omega) (by omega) (by first | assumption | (unfold isC; omega)) (by omega)) ?_
                  intro M174 q180
                  obtain ⟨H175, f176, q177, q178, q179⟩ := q180
                  have f181 := f137.tr (f176.up rfl)
                  obtain ⟨t182, ht183⟩ : ∃ q, q = gi M174 77 37 := ⟨_, rfl⟩
                  have b_t182 := H175.2 77 37 0 400 rfl
                  rw [← ht183] at b_t182
                  obtain ⟨t184, ht185⟩ : ∃ q, q = gi M174 77 39 := ⟨_, rfl⟩
                  have b_t184 := (H175.1.int sc_77 (i := 39) (by decide) (by decide) rfl).2
                  unfold inR at b_t184; rw [← ht185] at b_t184
                  rw [← ht183, ← ht185] at q177
                  rw [← ht183] at q178
                  rw [← ht185] at q179
                  have kM := q177
                  rw [show t138 = t66 by omega] at kM
                  refine s_blx (lv' := [(3, vI w18), (0, vR 77), (1, vI deep), (2, vI x2)]) (st' := [vI deep, vR 77]) B225_147_149 rfl ?_
                  have khs : (t70 ≠ -1 ∧ t182 = t66 ∧ t184 = t70) ∨ (t70 = -1 ∧ (K t66 = 160 ∨ K t66 = 161 ∨ K t66 = 162) ∧ t182 = t66 + 1 ∧ t184 = -1) ∨ (t70 = -1 ∧ ¬ (K t66 = 160 ∨ K t66 = 161 ∨ K t66 = 162) ∧ t182 = t66 ∧ t184 = st t66 ∧ t184 ≠ -1) := by first | (unfold MUx at kM; omega) | omega
                  try clear kno
                  try clear kno
                  try clear kno
                  try clear kno
                  try clear q179
                  try clear kt1
                  try clear kt2
                  have g186 : gi M174 77 36 = n := (f176.g rfl).trans ((f130.g rfl).trans ((f84.g rfl).trans ((f59.g rfl).trans (i1))))
                  have g187 : gi M174 77 37 = t182 := ht183.symm
                  have g188 : gi M174 77 38 = t68 := (f176.g rfl).trans ((f130.g rfl).trans ((f84.g rfl).trans (ht69.symm)))
                  have g189 : gi M174 77 39 = t184 := ht185.symm
                  refine r_vV (c := 77) (args := [vI deep]) (rest := []) (pc' := 152) D225_149 rfl ck_11_virtual_356 TE226 rfl (Nat.le_of_ble_eq_true rfl) ⟨Nat.le_of_ble_eq_true rfl, Nat.le_of_ble_eq_true rfl⟩ sc_77 ⟨rfl, by decide⟩ H175.1 (by omega) (k226p E (by omega) H175 deep n t182 t184 t68 K C V st ((h0.fr f181 rfl)) (h1) (by omega) (by omega) (by omega) (by omega) (by omega) (by omega) (by omega) (by omega) (by omega)) ?_
                  intro M191 q198
                  obtain ⟨H192, f193, q194, q195, q196, q197⟩ := q198
                  have f199 := f181.tr (f193.up rfl)
                  obtain ⟨t200, ht201⟩ : ∃ q, q = gi M191 77 37 := ⟨_, rfl⟩
                  have b_t200 := H192.2 77 37 0 400 rfl
                  rw [← ht201] at b_t200
                  obtain ⟨t202, ht203⟩ : ∃ q, q = gi M191 77 38 := ⟨_, rfl⟩
                  have b_t202 := (H192.1.int sc_77 (i := 38) (by decide) (by decide) rfl).2
                  unfold inR at b_t202; rw [← ht203] at b_t202
                  obtain ⟨t204, ht205⟩ : ∃ q, q = gi M191 77 39 := ⟨_, rfl⟩
                  have b_t204 := (H192.1.int sc_77 (i := 39) (by decide) (by decide) rfl).2
                  unfold inR at b_t204; rw [← ht205] at b_t204
                  rw [← ht201] at q194
                  rw [← ht203] at q195
                  rw [← ht203, ← ht205] at q196
                  rw [← ht201, ← ht203, ← ht205] at q197
                  have kS2 := q197; clear q197
                  have g206 : gi M191 77 37 = t200 := ht201.symm
                  have g207 : gi M191 77 38 = t202 := ht203.symm
                  have g208 : gi M191 77 39 = t204 := ht205.symm
                  exact r_retV D225_152 rfl (⟨H192, f199, by first | (rw [g206]; omega) | rw [g206], by first | (rw [g207]; omega) | rw [g207], by first | (rw [g207, g208]; omega) | rw [g207, g208], by rw [(ht201.symm), (ht203.symm), (ht205.symm)]; first | exact (RBx.nots i8 (RBx.o4 kn.1 (by omega) (kS.at (by omega) rfl (by omega)) kM)).at rfl rfl (by omega) | exact (RBx.nots i8 (RBx.l4 kn4.1 kL)).at rfl rfl (by omega) | exact (RBx.nots i8 (RBx.cmp kq4 (kS1.at rfl rfl (by omega)) khs kS2)).at rfl rfl (by omega)⟩)
            · refine s_blx (lv' := [(3, vI w18), (0, vR 77), (1, vI deep), (2, vI x2)]) (st' := [vR 77]) B225_102_103 rfl ?_
              have kn4 : (K t0 = 10 ∨ K t0 = 11) ∧ t0 < n := by have w_ := h1 t0 (by omega) (by omega); unfold KOK at w_; omega
              have g209 : gi N 77 36 = n := i1
              have g210 : gi N 77 37 = t0 := i0
              have g211 : gi N 77 38 = lq := i2
              have g212 : gi N 77 39 = bd := i3
              refine r_vV (c := 77) (args := []) (rest := []) (pc' := 106) D225_103 rfl ck_11_virtual_353 TE220 rfl (Nat.le_of_ble_eq_true rfl) ⟨Nat.le_of_ble_eq_true rfl, Nat.le_of_ble_eq_true rfl⟩ sc_77 ⟨rfl, by decide⟩ HN.1 (by omega) (k220p E (by omega) HN n t0 bd lq K C V st ((h0.fr fN rfl)) (h1) (by omega) (by omega) (by omega) (by omega) (by omega) (by omega) (by omega) (by omega) (by omega) (by omega)) ?_
              intro M214 q221
              obtain ⟨H215, f216, q217, q218, q219, q220⟩ := q221
              have f222 := fN.tr (f216.up rfl)
              obtain ⟨t223, ht224⟩ : ∃ q, q = gi M214 77 37 := ⟨_, rfl⟩
              have b_t223 := H215.2 77 37 0 400 rfl
              rw [← ht224] at b_t223
              obtain ⟨t225, ht226⟩ : ∃ q, q = gi M214 77 38 := ⟨_, rfl⟩
              have b_t225 := (H215.1.int sc_77 (i := 38) (by decide) (by decide) rfl).2
              unfold inR at b_t225; rw [← ht226] at b_t225
              obtain ⟨t227, ht228⟩ : ∃ q, q = gi M214 77 39 := ⟨_, rfl⟩
              have b_t227 := (H215.1.int sc_77 (i := 39) (by decide) (by decide) rfl).2
              unfold inR at b_t227; rw [← ht228] at b_t227
              rw [← ht224, ← ht226, ← ht228] at q217
              rw [← ht224] at q218
              rw [← ht226] at q219
              rw [← ht226, ← ht228] at q220
              have kL := q217; clear q217
              refine r_goto (tgt := 152) D225_106 rfl ?_
              have g229 : gi M214 77 37 = t223 := ht224.symm
              have g230 : gi M214 77 38 = t225 := ht226.symm
              have g231 : gi M214 77 39 = t227 := ht228.symm
              exact r_retV D225_152 rfl (⟨H215, f222, by first | (rw [g229]; omega) | rw [g229], by first | (rw [g230]; omega) | rw [g230], by first | (rw [g230, g231]; omega) | rw [g230, g231], by rw [(ht224.symm), (ht226.symm), (ht228.symm)]; first | exact (RBx.nots i8 (RBx.o4 kn.1 (by omega) (kS.at (by omega) rfl (by omega)) kM)).at rfl rfl (by omega) | exact (RBx.nots i8 (RBx.l4 kn4.1 kL)).at rfl rfl (by omega) | exact (RBx.nots i8 (RBx.cmp kq4 (kS1.at rfl rfl (by omega)) khs kS2)).at rfl rfl (by omega)⟩)
        · refine s_blx (lv' := [(3, vI w18), (0, vR 77), (1, vI deep), (2, vI x2)]) (st' := [vI 8, vI deep]) B225_43_46 rfl ?_
          have kn := h1.yes (c := 140) (k := 140) (j := t0) (by unfold isC; omega) (by omega) (show C t0 = 140 by omega)
          refine r_icmp (tgt := 53) (pc' := 49) D225_46 rfl rfl (by unfold inR; omega) (fun (c232 : deep ≠ 8) => ?_) (fun (c232 : ¬ (deep ≠ 8)) => ?_)
          · refine s_blx (lv' := [(3, vI w18), (0, vR 77), (1, vI deep), (2, vI x2)]) (st' := [vR 77]) B225_53_54 rfl ?_
            have g233 : gi N 77 39 = bd := i3
            refine r_vIp (c := 77) (args := []) (rest := []) (pc' := 57) D225_54 rfl ck_11_virtual_321 TE216 rfl (Nat.le_of_ble_eq_true rfl) ⟨Nat.le_of_ble_eq_true rfl, Nat.le_of_ble_eq_true rfl⟩ sc_77 ⟨rfl, by decide⟩ HN.1 (by omega) (k216x E (by omega) HN ) ?_
            intro v234 q239
            obtain ⟨q236, q237, q238⟩ := q239
            refine r_ifc (tgt := 61) (pc' := 60) D225_57 rfl rfl (by unfold inR; omega) (fun (c240 : v234 ≠ 0) => ?_) (fun (c240 : ¬ (v234 ≠ 0)) => ?_)
            · refine s_blx (lv' := [(3, vI w18), (0, vR 77), (1, vI deep), (2, vI x2)]) (st' := [vR 77, vR 77]) B225_61_63 rfl ?_
              refine r_gint (ki := 37) (pc' := 66) D225_63 rfl gf_11_325_77 rfl HN.1 ?_
              intro w241 e242 r243
              have e244 : t0 = w241 := (e242.trans (i0)).symm
              subst e244
              refine s_blx (lv' := [(3, vI w18), (0, vR 77), (1, vI deep), (2, vI x2)]) (st' := [vI (t0 + 1), vR 77]) B225_66_68 rfl ?_
              refine r_pint (ki := 37) (pc' := 71) D225_68 rfl pf_11_325_77 rfl HN (by unfold inR; omega) (show 0 ≤ (t0 + 1) ∧ (t0 + 1) ≤ 400 by omega) ?_
              intro M245 u246 H247 p248
              have f249 := fN.wr u246 rfl
              refine s_blx (lv' := [(3, vI w18), (0, vR 77), (1, vI deep), (2, vI x2)]) (st' := [vI (deep + 1), vR 77]) B225_71_75 rfl ?_
              have g250 : gi M245 77 36 = n := (u246.gi_ne (by decide) (Or.inr (by decide))).trans (i1)
              have g251 : gi M245 77 37 = t0 + 1 := p248
              have g252 : gi M245 77 38 = lq := (u246.gi_ne (by decide) (Or.inr (by decide))).trans (i2)
              have g253 : gi M245 77 39 = bd := (u246.gi_ne (by decide) (Or.inr (by decide))).trans (i3)
              refine r_vV (c := 77) (args := [vI (deep + 1)]) (rest := []) (pc' := 78) D225_75 rfl ck_11_virtual_337 TE223 rfl (Nat.le_of_ble_eq_true rfl) ⟨Nat.le_of_ble_eq_true rfl, Nat.le_of_ble_eq_true rfl⟩ sc_77 ⟨rfl, by decide⟩ H247.1 (by omega) (ihr (by omega) H247 (deep + 1) n (t0 + 1) bd lq K C V st ((h0.fr f249 rfl)) (h1) (by omega) (by omega) (by omega) (by omega) (by omega) (by omega) (by omega) (by omega) (by omega) (by omega)) ?_
              intro M255 q262
              obtain ⟨H256, f257, q258, q259, q260, q261⟩ := q262
              have f263 := f249.tr (f257.up rfl)
              obtain ⟨t264, ht265⟩ : ∃ q, q = gi M255 77 37 := ⟨_, rfl⟩
              have b_t264 := H256.2 77 37 0 400 rfl
              rw [← ht265] at b_t264
              obtain ⟨t266, ht267⟩ : ∃ q, q = gi M255 77 38 := ⟨_, rfl⟩
              have b_t266 := (H256.1.int sc_77 (i := 38) (by decide) (by decide) rfl).2
              unfold inR at b_t266; rw [← ht267] at b_t266
              obtain ⟨t268, ht269⟩ : ∃ q, q = gi M255 77 39 := ⟨_, rfl⟩
              have b_t268 := (H256.1.int sc_77 (i := 39) (by decide) (by decide) rfl).2
              unfold inR at b_t268; rw [← ht269] at b_t268
              rw [← ht265] at q258
              rw [← ht267] at q259
              rw [← ht267, ← ht269] at q260
              rw [← ht265, ← ht267, ← ht269] at q261
              have kS := q261; clear q261
              refine s_blx (lv' := [(3, vI w18), (0, vR 77), (1, vI deep), (2, vI x2)]) (st' := [vI 41, vR 77]) B225_78_81 rfl ?_
              refine r_sIp (args := [vI 41]) (rest := [vR 77]) (pc' := 84) D225_81 rfl ck_11_static_346 TE221 rfl (Nat.le_of_ble_eq_true rfl) ⟨Nat.le_of_ble_eq_true rfl, Nat.le_of_ble_eq_true rfl⟩ (by decide) (by omega) (k221 E (by omega) H256 41 (by omega)) ?_
              intro v270 q273
              have q272 := q273; clear q273
              have e274 : v270 = 141 := by omega
              subst e274
              have g275 : gi M255 77 36 = n := (f257.g rfl).trans ((u246.gi_ne (by decide) (Or.inr (by decide))).trans (i1))
              have g276 : gi M255 77 37 = t264 := ht265.symm
              have g277 : gi M255 77 38 = t266 := ht267.symm
              have g278 : gi M255 77 39 = t268 := ht269.symm
              refine r_vV (c := 77) (args := [vI 141]) (rest := []) (pc' := 87) D225_84 rfl ck_11_virtual_350 TE219 rfl (Nat.le_of_ble_eq_true rfl) ⟨Nat.le_of_ble_eq_true rfl, Nat.le_of_ble_eq_true rfl⟩ sc_77 ⟨rfl, by decide⟩ H256.1 (by omega) (k219p E (by omega) H256 141 141 n t264 t268 t266 K C V st ((h0.fr f263 rfl)) (h1) (by omega) (by omega) (by omega) (by omega) (by omega) (by omega) (by omega) (by omega) (by first | assumption | (unfold isC; omega)) (by omega)) ?_
              intro M280 q286
              obtain ⟨H281, f282, q283, q284, q285⟩ := q286
              have f287 := f263.tr (f282.up rfl)
              obtain ⟨t288, ht289⟩ : ∃ q, q = gi M280 77 37 := ⟨_, rfl⟩
              have b_t288 := H281.2 77 37 0 400 rfl
              rw [← ht289] at b_t288
              obtain ⟨t290, ht291⟩ : ∃ q, q = gi M280 77 39 := ⟨_, rfl⟩
              have b_t290 := (H281.1.int sc_77 (i := 39) (by decide) (by decide) rfl).2
              unfold inR at b_t290; rw [← ht291] at b_t290
              rw [← ht289, ← ht291] at q283
              rw [← ht289] at q284
              rw [← ht291] at q285
              have kM := q283; clear q283
              refine r_goto (tgt := 152) D225_87 rfl ?_
              have g292 : gi M280 77 37 = t288 := ht289.symm
              have g293 : gi M280 77 38 = t266 := (f282.g rfl).trans (ht267.symm)
              have g294 : gi M280 77 39 = t290 := ht291.symm
              exact r_retV D225_152 rfl (⟨H281, f287, by first | (rw [g292]; omega) | rw [g292], by first | (rw [g293]; omega) | rw [g293], by first | (rw [g293, g294]; omega) | rw [g293, g294], by rw [(ht289.symm), ((f282.g rfl).trans (ht267.symm)), (ht291.symm)]; first | exact (RBx.nots i8 (RBx.o4 kn.1 (by omega) (kS.at (by omega) rfl (by omega)) kM)).at rfl rfl (by omega) | exact (RBx.nots i8 (RBx.l4 kn4.1 kL)).at rfl rfl (by omega) | exact (RBx.nots i8 (RBx.cmp kq4 (kS1.at rfl rfl (by omega)) khs kS2)).at rfl rfl (by omega)⟩)
            · have g295 : gi N 77 37 = t0 := i0
              have g296 : gi N 77 38 = lq := i2
              have g297 : gi N 77 39 = bd := i3
              exact r_retV D225_60 rfl (⟨HN, fN, by first | (rw [g295]; omega) | rw [g295], by first | (rw [g296]; omega) | rw [g296], by first | (rw [g296, g297]; omega) | rw [g296, g297], by rw [(i0), (i2), (i3)]; first | exact (RBx.nots i8 (RBx.no (by omega) (by omega) (RR.d4 kn.1 (by omega)))).at rfl rfl (by omega) | (exfalso; omega)⟩)
          · refine s_blx (lv' := [(3, vI w18), (0, vR 77), (1, vI deep), (2, vI x2)]) (st' := [vR 77]) B225_49_50 rfl ?_
            have g298 : gi N 77 36 = n := i1
            have g299 : gi N 77 37 = t0 := i0
            have g300 : gi N 77 39 = bd := i3
            refine r_vV (c := 77) (args := []) (rest := []) (pc' := 53) D225_50 rfl ck_11_virtual_331 TE217 rfl (Nat.le_of_ble_eq_true rfl) ⟨Nat.le_of_ble_eq_true rfl, Nat.le_of_ble_eq_true rfl⟩ sc_77 ⟨rfl, by decide⟩ HN.1 (by omega) (k217p E (by omega) HN n t0 bd C V st ((h0.fr fN rfl)) (by omega) (by omega) (by omega) (by omega) (by omega)) ?_
            intro M302 q308
            obtain ⟨H303, f304, q305, q306, q307⟩ := q308
            have f309 := fN.tr (f304.up rfl)
            obtain ⟨t310, ht311⟩ : ∃ q, q = gi M302 77 39 := ⟨_, rfl⟩
            have b_t310 := (H303.1.int sc_77 (i := 39) (by decide) (by decide) rfl).2
            unfold inR at b_t310; rw [← ht311] at b_t310
            rw [← ht311] at q305
            rw [← ht311] at q306
            rw [← ht311] at q307
            refine s_blx (lv' := [(3, vI w18), (0, vR 77), (1, vI deep), (2, vI x2)]) (st' := [vR 77]) B225_53_54 rfl ?_
            have g312 : gi M302 77 39 = t310 := ht311.symm
            refine r_vIp (c := 77) (args := []) (rest := []) (pc' := 57) D225_54 rfl ck_11_virtual_321 TE216 rfl (Nat.le_of_ble_eq_true rfl) ⟨Nat.le_of_ble_eq_true rfl, Nat.le_of_ble_eq_true rfl⟩ sc_77 ⟨rfl, by decide⟩ H303.1 (by omega) (k216x E (by omega) H303 ) ?_
            intro v313 q318
            obtain ⟨q315, q316, q317⟩ := q318
            refine r_ifc (tgt := 61) (pc' := 60) D225_57 rfl rfl (by unfold inR; omega) (fun (c319 : v313 ≠ 0) => ?_) (fun (c319 : ¬ (v313 ≠ 0)) => ?_)
            · refine s_blx (lv' := [(3, vI w18), (0, vR 77), (1, vI deep), (2, vI x2)]) (st' := [vR 77, vR 77]) B225_61_63 rfl ?_
              refine r_gint (ki := 37) (pc' := 66) D225_63 rfl gf_11_325_77 rfl H303.1 ?_
              intro w320 e321 r322
              have e323 : t0 = w320 := (e321.trans ((f304.g rfl).trans (i0))).symm
              subst e323
              refine s_blx (lv' := [(3, vI w18), (0, vR 77), (1, vI deep), (2, vI x2)]) (st' := [vI (t0 + 1), vR 77]) B225_66_68 rfl ?_
              refine r_pint (ki := 37) (pc' := 71) D225_68 rfl pf_11_325_77 rfl H303 (by unfold inR; omega) (show 0 ≤ (t0 + 1) ∧ (t0 + 1) ≤ 400 by omega) ?_
              intro M324 u325 H326 p327
              have f328 := f309.wr u325 rfl
              refine s_blx (lv' := [(3, vI w18), (0, vR 77), (1, vI deep), (2, vI x2)]) (st' := [vI (deep + 1), vR 77]) B225_71_75 rfl ?_
              have g329 : gi M324 77 36 = n := (u325.gi_ne (by decide) (Or.inr (by decide))).trans ((f304.g rfl).trans (i1))
              have g330 : gi M324 77 37 = t0 + 1 := p327
              have g331 : gi M324 77 38 = lq := (u325.gi_ne (by decide) (Or.inr (by decide))).trans ((f304.g rfl).trans (i2))
              have g332 : gi M324 77 39 = t310 := (u325.gi_ne (by decide) (Or.inr (by decide))).trans (ht311.symm)
              refine r_vV (c := 77) (args := [vI (deep + 1)]) (rest := []) (pc' := 78) D225_75 rfl ck_11_virtual_337 TE223 rfl (Nat.le_of_ble_eq_true rfl) ⟨Nat.le_of_ble_eq_true rfl, Nat.le_of_ble_eq_true rfl⟩ sc_77 ⟨rfl, by decide⟩ H326.1 (by omega) (ihr (by omega) H326 (deep + 1) n (t0 + 1) t310 lq K C V st ((h0.fr f328 rfl)) (h1) (by omega) (by omega) (by omega) (by omega) (by omega) (by omega) (by omega) (by omega) (by omega) (by omega)) ?_
              intro M334 q341
              obtain ⟨H335, f336, q337, q338, q339, q340⟩ := q341
              have f342 := f328.tr (f336.up rfl)
              obtain ⟨t343, ht344⟩ : ∃ q, q = gi M334 77 37 := ⟨_, rfl⟩
              have b_t343 := H335.2 77 37 0 400 rfl
              rw [← ht344] at b_t343
              obtain ⟨t345, ht346⟩ : ∃ q, q = gi M334 77 38 := ⟨_, rfl⟩
              have b_t345 := (H335.1.int sc_77 (i := 38) (by decide) (by decide) rfl).2
              unfold inR at b_t345; rw [← ht346] at b_t345
              obtain ⟨t347, ht348⟩ : ∃ q, q = gi M334 77 39 := ⟨_, rfl⟩
              have b_t347 := (H335.1.int sc_77 (i := 39) (by decide) (by decide) rfl).2
              unfold inR at b_t347; rw [← ht348] at b_t347
              rw [← ht344] at q337
              rw [← ht346] at q338
              rw [← ht346, ← ht348] at q339
              rw [← ht344, ← ht346, ← ht348] at q340
              have kS := q340; clear q340
              refine s_blx (lv' := [(3, vI w18), (0, vR 77), (1, vI deep), (2, vI x2)]) (st' := [vI 41, vR 77]) B225_78_81 rfl ?_
              refine r_sIp (args := [vI 41]) (rest := [vR 77]) (pc' := 84) D225_81 rfl ck_11_static_346 TE221 rfl (Nat.le_of_ble_eq_true rfl) ⟨Nat.le_of_ble_eq_true rfl, Nat.le_of_ble_eq_true rfl⟩ (by decide) (by omega) (k221 E (by omega) H335 41 (by omega)) ?_
              intro v349 q352
              have q351 := q352; clear q352
              have e353 : v349 = 141 := by omega
              subst e353
              have g354 : gi M334 77 36 = n := (f336.g rfl).trans ((u325.gi_ne (by decide) (Or.inr (by decide))).trans ((f304.g rfl).trans (i1)))
              have g355 : gi M334 77 37 = t343 := ht344.symm
              have g356 : gi M334 77 38 = t345 := ht346.symm
              have g357 : gi M334 77 39 = t347 := ht348.symm
              refine r_vV (c := 77) (args := [vI 141]) (rest := []) (pc' := 87) D225_84 rfl ck_11_virtual_350 TE219 rfl (Nat.le_of_ble_eq_true rfl) ⟨Nat.le_of_ble_eq_true rfl, Nat.le_of_ble_eq_true rfl⟩ sc_77 ⟨rfl, by decide⟩ H335.1 (by omega) (k219p E (by omega) H335 141 141 n t343 t347 t345 K C V st ((h0.fr f342 rfl)) (h1) (by omega) (by omega) (by omega) (by omega) (by omega) (by omega) (by omega) (by omega) (by first | assumption | (unfold isC; omega)) (by omega)) ?_
              intro M359 q365
              obtain ⟨H360, f361, q362, q363, q364⟩ := q365
              have f366 := f342.tr (f361.up rfl)
              obtain ⟨t367, ht368⟩ : ∃ q, q = gi M359 77 37 := ⟨_, rfl⟩
              have b_t367 := H360.2 77 37 0 400 rfl
              rw [← ht368] at b_t367
              obtain ⟨t369, ht370⟩ : ∃ q, q = gi M359 77 39 := ⟨_, rfl⟩
              have b_t369 := (H360.1.int sc_77 (i := 39) (by decide) (by decide) rfl).2
              unfold inR at b_t369; rw [← ht370] at b_t369
              rw [← ht368, ← ht370] at q362
              rw [← ht368] at q363
              rw [← ht370] at q364
              have kM := q362; clear q362
              refine r_goto (tgt := 152) D225_87 rfl ?_
              have g371 : gi M359 77 37 = t367 := ht368.symm
              have g372 : gi M359 77 38 = t345 := (f361.g rfl).trans (ht346.symm)
              have g373 : gi M359 77 39 = t369 := ht370.symm
              exact r_retV D225_152 rfl (⟨H360, f366, by first | (rw [g371]; omega) | rw [g371], by first | (rw [g372]; omega) | rw [g372], by first | (rw [g372, g373]; omega) | rw [g372, g373], by rw [(ht368.symm), ((f361.g rfl).trans (ht346.symm)), (ht370.symm)]; first | exact (RBx.nots i8 (RBx.o4 kn.1 (by omega) (kS.at (by omega) rfl (by omega)) kM)).at rfl rfl (by omega) | exact (RBx.nots i8 (RBx.l4 kn4.1 kL)).at rfl rfl (by omega) | exact (RBx.nots i8 (RBx.cmp kq4 (kS1.at rfl rfl (by omega)) khs kS2)).at rfl rfl (by omega)⟩)
            · have g374 : gi M302 77 37 = t0 := (f304.g rfl).trans (i0)
              have g375 : gi M302 77 38 = lq := (f304.g rfl).trans (i2)
              have g376 : gi M302 77 39 = t310 := ht311.symm
              exact r_retV D225_60 rfl (⟨H303, f309, by first | (rw [g374]; omega) | rw [g374], by first | (rw [g375]; omega) | rw [g375], by first | (rw [g375, g376]; omega) | rw [g375, g376], by rw [((f304.g rfl).trans (i0)), ((f304.g rfl).trans (i2)), (ht311.symm)]; first | exact (RBx.nots i8 (RBx.no (by omega) (by omega) (RR.d4 kn.1 (by omega)))).at rfl rfl (by omega) | (exfalso; omega)⟩)
      · have g377 : gi N 77 37 = t0 := i0
        have g378 : gi N 77 38 = lq := i2
        have g379 : gi N 77 39 = bd := i3
        exact r_retV D225_23 rfl (⟨HN, fN, by first | (rw [g377]; omega) | rw [g377], by first | (rw [g378]; omega) | rw [g378], by first | (rw [g378, g379]; omega) | rw [g378, g379], by rw [(i0), (i2), (i3)]; exact RBx.id (by omega) (by omega) rfl rfl⟩)
    · refine s_blx (lv' := [(0, vR 77), (1, vI deep), (2, vI x2)]) (st' := [vI 10, vR 77]) B225_6_9 rfl ?_
      have g380 : gi N 77 36 = n := i1
      have g381 : gi N 77 37 = t0 := i0
      have g382 : gi N 77 38 = lq := i2
      have g383 : gi N 77 39 = bd := i3
      refine r_vI (c := 77) (args := [vI 10]) (rest := []) (pc' := 12) D225_9 rfl ck_11_virtual_328 TE218 rfl (Nat.le_of_ble_eq_true rfl) ⟨Nat.le_of_ble_eq_true rfl, Nat.le_of_ble_eq_true rfl⟩ sc_77 ⟨rfl, by decide⟩ HN.1 (by omega) (k218p E (by omega) HN 10 9 n t0 bd lq K C V st ((h0.fr fN rfl)) (h1) (by omega) (by omega) (by omega) (by omega) (by omega) (by omega) (by omega) (by omega) (by first | assumption | (unfold isC; omega)) (by omega)) ?_
      intro v384 M385 q393
      obtain ⟨H386, f387, q388, q389, q390, q391, q392⟩ := q393
      have f394 := fN.tr (f387.up rfl)
      obtain ⟨t395, ht396⟩ : ∃ q, q = gi M385 77 37 := ⟨_, rfl⟩
      have b_t395 := H386.2 77 37 0 400 rfl
      rw [← ht396] at b_t395
      rw [← ht396] at q389
      rw [← ht396] at q390
      have kN8 : NTx K deep tok lq t395 := fun r h => i8 r (by rcases (show v384 = 0 ∨ v384 = 1 by omega) with e_ | e_; exact h.at (by omega); exact RR.n4 (by omega) (h.at (by omega)))
      have kK : v384 = 0 → bd ≠ -1 ∨ K t395 ≠ 9 := fun e_ => by rw [show t395 = t0 by omega]; have w_ := q392 e_; omega
      refine s_blx (lv' := [(2, vI v384), (0, vR 77), (1, vI deep)]) (st' := []) B225_12_13 rfl ?_
      refine r_goto (tgt := 2) D225_13 rfl ?_
      refine r_loc (lv' := [(0, vR 77), (1, vI deep), (2, vI v384)]) ⟨rfl, rfl, rfl, trivial⟩ rfl rfl ?_
      have g397 : gi M385 77 37 = t395 := ht396.symm
      have g398 : gi M385 77 36 = n := (f387.g rfl).trans (i1)
      have g399 : gi M385 77 38 = lq := (f387.g rfl).trans (i2)
      have g400 : gi M385 77 39 = bd := (f387.g rfl).trans (i3)
      exact ih v384 t395 M385 H386 f394 (by omega) (by omega) (by omega) (by omega) (by omega) (by omega) (kK) (by omega) (kN8) (by omega) (by omega) (by omega)
set_option maxRecDepth 4000 in
theorem k225p {base : Nat} {X : Nat → Option mC} {G : Nat → Value} (E : EnvOK base X G) {rr : Nat} (ihr : ∀ {d : Nat} (_ : 30 + 3 * rr ≤ d) {M : mH} (_ : HI base M) (deep : Int) (n : Int) (tok : Int) (bd : Int) (lq : Int) (K : Int → Int) (C : Int → Int) (V : Int → Int) (st : Int → Int), (RTx C V st n M) → (KQ K C V n) → (0 ≤ n ∧ n ≤ 400) → (gi M 77 36 = n) → (gi M 77 37 = tok) → (0 ≤ tok ∧ tok ≤ n) → (gi M 77 38 = lq) → (gi M 77 39 = bd) → (0 ≤ lq ∧ lq ≤ 51) → (bd = -1 → lq ≤ 50) → (0 ≤ deep ∧ deep ≤ 8) → 8 - deep < ((rr : Nat) : Int) → sOk base X G d T223 [vR 77, vI deep] M (pV (fun M' => HI base M' ∧ Fr [(77, 38), (77, 39), (77, 40)] M M' ∧ (tok ≤ gi M' 77 37 ∧ gi M' 77 37 ≤ n) ∧ (0 ≤ gi M' 77 38 ∧ gi M' 77 38 ≤ 51) ∧ (gi M' 77 39 = -1 → gi M' 77 38 ≤ 50) ∧ (RBx K st 0 deep tok lq bd (gi M' 77 37) (gi M' 77 38) (gi M' 77 39))))) {d : Nat} (hd : 31 + 3 * rr ≤ d) {M : mH} (H : HI base M) (deep : Int) (n : Int) (tok : Int) (bd : Int) (lq : Int) (K : Int → Int) (C : Int → Int) (V : Int → Int) (st : Int → Int) (h0 : RTx C V st n M) (h1 : KQ K C V n) (h2 : 0 ≤ n ∧ n ≤ 400) (h3 : gi M 77 36 = n) (h4 : gi M 77 37 = tok) (h5 : 0 ≤ tok ∧ tok ≤ n) (h6 : gi M 77 38 = lq) (h7 : gi M 77 39 = bd) (h8 : 0 ≤ lq ∧ lq ≤ 51) (h9 : bd = -1 → lq ≤ 50) (h10 : 0 ≤ deep ∧ deep ≤ 8) (h11 : 8 - deep < (rr : Int) + 1) : sOk base X G d T225 [vR 77, vI deep] M (pV (fun M' => HI base M' ∧ Fr [(77, 38), (77, 39), (77, 40)] M M' ∧ (tok ≤ gi M' 77 37 ∧ gi M' 77 37 ≤ n) ∧ (0 ≤ gi M' 77 38 ∧ gi M' 77 38 ≤ 51) ∧ (gi M' 77 39 = -1 → gi M' 77 38 ≤ 50) ∧ (RBx K st 4 deep tok lq bd (gi M' 77 37) (gi M' 77 38) (gi M' 77 39)))) := by
  have f0 : Fr [(77, 38), (77, 39), (77, 40)] M M := Fr.rf
  refine sOk.of (show sRn base X G d T225 0 [(0, vR 77), (1, vI deep)] [] M _ from ?_)
  refine s_blx (lv' := [(2, vI 1), (0, vR 77), (1, vI deep)]) (st' := []) B225_0_2 rfl ?_
  refine r_loc (lv' := [(0, vR 77), (1, vI deep), (2, vI 1)]) ⟨rfl, rfl, rfl, trivial⟩ rfl rfl ?_
  have g1 : gi M 77 37 = tok := h4
  have g2 : gi M 77 36 = n := h3
  have g3 : gi M 77 38 = lq := h6
  have g4 : gi M 77 39 = bd := h7
  exact (L_k225p E ihr hd H deep n tok bd lq K C V st h0 h1 h2 h3 h4 h5 h6 h7 h8 h9 h10 h11 ((((400 - tok) * 2 + 1) * 1 + 0 : Int) + 1).toNat) 1 tok M H f0 (by omega) (by omega) (by omega) (by omega) (by omega) (by omega) (by omega) (by omega) (fun r h => h) (by omega) (by omega) (by omega)
set_option maxRecDepth 4000 in
theorem L_k224p {base : Nat} {X : Nat → Option mC} {G : Nat → Value} (E : EnvOK base X G) {rr : Nat} (ihr : ∀ {d : Nat} (_ : 30 + 3 * rr ≤ d) {M : mH} (_ : HI base M) (deep : Int) (n : Int) (tok : Int) (bd : Int) (lq : Int) (K : Int → Int) (C : Int → Int) (V : Int → Int) (st : Int → Int), (RTx C V st n M) → (KQ K C V n) → (0 ≤ n ∧ n ≤ 400) → (gi M 77 36 = n) → (gi M 77 37 = tok) → (0 ≤ tok ∧ tok ≤ n) → (gi M 77 38 = lq) → (gi M 77 39 = bd) → (0 ≤ lq ∧ lq ≤ 51) → (bd = -1 → lq ≤ 50) → (0 ≤ deep ∧ deep ≤ 8) → 8 - deep < ((rr : Nat) : Int) → sOk base X G d T223 [vR 77, vI deep] M (pV (fun M' => HI base M' ∧ Fr [(77, 38), (77, 39), (77, 40)] M M' ∧ (tok ≤ gi M' 77 37 ∧ gi M' 77 37 ≤ n) ∧ (0 ≤ gi M' 77 38 ∧ gi M' 77 38 ≤ 51) ∧ (gi M' 77 39 = -1 → gi M' 77 38 ≤ 50) ∧ (RBx K st 0 deep tok lq bd (gi M' 77 37) (gi M' 77 38) (gi M' 77 39))))) {d : Nat} (hd : 32 + 3 * rr ≤ d) {M : mH} (H : HI base M) (deep : Int) (n : Int) (tok : Int) (bd : Int) (lq : Int) (K : Int → Int) (C : Int → Int) (V : Int → Int) (st : Int → Int) (h0 : RTx C V st n M) (h1 : KQ K C V n) (h2 : 0 ≤ n ∧ n ≤ 400) (h3 : gi M 77 36 = n) (h4 : gi M 77 37 = tok) (h5 : 0 ≤ tok ∧ tok ≤ n) (h6 : gi M 77 38 = lq) (h7 : gi M 77 39 = bd) (h8 : 0 ≤ lq ∧ lq ≤ 51) (h9 : bd = -1 → lq ≤ 50) (h10 : 0 ≤ deep ∧ deep ≤ 8) (h11 : 8 - deep < (rr : Int) + 1) : ∀ mz : Nat, (∀ (t0 l0 b0 : Int) (N : mH), HI base N → Fr [(77, 38), (77, 39), (77, 40)] M N → (gi N 77 37 = t0) → (gi N 77 38 = l0) → (gi N 77 39 = b0) → (gi N 77 36 = n) → (tok ≤ t0 ∧ t0 ≤ n) → (0 ≤ l0 ∧ l0 ≤ 51) → (b0 = -1 → l0 ≤ 50) → (LQx K st 2 3 deep tok lq bd t0 l0 b0) → (400 - t0) * 1 + 0 < (mz : Int) → sRn base X G d T224 5 [(0, vR 77), (1, vI deep)] [] N (s_Q base (pV (fun M' => HI base M' ∧ Fr [(77, 38), (77, 39), (77, 40)] M M' ∧ (tok ≤ gi M' 77 37 ∧ gi M' 77 37 ≤ n) ∧ (0 ≤ gi M' 77 38 ∧ gi M' 77 38 ≤ 51) ∧ (gi M' 77 39 = -1 → gi M' 77 38 ≤ 50) ∧ (RBx K st 2 deep tok lq bd (gi M' 77 37) (gi M' 77 38) (gi M' 77 39)))))) := by
  have f0 : Fr [(77, 38), (77, 39), (77, 40)] M M := Fr.rf
  intro mz
  induction mz with
  | zero => exact fun t0 l0 b0 N _ _ z0 z1 z2 z3 z4 z5 z6 z7 z8 => by omega
  | succ mz ih =>
    intro t0 l0 b0 N HN fN i0 i1 i2 i3 i4 i5 i6 i7 hmu
    refine s_blx (lv' := [(0, vR 77), (1, vI deep)]) (st' := [vI 9, vR 77]) B224_5_8 rfl ?_
    have g25 : gi N 77 36 = n := i3
    have g26 : gi N 77 37 = t0 := i0
    have g27 : gi N 77 38 = l0 := i1
    have g28 : gi N 77 39 = b0 := i2
    refine r_vI (c := 77) (args := [vI 9]) (rest := []) (pc' := 11) D224_8 rfl ck_11_virtual_328 TE218 rfl (Nat.le_of_ble_eq_true rfl) ⟨Nat.le_of_ble_eq_true rfl, Nat.le_of_ble_eq_true rfl⟩ sc_77 ⟨rfl, by decide⟩ HN.1 (by omega) (k218p E (by omega) HN 9 8 n t0 b0 l0 K C V st ((h0.fr fN rfl)) (h1) (by omega) (by omega) (by omega) (by omega) (by omega) (by omega) (by omega) (by omega) (by first | assumption | (unfold isC; omega)) (by omega)) ?_
    intro v29 M30 q38
    obtain ⟨H31, f32, q33, q34, q35, q36, q37⟩ := q38
    have f39 := fN.tr (f32.up rfl)
    obtain ⟨t40, ht41⟩ : ∃ q, q = gi M30 77 37 := ⟨_, rfl⟩
    have b_t40 := H31.2 77 37 0 400 rfl
    rw [← ht41] at b_t40
    rw [← ht41] at q34
    rw [← ht41] at q35
    refine r_ifc (tgt := 22) (pc' := 14) D224_11 rfl rfl (by unfold inR; omega) (fun (c42 : v29 = 0) => ?_) (fun (c42 : ¬ (v29 = 0)) => ?_)
    · have g43 : gi M30 77 37 = t40 := ht41.symm
      have g44 : gi M30 77 38 = l0 := (f32.g rfl).trans (i1)
      have g45 : gi M30 77 39 = b0 := (f32.g rfl).trans (i2)
      exact r_retV D224_22 rfl (⟨H31, f39, by first | (rw [g43]; omega) | rw [g43], by first | (rw [g44]; omega) | rw [g44], by first | (rw [g44, g45]; omega) | rw [g44, g45], by rw [(ht41.symm), ((f32.g rfl).trans (i1)), ((f32.g rfl).trans (i2))]; exact (LQx.fin i7 (fun hb => RR.e3 (by omega))).to (by omega) (by omega) (by omega)⟩)
    · refine s_blx (lv' := [(0, vR 77), (1, vI deep)]) (st' := [vI deep, vR 77]) B224_14_16 rfl ?_
      have g46 : gi M30 77 36 = n := (f32.g rfl).trans (i3)
      have g47 : gi M30 77 37 = t40 := ht41.symm
      have g48 : gi M30 77 38 = l0 := (f32.g rfl).trans (i1)
      have g49 : gi M30 77 39 = b0 := (f32.g rfl).trans (i2)
      refine r_vV (c := 77) (args := [vI deep]) (rest := []) (pc' := 19) D224_16 rfl ck_11_virtual_343 TE225 rfl (Nat.le_of_ble_eq_true rfl) ⟨Nat.le_of_ble_eq_true rfl, Nat.le_of_ble_eq_true rfl⟩ sc_77 ⟨rfl, by decide⟩ H31.1 (by omega) (k225p E ihr (by omega) H31 deep n t40 b0 l0 K C V st ((h0.fr f39 rfl)) (h1) (by omega) (by omega) (by omega) (by omega) (by omega) (by omega) (by omega) (by omega) (by omega) (by omega)) ?_
      intro M51 q58
      obtain ⟨H52, f53, q54, q55, q56, q57⟩ := q58
      have f59 := f39.tr (f53.up rfl)
      obtain ⟨t60, ht61⟩ : ∃ q, q = gi M51 77 37 := ⟨_, rfl⟩
      have b_t60 := H52.2 77 37 0 400 rfl
      rw [← ht61] at b_t60
      obtain ⟨t62, ht63⟩ : ∃ q, q = gi M51 77 38 := ⟨_, rfl⟩
      have b_t62 := (H52.1.int sc_77 (i := 38) (by decide) (by decide) rfl).2
      unfold inR at b_t62; rw [← ht63] at b_t62
      obtain ⟨t64, ht65⟩ : ∃ q, q = gi M51 77 39 := ⟨_, rfl⟩
      have b_t64 := (H52.1.int sc_77 (i := 39) (by decide) (by decide) rfl).2
      unfold inR at b_t64; rw [← ht65] at b_t64
      rw [← ht61] at q54
      rw [← ht63] at q55
      rw [← ht63, ← ht65] at q56
      rw [← ht61, ← ht63, ← ht65] at q57
      have kS := q57; clear q57
      refine r_goto (tgt := 5) D224_19 rfl ?_
      refine r_loc (lv' := [(0, vR 77), (1, vI deep)]) ⟨rfl, rfl, trivial⟩ rfl rfl ?_
      have g66 : gi M51 77 37 = t60 := ht61.symm
      have g67 : gi M51 77 38 = t62 := ht63.symm
      have g68 : gi M51 77 39 = t64 := ht65.symm
      have g69 : gi M51 77 36 = n := (f53.g rfl).trans ((f32.g rfl).trans (i3))
      exact ih t60 t62 t64 M51 H52 f59 (by omega) (by omega) (by omega) (by omega) (by omega) (by omega) (by omega) (LQx.stp (fun _ _ _ g1 g2 => RR.m3 (by omega) g1 g2) (fun _ _ g1 => RR.b3 (by omega) g1) i7 (by omega) (kS.at (by omega) (by omega) (by omega))) (by omega)
set_option maxRecDepth 4000 in
theorem k224p {base : Nat} {X : Nat → Option mC} {G : Nat → Value} (E : EnvOK base X G) {rr : Nat} (ihr : ∀ {d : Nat} (_ : 30 + 3 * rr ≤ d) {M : mH} (_ : HI base M) (deep : Int) (n : Int) (tok : Int) (bd : Int) (lq : Int) (K : Int → Int) (C : Int → Int) (V : Int → Int) (st : Int → Int), (RTx C V st n M) → (KQ K C V n) → (0 ≤ n ∧ n ≤ 400) → (gi M 77 36 = n) → (gi M 77 37 = tok) → (0 ≤ tok ∧ tok ≤ n) → (gi M 77 38 = lq) → (gi M 77 39 = bd) → (0 ≤ lq ∧ lq ≤ 51) → (bd = -1 → lq ≤ 50) → (0 ≤ deep ∧ deep ≤ 8) → 8 - deep < ((rr : Nat) : Int) → sOk base X G d T223 [vR 77, vI deep] M (pV (fun M' => HI base M' ∧ Fr [(77, 38), (77, 39), (77, 40)] M M' ∧ (tok ≤ gi M' 77 37 ∧ gi M' 77 37 ≤ n) ∧ (0 ≤ gi M' 77 38 ∧ gi M' 77 38 ≤ 51) ∧ (gi M' 77 39 = -1 → gi M' 77 38 ≤ 50) ∧ (RBx K st 0 deep tok lq bd (gi M' 77 37) (gi M' 77 38) (gi M' 77 39))))) {d : Nat} (hd : 32 + 3 * rr ≤ d) {M : mH} (H : HI base M) (deep : Int) (n : Int) (tok : Int) (bd : Int) (lq : Int) (K : Int → Int) (C : Int → Int) (V : Int → Int) (st : Int → Int) (h0 : RTx C V st n M) (h1 : KQ K C V n) (h2 : 0 ≤ n ∧ n ≤ 400) (h3 : gi M 77 36 = n) (h4 : gi M 77 37 = tok) (h5 : 0 ≤ tok ∧ tok ≤ n) (h6 : gi M 77 38 = lq) (h7 : gi M 77 39 = bd) (h8 : 0 ≤ lq ∧ lq ≤ 51) (h9 : bd = -1 → lq ≤ 50) (h10 : 0 ≤ deep ∧ deep ≤ 8) (h11 : 8 - deep < (rr : Int) + 1) : sOk base X G d T224 [vR 77, vI deep] M (pV (fun M' => HI base M' ∧ Fr [(77, 38), (77, 39), (77, 40)] M M' ∧ (tok ≤ gi M' 77 37 ∧ gi M' 77 37 ≤ n) ∧ (0 ≤ gi M' 77 38 ∧ gi M' 77 38 ≤ 51) ∧ (gi M' 77 39 = -1 → gi M' 77 38 ≤ 50) ∧ (RBx K st 2 deep tok lq bd (gi M' 77 37) (gi M' 77 38) (gi M' 77 39)))) := by
  have f0 : Fr [(77, 38), (77, 39), (77, 40)] M M := Fr.rf
  refine sOk.of (show sRn base X G d T224 0 [(0, vR 77), (1, vI deep)] [] M _ from ?_)
  refine s_blx (lv' := [(0, vR 77), (1, vI deep)]) (st' := [vI deep, vR 77]) B224_0_2 rfl ?_
  have g1 : gi M 77 36 = n := h3
  have g2 : gi M 77 37 = tok := h4
  have g3 : gi M 77 38 = lq := h6
  have g4 : gi M 77 39 = bd := h7
  refine r_vV (c := 77) (args := [vI deep]) (rest := []) (pc' := 5) D224_2 rfl ck_11_virtual_343 TE225 rfl (Nat.le_of_ble_eq_true rfl) ⟨Nat.le_of_ble_eq_true rfl, Nat.le_of_ble_eq_true rfl⟩ sc_77 ⟨rfl, by decide⟩ H.1 (by omega) (k225p E ihr (by omega) H deep n tok bd lq K C V st (h0) (h1) (by omega) (by omega) (by omega) (by omega) (by omega) (by omega) (by omega) (by omega) (by omega) (by omega)) ?_
  intro M6 q13
  obtain ⟨H7, f8, q9, q10, q11, q12⟩ := q13
  have f14 := f0.tr (f8.up rfl)
  obtain ⟨t15, ht16⟩ : ∃ q, q = gi M6 77 37 := ⟨_, rfl⟩
  have b_t15 := H7.2 77 37 0 400 rfl
  rw [← ht16] at b_t15
  obtain ⟨t17, ht18⟩ : ∃ q, q = gi M6 77 38 := ⟨_, rfl⟩
  have b_t17 := (H7.1.int sc_77 (i := 38) (by decide) (by decide) rfl).2
  unfold inR at b_t17; rw [← ht18] at b_t17
  obtain ⟨t19, ht20⟩ : ∃ q, q = gi M6 77 39 := ⟨_, rfl⟩
  have b_t19 := (H7.1.int sc_77 (i := 39) (by decide) (by decide) rfl).2
  unfold inR at b_t19; rw [← ht20] at b_t19
  rw [← ht16] at q9
  rw [← ht18] at q10
  rw [← ht18, ← ht20] at q11
  rw [← ht16, ← ht18, ← ht20] at q12
  have kS := q12; clear q12
  refine r_loc (lv' := [(0, vR 77), (1, vI deep)]) ⟨rfl, rfl, trivial⟩ rfl rfl ?_
  have g21 : gi M6 77 37 = t15 := ht16.symm
  have g22 : gi M6 77 38 = t17 := ht18.symm
  have g23 : gi M6 77 39 = t19 := ht20.symm
  have g24 : gi M6 77 36 = n := (f8.g rfl).trans (h3)
  exact (L_k224p E ihr hd H deep n tok bd lq K C V st h0 h1 h2 h3 h4 h5 h6 h7 h8 h9 h10 h11 (((400 - t15) * 1 + 0 : Int) + 1).toNat) t15 t17 t19 M6 H7 f14 (by omega) (by omega) (by omega) (by omega) (by omega) (by omega) (by omega) (LQx.ini (fun _ _ _ g1 g2 => RR.m2 g1 g2) (fun _ _ g1 => RR.b2 g1) kS) (by omega)
set_option maxRecDepth 4000 in
theorem L_k223p {base : Nat} {X : Nat → Option mC} {G : Nat → Value} (E : EnvOK base X G) {rr : Nat} (ihr : ∀ {d : Nat} (_ : 30 + 3 * rr ≤ d) {M : mH} (_ : HI base M) (deep : Int) (n : Int) (tok : Int) (bd : Int) (lq : Int) (K : Int → Int) (C : Int → Int) (V : Int → Int) (st : Int → Int), (RTx C V st n M) → (KQ K C V n) → (0 ≤ n ∧ n ≤ 400) → (gi M 77 36 = n) → (gi M 77 37 = tok) → (0 ≤ tok ∧ tok ≤ n) → (gi M 77 38 = lq) → (gi M 77 39 = bd) → (0 ≤ lq ∧ lq ≤ 51) → (bd = -1 → lq ≤ 50) → (0 ≤ deep ∧ deep ≤ 8) → 8 - deep < ((rr : Nat) : Int) → sOk base X G d T223 [vR 77, vI deep] M (pV (fun M' => HI base M' ∧ Fr [(77, 38), (77, 39), (77, 40)] M M' ∧ (tok ≤ gi M' 77 37 ∧ gi M' 77 37 ≤ n) ∧ (0 ≤ gi M' 77 38 ∧ gi M' 77 38 ≤ 51) ∧ (gi M' 77 39 = -1 → gi M' 77 38 ≤ 50) ∧ (RBx K st 0 deep tok lq bd (gi M' 77 37) (gi M' 77 38) (gi M' 77 39))))) {d : Nat} (hd : 30 + 3 * (rr + 1) ≤ d) {M : mH} (H : HI base M) (deep : Int) (n : Int) (tok : Int) (bd : Int) (lq : Int) (K : Int → Int) (C : Int → Int) (V : Int → Int) (st : Int → Int) (h0 : RTx C V st n M) (h1 : KQ K C V n) (h2 : 0 ≤ n ∧ n ≤ 400) (h3 : gi M 77 36 = n) (h4 : gi M 77 37 = tok) (h5 : 0 ≤ tok ∧ tok ≤ n) (h6 : gi M 77 38 = lq) (h7 : gi M 77 39 = bd) (h8 : 0 ≤ lq ∧ lq ≤ 51) (h9 : bd = -1 → lq ≤ 50) (h10 : 0 ≤ deep ∧ deep ≤ 8) (hrr : 8 - deep < ((rr + 1 : Nat) : Int)) : ∀ mz : Nat, (∀ (t0 l0 b0 : Int) (N : mH), HI base N → Fr [(77, 38), (77, 39), (77, 40)] M N → (gi N 77 37 = t0) → (gi N 77 38 = l0) → (gi N 77 39 = b0) → (gi N 77 36 = n) → (tok ≤ t0 ∧ t0 ≤ n) → (0 ≤ l0 ∧ l0 ≤ 51) → (b0 = -1 → l0 ≤ 50) → (LQx K st 0 1 deep tok lq bd t0 l0 b0) → (400 - t0) * 1 + 0 < (mz : Int) → sRn base X G d T223 5 [(0, vR 77), (1, vI deep)] [] N (s_Q base (pV (fun M' => HI base M' ∧ Fr [(77, 38), (77, 39), (77, 40)] M M' ∧ (tok ≤ gi M' 77 37 ∧ gi M' 77 37 ≤ n) ∧ (0 ≤ gi M' 77 38 ∧ gi M' 77 38 ≤ 51) ∧ (gi M' 77 39 = -1 → gi M' 77 38 ≤ 50) ∧ (RBx K st 0 deep tok lq bd (gi M' 77 37) (gi M' 77 38) (gi M' 77 39)))))) := by
  have f0 : Fr [(77, 38), (77, 39), (77, 40)] M M := Fr.rf
  intro mz
  induction mz with
  | zero => exact fun t0 l0 b0 N _ _ z0 z1 z2 z3 z4 z5 z6 z7 z8 => by omega
  | succ mz ih =>
    intro t0 l0 b0 N HN fN i0 i1 i2 i3 i4 i5 i6 i7 hmu
    refine s_blx (lv' := [(0, vR 77), (1, vI deep)]) (st' := [vI 8, vR 77]) B223_5_8 rfl ?_
    have g25 : gi N 77 36 = n := i3
    have g26 : gi N 77 37 = t0 := i0
    have g27 : gi N 77 38 = l0 := i1
    have g28 : gi N 77 39 = b0 := i2
    refine r_vI (c := 77) (args := [vI 8]) (rest := []) (pc' := 11) D223_8 rfl ck_11_virtual_328 TE218 rfl (Nat.le_of_ble_eq_true rfl) ⟨Nat.le_of_ble_eq_true rfl, Nat.le_of_ble_eq_true rfl⟩ sc_77 ⟨rfl, by decide⟩ HN.1 (by omega) (k218p E (by omega) HN 8 7 n t0 b0 l0 K C V st ((h0.fr fN rfl)) (h1) (by omega) (by omega) (by omega) (by omega) (by omega) (by omega) (by omega) (by omega) (by first | assumption | (unfold isC; omega)) (by omega)) ?_
    intro v29 M30 q38
    obtain ⟨H31, f32, q33, q34, q35, q36, q37⟩ := q38
    have f39 := fN.tr (f32.up rfl)
    obtain ⟨t40, ht41⟩ : ∃ q, q = gi M30 77 37 := ⟨_, rfl⟩
    have b_t40 := H31.2 77 37 0 400 rfl
    rw [← ht41] at b_t40
    rw [← ht41] at q34
    rw [← ht41] at q35
    refine r_ifc (tgt := 22) (pc' := 14) D223_11 rfl rfl (by unfold inR; omega) (fun (c42 : v29 = 0) => ?_) (fun (c42 : ¬ (v29 = 0)) => ?_)
    · have g43 : gi M30 77 37 = t40 := ht41.symm
      have g44 : gi M30 77 38 = l0 := (f32.g rfl).trans (i1)
      have g45 : gi M30 77 39 = b0 := (f32.g rfl).trans (i2)
      exact r_retV D223_22 rfl (⟨H31, f39, by first | (rw [g43]; omega) | rw [g43], by first | (rw [g44]; omega) | rw [g44], by first | (rw [g44, g45]; omega) | rw [g44, g45], by rw [(ht41.symm), ((f32.g rfl).trans (i1)), ((f32.g rfl).trans (i2))]; exact (LQx.fin i7 (fun hb => RR.e1 (by omega))).to (by omega) (by omega) (by omega)⟩)
    · refine s_blx (lv' := [(0, vR 77), (1, vI deep)]) (st' := [vI deep, vR 77]) B223_14_16 rfl ?_
      have g46 : gi M30 77 36 = n := (f32.g rfl).trans (i3)
      have g47 : gi M30 77 37 = t40 := ht41.symm
      have g48 : gi M30 77 38 = l0 := (f32.g rfl).trans (i1)
      have g49 : gi M30 77 39 = b0 := (f32.g rfl).trans (i2)
      refine r_vV (c := 77) (args := [vI deep]) (rest := []) (pc' := 19) D223_16 rfl ck_11_virtual_340 TE224 rfl (Nat.le_of_ble_eq_true rfl) ⟨Nat.le_of_ble_eq_true rfl, Nat.le_of_ble_eq_true rfl⟩ sc_77 ⟨rfl, by decide⟩ H31.1 (by omega) (k224p E ihr (by omega) H31 deep n t40 b0 l0 K C V st ((h0.fr f39 rfl)) (h1) (by omega) (by omega) (by omega) (by omega) (by omega) (by omega) (by omega) (by omega) (by omega) (by omega)) ?_
      intro M51 q58
      obtain ⟨H52, f53, q54, q55, q56, q57⟩ := q58
      have f59 := f39.tr (f53.up rfl)
      obtain ⟨t60, ht61⟩ : ∃ q, q = gi M51 77 37 := ⟨_, rfl⟩
      have b_t60 := H52.2 77 37 0 400 rfl
      rw [← ht61] at b_t60
      obtain ⟨t62, ht63⟩ : ∃ q, q = gi M51 77 38 := ⟨_, rfl⟩
      have b_t62 := (H52.1.int sc_77 (i := 38) (by decide) (by decide) rfl).2
      unfold inR at b_t62; rw [← ht63] at b_t62
      obtain ⟨t64, ht65⟩ : ∃ q, q = gi M51 77 39 := ⟨_, rfl⟩
      have b_t64 := (H52.1.int sc_77 (i := 39) (by decide) (by decide) rfl).2
      unfold inR at b_t64; rw [← ht65] at b_t64
      rw [← ht61] at q54
      rw [← ht63] at q55
      rw [← ht63, ← ht65] at q56
      rw [← ht61, ← ht63, ← ht65] at q57
      have kS := q57; clear q57
      refine r_goto (tgt := 5) D223_19 rfl ?_
      refine r_loc (lv' := [(0, vR 77), (1, vI deep)]) ⟨rfl, rfl, trivial⟩ rfl rfl ?_
      have g66 : gi M51 77 37 = t60 := ht61.symm
      have g67 : gi M51 77 38 = t62 := ht63.symm
      have g68 : gi M51 77 39 = t64 := ht65.symm
      have g69 : gi M51 77 36 = n := (f53.g rfl).trans ((f32.g rfl).trans (i3))
      exact ih t60 t62 t64 M51 H52 f59 (by omega) (by omega) (by omega) (by omega) (by omega) (by omega) (by omega) (LQx.stp (fun _ _ _ g1 g2 => RR.m1 (by omega) g1 g2) (fun _ _ g1 => RR.b1 (by omega) g1) i7 (by omega) (kS.at (by omega) (by omega) (by omega))) (by omega)
set_option maxRecDepth 4000 in
theorem k223pr {base : Nat} {X : Nat → Option mC} {G : Nat → Value} (E : EnvOK base X G) : ∀ rr : Nat, ∀ {d : Nat} (_ : 30 + 3 * rr ≤ d) {M : mH} (_ : HI base M) (deep : Int) (n : Int) (tok : Int) (bd : Int) (lq : Int) (K : Int → Int) (C : Int → Int) (V : Int → Int) (st : Int → Int), (RTx C V st n M) → (KQ K C V n) → (0 ≤ n ∧ n ≤ 400) → (gi M 77 36 = n) → (gi M 77 37 = tok) → (0 ≤ tok ∧ tok ≤ n) → (gi M 77 38 = lq) → (gi M 77 39 = bd) → (0 ≤ lq ∧ lq ≤ 51) → (bd = -1 → lq ≤ 50) → (0 ≤ deep ∧ deep ≤ 8) → 8 - deep < ((rr : Nat) : Int) → sOk base X G d T223 [vR 77, vI deep] M (pV (fun M' => HI base M' ∧ Fr [(77, 38), (77, 39), (77, 40)] M M' ∧ (tok ≤ gi M' 77 37 ∧ gi M' 77 37 ≤ n) ∧ (0 ≤ gi M' 77 38 ∧ gi M' 77 38 ≤ 51) ∧ (gi M' 77 39 = -1 → gi M' 77 38 ≤ 50) ∧ (RBx K st 0 deep tok lq bd (gi M' 77 37) (gi M' 77 38) (gi M' 77 39)))) := by
  intro rr
  induction rr with
  | zero => intro d hd M H deep n tok bd lq K C V st h0 h1 h2 h3 h4 h5 h6 h7 h8 h9 h10 hrr; exfalso; omega
  | succ rr ihr =>
  intro d hd M H deep n tok bd lq K C V st h0 h1 h2 h3 h4 h5 h6 h7 h8 h9 h10 hrr
  have f0 : Fr [(77, 38), (77, 39), (77, 40)] M M := Fr.rf
  refine sOk.of (show sRn base X G d T223 0 [(0, vR 77), (1, vI deep)] [] M _ from ?_)
  refine s_blx (lv' := [(0, vR 77), (1, vI deep)]) (st' := [vI deep, vR 77]) B223_0_2 rfl ?_
  have g1 : gi M 77 36 = n := h3
  have g2 : gi M 77 37 = tok := h4
  have g3 : gi M 77 38 = lq := h6
  have g4 : gi M 77 39 = bd := h7
  refine r_vV (c := 77) (args := [vI deep]) (rest := []) (pc' := 5) D223_2 rfl ck_11_virtual_340 TE224 rfl (Nat.le_of_ble_eq_true rfl) ⟨Nat.le_of_ble_eq_true rfl, Nat.le_of_ble_eq_true rfl⟩ sc_77 ⟨rfl, by decide⟩ H.1 (by omega) (k224p E ihr (by omega) H deep n tok bd lq K C V st (h0) (h1) (by omega) (by omega) (by omega) (by omega) (by omega) (by omega) (by omega) (by omega) (by omega) (by omega)) ?_
  intro M6 q13
  obtain ⟨H7, f8, q9, q10, q11, q12⟩ := q13
  have f14 := f0.tr (f8.up rfl)
  obtain ⟨t15, ht16⟩ : ∃ q, q = gi M6 77 37 := ⟨_, rfl⟩
  have b_t15 := H7.2 77 37 0 400 rfl
  rw [← ht16] at b_t15
  obtain ⟨t17, ht18⟩ : ∃ q, q = gi M6 77 38 := ⟨_, rfl⟩
  have b_t17 := (H7.1.int sc_77 (i := 38) (by decide) (by decide) rfl).2
  unfold inR at b_t17; rw [← ht18] at b_t17
  obtain ⟨t19, ht20⟩ : ∃ q, q = gi M6 77 39 := ⟨_, rfl⟩
  have b_t19 := (H7.1.int sc_77 (i := 39) (by decide) (by decide) rfl).2
  unfold inR at b_t19; rw [← ht20] at b_t19
  rw [← ht16] at q9
  rw [← ht18] at q10
  rw [← ht18, ← ht20] at q11
  rw [← ht16, ← ht18, ← ht20] at q12
  have kS := q12; clear q12
  refine r_loc (lv' := [(0, vR 77), (1, vI deep)]) ⟨rfl, rfl, trivial⟩ rfl rfl ?_
  have g21 : gi M6 77 37 = t15 := ht16.symm
  have g22 : gi M6 77 38 = t17 := ht18.symm
  have g23 : gi M6 77 39 = t19 := ht20.symm
  have g24 : gi M6 77 36 = n := (f8.g rfl).trans (h3)
  exact (L_k223p E ihr hd H deep n tok bd lq K C V st h0 h1 h2 h3 h4 h5 h6 h7 h8 h9 h10 hrr (((400 - t15) * 1 + 0 : Int) + 1).toNat) t15 t17 t19 M6 H7 f14 (by omega) (by omega) (by omega) (by omega) (by omega) (by omega) (by omega) (LQx.ini (fun _ _ _ g1 g2 => RR.m0 g1 g2) (fun _ _ g1 => RR.b0 g1) kS) (by omega)
theorem k223p {base : Nat} {X : Nat → Option mC} {G : Nat → Value} (E : EnvOK base X G) {d : Nat} (hd : 57 ≤ d) {M : mH} (H : HI base M) (deep : Int) (n : Int) (tok : Int) (bd : Int) (lq : Int) (K : Int → Int) (C : Int → Int) (V : Int → Int) (st : Int → Int) (h0 : RTx C V st n M) (h1 : KQ K C V n) (h2 : 0 ≤ n ∧ n ≤ 400) (h3 : gi M 77 36 = n) (h4 : gi M 77 37 = tok) (h5 : 0 ≤ tok ∧ tok ≤ n) (h6 : gi M 77 38 = lq) (h7 : gi M 77 39 = bd) (h8 : 0 ≤ lq ∧ lq ≤ 51) (h9 : bd = -1 → lq ≤ 50) (h10 : 0 ≤ deep ∧ deep ≤ 8) : sOk base X G d T223 [vR 77, vI deep] M (pV (fun M' => HI base M' ∧ Fr [(77, 38), (77, 39), (77, 40)] M M' ∧ (tok ≤ gi M' 77 37 ∧ gi M' 77 37 ≤ n) ∧ (0 ≤ gi M' 77 38 ∧ gi M' 77 38 ≤ 51) ∧ (gi M' 77 39 = -1 → gi M' 77 38 ≤ 50) ∧ (RBx K st 0 deep tok lq bd (gi M' 77 37) (gi M' 77 38) (gi M' 77 39)))) := k223pr E 9 (by omega) H deep n tok bd lq K C V st h0 h1 h2 h3 h4 h5 h6 h7 h8 h9 h10 (by omega)
