set_option maxRecDepth 4000 in
set_option maxHeartbeats 4000000 in
theorem L_k246k {base : Nat} {X : Nat → Option mC} {G : Nat → Value} (E : EnvOK base X G) {d : Nat} (hd : 68 ≤ d) {M : mH} (H : HI base M) (text : Int) (said : Int) (second : Int) (K : Int → Int) (mk : Int) (zz : Int) (wh : Int) (ov : Int) (U : Int → Int) (A : Int → Int) (O : Int → Int) (h0 : TB M) (h1 : KK K M) (h2 : GK M) (h3 : C3 84 U M) (h4 : C3 83 A M) (h5 : C3 85 O M) (h6 : gi M 77 9 = ov) (h7 : 0 ≤ ov ∧ ov ≤ 1) (h8 : gi M 77 6 = zz) (h9 : gi M 77 8 = wh) (h10 : 1 ≤ wh ∧ wh ≤ 2147483647) (h11 : -2147483648 ≤ zz ∧ zz ≤ 2147483647) (h12 : bt zz mk) (h13 : 0 ≤ mk ∧ mk ≤ 15) (h14 : mk < K 469) (h15 : 1 ≤ K (135 + 16 * mk + 12 + K 474)) (h16 : 0 ≤ text ∧ text < K 471) (h17 : text ≤ 7) (h18 : 0 ≤ said ∧ said ≤ 1110) (h19 : -2147483648 ≤ second ∧ second ≤ 2147483647) : ∀ mz : Nat, (∀ (a e g0 : Int) (F C : Int → Int) (N : mH), HI base N → Fr [(77, 14), (77, 15), (77, 16), (77, 41), (77, 42), (77, 43), (100, 0)] M N → (KC C N) → (∀ j : Int, a ≤ j → j < e → F (j + 1) = dl (F j) (C j) ∧ F (j + 1) ≠ 0) → (F e = 2 ∨ F e = 20 ∨ F e = 2001) → (gi N 77 41 = e) → (0 ≤ a ∧ e ≤ 3200) → (gi N 77 40 = g0) → (a ≤ g0 ∧ g0 ≤ e + 1) → (g0 < e → F g0 = 1) → (gi N 77 9 = ov) → (gi N 77 6 = zz) → (3201 - g0) * 1 + 0 < (mz : Int) → sRn base X G d T246 34 [(0, vR 77), (2, vI said)] [] N (s_Q base (pI (fun v M' => HI base M' ∧ Fr [(77, 14), (77, 15), (77, 16), (77, 41), (77, 42), (77, 43), (100, 0)] M M' ∧ (LG (K 473) ov U A O said v) ∧ ((0 ≤ v ∧ v ≤ 4) ∨ (10 ≤ v ∧ v ≤ 17) ∨ (20 ≤ v ∧ v ≤ 22)))))) := by
  have f0 : Fr [(77, 14), (77, 15), (77, 16), (77, 41), (77, 42), (77, 43), (100, 0)] M M := Fr.rf
  intro mz
  induction mz with
  | zero => exact fun a e g0 F C N _ _ z0 z1 z2 z3 z4 z5 z6 z7 z8 z9 z10 => by omega
  | succ mz ih =>
    intro a e g0 F C N HN fN i0 i1 i2 i3 i4 i5 i6 i7 i8 i9 hmu
    refine s_blx (lv' := [(0, vR 77), (2, vI said)]) (st' := [vR 77]) B246_34_35 rfl ?_
    refine r_gint (ki := 40) (pc' := 38) D246_35 rfl gf_11_378_77 rfl HN.1 ?_
    intro w31 e32 r33
    have e34 : g0 = w31 := (e32.trans (i5)).symm
    subst e34
    refine s_blx (lv' := [(0, vR 77), (2, vI said)]) (st' := [vR 77, vI g0]) B246_38_39 rfl ?_
    refine r_gint (ki := 41) (pc' := 42) D246_39 rfl gf_11_375_77 rfl HN.1 ?_
    intro w35 e36 r37
    have e38 : e = w35 := (e36.trans (i3)).symm
    subst e38
    refine r_icmp (tgt := 162) (pc' := 45) D246_42 rfl rfl (by unfold inR; omega) (fun (c39 : e ≤ g0) => ?_) (fun (c39 : ¬ (e ≤ g0)) => ?_)
    · refine s_blx (lv' := [(0, vR 77), (2, vI said)]) (st' := [vI 1, vI said, vR 77]) B246_162_165 rfl ?_
      have kord165 := ((h1.fr fN rfl)) 473
      have g40 : gi N 77 9 = ov := i8
      refine r_vI (c := 77) (args := [vI said, vI 1]) (rest := []) (pc' := 168) D246_165 rfl ck_11_virtual_240 TE188 rfl (Nat.le_of_ble_eq_true rfl) ⟨Nat.le_of_ble_eq_true rfl, Nat.le_of_ble_eq_true rfl⟩ sc_77 ⟨rfl, by decide⟩ HN.1 (dp_0 hd rfl) (k188f E (dp_n hd rfl) HN said 1 (K 473) ov U A O ((h0.fr fN rfl)) ((h3.fr fN rfl)) ((h4.fr fN rfl)) ((h5.fr fN rfl)) (by omega) (by omega) (by omega) (by omega) (by omega) (by omega) (by omega)) ?_
      intro v41 M42 q50
      obtain ⟨H43, f44, q45, q46, q47, q48, q49⟩ := q50
      have f51 := fN.tr (f44.up rfl)
      have hp52 := i0.fr f44 (by decide)
      obtain ⟨t53, ht54⟩ : ∃ q, q = gi M42 77 14 := ⟨_, rfl⟩
      have b_t53 := H43.2 77 14 0 1110 rfl
      rw [← ht54] at b_t53
      rw [← ht54] at q48
      rw [← ht54] at q49
      have kl1 := q46
      have kn1 := q47
      clear q46 q47 q48 q49
      refine r_ifc (tgt := 175) (pc' := 171) D246_168 rfl rfl (by unfold inR; omega) (fun (c55 : v41 = 0) => ?_) (fun (c55 : ¬ (v41 = 0)) => ?_)
      · refine s_blx (lv' := [(0, vR 77), (2, vI said)]) (st' := [vI 0, vI said, vR 77]) B246_175_178 rfl ?_
        have kord178 := ((h1.fr f51 rfl)) 473
        have g56 : gi M42 78 473 = gi N 78 473 := (f44.g rfl).trans (rfl)
        have g57 : gi M42 77 9 = ov := (f44.g rfl).trans (i8)
        refine r_vI (c := 77) (args := [vI said, vI 0]) (rest := []) (pc' := 181) D246_178 rfl ck_11_virtual_240 TE188 rfl (Nat.le_of_ble_eq_true rfl) ⟨Nat.le_of_ble_eq_true rfl, Nat.le_of_ble_eq_true rfl⟩ sc_77 ⟨rfl, by decide⟩ H43.1 (dp_0 hd rfl) (k188f E (dp_n hd rfl) H43 said 0 (K 473) ov U A O ((h0.fr f51 rfl)) ((h3.fr f51 rfl)) ((h4.fr f51 rfl)) ((h5.fr f51 rfl)) (by omega) (by omega) (by omega) (by omega) (by omega) (by omega) (by omega)) ?_
        intro v58 M59 q67
        obtain ⟨H60, f61, q62, q63, q64, q65, q66⟩ := q67
        have f68 := f51.tr (f61.up rfl)
        have hp69 := hp52.fr f61 (by decide)
        obtain ⟨t70, ht71⟩ : ∃ q, q = gi M59 77 14 := ⟨_, rfl⟩
        have b_t70 := H60.2 77 14 0 1110 rfl
        rw [← ht71] at b_t70
        rw [← ht71] at q65
        rw [← ht71] at q66
        have kl0 := q63
        have kn0 := q64
        clear q63 q64 q65 q66
        refine r_ifc (tgt := 188) (pc' := 184) D246_181 rfl rfl (by unfold inR; omega) (fun (c72 : v58 = 0) => ?_) (fun (c72 : ¬ (v58 = 0)) => ?_)
        · refine s_blx (lv' := [(0, vR 77), (2, vI said)]) (st' := [vI 4, vI said, vR 77]) B246_188_191 rfl ?_
          have kord191 := ((h1.fr f68 rfl)) 473
          have g73 : gi M59 78 473 = gi N 78 473 := (f61.g rfl).trans ((f44.g rfl).trans (rfl))
          have g74 : gi M59 77 9 = ov := (f61.g rfl).trans ((f44.g rfl).trans (i8))
          refine r_vI (c := 77) (args := [vI said, vI 4]) (rest := []) (pc' := 194) D246_191 rfl ck_11_virtual_240 TE188 rfl (Nat.le_of_ble_eq_true rfl) ⟨Nat.le_of_ble_eq_true rfl, Nat.le_of_ble_eq_true rfl⟩ sc_77 ⟨rfl, by decide⟩ H60.1 (dp_0 hd rfl) (k188f E (dp_n hd rfl) H60 said 4 (K 473) ov U A O ((h0.fr f68 rfl)) ((h3.fr f68 rfl)) ((h4.fr f68 rfl)) ((h5.fr f68 rfl)) (by omega) (by omega) (by omega) (by omega) (by omega) (by omega) (by omega)) ?_
          intro v75 M76 q84
          obtain ⟨H77, f78, q79, q80, q81, q82, q83⟩ := q84
          have f85 := f68.tr (f78.up rfl)
          have hp86 := hp69.fr f78 (by decide)
          obtain ⟨t87, ht88⟩ : ∃ q, q = gi M76 77 14 := ⟨_, rfl⟩
          have b_t87 := H77.2 77 14 0 1110 rfl
          rw [← ht88] at b_t87
          rw [← ht88] at q82
          rw [← ht88] at q83
          have kl4 := q80
          have kn4 := q81
          clear q80 q81 q82 q83
          refine r_ifc (tgt := 201) (pc' := 197) D246_194 rfl rfl (by unfold inR; omega) (fun (c89 : v75 = 0) => ?_) (fun (c89 : ¬ (v75 = 0)) => ?_)
          · refine s_blx (lv' := [(0, vR 77), (2, vI said)]) (st' := [vI 3]) B246_201_202 rfl ?_
            exact r_iretI D246_202 rfl (⟨H77, f85, by first | exact kl1 (by omega) | exact kl0 (by omega) | exact kl4 (by omega) | exact LG_3 (fun h => kn4 (by omega) ((LG_4 rfl).mpr ⟨(by have z : ¬ ov = 0 := (fun z => kn0 (by omega) ((LG_0 rfl).mpr z)); omega), h⟩)) rfl, by omega⟩)
          · refine s_blx (lv' := [(0, vR 77), (2, vI said)]) (st' := [vI 4]) B246_197_198 rfl ?_
            refine r_goto (tgt := 202) D246_198 rfl ?_
            exact r_iretI D246_202 rfl (⟨H77, f85, by first | exact kl1 (by omega) | exact kl0 (by omega) | exact kl4 (by omega) | exact LG_3 (fun h => kn4 (by omega) ((LG_4 rfl).mpr ⟨(by have z : ¬ ov = 0 := (fun z => kn0 (by omega) ((LG_0 rfl).mpr z)); omega), h⟩)) rfl, by omega⟩)
        · refine s_blx (lv' := [(0, vR 77), (2, vI said)]) (st' := [vI 0]) B246_184_185 rfl ?_
          refine r_goto (tgt := 202) D246_185 rfl ?_
          exact r_iretI D246_202 rfl (⟨H60, f68, by first | exact kl1 (by omega) | exact kl0 (by omega) | exact kl4 (by omega) | exact LG_3 (fun h => kn4 (by omega) ((LG_4 rfl).mpr ⟨(by have z : ¬ ov = 0 := (fun z => kn0 (by omega) ((LG_0 rfl).mpr z)); omega), h⟩)) rfl, by omega⟩)
      · refine s_blx (lv' := [(0, vR 77), (2, vI said)]) (st' := [vI 1]) B246_171_172 rfl ?_
        refine r_goto (tgt := 202) D246_172 rfl ?_
        exact r_iretI D246_202 rfl (⟨H43, f51, by first | exact kl1 (by omega) | exact kl0 (by omega) | exact kl4 (by omega) | exact LG_3 (fun h => kn4 (by omega) ((LG_4 rfl).mpr ⟨(by have z : ¬ ov = 0 := (fun z => kn0 (by omega) ((LG_0 rfl).mpr z)); omega), h⟩)) rfl, by omega⟩)
    · refine s_blx (lv' := [(0, vR 77), (2, vI said)]) (st' := [vI 0, vR 77]) B246_45_47 rfl ?_
      refine r_pbool (ki := 42) (pc' := 50) D246_47 rfl pf_11_388_77 rfl HN (by omega) (show 0 ≤ 0 ∧ 0 ≤ 1 by omega) ?_
      intro M90 u91 H92 p93
      have f94 := fN.wr u91 rfl
      have hp95 := i0.wr u91 (by decide)
      refine s_blx (lv' := [(0, vR 77), (2, vI said)]) (st' := [vR 77, vR 77]) B246_50_52 rfl ?_
      refine r_gint (ki := 40) (pc' := 55) D246_52 rfl gf_11_378_77 rfl H92.1 ?_
      intro w96 e97 r98
      have e99 : g0 = w96 := (e97.trans ((u91.gi_ne (by decide) (Or.inr (by decide))).trans (i5))).symm
      subst e99
      have g100 : gi M90 77 41 = e := (u91.gi_ne (by decide) (Or.inr (by decide))).trans (i3)
      refine r_vIp (c := 77) (args := [vI g0]) (rest := []) (pc' := 58) D246_55 rfl ck_11_virtual_381 TE232 rfl (Nat.le_of_ble_eq_true rfl) ⟨Nat.le_of_ble_eq_true rfl, Nat.le_of_ble_eq_true rfl⟩ sc_77 ⟨rfl, by decide⟩ H92.1 (dp_0 hd rfl) (k232x E (dp_n hd rfl) H92 g0 e C (hp95) (by omega) (by omega) (by omega)) ?_
      intro v101 q106
      obtain ⟨q103, q104, q105⟩ := q106
      have kd := i1 g0 (by omega) (by omega)
      have kf0 := i7 (by omega)
      have kh := e_H (x := F g0) (c := C g0) kf0 (by omega)
      have k2 := d_h (x := F g0) (c := C g0) kf0 kh.1 kh.2
      have kf2 : F (g0 + 1) = 2 := by omega
      have kif := d_if (x := F (g0 + 1)) kf2
      refine s_blx (lv' := [(4, vI v101), (0, vR 77), (2, vI said)]) (st' := [vR 77, vR 77]) B246_58_62 rfl ?_
      refine r_gint (ki := 40) (pc' := 65) D246_62 rfl gf_11_378_77 rfl H92.1 ?_
      intro w107 e108 r109
      have e110 : g0 = w107 := (e108.trans ((u91.gi_ne (by decide) (Or.inr (by decide))).trans (i5))).symm
      subst e110
      refine s_blx (lv' := [(4, vI v101), (0, vR 77), (2, vI said)]) (st' := [vI (g0 + 1), vR 77]) B246_65_67 rfl ?_
      refine r_pint (ki := 40) (pc' := 70) D246_67 rfl pf_11_378_77 rfl H92 (by unfold inR; omega) trivial ?_
      intro M111 u112 H113 p114
      have f115 := f94.wr u112 rfl
      have hp116 := hp95.wr u112 (by decide)
      refine s_blx (lv' := [(4, vI v101), (0, vR 77), (2, vI said)]) (st' := [vI 7, vR 77]) B246_70_73 rfl ?_
      have g117 : gi M111 77 41 = e := (u112.gi_ne (by decide) (Or.inr (by decide))).trans ((u91.gi_ne (by decide) (Or.inr (by decide))).trans (i3))
      have g118 : gi M111 77 40 = g0 + 1 := p114
      refine r_vI (c := 77) (args := [vI 7]) (rest := []) (pc' := 76) D246_73 rfl ck_11_virtual_402 TE233 rfl (Nat.le_of_ble_eq_true rfl) ⟨Nat.le_of_ble_eq_true rfl, Nat.le_of_ble_eq_true rfl⟩ sc_77 ⟨rfl, by decide⟩ H113.1 (dp_0 hd rfl) (k233x E (dp_n hd rfl) H113 7 a e (g0 + 1) F C (hp116) (i1) (by omega) (by omega) (by omega) (by omega) (by omega) (by omega) (by omega)) ?_
      intro v119 M120 q127
      obtain ⟨H121, f122, q123, q124, q125, q126⟩ := q127
      have f128 := f115.tr (f122.up rfl)
      have hp129 := hp116.fr f122 (by decide)
      obtain ⟨t130, ht131⟩ : ∃ q, q = gi M120 77 40 := ⟨_, rfl⟩
      have b_t130 := (H121.1.int sc_77 (i := 40) (by decide) (by decide) rfl).2
      unfold inR at b_t130; rw [← ht131] at b_t130
      rw [← ht131] at q124
      rw [← ht131] at q125
      rw [← ht131] at q126
      refine r_ifc (tgt := 87) (pc' := 79) D246_76 rfl rfl (by unfold inR; omega) (fun (c132 : v119 = 0) => ?_) (fun (c132 : ¬ (v119 = 0)) => ?_)
      · refine s_blx (lv' := [(4, vI v101), (0, vR 77), (2, vI said)]) (st' := [vI 1]) B246_87_88 rfl ?_
        refine r_goto (tgt := 92) D246_88 rfl ?_
        refine s_blx (lv' := [(5, vI 1), (4, vI v101), (0, vR 77), (2, vI said)]) (st' := [vI 1]) B246_92_96 rfl ?_
        refine r_ifc (tgt := 110) (pc' := 99) D246_96 rfl rfl (by unfold inR; omega) (fun (c133 : 1 = 0) => ?_) (fun (c133 : ¬ (1 = 0)) => ?_)
        · exfalso; omega
        · refine s_blx (lv' := [(5, vI 1), (4, vI v101), (0, vR 77), (2, vI said)]) (st' := [vR 77]) B246_99_100 rfl ?_
          refine r_gint (ki := 42) (pc' := 103) D246_100 rfl gf_11_388_77 rfl H121.1 ?_
          intro w134 e135 r136
          have e137 : 0 = w134 := (e135.trans ((f122.g rfl).trans ((u112.gi_ne (by decide) (Or.inr (by decide))).trans (p93)))).symm
          subst e137
          refine r_ifc (tgt := 110) (pc' := 106) D246_103 rfl rfl (by unfold inR; omega) (fun (c138 : 0 ≠ 0) => ?_) (fun (c138 : ¬ (0 ≠ 0)) => ?_)
          · exfalso; omega
          · refine s_blx (lv' := [(5, vI 1), (4, vI v101), (0, vR 77), (2, vI said)]) (st' := [vI 1]) B246_106_107 rfl ?_
            refine r_goto (tgt := 111) D246_107 rfl ?_
            refine s_blx (lv' := [(5, vI 1), (4, vI v101), (0, vR 77), (2, vI said)]) (st' := [vR 77, vR 77]) B246_111_115 rfl ?_
            refine r_gint (ki := 40) (pc' := 118) D246_115 rfl gf_11_378_77 rfl H121.1 ?_
            intro w139 e140 r141
            have e142 : t130 = w139 := (e140.trans (ht131.symm)).symm
            subst e142
            refine s_blx (lv' := [(5, vI 1), (4, vI v101), (0, vR 77), (2, vI said)]) (st' := [vI (t130 + 1), vR 77]) B246_118_120 rfl ?_
            have kF := cl_next (F := F) (C := C) (e := e) (t := t130) (fun h => i1 _ (by omega) h) (by omega)
            refine r_pint (ki := 40) (pc' := 123) D246_120 rfl pf_11_378_77 rfl H121 (by unfold inR; omega) trivial ?_
            intro M143 u144 H145 p146
            have f147 := f128.wr u144 rfl
            have hp148 := hp129.wr u144 (by decide)
            refine s_blx (lv' := [(5, vI 1), (4, vI v101), (0, vR 77), (2, vI said)]) (st' := [vI 1]) B246_123_125 rfl ?_
            refine r_ifc (tgt := 131) (pc' := 128) D246_125 rfl rfl (by unfold inR; omega) (fun (c149 : 1 ≠ 0) => ?_) (fun (c149 : ¬ (1 ≠ 0)) => ?_)
            · refine s_blx (lv' := [(5, vI 1), (4, vI v101), (0, vR 77), (2, vI said)]) (st' := [vI said, vI v101, vR 77]) B246_131_135 rfl ?_
              have g150 : gi M143 77 6 = zz := (u144.gi_ne (by decide) (Or.inr (by decide))).trans ((f122.g rfl).trans ((u112.gi_ne (by decide) (Or.inr (by decide))).trans ((u91.gi_ne (by decide) (Or.inr (by decide))).trans (i9))))
              refine r_vIp (c := 77) (args := [vI v101, vI said]) (rest := []) (pc' := 138) D246_135 rfl ck_11_virtual_431 TE245 rfl (Nat.le_of_ble_eq_true rfl) ⟨Nat.le_of_ble_eq_true rfl, Nat.le_of_ble_eq_true rfl⟩ sc_77 ⟨rfl, by decide⟩ H145.1 (dp_0 hd rfl) (k245k E (dp_n hd rfl) H145 v101 said K mk zz ((h0.fr f147 rfl)) ((h1.fr f147 rfl)) (by omega) (by omega) (by omega) (by omega) (h12) (by omega) (by omega) (by omega)) ?_
              intro v151 q155
              obtain ⟨q153, q154⟩ := q155
              refine s_blx (lv' := [(6, vI v151), (5, vI 1), (4, vI v101), (0, vR 77), (2, vI said)]) (st' := [vI (-1), vI v151]) B246_138_143 rfl ?_
              refine r_icmp (tgt := 159) (pc' := 146) D246_143 rfl rfl (by unfold inR; omega) (fun (c156 : v151 = (-1)) => ?_) (fun (c156 : ¬ (v151 = (-1))) => ?_)
              · refine r_goto (tgt := 34) D246_159 rfl ?_
                refine r_loc (lv' := [(0, vR 77), (2, vI said)]) ⟨rfl, rfl, trivial⟩ rfl rfl ?_
                have g157 : gi M143 77 41 = e := (u144.gi_ne (by decide) (Or.inr (by decide))).trans ((f122.g rfl).trans ((u112.gi_ne (by decide) (Or.inr (by decide))).trans ((u91.gi_ne (by decide) (Or.inr (by decide))).trans (i3))))
                have g158 : gi M143 77 40 = t130 + 1 := p146
                have g159 : gi M143 77 9 = ov := (u144.gi_ne (by decide) (Or.inr (by decide))).trans ((f122.g rfl).trans ((u112.gi_ne (by decide) (Or.inr (by decide))).trans ((u91.gi_ne (by decide) (Or.inr (by decide))).trans (i8))))
                have g160 : gi M143 77 6 = zz := (u144.gi_ne (by decide) (Or.inr (by decide))).trans ((f122.g rfl).trans ((u112.gi_ne (by decide) (Or.inr (by decide))).trans ((u91.gi_ne (by decide) (Or.inr (by decide))).trans (i9))))
                exact ih a e (t130 + 1) F C M143 H145 f147 (hp148) (i1) (by omega) (by omega) (by omega) (by omega) (by omega) (by omega) (by omega) (by omega) (by omega)
              · refine s_blx (lv' := [(6, vI v151), (5, vI 1), (4, vI v101), (0, vR 77), (2, vI said)]) (st' := [vI v151, vI said, vR 77]) B246_146_150 rfl ?_
                have kord150 := ((h1.fr f147 rfl)) 473
                have g161 : gi M143 78 473 = gi N 78 473 := (u144.gi_ne (by decide) (Or.inl (by decide))).trans ((f122.g rfl).trans ((u112.gi_ne (by decide) (Or.inl (by decide))).trans ((u91.gi_ne (by decide) (Or.inl (by decide))).trans (rfl))))
                have g162 : gi M143 77 9 = ov := (u144.gi_ne (by decide) (Or.inr (by decide))).trans ((f122.g rfl).trans ((u112.gi_ne (by decide) (Or.inr (by decide))).trans ((u91.gi_ne (by decide) (Or.inr (by decide))).trans (i8))))
                refine r_vI (c := 77) (args := [vI said, vI v151]) (rest := []) (pc' := 153) D246_150 rfl ck_11_virtual_240 TE188 rfl (Nat.le_of_ble_eq_true rfl) ⟨Nat.le_of_ble_eq_true rfl, Nat.le_of_ble_eq_true rfl⟩ sc_77 ⟨rfl, by decide⟩ H145.1 (dp_0 hd rfl) (k188f E (dp_n hd rfl) H145 said v151 (K 473) ov U A O ((h0.fr f147 rfl)) ((h3.fr f147 rfl)) ((h4.fr f147 rfl)) ((h5.fr f147 rfl)) (by omega) (by omega) (by omega) (by omega) (by omega) (by omega) (by omega)) ?_
                intro v163 M164 q172
                obtain ⟨H165, f166, q167, q168, q169, q170, q171⟩ := q172
                have f173 := f147.tr (f166.up rfl)
                have hp174 := hp148.fr f166 (by decide)
                obtain ⟨t175, ht176⟩ : ∃ q, q = gi M164 77 14 := ⟨_, rfl⟩
                have b_t175 := H165.2 77 14 0 1110 rfl
                rw [← ht176] at b_t175
                rw [← ht176] at q170
                rw [← ht176] at q171
                have kld := q168
                have knd := q169
                clear q168 q169 q170 q171
                refine r_ifc (tgt := 159) (pc' := 156) D246_153 rfl rfl (by unfold inR; omega) (fun (c177 : v163 = 0) => ?_) (fun (c177 : ¬ (v163 = 0)) => ?_)
                · refine r_goto (tgt := 34) D246_159 rfl ?_
                  refine r_loc (lv' := [(0, vR 77), (2, vI said)]) ⟨rfl, rfl, trivial⟩ rfl rfl ?_
                  have g178 : gi M164 77 41 = e := (f166.g rfl).trans ((u144.gi_ne (by decide) (Or.inr (by decide))).trans ((f122.g rfl).trans ((u112.gi_ne (by decide) (Or.inr (by decide))).trans ((u91.gi_ne (by decide) (Or.inr (by decide))).trans (i3)))))
                  have g179 : gi M164 77 40 = t130 + 1 := (f166.g rfl).trans (p146)
                  have g180 : gi M164 77 9 = ov := (f166.g rfl).trans ((u144.gi_ne (by decide) (Or.inr (by decide))).trans ((f122.g rfl).trans ((u112.gi_ne (by decide) (Or.inr (by decide))).trans ((u91.gi_ne (by decide) (Or.inr (by decide))).trans (i8)))))
                  have g181 : gi M164 77 6 = zz := (f166.g rfl).trans ((u144.gi_ne (by decide) (Or.inr (by decide))).trans ((f122.g rfl).trans ((u112.gi_ne (by decide) (Or.inr (by decide))).trans ((u91.gi_ne (by decide) (Or.inr (by decide))).trans (i9)))))
                  exact ih a e (t130 + 1) F C M164 H165 f173 (hp174) (i1) (by omega) (by omega) (by omega) (by omega) (by omega) (by omega) (by omega) (by omega) (by omega)
                · refine s_blx (lv' := [(6, vI v151), (5, vI 1), (4, vI v101), (0, vR 77), (2, vI said)]) (st' := [vI v151]) B246_156_158 rfl ?_
                  exact r_iretI D246_158 rfl (⟨H165, f173, kld (by omega), by omega⟩)
            · exfalso; omega
      · refine s_blx (lv' := [(4, vI v101), (0, vR 77), (2, vI said)]) (st' := [vI 1, vR 77]) B246_79_81 rfl ?_
        have g182 : gi M120 77 41 = e := (f122.g rfl).trans ((u112.gi_ne (by decide) (Or.inr (by decide))).trans ((u91.gi_ne (by decide) (Or.inr (by decide))).trans (i3)))
        have g183 : gi M120 77 40 = t130 := ht131.symm
        refine r_vI (c := 77) (args := [vI 1]) (rest := []) (pc' := 84) D246_81 rfl ck_11_virtual_418 TE238 rfl (Nat.le_of_ble_eq_true rfl) ⟨Nat.le_of_ble_eq_true rfl, Nat.le_of_ble_eq_true rfl⟩ sc_77 ⟨rfl, by decide⟩ H121.1 (dp_0 hd rfl) (k238x E (dp_n hd rfl) H121 1 0 a e t130 F C (by omega) (hp129) (i1) (by omega) (by omega) (by omega) (by omega) (by omega) (by omega) (by omega)) ?_
        intro v184 M185 q192
        obtain ⟨H186, f187, q188, q189, q190, q191⟩ := q192
        have f193 := f128.tr (f187.up rfl)
        have hp194 := hp129.fr f187 (by decide)
        obtain ⟨t195, ht196⟩ : ∃ q, q = gi M185 77 40 := ⟨_, rfl⟩
        have b_t195 := (H186.1.int sc_77 (i := 40) (by decide) (by decide) rfl).2
        unfold inR at b_t195; rw [← ht196] at b_t195
        rw [← ht196] at q189
        rw [← ht196] at q190
        rw [← ht196] at q191
        refine r_ifc (tgt := 91) (pc' := 87) D246_84 rfl rfl (by unfold inR; omega) (fun (c197 : v184 = 0) => ?_) (fun (c197 : ¬ (v184 = 0)) => ?_)
        · refine s_blx (lv' := [(5, vI 0), (4, vI v101), (0, vR 77), (2, vI said)]) (st' := [vI 0]) B246_91_96 rfl ?_
          refine r_ifc (tgt := 110) (pc' := 99) D246_96 rfl rfl (by unfold inR; omega) (fun (c198 : 0 = 0) => ?_) (fun (c198 : ¬ (0 = 0)) => ?_)
          · refine s_blx (lv' := [(5, vI 0), (4, vI v101), (0, vR 77), (2, vI said)]) (st' := [vR 77, vR 77]) B246_110_115 rfl ?_
            refine r_gint (ki := 40) (pc' := 118) D246_115 rfl gf_11_378_77 rfl H186.1 ?_
            intro w199 e200 r201
            have e202 : t195 = w199 := (e200.trans (ht196.symm)).symm
            subst e202
            refine s_blx (lv' := [(5, vI 0), (4, vI v101), (0, vR 77), (2, vI said)]) (st' := [vI (t195 + 1), vR 77]) B246_118_120 rfl ?_
            have kF := cl_next (F := F) (C := C) (e := e) (t := t195) (fun h => i1 _ (by omega) h) (by omega)
            refine r_pint (ki := 40) (pc' := 123) D246_120 rfl pf_11_378_77 rfl H186 (by unfold inR; omega) trivial ?_
            intro M203 u204 H205 p206
            have f207 := f193.wr u204 rfl
            have hp208 := hp194.wr u204 (by decide)
            refine s_blx (lv' := [(5, vI 0), (4, vI v101), (0, vR 77), (2, vI said)]) (st' := [vI 0]) B246_123_125 rfl ?_
            refine r_ifc (tgt := 131) (pc' := 128) D246_125 rfl rfl (by unfold inR; omega) (fun (c209 : 0 ≠ 0) => ?_) (fun (c209 : ¬ (0 ≠ 0)) => ?_)
            · exfalso; omega
            · refine r_goto (tgt := 34) D246_128 rfl ?_
              refine r_loc (lv' := [(0, vR 77), (2, vI said)]) ⟨rfl, rfl, trivial⟩ rfl rfl ?_
              have g210 : gi M203 77 41 = e := (u204.gi_ne (by decide) (Or.inr (by decide))).trans ((f187.g rfl).trans ((f122.g rfl).trans ((u112.gi_ne (by decide) (Or.inr (by decide))).trans ((u91.gi_ne (by decide) (Or.inr (by decide))).trans (i3)))))
              have g211 : gi M203 77 40 = t195 + 1 := p206
              have g212 : gi M203 77 9 = ov := (u204.gi_ne (by decide) (Or.inr (by decide))).trans ((f187.g rfl).trans ((f122.g rfl).trans ((u112.gi_ne (by decide) (Or.inr (by decide))).trans ((u91.gi_ne (by decide) (Or.inr (by decide))).trans (i8)))))
              have g213 : gi M203 77 6 = zz := (u204.gi_ne (by decide) (Or.inr (by decide))).trans ((f187.g rfl).trans ((f122.g rfl).trans ((u112.gi_ne (by decide) (Or.inr (by decide))).trans ((u91.gi_ne (by decide) (Or.inr (by decide))).trans (i9)))))
              exact ih a e (t195 + 1) F C M203 H205 f207 (hp208) (i1) (by omega) (by omega) (by omega) (by omega) (by omega) (by omega) (by omega) (by omega) (by omega)
          · exfalso; omega
        · refine s_blx (lv' := [(4, vI v101), (0, vR 77), (2, vI said)]) (st' := [vI 1]) B246_87_88 rfl ?_
          refine r_goto (tgt := 92) D246_88 rfl ?_
          refine s_blx (lv' := [(5, vI 1), (4, vI v101), (0, vR 77), (2, vI said)]) (st' := [vI 1]) B246_92_96 rfl ?_
          refine r_ifc (tgt := 110) (pc' := 99) D246_96 rfl rfl (by unfold inR; omega) (fun (c214 : 1 = 0) => ?_) (fun (c214 : ¬ (1 = 0)) => ?_)
          · exfalso; omega
          · refine s_blx (lv' := [(5, vI 1), (4, vI v101), (0, vR 77), (2, vI said)]) (st' := [vR 77]) B246_99_100 rfl ?_
            refine r_gint (ki := 42) (pc' := 103) D246_100 rfl gf_11_388_77 rfl H186.1 ?_
            intro w215 e216 r217
            have b_w215 := H186.2 77 (42) 0 1 rfl
            rw [← e216] at b_w215; clear r217
            refine r_ifc (tgt := 110) (pc' := 106) D246_103 rfl rfl (by unfold inR; omega) (fun (c218 : w215 ≠ 0) => ?_) (fun (c218 : ¬ (w215 ≠ 0)) => ?_)
            · refine s_blx (lv' := [(5, vI 0), (4, vI v101), (0, vR 77), (2, vI said)]) (st' := [vR 77, vR 77]) B246_110_115 rfl ?_
              refine r_gint (ki := 40) (pc' := 118) D246_115 rfl gf_11_378_77 rfl H186.1 ?_
              intro w219 e220 r221
              have e222 : t195 = w219 := (e220.trans (ht196.symm)).symm
              subst e222
              refine s_blx (lv' := [(5, vI 0), (4, vI v101), (0, vR 77), (2, vI said)]) (st' := [vI (t195 + 1), vR 77]) B246_118_120 rfl ?_
              have kF := cl_next (F := F) (C := C) (e := e) (t := t195) (fun h => i1 _ (by omega) h) (by omega)
              refine r_pint (ki := 40) (pc' := 123) D246_120 rfl pf_11_378_77 rfl H186 (by unfold inR; omega) trivial ?_
              intro M223 u224 H225 p226
              have f227 := f193.wr u224 rfl
              have hp228 := hp194.wr u224 (by decide)
              refine s_blx (lv' := [(5, vI 0), (4, vI v101), (0, vR 77), (2, vI said)]) (st' := [vI 0]) B246_123_125 rfl ?_
              refine r_ifc (tgt := 131) (pc' := 128) D246_125 rfl rfl (by unfold inR; omega) (fun (c229 : 0 ≠ 0) => ?_) (fun (c229 : ¬ (0 ≠ 0)) => ?_)
              · exfalso; omega
              · refine r_goto (tgt := 34) D246_128 rfl ?_
                refine r_loc (lv' := [(0, vR 77), (2, vI said)]) ⟨rfl, rfl, trivial⟩ rfl rfl ?_
                have g230 : gi M223 77 41 = e := (u224.gi_ne (by decide) (Or.inr (by decide))).trans ((f187.g rfl).trans ((f122.g rfl).trans ((u112.gi_ne (by decide) (Or.inr (by decide))).trans ((u91.gi_ne (by decide) (Or.inr (by decide))).trans (i3)))))
                have g231 : gi M223 77 40 = t195 + 1 := p226
                have g232 : gi M223 77 9 = ov := (u224.gi_ne (by decide) (Or.inr (by decide))).trans ((f187.g rfl).trans ((f122.g rfl).trans ((u112.gi_ne (by decide) (Or.inr (by decide))).trans ((u91.gi_ne (by decide) (Or.inr (by decide))).trans (i8)))))
                have g233 : gi M223 77 6 = zz := (u224.gi_ne (by decide) (Or.inr (by decide))).trans ((f187.g rfl).trans ((f122.g rfl).trans ((u112.gi_ne (by decide) (Or.inr (by decide))).trans ((u91.gi_ne (by decide) (Or.inr (by decide))).trans (i9)))))
                exact ih a e (t195 + 1) F C M223 H225 f227 (hp228) (i1) (by omega) (by omega) (by omega) (by omega) (by omega) (by omega) (by omega) (by omega) (by omega)
            · refine s_blx (lv' := [(5, vI 1), (4, vI v101), (0, vR 77), (2, vI said)]) (st' := [vI 1]) B246_106_107 rfl ?_
              refine r_goto (tgt := 111) D246_107 rfl ?_
              refine s_blx (lv' := [(5, vI 1), (4, vI v101), (0, vR 77), (2, vI said)]) (st' := [vR 77, vR 77]) B246_111_115 rfl ?_
              refine r_gint (ki := 40) (pc' := 118) D246_115 rfl gf_11_378_77 rfl H186.1 ?_
              intro w234 e235 r236
              have e237 : t195 = w234 := (e235.trans (ht196.symm)).symm
              subst e237
              refine s_blx (lv' := [(5, vI 1), (4, vI v101), (0, vR 77), (2, vI said)]) (st' := [vI (t195 + 1), vR 77]) B246_118_120 rfl ?_
              have kF := cl_next (F := F) (C := C) (e := e) (t := t195) (fun h => i1 _ (by omega) h) (by omega)
              refine r_pint (ki := 40) (pc' := 123) D246_120 rfl pf_11_378_77 rfl H186 (by unfold inR; omega) trivial ?_
              intro M238 u239 H240 p241
              have f242 := f193.wr u239 rfl
              have hp243 := hp194.wr u239 (by decide)
              refine s_blx (lv' := [(5, vI 1), (4, vI v101), (0, vR 77), (2, vI said)]) (st' := [vI 1]) B246_123_125 rfl ?_
              refine r_ifc (tgt := 131) (pc' := 128) D246_125 rfl rfl (by unfold inR; omega) (fun (c244 : 1 ≠ 0) => ?_) (fun (c244 : ¬ (1 ≠ 0)) => ?_)
              · refine s_blx (lv' := [(5, vI 1), (4, vI v101), (0, vR 77), (2, vI said)]) (st' := [vI said, vI v101, vR 77]) B246_131_135 rfl ?_
                have g245 : gi M238 77 6 = zz := (u239.gi_ne (by decide) (Or.inr (by decide))).trans ((f187.g rfl).trans ((f122.g rfl).trans ((u112.gi_ne (by decide) (Or.inr (by decide))).trans ((u91.gi_ne (by decide) (Or.inr (by decide))).trans (i9)))))
                refine r_vIp (c := 77) (args := [vI v101, vI said]) (rest := []) (pc' := 138) D246_135 rfl ck_11_virtual_431 TE245 rfl (Nat.le_of_ble_eq_true rfl) ⟨Nat.le_of_ble_eq_true rfl, Nat.le_of_ble_eq_true rfl⟩ sc_77 ⟨rfl, by decide⟩ H240.1 (dp_0 hd rfl) (k245k E (dp_n hd rfl) H240 v101 said K mk zz ((h0.fr f242 rfl)) ((h1.fr f242 rfl)) (by omega) (by omega) (by omega) (by omega) (h12) (by omega) (by omega) (by omega)) ?_
                intro v246 q250
                obtain ⟨q248, q249⟩ := q250
                refine s_blx (lv' := [(6, vI v246), (5, vI 1), (4, vI v101), (0, vR 77), (2, vI said)]) (st' := [vI (-1), vI v246]) B246_138_143 rfl ?_
                refine r_icmp (tgt := 159) (pc' := 146) D246_143 rfl rfl (by unfold inR; omega) (fun (c251 : v246 = (-1)) => ?_) (fun (c251 : ¬ (v246 = (-1))) => ?_)
                · refine r_goto (tgt := 34) D246_159 rfl ?_
                  refine r_loc (lv' := [(0, vR 77), (2, vI said)]) ⟨rfl, rfl, trivial⟩ rfl rfl ?_
                  have g252 : gi M238 77 41 = e := (u239.gi_ne (by decide) (Or.inr (by decide))).trans ((f187.g rfl).trans ((f122.g rfl).trans ((u112.gi_ne (by decide) (Or.inr (by decide))).trans ((u91.gi_ne (by decide) (Or.inr (by decide))).trans (i3)))))
                  have g253 : gi M238 77 40 = t195 + 1 := p241
                  have g254 : gi M238 77 9 = ov := (u239.gi_ne (by decide) (Or.inr (by decide))).trans ((f187.g rfl).trans ((f122.g rfl).trans ((u112.gi_ne (by decide) (Or.inr (by decide))).trans ((u91.gi_ne (by decide) (Or.inr (by decide))).trans (i8)))))
                  have g255 : gi M238 77 6 = zz := (u239.gi_ne (by decide) (Or.inr (by decide))).trans ((f187.g rfl).trans ((f122.g rfl).trans ((u112.gi_ne (by decide) (Or.inr (by decide))).trans ((u91.gi_ne (by decide) (Or.inr (by decide))).trans (i9)))))
                  exact ih a e (t195 + 1) F C M238 H240 f242 (hp243) (i1) (by omega) (by omega) (by omega) (by omega) (by omega) (by omega) (by omega) (by omega) (by omega)
                · refine s_blx (lv' := [(6, vI v246), (5, vI 1), (4, vI v101), (0, vR 77), (2, vI said)]) (st' := [vI v246, vI said, vR 77]) B246_146_150 rfl ?_
                  have kord150 := ((h1.fr f242 rfl)) 473
                  have g256 : gi M238 78 473 = gi N 78 473 := (u239.gi_ne (by decide) (Or.inl (by decide))).trans ((f187.g rfl).trans ((f122.g rfl).trans ((u112.gi_ne (by decide) (Or.inl (by decide))).trans ((u91.gi_ne (by decide) (Or.inl (by decide))).trans (rfl)))))
                  have g257 : gi M238 77 9 = ov := (u239.gi_ne (by decide) (Or.inr (by decide))).trans ((f187.g rfl).trans ((f122.g rfl).trans ((u112.gi_ne (by decide) (Or.inr (by decide))).trans ((u91.gi_ne (by decide) (Or.inr (by decide))).trans (i8)))))
                  refine r_vI (c := 77) (args := [vI said, vI v246]) (rest := []) (pc' := 153) D246_150 rfl ck_11_virtual_240 TE188 rfl (Nat.le_of_ble_eq_true rfl) ⟨Nat.le_of_ble_eq_true rfl, Nat.le_of_ble_eq_true rfl⟩ sc_77 ⟨rfl, by decide⟩ H240.1 (dp_0 hd rfl) (k188f E (dp_n hd rfl) H240 said v246 (K 473) ov U A O ((h0.fr f242 rfl)) ((h3.fr f242 rfl)) ((h4.fr f242 rfl)) ((h5.fr f242 rfl)) (by omega) (by omega) (by omega) (by omega) (by omega) (by omega) (by omega)) ?_
                  intro v258 M259 q267
                  obtain ⟨H260, f261, q262, q263, q264, q265, q266⟩ := q267
                  have f268 := f242.tr (f261.up rfl)
                  have hp269 := hp243.fr f261 (by decide)
                  obtain ⟨t270, ht271⟩ : ∃ q, q = gi M259 77 14 := ⟨_, rfl⟩
                  have b_t270 := H260.2 77 14 0 1110 rfl
                  rw [← ht271] at b_t270
                  rw [← ht271] at q265
                  rw [← ht271] at q266
                  have kld := q263
                  have knd := q264
                  clear q263 q264 q265 q266
                  refine r_ifc (tgt := 159) (pc' := 156) D246_153 rfl rfl (by unfold inR; omega) (fun (c272 : v258 = 0) => ?_) (fun (c272 : ¬ (v258 = 0)) => ?_)
                  · refine r_goto (tgt := 34) D246_159 rfl ?_
                    refine r_loc (lv' := [(0, vR 77), (2, vI said)]) ⟨rfl, rfl, trivial⟩ rfl rfl ?_
                    have g273 : gi M259 77 41 = e := (f261.g rfl).trans ((u239.gi_ne (by decide) (Or.inr (by decide))).trans ((f187.g rfl).trans ((f122.g rfl).trans ((u112.gi_ne (by decide) (Or.inr (by decide))).trans ((u91.gi_ne (by decide) (Or.inr (by decide))).trans (i3))))))
                    have g274 : gi M259 77 40 = t195 + 1 := (f261.g rfl).trans (p241)
                    have g275 : gi M259 77 9 = ov := (f261.g rfl).trans ((u239.gi_ne (by decide) (Or.inr (by decide))).trans ((f187.g rfl).trans ((f122.g rfl).trans ((u112.gi_ne (by decide) (Or.inr (by decide))).trans ((u91.gi_ne (by decide) (Or.inr (by decide))).trans (i8))))))
                    have g276 : gi M259 77 6 = zz := (f261.g rfl).trans ((u239.gi_ne (by decide) (Or.inr (by decide))).trans ((f187.g rfl).trans ((f122.g rfl).trans ((u112.gi_ne (by decide) (Or.inr (by decide))).trans ((u91.gi_ne (by decide) (Or.inr (by decide))).trans (i9))))))
                    exact ih a e (t195 + 1) F C M259 H260 f268 (hp269) (i1) (by omega) (by omega) (by omega) (by omega) (by omega) (by omega) (by omega) (by omega) (by omega)
                  · refine s_blx (lv' := [(6, vI v246), (5, vI 1), (4, vI v101), (0, vR 77), (2, vI said)]) (st' := [vI v246]) B246_156_158 rfl ?_
                    exact r_iretI D246_158 rfl (⟨H260, f268, kld (by omega), by omega⟩)
              · exfalso; omega
