
set_option maxRecDepth 4000 in
theorem L_k229e {base : Nat} {X : Nat → Option mC} {G : Nat → Value} (E : EnvOK base X G) {d : Nat} (hd : 59 ≤ d) {M : mH} (H : HI base M) (h0 : WD M) : ∀ mz : Nat, (∀ (x1 tk t0 : Int) (F C : Int → Int) (N : mH), HI base N → Fr [(77, 32), (77, 33), (77, 37), (77, 38), (77, 39), (77, 40), (97, 0), (98, 0), (99, 0)] M N → (PC C N) → (∀ j : Int, 0 ≤ j → F (j + 1) = dl (F j) (C j)) → (gi N 77 36 = tk) → (C tk = 0) → (0 ≤ tk ∧ tk ≤ 400) → (gi N 77 37 = t0) → (0 ≤ t0 ∧ t0 ≤ tk) → (F 0 = 1) → (gi N 77 39 = -1 → F t0 = 2 ∨ F t0 = 20 ∨ F t0 = 2001) → (1 ≤ x1 ∧ x1 ≤ 1 + t0) → (gi N 77 31 = 0) → (1 ≤ x1) → (x1 ≤ 402) → (400 - t0) * 1 + 0 < (mz : Int) → sRn base X G d T229 34 [(0, vR 77), (1, vI x1)] [] N (s_Q base (pI (fun v M' => HI base M' ∧ Fr [(77, 32), (77, 33), (77, 37), (77, 38), (77, 39), (77, 40), (97, 0), (98, 0), (99, 0)] M M' ∧ (v = 0 ∨ v = 1) ∧ (v = 1 → AC 97 0 (gi M' 77 36) M') ∧ (gi M' 77 36 ≤ 400 ∧ 0 ≤ gi M' 77 36) ∧ (gi M' 77 31 = 0))))) := by
  have f0 : Fr [(77, 32), (77, 33), (77, 37), (77, 38), (77, 39), (77, 40), (97, 0), (98, 0), (99, 0)] M M := Fr.rf
  intro mz
  induction mz with
  | zero => exact fun x1 tk t0 F C N _ _ z0 z1 z2 z3 z4 z5 z6 z7 z8 z9 z10 z11 z12 z13 => by omega
  | succ mz ih =>
    intro x1 tk t0 F C N HN fN i0 i1 i2 i3 i4 i5 i6 i7 i8 i9 i10 i11 i12 hmu
    refine s_blx (lv' := [(0, vR 77), (1, vI x1)]) (st' := [vI 59, vR 77]) B229_34_37 rfl ?_
    refine r_sIp (args := [vI 59]) (rest := [vR 77]) (pc' := 40) D229_37 rfl ck_11_static_346 TE221 rfl (Nat.le_of_ble_eq_true rfl) ⟨Nat.le_of_ble_eq_true rfl, Nat.le_of_ble_eq_true rfl⟩ (by decide) (dp_0 hd rfl) (k221 E (dp_n hd rfl) HN 59 (by omega)) ?_
    intro v56 q59
    have q58 := q59; clear q59
    have e60 : v56 = 159 := by omega
    subst e60
    have k1 := d_sc (x := F t0)
    have g61 : gi N 77 36 = tk := i2
    have g62 : gi N 77 37 = t0 := i5
    refine r_vI (c := 77) (args := [vI 159]) (rest := []) (pc' := 43) D229_40 rfl ck_11_virtual_328 TE218 rfl (Nat.le_of_ble_eq_true rfl) ⟨Nat.le_of_ble_eq_true rfl, Nat.le_of_ble_eq_true rfl⟩ sc_77 ⟨rfl, by decide⟩ HN.1 (dp_0 hd rfl) (k218x E (dp_n hd rfl) HN 159 tk t0 F C (i0) (i1) (by omega) (by omega) (by omega) (by omega) (by omega) (by omega) (by omega)) ?_
    intro v63 M64 q71
    obtain ⟨H65, f66, q67, q68, q69, q70⟩ := q71
    have f72 := fN.tr (f66.up rfl)
    have hp73 := i0.fr f66 (by decide)
    obtain ⟨t74, ht75⟩ : ∃ q, q = gi M64 77 37 := ⟨_, rfl⟩
    rw [← ht75] at q68
    rw [← ht75] at q69
    rw [← ht75] at q70
    refine r_ifc (tgt := 73) (pc' := 46) D229_43 rfl rfl (by unfold inR; omega) (fun (c76 : v63 = 0) => ?_) (fun (c76 : ¬ (v63 = 0)) => ?_)
    · refine s_blx (lv' := [(0, vR 77), (1, vI x1)]) (st' := [vR 77]) B229_73_74 rfl ?_
      have g77 : gi M64 77 39 = gi N 77 39 := (f66.g rfl).trans (rfl)
      refine r_vIp (c := 77) (args := []) (rest := []) (pc' := 77) D229_74 rfl ck_11_virtual_321 TE216 rfl (Nat.le_of_ble_eq_true rfl) ⟨Nat.le_of_ble_eq_true rfl, Nat.le_of_ble_eq_true rfl⟩ sc_77 ⟨rfl, by decide⟩ H65.1 (dp_0 hd rfl) (k216x E (dp_n hd rfl) H65 ) ?_
      intro v78 q83
      obtain ⟨q80, q81, q82⟩ := q83
      refine r_ifc (tgt := 95) (pc' := 80) D229_77 rfl rfl (by unfold inR; omega) (fun (c84 : v78 = 0) => ?_) (fun (c84 : ¬ (v78 = 0)) => ?_)
      · refine s_blx (lv' := [(0, vR 77), (1, vI x1)]) (st' := [vR 77, vR 77]) B229_95_97 rfl ?_
        refine r_gint (ki := 39) (pc' := 100) D229_97 rfl gf_11_318_77 rfl H65.1 ?_
        intro w85 e86 r87
        unfold inR at r87
        refine r_pint (ki := 32) (pc' := 103) D229_100 rfl pf_11_75_77 rfl H65 (by unfold inR; omega) trivial ?_
        intro M88 u89 H90 p91
        have f92 := f72.wr u89 rfl
        have hp93 := hp73.wr u89 (by decide)
        refine s_blx (lv' := [(0, vR 77), (1, vI x1)]) (st' := [vR 77]) B229_103_104 rfl ?_
        have g94 : gi M88 77 39 = w85 := (u89.gi_ne (by decide) (Or.inr (by decide))).trans (e86.symm)
        refine r_vIp (c := 77) (args := []) (rest := []) (pc' := 107) D229_104 rfl ck_11_virtual_321 TE216 rfl (Nat.le_of_ble_eq_true rfl) ⟨Nat.le_of_ble_eq_true rfl, Nat.le_of_ble_eq_true rfl⟩ sc_77 ⟨rfl, by decide⟩ H90.1 (dp_0 hd rfl) (k216x E (dp_n hd rfl) H90 ) ?_
        intro v95 q100
        obtain ⟨q97, q98, q99⟩ := q100
        have g101 : gi M88 77 36 = tk := (u89.gi_ne (by decide) (Or.inr (by decide))).trans ((f66.g rfl).trans (i2))
        have g102 : gi M88 77 31 = gi N 77 31 := (u89.gi_ne (by decide) (Or.inr (by decide))).trans ((f66.g rfl).trans (rfl))
        exact r_zretI D229_107 rfl (by omega) (⟨H90, f92, by omega, fun hv => ⟨F, i7, fun j h1 h2 => by rw [i1 j h1, Int.zero_add, (hp93) j], by rw [((u89.gi_ne (by decide) (Or.inr (by decide))).trans ((f66.g rfl).trans (i2))), show tk = t74 by omega]; omega⟩, by first | (rw [g101]; omega) | rw [g101], by first | (rw [g102]; omega) | rw [g102]⟩)
      · refine s_blx (lv' := [(0, vR 77), (1, vI x1)]) (st' := [vR 77]) B229_80_81 rfl ?_
        refine r_gint (ki := 37) (pc' := 84) D229_81 rfl gf_11_325_77 rfl H65.1 ?_
        intro w103 e104 r105
        have e106 : t74 = w103 := (e104.trans (ht75.symm)).symm
        subst e106
        refine s_blx (lv' := [(0, vR 77), (1, vI x1)]) (st' := [vR 77, vI t74]) B229_84_85 rfl ?_
        refine r_gint (ki := 36) (pc' := 88) D229_85 rfl gf_11_305_77 rfl H65.1 ?_
        intro w107 e108 r109
        have e110 : tk = w107 := (e108.trans ((f66.g rfl).trans (i2))).symm
        subst e110
        refine r_icmp (tgt := 95) (pc' := 91) D229_88 rfl rfl (by unfold inR; omega) (fun (c111 : tk ≤ t74) => ?_) (fun (c111 : ¬ (tk ≤ t74)) => ?_)
        · refine s_blx (lv' := [(0, vR 77), (1, vI x1)]) (st' := [vR 77, vR 77]) B229_95_97 rfl ?_
          refine r_gint (ki := 39) (pc' := 100) D229_97 rfl gf_11_318_77 rfl H65.1 ?_
          intro w112 e113 r114
          unfold inR at r114
          refine r_pint (ki := 32) (pc' := 103) D229_100 rfl pf_11_75_77 rfl H65 (by unfold inR; omega) trivial ?_
          intro M115 u116 H117 p118
          have f119 := f72.wr u116 rfl
          have hp120 := hp73.wr u116 (by decide)
          refine s_blx (lv' := [(0, vR 77), (1, vI x1)]) (st' := [vR 77]) B229_103_104 rfl ?_
          have g121 : gi M115 77 39 = w112 := (u116.gi_ne (by decide) (Or.inr (by decide))).trans (e113.symm)
          refine r_vIp (c := 77) (args := []) (rest := []) (pc' := 107) D229_104 rfl ck_11_virtual_321 TE216 rfl (Nat.le_of_ble_eq_true rfl) ⟨Nat.le_of_ble_eq_true rfl, Nat.le_of_ble_eq_true rfl⟩ sc_77 ⟨rfl, by decide⟩ H117.1 (dp_0 hd rfl) (k216x E (dp_n hd rfl) H117 ) ?_
          intro v122 q127
          obtain ⟨q124, q125, q126⟩ := q127
          have g128 : gi M115 77 36 = tk := (u116.gi_ne (by decide) (Or.inr (by decide))).trans ((f66.g rfl).trans (i2))
          have g129 : gi M115 77 31 = gi N 77 31 := (u116.gi_ne (by decide) (Or.inr (by decide))).trans ((f66.g rfl).trans (rfl))
          exact r_zretI D229_107 rfl (by omega) (⟨H117, f119, by omega, fun hv => ⟨F, i7, fun j h1 h2 => by rw [i1 j h1, Int.zero_add, (hp120) j], by rw [((u116.gi_ne (by decide) (Or.inr (by decide))).trans ((f66.g rfl).trans (i2))), show tk = t74 by omega]; omega⟩, by first | (rw [g128]; omega) | rw [g128], by first | (rw [g129]; omega) | rw [g129]⟩)
        · refine s_blx (lv' := [(0, vR 77), (1, vI x1)]) (st' := [vR 77]) B229_91_92 rfl ?_
          refine r_vV (c := 77) (args := []) (rest := []) (pc' := 95) D229_92 rfl ck_11_virtual_331 TE217 rfl (Nat.le_of_ble_eq_true rfl) ⟨Nat.le_of_ble_eq_true rfl, Nat.le_of_ble_eq_true rfl⟩ sc_77 ⟨rfl, by decide⟩ H65.1 (dp_0 hd rfl) (k217x E (dp_n hd rfl) H65 ) ?_
          intro M131 q135
          obtain ⟨H132, f133, q134⟩ := q135
          have f136 := f72.tr (f133.up rfl)
          have hp137 := hp73.fr f133 (by decide)
          obtain ⟨t138, ht139⟩ : ∃ q, q = gi M131 77 39 := ⟨_, rfl⟩
          rw [← ht139] at q134
          refine s_blx (lv' := [(0, vR 77), (1, vI x1)]) (st' := [vR 77, vR 77]) B229_95_97 rfl ?_
          refine r_gint (ki := 39) (pc' := 100) D229_97 rfl gf_11_318_77 rfl H132.1 ?_
          intro w140 e141 r142
          have e143 : t138 = w140 := (e141.trans (ht139.symm)).symm
          subst e143
          refine r_norm ?_
          intro z144 r145 _; unfold inR at r145
          refine r_pint (ki := 32) (pc' := 103) D229_100 rfl pf_11_75_77 rfl H132 (by unfold inR; omega) trivial ?_
          intro M146 u147 H148 p149
          have f150 := f136.wr u147 rfl
          have hp151 := hp137.wr u147 (by decide)
          refine s_blx (lv' := [(0, vR 77), (1, vI x1)]) (st' := [vR 77]) B229_103_104 rfl ?_
          have g152 : gi M146 77 39 = t138 := (u147.gi_ne (by decide) (Or.inr (by decide))).trans (ht139.symm)
          refine r_vIp (c := 77) (args := []) (rest := []) (pc' := 107) D229_104 rfl ck_11_virtual_321 TE216 rfl (Nat.le_of_ble_eq_true rfl) ⟨Nat.le_of_ble_eq_true rfl, Nat.le_of_ble_eq_true rfl⟩ sc_77 ⟨rfl, by decide⟩ H148.1 (dp_0 hd rfl) (k216x E (dp_n hd rfl) H148 ) ?_
          intro v153 q158
          obtain ⟨q155, q156, q157⟩ := q158
          have g159 : gi M146 77 36 = tk := (u147.gi_ne (by decide) (Or.inr (by decide))).trans ((f133.g rfl).trans ((f66.g rfl).trans (i2)))
          have g160 : gi M146 77 31 = gi N 77 31 := (u147.gi_ne (by decide) (Or.inr (by decide))).trans ((f133.g rfl).trans ((f66.g rfl).trans (rfl)))
          exact r_zretI D229_107 rfl (by omega) (⟨H148, f150, by omega, fun hv => ⟨F, i7, fun j h1 h2 => by rw [i1 j h1, Int.zero_add, (hp151) j], by rw [((u147.gi_ne (by decide) (Or.inr (by decide))).trans ((f133.g rfl).trans ((f66.g rfl).trans (i2)))), show tk = t74 by omega]; omega⟩, by first | (rw [g159]; omega) | rw [g159], by first | (rw [g160]; omega) | rw [g160]⟩)
    · refine s_blx (lv' := [(0, vR 77), (1, vI x1)]) (st' := [vI 12, vI x1]) B229_46_49 rfl ?_
      refine r_icmp (tgt := 56) (pc' := 52) D229_49 rfl rfl (by unfold inR; omega) (fun (c161 : x1 ≠ 12) => ?_) (fun (c161 : ¬ (x1 ≠ 12)) => ?_)
      · refine s_blx (lv' := [(0, vR 77), (1, vI x1)]) (st' := [vR 77]) B229_56_57 rfl ?_
        have g162 : gi M64 77 39 = gi N 77 39 := (f66.g rfl).trans (rfl)
        refine r_vIp (c := 77) (args := []) (rest := []) (pc' := 60) D229_57 rfl ck_11_virtual_321 TE216 rfl (Nat.le_of_ble_eq_true rfl) ⟨Nat.le_of_ble_eq_true rfl, Nat.le_of_ble_eq_true rfl⟩ sc_77 ⟨rfl, by decide⟩ H65.1 (dp_0 hd rfl) (k216x E (dp_n hd rfl) H65 ) ?_
        intro v163 q168
        obtain ⟨q165, q166, q167⟩ := q168
        refine r_ifc (tgt := 67) (pc' := 63) D229_60 rfl rfl (by unfold inR; omega) (fun (c169 : v163 = 0) => ?_) (fun (c169 : ¬ (v163 = 0)) => ?_)
        · refine s_blx (lv' := [(1, vI (x1 + 1)), (0, vR 77)]) (st' := []) B229_67_70 rfl ?_
          refine r_goto (tgt := 34) D229_70 rfl ?_
          refine r_loc (lv' := [(0, vR 77), (1, vI (x1 + 1))]) ⟨rfl, rfl, trivial⟩ rfl rfl ?_
          have g170 : gi M64 77 36 = tk := (f66.g rfl).trans (i2)
          have g171 : gi M64 77 37 = t74 := ht75.symm
          have g172 : gi M64 77 39 = gi N 77 39 := (f66.g rfl).trans (rfl)
          have g173 : gi M64 77 31 = gi N 77 31 := (f66.g rfl).trans (rfl)
          exact ih (x1 + 1) tk t74 F C M64 H65 f72 (hp73) (i1) (by omega) (by omega) (by omega) (by omega) (by omega) (by omega) (by omega) (by omega) (by omega) (by omega) (by omega) (by omega)
        · refine s_blx (lv' := [(0, vR 77), (1, vI x1)]) (st' := [vR 77]) B229_63_64 rfl ?_
          have g174 : gi M64 77 36 = tk := (f66.g rfl).trans (i2)
          have g175 : gi M64 77 37 = t74 := ht75.symm
          have g176 : gi M64 77 39 = gi N 77 39 := (f66.g rfl).trans (rfl)
          refine r_vV (c := 77) (args := []) (rest := []) (pc' := 67) D229_64 rfl ck_11_virtual_369 TE222 rfl (Nat.le_of_ble_eq_true rfl) ⟨Nat.le_of_ble_eq_true rfl, Nat.le_of_ble_eq_true rfl⟩ sc_77 ⟨rfl, by decide⟩ H65.1 (dp_0 hd rfl) (k222x E (dp_n hd rfl) H65 tk t74 F C (hp73) (i1) (by omega) (by omega) (by omega) (by omega) (by omega) (by omega)) ?_
          intro M178 q183
          obtain ⟨H179, f180, q181, q182⟩ := q183
          have f184 := f72.tr (f180.up rfl)
          have hp185 := hp73.fr f180 (by decide)
          obtain ⟨t186, ht187⟩ : ∃ q, q = gi M178 77 37 := ⟨_, rfl⟩
          obtain ⟨t188, ht189⟩ : ∃ q, q = gi M178 77 39 := ⟨_, rfl⟩
          rw [← ht187] at q181
          rw [← ht187, ← ht189] at q182
          refine s_blx (lv' := [(1, vI (x1 + 1)), (0, vR 77)]) (st' := []) B229_67_70 rfl ?_
          refine r_goto (tgt := 34) D229_70 rfl ?_
          refine r_loc (lv' := [(0, vR 77), (1, vI (x1 + 1))]) ⟨rfl, rfl, trivial⟩ rfl rfl ?_
          have g190 : gi M178 77 36 = tk := (f180.g rfl).trans ((f66.g rfl).trans (i2))
          have g191 : gi M178 77 37 = t186 := ht187.symm
          have g192 : gi M178 77 39 = t188 := ht189.symm
          have g193 : gi M178 77 31 = gi N 77 31 := (f180.g rfl).trans ((f66.g rfl).trans (rfl))
          exact ih (x1 + 1) tk t186 F C M178 H179 f184 (hp185) (i1) (by omega) (by omega) (by omega) (by omega) (by omega) (by omega) (by omega) (by omega) (by omega) (by omega) (by omega) (by omega)
      · refine s_blx (lv' := [(0, vR 77), (1, vI x1)]) (st' := [vR 77]) B229_52_53 rfl ?_
        refine r_vV (c := 77) (args := []) (rest := []) (pc' := 56) D229_53 rfl ck_11_virtual_331 TE217 rfl (Nat.le_of_ble_eq_true rfl) ⟨Nat.le_of_ble_eq_true rfl, Nat.le_of_ble_eq_true rfl⟩ sc_77 ⟨rfl, by decide⟩ H65.1 (dp_0 hd rfl) (k217x E (dp_n hd rfl) H65 ) ?_
        intro M195 q199
        obtain ⟨H196, f197, q198⟩ := q199
        have f200 := f72.tr (f197.up rfl)
        have hp201 := hp73.fr f197 (by decide)
        obtain ⟨t202, ht203⟩ : ∃ q, q = gi M195 77 39 := ⟨_, rfl⟩
        rw [← ht203] at q198
        refine s_blx (lv' := [(0, vR 77), (1, vI x1)]) (st' := [vR 77]) B229_56_57 rfl ?_
        have g204 : gi M195 77 39 = t202 := ht203.symm
        refine r_vIp (c := 77) (args := []) (rest := []) (pc' := 60) D229_57 rfl ck_11_virtual_321 TE216 rfl (Nat.le_of_ble_eq_true rfl) ⟨Nat.le_of_ble_eq_true rfl, Nat.le_of_ble_eq_true rfl⟩ sc_77 ⟨rfl, by decide⟩ H196.1 (dp_0 hd rfl) (k216x E (dp_n hd rfl) H196 ) ?_
        intro v205 q210
        obtain ⟨q207, q208, q209⟩ := q210
        refine r_ifc (tgt := 67) (pc' := 63) D229_60 rfl rfl (by unfold inR; omega) (fun (c211 : v205 = 0) => ?_) (fun (c211 : ¬ (v205 = 0)) => ?_)
        · refine s_blx (lv' := [(1, vI (x1 + 1)), (0, vR 77)]) (st' := []) B229_67_70 rfl ?_
          refine r_goto (tgt := 34) D229_70 rfl ?_
          refine r_loc (lv' := [(0, vR 77), (1, vI (x1 + 1))]) ⟨rfl, rfl, trivial⟩ rfl rfl ?_
          have g212 : gi M195 77 36 = tk := (f197.g rfl).trans ((f66.g rfl).trans (i2))
          have g213 : gi M195 77 37 = t74 := (f197.g rfl).trans (ht75.symm)
          have g214 : gi M195 77 39 = t202 := ht203.symm
          have g215 : gi M195 77 31 = gi N 77 31 := (f197.g rfl).trans ((f66.g rfl).trans (rfl))
          exact ih (x1 + 1) tk t74 F C M195 H196 f200 (hp201) (i1) (by omega) (by omega) (by omega) (by omega) (by omega) (by omega) (by omega) (by omega) (by omega) (by omega) (by omega) (by omega)
        · refine s_blx (lv' := [(0, vR 77), (1, vI x1)]) (st' := [vR 77]) B229_63_64 rfl ?_
          have g216 : gi M195 77 36 = tk := (f197.g rfl).trans ((f66.g rfl).trans (i2))
          have g217 : gi M195 77 37 = t74 := (f197.g rfl).trans (ht75.symm)
          have g218 : gi M195 77 39 = t202 := ht203.symm
          refine r_vV (c := 77) (args := []) (rest := []) (pc' := 67) D229_64 rfl ck_11_virtual_369 TE222 rfl (Nat.le_of_ble_eq_true rfl) ⟨Nat.le_of_ble_eq_true rfl, Nat.le_of_ble_eq_true rfl⟩ sc_77 ⟨rfl, by decide⟩ H196.1 (dp_0 hd rfl) (k222x E (dp_n hd rfl) H196 tk t74 F C (hp201) (i1) (by omega) (by omega) (by omega) (by omega) (by omega) (by omega)) ?_
          intro M220 q225
          obtain ⟨H221, f222, q223, q224⟩ := q225
          have f226 := f200.tr (f222.up rfl)
          have hp227 := hp201.fr f222 (by decide)
          obtain ⟨t228, ht229⟩ : ∃ q, q = gi M220 77 37 := ⟨_, rfl⟩
          obtain ⟨t230, ht231⟩ : ∃ q, q = gi M220 77 39 := ⟨_, rfl⟩
          rw [← ht229] at q223
          rw [← ht229, ← ht231] at q224
          refine s_blx (lv' := [(1, vI (x1 + 1)), (0, vR 77)]) (st' := []) B229_67_70 rfl ?_
          refine r_goto (tgt := 34) D229_70 rfl ?_
          refine r_loc (lv' := [(0, vR 77), (1, vI (x1 + 1))]) ⟨rfl, rfl, trivial⟩ rfl rfl ?_
          have g232 : gi M220 77 36 = tk := (f222.g rfl).trans ((f197.g rfl).trans ((f66.g rfl).trans (i2)))
          have g233 : gi M220 77 37 = t228 := ht229.symm
          have g234 : gi M220 77 39 = t230 := ht231.symm
          have g235 : gi M220 77 31 = gi N 77 31 := (f222.g rfl).trans ((f197.g rfl).trans ((f66.g rfl).trans (rfl)))
          exact ih (x1 + 1) tk t228 F C M220 H221 f226 (hp227) (i1) (by omega) (by omega) (by omega) (by omega) (by omega) (by omega) (by omega) (by omega) (by omega) (by omega) (by omega) (by omega)
set_option maxRecDepth 4000 in
theorem k229e {base : Nat} {X : Nat → Option mC} {G : Nat → Value} (E : EnvOK base X G) {d : Nat} (hd : 59 ≤ d) {M : mH} (H : HI base M) (h0 : WD M) : sOk base X G d T229 [vR 77] M (pI (fun v M' => HI base M' ∧ Fr [(77, 32), (77, 33), (77, 37), (77, 38), (77, 39), (77, 40), (97, 0), (98, 0), (99, 0)] M M' ∧ (v = 0 ∨ v = 1) ∧ (v = 1 → AC 97 0 (gi M' 77 36) M') ∧ (gi M' 77 36 ≤ 400 ∧ 0 ≤ gi M' 77 36) ∧ (gi M' 77 31 = 0))) := by
  have f0 : Fr [(77, 32), (77, 33), (77, 37), (77, 38), (77, 39), (77, 40), (97, 0), (98, 0), (99, 0)] M M := Fr.rf
  refine sOk.of (show sRn base X G d T229 0 [(0, vR 77)] [] M _ from ?_)
  refine s_blx (lv' := [(0, vR 77)]) (st' := [vR 77, vR 77]) B229_0_2 rfl ?_
  refine r_gint (ki := 31) (pc' := 5) D229_2 rfl gf_11_151_77 rfl H.1 ?_
  intro w1 e2 r3
  have b_w1 := H.2 77 (31) 0 400 rfl
  rw [← e2] at b_w1; clear r3
  refine r_vV (c := 77) (args := [vI w1]) (rest := []) (pc' := 8) D229_5 rfl ck_11_virtual_366 TE215 rfl (Nat.le_of_ble_eq_true rfl) ⟨Nat.le_of_ble_eq_true rfl, Nat.le_of_ble_eq_true rfl⟩ sc_77 ⟨rfl, by decide⟩ H.1 (dp_0 hd rfl) (k215x E (dp_n hd rfl) H w1 (h0) (by omega)) ?_
  intro M5 q10
  obtain ⟨H6, f7, q8, q9⟩ := q10
  have f11 := f0.tr (f7.up rfl)
  obtain ⟨tk, htk⟩ : ∃ q, q = gi M5 77 36 := ⟨_, rfl⟩
  have kz := q9
  have kl := q8
  rw [← htk] at kz kl
  obtain ⟨C, hC⟩ : ∃ C : Int → Int, ∀ j, gi M5 97 j = C j := ⟨_, fun _ => rfl⟩
  rw [hC] at kz
  have hPC : PC C M5 := hC
  obtain ⟨F, hF0, hF⟩ := dl_seq C
  have kq := H6.2 77 36 0 400 rfl
  refine s_blx (lv' := [(0, vR 77)]) (st' := [vI 0, vR 77]) B229_8_10 rfl ?_
  refine r_pint (ki := 31) (pc' := 13) D229_10 rfl pf_11_151_77 rfl H6 (by unfold inR; omega) (show 0 ≤ 0 ∧ 0 ≤ 400 by omega) ?_
  intro M12 u13 H14 p15
  have f16 := f11.wr u13 rfl
  have hp17 := hPC.wr u13 (by decide)
  refine s_blx (lv' := [(0, vR 77)]) (st' := [vI 0, vR 77]) B229_13_15 rfl ?_
  refine r_pint (ki := 37) (pc' := 18) D229_15 rfl pf_11_325_77 rfl H14 (by unfold inR; omega) (show 0 ≤ 0 ∧ 0 ≤ 400 by omega) ?_
  intro M18 u19 H20 p21
  have f22 := f16.wr u19 rfl
  have hp23 := hp17.wr u19 (by decide)
  refine s_blx (lv' := [(0, vR 77)]) (st' := [vI 0, vR 77]) B229_18_20 rfl ?_
  refine r_pint (ki := 38) (pc' := 23) D229_20 rfl pf_11_334_77 rfl H20 (by unfold inR; omega) trivial ?_
  intro M24 u25 H26 p27
  have f28 := f22.wr u25 rfl
  have hp29 := hp23.wr u25 (by decide)
  refine s_blx (lv' := [(0, vR 77)]) (st' := [vI (-1), vR 77]) B229_23_25 rfl ?_
  refine r_pint (ki := 39) (pc' := 28) D229_25 rfl pf_11_318_77 rfl H26 (by unfold inR; omega) trivial ?_
  intro M30 u31 H32 p33
  have f34 := f28.wr u31 rfl
  have hp35 := hp29.wr u31 (by decide)
  refine s_blx (lv' := [(0, vR 77)]) (st' := [vR 77]) B229_28_29 rfl ?_
  have g36 : gi M30 77 36 = tk := (u31.gi_ne (by decide) (Or.inr (by decide))).trans ((u25.gi_ne (by decide) (Or.inr (by decide))).trans ((u19.gi_ne (by decide) (Or.inr (by decide))).trans ((u13.gi_ne (by decide) (Or.inr (by decide))).trans (htk.symm))))
  have g37 : gi M30 77 37 = 0 := (u31.gi_ne (by decide) (Or.inr (by decide))).trans ((u25.gi_ne (by decide) (Or.inr (by decide))).trans (p21))
  have g38 : gi M30 77 39 = -1 := p33
  refine r_vV (c := 77) (args := []) (rest := []) (pc' := 32) D229_29 rfl ck_11_virtual_369 TE222 rfl (Nat.le_of_ble_eq_true rfl) ⟨Nat.le_of_ble_eq_true rfl, Nat.le_of_ble_eq_true rfl⟩ sc_77 ⟨rfl, by decide⟩ H32.1 (dp_0 hd rfl) (k222x E (dp_n hd rfl) H32 tk 0 F C (hp35) (hF) (by omega) (by omega) (by omega) (by omega) (by omega) (by omega)) ?_
  intro M40 q45
  obtain ⟨H41, f42, q43, q44⟩ := q45
  have f46 := f34.tr (f42.up rfl)
  have hp47 := hp35.fr f42 (by decide)
  obtain ⟨t48, ht49⟩ : ∃ q, q = gi M40 77 37 := ⟨_, rfl⟩
  obtain ⟨t50, ht51⟩ : ∃ q, q = gi M40 77 39 := ⟨_, rfl⟩
  rw [← ht49] at q43
  rw [← ht49, ← ht51] at q44
  refine s_blx (lv' := [(1, vI 1), (0, vR 77)]) (st' := []) B229_32_34 rfl ?_
  refine r_loc (lv' := [(0, vR 77), (1, vI 1)]) ⟨rfl, rfl, trivial⟩ rfl rfl ?_
  have g52 : gi M40 77 36 = tk := (f42.g rfl).trans ((u31.gi_ne (by decide) (Or.inr (by decide))).trans ((u25.gi_ne (by decide) (Or.inr (by decide))).trans ((u19.gi_ne (by decide) (Or.inr (by decide))).trans ((u13.gi_ne (by decide) (Or.inr (by decide))).trans (htk.symm)))))
  have g53 : gi M40 77 37 = t48 := ht49.symm
  have g54 : gi M40 77 39 = t50 := ht51.symm
  have g55 : gi M40 77 31 = 0 := (f42.g rfl).trans ((u31.gi_ne (by decide) (Or.inr (by decide))).trans ((u25.gi_ne (by decide) (Or.inr (by decide))).trans ((u19.gi_ne (by decide) (Or.inr (by decide))).trans (p15))))
  exact (L_k229e E hd H h0 (((400 - t48) * 1 + 0 : Int) + 1).toNat) 1 tk t48 F C M40 H41 f46 (hp47) (hF) (by omega) (by omega) (by omega) (by omega) (by omega) (by omega) (by omega) (by omega) (by omega) (by omega) (by omega) (by omega)
set_option maxRecDepth 4000 in
set_option maxHeartbeats 4000000 in
theorem L_k262e {base : Nat} {X : Nat → Option mC} {G : Nat → Value} (E : EnvOK base X G) {d : Nat} (hd : 70 ≤ d) {M : mH} (H : HI base M) (s : Int) (K : Int → Int) (h0 : TB M) (h1 : KK K M) (h2 : GK M) (h3 : -2147483648 ≤ s ∧ s ≤ 2147483647) : ∀ mz : Nat, (∀ (x2 x3 x4 : Int) (N : mH), HI base N → Fr [(77, 7), (77, 8), (77, 9), (77, 10), (77, 14), (77, 15), (77, 16), (77, 32), (77, 41), (77, 42), (77, 43), (77, 46), (77, 47), (83, 0), (84, 0), (85, 0), (100, 0), (101, 0)] M N → (0 ≤ s ∧ s ≤ 15) → (s < K 469) → (1 ≤ K (135 + 16 * s + 12 + K 474)) → (gi N 77 31 = 0) → (0 ≤ x2) → (x2 ≤ 400) → ((-2147483648) ≤ x3) → (x3 ≤ 2147483647) → (0 ≤ x4) → (x4 ≤ 8) → (0 ≤ s) → (s ≤ 15) → (8 - x4) * 402 + 401 < (mz : Int) → sRn base X G d T262 25 [(0, vR 77), (1, vI s), (2, vI x2), (3, vI x3), (4, vI x4)] [] N (s_Q base (pI (fun v M' => HI base M' ∧ Fr [(77, 7), (77, 8), (77, 9), (77, 10), (77, 14), (77, 15), (77, 16), (77, 32), (77, 41), (77, 42), (77, 43), (77, 46), (77, 47), (83, 0), (84, 0), (85, 0), (100, 0), (101, 0)] M M' ∧ (-2147483648 ≤ v ∧ v ≤ 2147483647) ∧ (gi M' 77 31 = 0))))) ∧ (∀ (x2 x3 x4 x5 x6 : Int) (N : mH), HI base N → Fr [(77, 7), (77, 8), (77, 9), (77, 10), (77, 14), (77, 15), (77, 16), (77, 32), (77, 41), (77, 42), (77, 43), (77, 46), (77, 47), (83, 0), (84, 0), (85, 0), (100, 0), (101, 0)] M N → (x5 = 1 → x2 ≤ 24) → (0 ≤ s ∧ s ≤ 15) → (s < K 469) → (1 ≤ K (135 + 16 * s + 12 + K 474)) → (gi N 77 31 = 0) → (0 ≤ x2) → (x2 ≤ 400) → ((-2147483648) ≤ x3) → (x3 ≤ 2147483647) → (0 ≤ x4) → (x4 ≤ 7) → (0 ≤ x5) → (x5 ≤ 1) → (0 ≤ x6) → (x6 ≤ 400) → (0 ≤ s) → (s ≤ 15) → (8 - x4) * 402 + 0 + (400 - x6) * 1 + 0 < (mz : Int) → sRn base X G d T262 64 [(0, vR 77), (1, vI s), (2, vI x2), (3, vI x3), (4, vI x4), (5, vI x5), (6, vI x6)] [] N (s_Q base (pI (fun v M' => HI base M' ∧ Fr [(77, 7), (77, 8), (77, 9), (77, 10), (77, 14), (77, 15), (77, 16), (77, 32), (77, 41), (77, 42), (77, 43), (77, 46), (77, 47), (83, 0), (84, 0), (85, 0), (100, 0), (101, 0)] M M' ∧ (-2147483648 ≤ v ∧ v ≤ 2147483647) ∧ (gi M' 77 31 = 0))))) := by
  have f0 : Fr [(77, 7), (77, 8), (77, 9), (77, 10), (77, 14), (77, 15), (77, 16), (77, 32), (77, 41), (77, 42), (77, 43), (77, 46), (77, 47), (83, 0), (84, 0), (85, 0), (100, 0), (101, 0)] M M := Fr.rf
  intro mz
  induction mz with
  | zero => exact ⟨fun x2 x3 x4 N _ _ z0 z1 z2 z3 z4 z5 z6 z7 z8 z9 z10 z11 z12 => by omega, fun x2 x3 x4 x5 x6 N _ _ z0 z1 z2 z3 z4 z5 z6 z7 z8 z9 z10 z11 z12 z13 z14 z15 z16 z17 => by omega⟩
  | succ mz ih =>
    refine ⟨?_, ?_⟩
    · intro x2 x3 x4 N HN fN i0 i1 i2 i3 i4 i5 i6 i7 i8 i9 i10 i11 hmu
      refine s_blx (lv' := [(0, vR 77), (1, vI s), (2, vI x2), (3, vI x3), (4, vI x4)]) (st' := [vR 77, vI x4]) B262_25_28 rfl ?_
      refine r_gfix (r := 78) (pc' := 31) D262_28 rfl gf_11_13_77 HN.1 ?_
      refine s_blx (lv' := [(0, vR 77), (1, vI s), (2, vI x2), (3, vI x3), (4, vI x4)]) (st' := [vI 471, vR 78, vI x4]) B262_31_34 rfl ?_
      refine r_iald (pc' := 35) D262_34 rfl sc_78 HN.1 (by omega) ?_
      intro w17 e18 r19
      have kk_w17 := ((h1.fr fN rfl)) (471)
      have b_w17 := HN.2 78 (471) 0 8 (rk_told (by omega))
      rw [← e18] at b_w17; clear r19
      refine r_icmp (tgt := 140) (pc' := 38) D262_35 rfl rfl (by unfold inR; omega) (fun (c20 : w17 ≤ x4) => ?_) (fun (c20 : ¬ (w17 ≤ x4)) => ?_)
      · refine s_blx (lv' := [(0, vR 77), (1, vI s), (2, vI x2), (3, vI x3), (4, vI x4)]) (st' := [vI x3]) B262_140_141 rfl ?_
        exact r_iretI D262_141 rfl (⟨HN, fN, by omega, by omega⟩)
      · refine s_blx (lv' := [(0, vR 77), (1, vI s), (2, vI x2), (3, vI x3), (4, vI x4)]) (st' := [vI s, vI x4, vR 77]) B262_38_42 rfl ?_
        refine r_vL (c := 77) (args := [vI x4, vI s]) (rest := []) (pc' := 45) D262_42 rfl ck_11_virtual_446 TE247 rfl (Nat.le_of_ble_eq_true rfl) ⟨Nat.le_of_ble_eq_true rfl, Nat.le_of_ble_eq_true rfl⟩ sc_77 ⟨rfl, by decide⟩ HN.1 (dp_0 hd rfl) (k247k E (dp_n hd rfl) HN x4 s K ((h0.fr fN rfl)) ((h1.fr fN rfl)) ((h2.fr fN rfl)) (by omega) (by omega) (by omega) (by omega) (by omega)) ?_
        intro v21 M22 q25
        obtain ⟨H23, f24⟩ := q25
        have f26 := fN.tr (f24.up rfl)
        refine s_blx (lv' := [(0, vR 77), (1, vI s), (2, vI x2), (3, vI x3), (4, vI x4)]) (st' := [vR 77]) B262_45_47 rfl ?_
        refine r_gint (ki := 45) (pc' := 50) D262_47 rfl gf_11_437_77 rfl H23.1 ?_
        intro w27 e28 r29
        have b_w27 := H23.2 77 (45) 0 24 rfl
        rw [← e28] at b_w27; clear r29
        refine s_blx (lv' := [(0, vR 77), (1, vI s), (2, vI x2), (3, vI x3), (4, vI x4)]) (st' := [vI x2, vI w27]) B262_50_51 rfl ?_
        refine r_icmp (tgt := 58) (pc' := 54) D262_51 rfl rfl (by unfold inR; omega) (fun (c30 : w27 ≠ x2) => ?_) (fun (c30 : ¬ (w27 ≠ x2)) => ?_)
        · refine s_blx (lv' := [(6, vI 0), (5, vI 0), (0, vR 77), (1, vI s), (2, vI x2), (3, vI x3), (4, vI x4)]) (st' := []) B262_58_64 rfl ?_
          refine r_loc (lv' := [(0, vR 77), (1, vI s), (2, vI x2), (3, vI x3), (4, vI x4), (5, vI 0), (6, vI 0)]) ⟨rfl, rfl, rfl, rfl, rfl, rfl, rfl, trivial⟩ rfl rfl ?_
          have g31 : gi M22 77 31 = gi N 77 31 := (f24.g rfl).trans (rfl)
          exact ih.2 x2 x3 x4 0 0 M22 H23 f26 (by omega) (by omega) (by omega) (by omega) (by omega) (by omega) (by omega) (by omega) (by omega) (by omega) (by omega) (by omega) (by omega) (by omega) (by omega) (by omega) (by omega) (by omega)
        · refine s_blx (lv' := [(0, vR 77), (1, vI s), (2, vI x2), (3, vI x3), (4, vI x4)]) (st' := [vI 1]) B262_54_55 rfl ?_
          refine r_goto (tgt := 59) D262_55 rfl ?_
          refine s_blx (lv' := [(6, vI 0), (5, vI 1), (0, vR 77), (1, vI s), (2, vI x2), (3, vI x3), (4, vI x4)]) (st' := []) B262_59_64 rfl ?_
          refine r_loc (lv' := [(0, vR 77), (1, vI s), (2, vI x2), (3, vI x3), (4, vI x4), (5, vI 1), (6, vI 0)]) ⟨rfl, rfl, rfl, rfl, rfl, rfl, rfl, trivial⟩ rfl rfl ?_
          have g32 : gi M22 77 31 = gi N 77 31 := (f24.g rfl).trans (rfl)
          exact ih.2 x2 x3 x4 1 0 M22 H23 f26 (by omega) (by omega) (by omega) (by omega) (by omega) (by omega) (by omega) (by omega) (by omega) (by omega) (by omega) (by omega) (by omega) (by omega) (by omega) (by omega) (by omega) (by omega)
    · intro x2 x3 x4 x5 x6 N HN fN i0 i1 i2 i3 i4 i5 i6 i7 i8 i9 i10 i11 i12 i13 i14 i15 i16 hmu
      refine s_blx (lv' := [(0, vR 77), (1, vI s), (2, vI x2), (3, vI x3), (4, vI x4), (5, vI x5), (6, vI x6)]) (st' := [vI x2, vI x6]) B262_64_67 rfl ?_
      refine r_icmp (tgt := 122) (pc' := 70) D262_67 rfl rfl (by unfold inR; omega) (fun (c33 : x2 ≤ x6) => ?_) (fun (c33 : ¬ (x2 ≤ x6)) => ?_)
      · refine s_blx (lv' := [(0, vR 77), (1, vI s), (2, vI x2), (3, vI x3), (4, vI x4), (5, vI x5), (6, vI x6)]) (st' := [vI x5]) B262_122_124 rfl ?_
        refine r_ifc (tgt := 134) (pc' := 127) D262_124 rfl rfl (by unfold inR; omega) (fun (c34 : x5 = 0) => ?_) (fun (c34 : ¬ (x5 = 0)) => ?_)
        · refine s_blx (lv' := [(4, vI (x4 + 1)), (0, vR 77), (1, vI s), (2, vI x2), (3, vI x3), (5, vI x5), (6, vI x6)]) (st' := []) B262_134_137 rfl ?_
          refine r_goto (tgt := 25) D262_137 rfl ?_
          refine r_loc (lv' := [(0, vR 77), (1, vI s), (2, vI x2), (3, vI x3), (4, vI (x4 + 1))]) ⟨rfl, rfl, rfl, rfl, rfl, trivial⟩ rfl rfl ?_
          exact ih.1 x2 x3 (x4 + 1) N HN fN (by omega) (by omega) (by omega) (by omega) (by omega) (by omega) (by omega) (by omega) (by omega) (by omega) (by omega) (by omega) (by omega)
        · refine s_blx (lv' := [(0, vR 77), (1, vI s), (2, vI x2), (3, vI x3), (4, vI x4), (5, vI x5), (6, vI x6)]) (st' := [vI x4, vI 1, vI x3]) B262_127_131 rfl ?_
          refine r_bin (pc' := 132) D262_131 rfl rfl ?_
          intro z35 r36 _; unfold inR at r36
          refine r_bin (pc' := 133) D262_132 rfl rfl ?_
          intro z37 r38 _; unfold inR at r38
          refine s_blx (lv' := [(4, vI (x4 + 1)), (3, vI z37), (0, vR 77), (1, vI s), (2, vI x2), (5, vI x5), (6, vI x6)]) (st' := []) B262_133_137 rfl ?_
          refine r_goto (tgt := 25) D262_137 rfl ?_
          refine r_loc (lv' := [(0, vR 77), (1, vI s), (2, vI x2), (3, vI z37), (4, vI (x4 + 1))]) ⟨rfl, rfl, rfl, rfl, rfl, trivial⟩ rfl rfl ?_
          exact ih.1 x2 z37 (x4 + 1) N HN fN (by omega) (by omega) (by omega) (by omega) (by omega) (by omega) (by omega) (by omega) (by omega) (by omega) (by omega) (by omega) (by omega)
      · refine s_blx (lv' := [(0, vR 77), (1, vI s), (2, vI x2), (3, vI x3), (4, vI x4), (5, vI x5), (6, vI x6)]) (st' := [vI x5]) B262_70_72 rfl ?_
        refine r_ifc (tgt := 122) (pc' := 75) D262_72 rfl rfl (by unfold inR; omega) (fun (c39 : x5 = 0) => ?_) (fun (c39 : ¬ (x5 = 0)) => ?_)
        · refine s_blx (lv' := [(0, vR 77), (1, vI s), (2, vI x2), (3, vI x3), (4, vI x4), (5, vI x5), (6, vI x6)]) (st' := [vI x5]) B262_122_124 rfl ?_
          refine r_ifc (tgt := 134) (pc' := 127) D262_124 rfl rfl (by unfold inR; omega) (fun (c40 : x5 = 0) => ?_) (fun (c40 : ¬ (x5 = 0)) => ?_)
          · refine s_blx (lv' := [(4, vI (x4 + 1)), (0, vR 77), (1, vI s), (2, vI x2), (3, vI x3), (5, vI x5), (6, vI x6)]) (st' := []) B262_134_137 rfl ?_
            refine r_goto (tgt := 25) D262_137 rfl ?_
            refine r_loc (lv' := [(0, vR 77), (1, vI s), (2, vI x2), (3, vI x3), (4, vI (x4 + 1))]) ⟨rfl, rfl, rfl, rfl, rfl, trivial⟩ rfl rfl ?_
            exact ih.1 x2 x3 (x4 + 1) N HN fN (by omega) (by omega) (by omega) (by omega) (by omega) (by omega) (by omega) (by omega) (by omega) (by omega) (by omega) (by omega) (by omega)
          · exfalso; omega
        · refine s_blx (lv' := [(0, vR 77), (1, vI s), (2, vI x2), (3, vI x3), (4, vI x4), (5, vI x5), (6, vI x6)]) (st' := [vR 77]) B262_75_76 rfl ?_
          refine r_gfix (r := 95) (pc' := 79) D262_76 rfl gf_11_69_77 HN.1 ?_
          refine s_blx (lv' := [(0, vR 77), (1, vI s), (2, vI x2), (3, vI x3), (4, vI x4), (5, vI x5), (6, vI x6)]) (st' := [vI x6, vR 95]) B262_79_81 rfl ?_
          refine r_bald (pc' := 82) D262_81 rfl sc_95 (by decide) HN.1 (by omega) ?_
          intro w41 e42 r43
          have b_w41 := HN.2 95 (x6) (-128) 127 rfl
          rw [← e42] at b_w41; clear r43
          refine s_blx (lv' := [(0, vR 77), (1, vI s), (2, vI x2), (3, vI x3), (4, vI x4), (5, vI x5), (6, vI x6)]) (st' := [vI 255, vI w41]) B262_82_85 rfl ?_
          refine r_and255 (pc' := 86) D262_85 rfl ?_
          refine s_blx (lv' := [(0, vR 77), (1, vI s), (2, vI x2), (3, vI x3), (4, vI x4), (5, vI x5), (6, vI x6)]) (st' := [vI 255, vI (w41 % 256)]) B262_86_89 rfl ?_
          refine r_icmp (tgt := 109) (pc' := 92) D262_89 rfl rfl (by unfold inR; omega) (fun (c44 : (w41 % 256) = 255) => ?_) (fun (c44 : ¬ ((w41 % 256) = 255)) => ?_)
          · refine s_blx (lv' := [(0, vR 77), (1, vI s), (2, vI x2), (3, vI x3), (4, vI x4), (5, vI x5), (6, vI x6)]) (st' := [vI 1]) B262_109_110 rfl ?_
            refine r_goto (tgt := 114) D262_110 rfl ?_
            refine s_blx (lv' := [(6, vI (x6 + 1)), (5, vI 1), (0, vR 77), (1, vI s), (2, vI x2), (3, vI x3), (4, vI x4)]) (st' := []) B262_114_119 rfl ?_
            refine r_goto (tgt := 64) D262_119 rfl ?_
            refine r_loc (lv' := [(0, vR 77), (1, vI s), (2, vI x2), (3, vI x3), (4, vI x4), (5, vI 1), (6, vI (x6 + 1))]) ⟨rfl, rfl, rfl, rfl, rfl, rfl, rfl, trivial⟩ rfl rfl ?_
            exact ih.2 x2 x3 x4 1 (x6 + 1) N HN fN (by omega) (by omega) (by omega) (by omega) (by omega) (by omega) (by omega) (by omega) (by omega) (by omega) (by omega) (by omega) (by omega) (by omega) (by omega) (by omega) (by omega) (by omega)
          · refine s_blx (lv' := [(0, vR 77), (1, vI s), (2, vI x2), (3, vI x3), (4, vI x4), (5, vI x5), (6, vI x6)]) (st' := [vR 77]) B262_92_93 rfl ?_
            refine r_gfix (r := 95) (pc' := 96) D262_93 rfl gf_11_69_77 HN.1 ?_
            refine s_blx (lv' := [(0, vR 77), (1, vI s), (2, vI x2), (3, vI x3), (4, vI x4), (5, vI x5), (6, vI x6)]) (st' := [vI x6, vR 95]) B262_96_98 rfl ?_
            refine r_bald (pc' := 99) D262_98 rfl sc_95 (by decide) HN.1 (by omega) ?_
            intro w45 e46 r47
            have e48 : w41 = w45 := (e46.trans (e42.symm)).symm
            subst e48
            refine s_blx (lv' := [(0, vR 77), (1, vI s), (2, vI x2), (3, vI x3), (4, vI x4), (5, vI x5), (6, vI x6)]) (st' := [vR 77, vI w41]) B262_99_100 rfl ?_
            refine r_gfix (r := 101) (pc' := 103) D262_100 rfl gf_11_90_77 HN.1 ?_
            refine s_blx (lv' := [(0, vR 77), (1, vI s), (2, vI x2), (3, vI x3), (4, vI x4), (5, vI x5), (6, vI x6)]) (st' := [vI x6, vR 101, vI w41]) B262_103_105 rfl ?_
            refine r_iald (pc' := 106) D262_105 rfl sc_101 HN.1 (by omega) ?_
            intro w49 e50 r51
            unfold inR at r51
            refine r_icmp (tgt := 113) (pc' := 109) D262_106 rfl rfl (by unfold inR; omega) (fun (c52 : w41 ≠ w49) => ?_) (fun (c52 : ¬ (w41 ≠ w49)) => ?_)
            · refine s_blx (lv' := [(6, vI (x6 + 1)), (5, vI 0), (0, vR 77), (1, vI s), (2, vI x2), (3, vI x3), (4, vI x4)]) (st' := []) B262_113_119 rfl ?_
              refine r_goto (tgt := 64) D262_119 rfl ?_
              refine r_loc (lv' := [(0, vR 77), (1, vI s), (2, vI x2), (3, vI x3), (4, vI x4), (5, vI 0), (6, vI (x6 + 1))]) ⟨rfl, rfl, rfl, rfl, rfl, rfl, rfl, trivial⟩ rfl rfl ?_
              exact ih.2 x2 x3 x4 0 (x6 + 1) N HN fN (by omega) (by omega) (by omega) (by omega) (by omega) (by omega) (by omega) (by omega) (by omega) (by omega) (by omega) (by omega) (by omega) (by omega) (by omega) (by omega) (by omega) (by omega)
            · refine s_blx (lv' := [(0, vR 77), (1, vI s), (2, vI x2), (3, vI x3), (4, vI x4), (5, vI x5), (6, vI x6)]) (st' := [vI 1]) B262_109_110 rfl ?_
              refine r_goto (tgt := 114) D262_110 rfl ?_
              refine s_blx (lv' := [(6, vI (x6 + 1)), (5, vI 1), (0, vR 77), (1, vI s), (2, vI x2), (3, vI x3), (4, vI x4)]) (st' := []) B262_114_119 rfl ?_
              refine r_goto (tgt := 64) D262_119 rfl ?_
              refine r_loc (lv' := [(0, vR 77), (1, vI s), (2, vI x2), (3, vI x3), (4, vI x4), (5, vI 1), (6, vI (x6 + 1))]) ⟨rfl, rfl, rfl, rfl, rfl, rfl, rfl, trivial⟩ rfl rfl ?_
              exact ih.2 x2 x3 x4 1 (x6 + 1) N HN fN (by omega) (by omega) (by omega) (by omega) (by omega) (by omega) (by omega) (by omega) (by omega) (by omega) (by omega) (by omega) (by omega) (by omega) (by omega) (by omega) (by omega) (by omega)
set_option maxRecDepth 4000 in
set_option maxHeartbeats 4000000 in
theorem k262e {base : Nat} {X : Nat → Option mC} {G : Nat → Value} (E : EnvOK base X G) {d : Nat} (hd : 70 ≤ d) {M : mH} (H : HI base M) (s : Int) (K : Int → Int) (h0 : TB M) (h1 : KK K M) (h2 : GK M) (h3 : -2147483648 ≤ s ∧ s ≤ 2147483647) : sOk base X G d T262 [vR 77, vI s] M (pI (fun v M' => HI base M' ∧ Fr [(77, 7), (77, 8), (77, 9), (77, 10), (77, 14), (77, 15), (77, 16), (77, 32), (77, 41), (77, 42), (77, 43), (77, 46), (77, 47), (83, 0), (84, 0), (85, 0), (100, 0), (101, 0)] M M' ∧ (-2147483648 ≤ v ∧ v ≤ 2147483647) ∧ (gi M' 77 31 = 0))) := by
  have f0 : Fr [(77, 7), (77, 8), (77, 9), (77, 10), (77, 14), (77, 15), (77, 16), (77, 32), (77, 41), (77, 42), (77, 43), (77, 46), (77, 47), (83, 0), (84, 0), (85, 0), (100, 0), (101, 0)] M M := Fr.rf
  refine sOk.of (show sRn base X G d T262 0 [(0, vR 77), (1, vI s)] [] M _ from ?_)
  refine s_blx (lv' := [(0, vR 77), (1, vI s)]) (st' := [vR 77]) B262_0_1 rfl ?_
  refine r_gint (ki := 31) (pc' := 4) D262_1 rfl gf_11_151_77 rfl H.1 ?_
  intro w1 e2 r3
  have b_w1 := H.2 77 (31) 0 400 rfl
  rw [← e2] at b_w1; clear r3
  refine s_blx (lv' := [(2, vI w1), (0, vR 77), (1, vI s)]) (st' := [vI 0, vR 77]) B262_4_7 rfl ?_
  refine r_pint (ki := 31) (pc' := 10) D262_7 rfl pf_11_151_77 rfl H (by unfold inR; omega) (show 0 ≤ 0 ∧ 0 ≤ 400 by omega) ?_
  intro M4 u5 H6 p7
  have f8 := f0.wr u5 rfl
  refine s_blx (lv' := [(2, vI w1), (0, vR 77), (1, vI s)]) (st' := [vI s, vR 77]) B262_10_12 rfl ?_
  refine r_vIp (c := 77) (args := [vI s]) (rest := []) (pc' := 15) D262_12 rfl ck_11_virtual_164 TE160 rfl (Nat.le_of_ble_eq_true rfl) ⟨Nat.le_of_ble_eq_true rfl, Nat.le_of_ble_eq_true rfl⟩ sc_77 ⟨rfl, by decide⟩ H6.1 (dp_0 hd rfl) (k160k E (dp_n hd rfl) H6 s K ((h1.fr f8 rfl)) (by omega)) ?_
  intro v9 q13
  obtain ⟨q11, q12⟩ := q13
  refine r_ifc (tgt := 20) (pc' := 18) D262_15 rfl rfl (by unfold inR; omega) (fun (c14 : v9 ≠ 0) => ?_) (fun (c14 : ¬ (v9 ≠ 0)) => ?_)
  · refine s_blx (lv' := [(4, vI 0), (3, vI 0), (2, vI w1), (0, vR 77), (1, vI s)]) (st' := []) B262_20_25 rfl ?_
    refine r_loc (lv' := [(0, vR 77), (1, vI s), (2, vI w1), (3, vI 0), (4, vI 0)]) ⟨rfl, rfl, rfl, rfl, rfl, trivial⟩ rfl rfl ?_
    have g15 : gi M4 77 31 = 0 := p7
    exact (L_k262e E hd H s K h0 h1 h2 h3 (((8 - 0) * 402 + 401 : Int) + 1).toNat).1 w1 0 0 M4 H6 f8 (by omega) (by omega) (by omega) (by omega) (by omega) (by omega) (by omega) (by omega) (by omega) (by omega) (by omega) (by omega) (by omega)
  · refine s_blx (lv' := [(2, vI w1), (0, vR 77), (1, vI s)]) (st' := [vI (-1)]) B262_18_19 rfl ?_
    have g16 : gi M4 77 31 = 0 := p7
    exact r_iretI D262_19 rfl (⟨H6, f8, by omega, by first | (rw [g16]; omega) | rw [g16]⟩)