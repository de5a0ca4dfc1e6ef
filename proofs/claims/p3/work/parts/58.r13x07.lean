set_option maxRecDepth 4000 in
theorem L_k235x {base : Nat} {X : Nat → Option mC} {G : Nat → Value} (E : EnvOK base X G) {rr : Nat} (ihr : ∀ {d : Nat} (_ : 4 + 3 * rr ≤ d) {M : mH} (_ : HI base M) (live : Int) (p : Int) (q : Int) (s : Int) (a : Int) (e : Int) (gg : Int) (F : Int → Int) (C : Int → Int), ((live = 0 ∨ live = 1)) → (KC C M) → (∀ j : Int, a ≤ j → j < e → F (j + 1) = dl (F j) (C j) ∧ F (j + 1) ≠ 0) → (F e = 2 ∨ F e = 20 ∨ F e = 2001) → (gi M 77 41 = e) → (0 ≤ a ∧ e ≤ 3200) → (gi M 77 40 = gg) → (a ≤ gg ∧ gg ≤ e) → (F gg = 1000 + 100 * p + 10 * q + s ∨ (F gg = 10 + p ∧ q = 0 ∧ s = 0 ∧ C gg ≠ 10 ∧ C gg ≠ 140 ∧ C gg ≠ 11 ∧ C gg ≠ 12)) → (0 ≤ p ∧ 0 ≤ q ∧ p + q ≤ 8) → (0 ≤ s ∧ s ≤ 1) → 8 - p - q < ((rr : Nat) : Int) → sOk base X G d T235 [vR 77, vI live] M (pL (fun v M' => HI base M' ∧ Fr [(77, 41), (77, 43)] M M' ∧ (gg < gi M' 77 40 ∧ gi M' 77 40 ≤ e) ∧ (F (gi M' 77 40) = 2000 + 100 * p + 10 * q + s) ∧ (gi M' 77 40 < e → C (gi M' 77 40) ≠ 142 ∧ C (gi M' 77 40) ≠ 147) ∧ (gi M' 77 40 < e → C (gi M' 77 40) ≠ 143 ∧ C (gi M' 77 40) ≠ 145)))) {d : Nat} (hd : 4 + 3 * (rr + 1) ≤ d) {M : mH} (H : HI base M) (live : Int) (p : Int) (q : Int) (s : Int) (a : Int) (e : Int) (gg : Int) (F : Int → Int) (C : Int → Int) (h0 : (live = 0 ∨ live = 1)) (h1 : KC C M) (h2 : ∀ j : Int, a ≤ j → j < e → F (j + 1) = dl (F j) (C j) ∧ F (j + 1) ≠ 0) (h3 : F e = 2 ∨ F e = 20 ∨ F e = 2001) (h4 : gi M 77 41 = e) (h5 : 0 ≤ a ∧ e ≤ 3200) (h6 : gi M 77 40 = gg) (h7 : a ≤ gg ∧ gg ≤ e) (h8 : F gg = 1000 + 100 * p + 10 * q + s ∨ (F gg = 10 + p ∧ q = 0 ∧ s = 0 ∧ C gg ≠ 10 ∧ C gg ≠ 140 ∧ C gg ≠ 11 ∧ C gg ≠ 12)) (h9 : 0 ≤ p ∧ 0 ≤ q ∧ p + q ≤ 8) (h10 : 0 ≤ s ∧ s ≤ 1) (hrr : 8 - p - q < ((rr + 1 : Nat) : Int)) : ∀ mz : Nat, (∀ (x2 t0 : Int) (N : mH), HI base N → Fr [(77, 41), (77, 43)] M N → (gi N 77 40 = t0) → (gg < t0 ∧ t0 ≤ e) → (gi N 77 41 = e) → (F t0 = 2000 + 100 * p + 10 * q + s) → (t0 < e → C t0 ≠ 142 ∧ C t0 ≠ 147) → (3200 - t0) * 1 + 0 < (mz : Int) → sRn base X G d T235 6 [(0, vR 77), (1, vI live), (2, vL x2)] [] N (s_Q base (pL (fun v M' => HI base M' ∧ Fr [(77, 41), (77, 43)] M M' ∧ (gg < gi M' 77 40 ∧ gi M' 77 40 ≤ e) ∧ (F (gi M' 77 40) = 2000 + 100 * p + 10 * q + s) ∧ (gi M' 77 40 < e → C (gi M' 77 40) ≠ 142 ∧ C (gi M' 77 40) ≠ 147) ∧ (gi M' 77 40 < e → C (gi M' 77 40) ≠ 143 ∧ C (gi M' 77 40) ≠ 145))))) := by
  have f0 : Fr [(77, 41), (77, 43)] M M := Fr.rf
  intro mz
  induction mz with
  | zero => exact fun x2 t0 N _ _ z0 z1 z2 z3 z4 z5 => by omega
  | succ mz ih =>
    intro x2 t0 N HN fN i0 i1 i2 i3 i4 hmu
    refine s_blx (lv' := [(0, vR 77), (1, vI live), (2, vL x2)]) (st' := [vR 77, vR 77]) B235_6_8 rfl ?_
    refine r_gint (ki := 40) (pc' := 11) D235_8 rfl gf_11_378_77 rfl HN.1 ?_
    intro w16 e17 r18
    have e19 : t0 = w16 := (e17.trans (i0)).symm
    subst e19
    have g20 : gi N 77 41 = e := i2
    refine r_vIp (c := 77) (args := [vI t0]) (rest := []) (pc' := 14) D235_11 rfl ck_11_virtual_381 TE232 rfl (Nat.le_of_ble_eq_true rfl) ⟨Nat.le_of_ble_eq_true rfl, Nat.le_of_ble_eq_true rfl⟩ sc_77 ⟨rfl, by decide⟩ HN.1 (by omega) (k232x E (by omega) HN t0 e C ((h1.fr fN rfl)) (by omega) (by omega) (by omega)) ?_
    intro v21 q26
    obtain ⟨q23, q24, q25⟩ := q26
    refine s_blx (lv' := [(0, vR 77), (1, vI live), (2, vL x2)]) (st' := [vI 43, vI v21]) B235_14_16 rfl ?_
    refine r_sIp (args := [vI 43]) (rest := [vI v21]) (pc' := 19) D235_16 rfl ck_11_static_346 TE221 rfl (Nat.le_of_ble_eq_true rfl) ⟨Nat.le_of_ble_eq_true rfl, Nat.le_of_ble_eq_true rfl⟩ (by decide) (by omega) (k221 E (by omega) HN 43 (by omega)) ?_
    intro v27 q30
    have q29 := q30
    have e31 : v27 = 143 := by omega
    subst e31
    refine r_icmp (tgt := 38) (pc' := 22) D235_19 rfl rfl (by unfold inR; omega) (fun (c32 : v21 = 143) => ?_) (fun (c32 : ¬ (v21 = 143)) => ?_)
    · refine s_blx (lv' := [(0, vR 77), (1, vI live), (2, vL x2)]) (st' := [vR 77, vR 77]) B235_38_40 rfl ?_
      refine r_gint (ki := 40) (pc' := 43) D235_40 rfl gf_11_378_77 rfl HN.1 ?_
      intro w33 e34 r35
      have e36 : t0 = w33 := (e34.trans (i0)).symm
      subst e36
      have g37 : gi N 77 41 = e := i2
      refine r_vIp (c := 77) (args := [vI t0]) (rest := []) (pc' := 46) D235_43 rfl ck_11_virtual_381 TE232 rfl (Nat.le_of_ble_eq_true rfl) ⟨Nat.le_of_ble_eq_true rfl, Nat.le_of_ble_eq_true rfl⟩ sc_77 ⟨rfl, by decide⟩ HN.1 (by omega) (k232x E (by omega) HN t0 e C ((h1.fr fN rfl)) (by omega) (by omega) (by omega)) ?_
      intro v38 q43
      obtain ⟨q40, q41, q42⟩ := q43
      refine s_blx (lv' := [(0, vR 77), (1, vI live), (2, vL x2)]) (st' := [vI 43, vI v38]) B235_46_48 rfl ?_
      refine r_sIp (args := [vI 43]) (rest := [vI v38]) (pc' := 51) D235_48 rfl ck_11_static_346 TE221 rfl (Nat.le_of_ble_eq_true rfl) ⟨Nat.le_of_ble_eq_true rfl, Nat.le_of_ble_eq_true rfl⟩ (by decide) (by omega) (k221 E (by omega) HN 43 (by omega)) ?_
      intro v44 q47
      have q46 := q47
      have e48 : v44 = 143 := by omega
      subst e48
      refine r_icmp (tgt := 58) (pc' := 54) D235_51 rfl rfl (by unfold inR; omega) (fun (c49 : v38 ≠ 143) => ?_) (fun (c49 : ¬ (v38 ≠ 143)) => ?_)
      · refine s_blx (lv' := [(4, vI 0), (0, vR 77), (1, vI live), (2, vL x2)]) (st' := [vR 77, vR 77]) B235_58_63 rfl ?_
        refine r_gint (ki := 40) (pc' := 66) D235_63 rfl gf_11_378_77 rfl HN.1 ?_
        intro w50 e51 r52
        have e53 : t0 = w50 := (e51.trans (i0)).symm
        subst e53
        refine s_blx (lv' := [(4, vI 0), (0, vR 77), (1, vI live), (2, vL x2)]) (st' := [vI (t0 + 1), vR 77]) B235_66_68 rfl ?_
        refine r_pint (ki := 40) (pc' := 71) D235_68 rfl pf_11_378_77 rfl HN (by unfold inR; omega) trivial ?_
        intro M54 u55 H56 p57
        have f58 := fN.wr u55 rfl
        have kd := h2 t0 (by omega) (by omega)
        have ke : C t0 = 143 ∨ C t0 = 145 := by omega
        have k1 := d_op (x := F t0) (C t0) (by omega) (by omega) (by omega)
        refine s_blx (lv' := [(4, vI 0), (0, vR 77), (1, vI live), (2, vL x2)]) (st' := [vI live, vR 77]) B235_71_73 rfl ?_
        have g59 : gi M54 77 41 = e := (u55.gi_ne (by decide) (Or.inr (by decide))).trans (i2)
        have g60 : gi M54 77 40 = t0 + 1 := p57
        refine r_vL (c := 77) (args := [vI live]) (rest := []) (pc' := 76) D235_73 rfl ck_11_virtual_391 TE236 rfl (Nat.le_of_ble_eq_true rfl) ⟨Nat.le_of_ble_eq_true rfl, Nat.le_of_ble_eq_true rfl⟩ sc_77 ⟨rfl, by decide⟩ H56.1 (by omega) (k236x E ihr (by omega) H56 live p q s a e (t0 + 1) F C (by omega) ((h1.fr f58 rfl)) (h2) (by omega) (by omega) (by omega) (by omega) (by omega) (by omega) (by omega) (by omega) (by omega)) ?_
        intro v61 M62 q68
        obtain ⟨H63, f64, q65, q66, q67⟩ := q68
        have f69 := f58.tr (f64.up rfl)
        obtain ⟨t70, ht71⟩ : ∃ q, q = gi M62 77 40 := ⟨_, rfl⟩
        rw [← ht71] at q65
        rw [← ht71] at q66
        rw [← ht71] at q67
        refine s_blx (lv' := [(5, vL v61), (4, vI 0), (0, vR 77), (1, vI live), (2, vL x2)]) (st' := [vI 0, vR 77]) B235_76_81 rfl ?_
        refine r_ifc (tgt := 91) (pc' := 84) D235_81 rfl rfl (by unfold inR; omega) (fun (c72 : 0 = 0) => ?_) (fun (c72 : ¬ (0 = 0)) => ?_)
        · refine s_blx (lv' := [(5, vL v61), (4, vI 0), (0, vR 77), (1, vI live), (2, vL x2)]) (st' := [vI live, vL (x2 - v61), vR 77]) B235_91_96 rfl ?_
          refine r_vL (c := 77) (args := [vL (x2 - v61), vI live]) (rest := []) (pc' := 99) D235_96 rfl ck_11_virtual_395 TE234 rfl (Nat.le_of_ble_eq_true rfl) ⟨Nat.le_of_ble_eq_true rfl, Nat.le_of_ble_eq_true rfl⟩ sc_77 ⟨rfl, by decide⟩ H63.1 (by omega) (k234x E (by omega) H63 (x2 - v61) live (by omega)) ?_
          intro v73 M74 q77
          obtain ⟨H75, f76⟩ := q77
          have f78 := f69.tr (f76.up rfl)
          refine s_blx (lv' := [(2, vL v73), (5, vL v61), (4, vI 0), (0, vR 77), (1, vI live)]) (st' := []) B235_99_100 rfl ?_
          refine r_goto (tgt := 6) D235_100 rfl ?_
          refine r_loc (lv' := [(0, vR 77), (1, vI live), (2, vL v73)]) ⟨rfl, rfl, rfl, trivial⟩ rfl rfl ?_
          have g79 : gi M74 77 40 = t70 := (f76.g rfl).trans (ht71.symm)
          have g80 : gi M74 77 41 = e := (f76.g rfl).trans ((f64.g rfl).trans ((u55.gi_ne (by decide) (Or.inr (by decide))).trans (i2)))
          exact ih v73 t70 M74 H75 f78 (by omega) (by omega) (by omega) (by omega) (by omega) (by omega)
        · exfalso; omega
      · refine s_blx (lv' := [(0, vR 77), (1, vI live), (2, vL x2)]) (st' := [vI 1]) B235_54_55 rfl ?_
        refine r_goto (tgt := 59) D235_55 rfl ?_
        refine s_blx (lv' := [(4, vI 1), (0, vR 77), (1, vI live), (2, vL x2)]) (st' := [vR 77, vR 77]) B235_59_63 rfl ?_
        refine r_gint (ki := 40) (pc' := 66) D235_63 rfl gf_11_378_77 rfl HN.1 ?_
        intro w81 e82 r83
        have e84 : t0 = w81 := (e82.trans (i0)).symm
        subst e84
        refine s_blx (lv' := [(4, vI 1), (0, vR 77), (1, vI live), (2, vL x2)]) (st' := [vI (t0 + 1), vR 77]) B235_66_68 rfl ?_
        refine r_pint (ki := 40) (pc' := 71) D235_68 rfl pf_11_378_77 rfl HN (by unfold inR; omega) trivial ?_
        intro M85 u86 H87 p88
        have f89 := fN.wr u86 rfl
        have kd := h2 t0 (by omega) (by omega)
        have ke : C t0 = 143 ∨ C t0 = 145 := by omega
        have k1 := d_op (x := F t0) (C t0) (by omega) (by omega) (by omega)
        refine s_blx (lv' := [(4, vI 1), (0, vR 77), (1, vI live), (2, vL x2)]) (st' := [vI live, vR 77]) B235_71_73 rfl ?_
        have g90 : gi M85 77 41 = e := (u86.gi_ne (by decide) (Or.inr (by decide))).trans (i2)
        have g91 : gi M85 77 40 = t0 + 1 := p88
        refine r_vL (c := 77) (args := [vI live]) (rest := []) (pc' := 76) D235_73 rfl ck_11_virtual_391 TE236 rfl (Nat.le_of_ble_eq_true rfl) ⟨Nat.le_of_ble_eq_true rfl, Nat.le_of_ble_eq_true rfl⟩ sc_77 ⟨rfl, by decide⟩ H87.1 (by omega) (k236x E ihr (by omega) H87 live p q s a e (t0 + 1) F C (by omega) ((h1.fr f89 rfl)) (h2) (by omega) (by omega) (by omega) (by omega) (by omega) (by omega) (by omega) (by omega) (by omega)) ?_
        intro v92 M93 q99
        obtain ⟨H94, f95, q96, q97, q98⟩ := q99
        have f100 := f89.tr (f95.up rfl)
        obtain ⟨t101, ht102⟩ : ∃ q, q = gi M93 77 40 := ⟨_, rfl⟩
        rw [← ht102] at q96
        rw [← ht102] at q97
        rw [← ht102] at q98
        refine s_blx (lv' := [(5, vL v92), (4, vI 1), (0, vR 77), (1, vI live), (2, vL x2)]) (st' := [vI 1, vR 77]) B235_76_81 rfl ?_
        refine r_ifc (tgt := 91) (pc' := 84) D235_81 rfl rfl (by unfold inR; omega) (fun (c103 : 1 = 0) => ?_) (fun (c103 : ¬ (1 = 0)) => ?_)
        · exfalso; omega
        · refine s_blx (lv' := [(5, vL v92), (4, vI 1), (0, vR 77), (1, vI live), (2, vL x2)]) (st' := [vL (x2 + v92), vR 77]) B235_84_88 rfl ?_
          refine r_goto (tgt := 95) D235_88 rfl ?_
          refine s_blx (lv' := [(5, vL v92), (4, vI 1), (0, vR 77), (1, vI live), (2, vL x2)]) (st' := [vI live, vL (x2 + v92), vR 77]) B235_95_96 rfl ?_
          refine r_vL (c := 77) (args := [vL (x2 + v92), vI live]) (rest := []) (pc' := 99) D235_96 rfl ck_11_virtual_395 TE234 rfl (Nat.le_of_ble_eq_true rfl) ⟨Nat.le_of_ble_eq_true rfl, Nat.le_of_ble_eq_true rfl⟩ sc_77 ⟨rfl, by decide⟩ H94.1 (by omega) (k234x E (by omega) H94 (x2 + v92) live (by omega)) ?_
          intro v104 M105 q108
          obtain ⟨H106, f107⟩ := q108
          have f109 := f100.tr (f107.up rfl)
          refine s_blx (lv' := [(2, vL v104), (5, vL v92), (4, vI 1), (0, vR 77), (1, vI live)]) (st' := []) B235_99_100 rfl ?_
          refine r_goto (tgt := 6) D235_100 rfl ?_
          refine r_loc (lv' := [(0, vR 77), (1, vI live), (2, vL v104)]) ⟨rfl, rfl, rfl, trivial⟩ rfl rfl ?_
          have g110 : gi M105 77 40 = t101 := (f107.g rfl).trans (ht102.symm)
          have g111 : gi M105 77 41 = e := (f107.g rfl).trans ((f95.g rfl).trans ((u86.gi_ne (by decide) (Or.inr (by decide))).trans (i2)))
          exact ih v104 t101 M105 H106 f109 (by omega) (by omega) (by omega) (by omega) (by omega) (by omega)
    · refine s_blx (lv' := [(0, vR 77), (1, vI live), (2, vL x2)]) (st' := [vR 77, vR 77]) B235_22_24 rfl ?_
      refine r_gint (ki := 40) (pc' := 27) D235_24 rfl gf_11_378_77 rfl HN.1 ?_
      intro w112 e113 r114
      have e115 : t0 = w112 := (e113.trans (i0)).symm
      subst e115
      have g116 : gi N 77 41 = e := i2
      refine r_vIp (c := 77) (args := [vI t0]) (rest := []) (pc' := 30) D235_27 rfl ck_11_virtual_381 TE232 rfl (Nat.le_of_ble_eq_true rfl) ⟨Nat.le_of_ble_eq_true rfl, Nat.le_of_ble_eq_true rfl⟩ sc_77 ⟨rfl, by decide⟩ HN.1 (by omega) (k232x E (by omega) HN t0 e C ((h1.fr fN rfl)) (by omega) (by omega) (by omega)) ?_
      intro v117 q122
      obtain ⟨q119, q120, q121⟩ := q122
      refine s_blx (lv' := [(0, vR 77), (1, vI live), (2, vL x2)]) (st' := [vI 45, vI v117]) B235_30_32 rfl ?_
      refine r_sIp (args := [vI 45]) (rest := [vI v117]) (pc' := 35) D235_32 rfl ck_11_static_346 TE221 rfl (Nat.le_of_ble_eq_true rfl) ⟨Nat.le_of_ble_eq_true rfl, Nat.le_of_ble_eq_true rfl⟩ (by decide) (by omega) (k221 E (by omega) HN 45 (by omega)) ?_
      intro v123 q126
      have q125 := q126
      have e127 : v123 = 145 := by omega
      subst e127
      refine r_icmp (tgt := 103) (pc' := 38) D235_35 rfl rfl (by unfold inR; omega) (fun (c128 : v117 ≠ 145) => ?_) (fun (c128 : ¬ (v117 ≠ 145)) => ?_)
      · refine s_blx (lv' := [(0, vR 77), (1, vI live), (2, vL x2)]) (st' := [vL x2]) B235_103_104 rfl ?_
        have g129 : gi N 77 40 = t0 := i0
        exact r_lretL D235_104 rfl (⟨HN, fN, by rw [g129]; omega, by rw [g129]; omega, by rw [g129]; omega, by rw [g129]; omega⟩)
      · refine s_blx (lv' := [(0, vR 77), (1, vI live), (2, vL x2)]) (st' := [vR 77, vR 77]) B235_38_40 rfl ?_
        refine r_gint (ki := 40) (pc' := 43) D235_40 rfl gf_11_378_77 rfl HN.1 ?_
        intro w130 e131 r132
        have e133 : t0 = w130 := (e131.trans (i0)).symm
        subst e133
        have g134 : gi N 77 41 = e := i2
        refine r_vIp (c := 77) (args := [vI t0]) (rest := []) (pc' := 46) D235_43 rfl ck_11_virtual_381 TE232 rfl (Nat.le_of_ble_eq_true rfl) ⟨Nat.le_of_ble_eq_true rfl, Nat.le_of_ble_eq_true rfl⟩ sc_77 ⟨rfl, by decide⟩ HN.1 (by omega) (k232x E (by omega) HN t0 e C ((h1.fr fN rfl)) (by omega) (by omega) (by omega)) ?_
        intro v135 q140
        obtain ⟨q137, q138, q139⟩ := q140
        refine s_blx (lv' := [(0, vR 77), (1, vI live), (2, vL x2)]) (st' := [vI 43, vI v135]) B235_46_48 rfl ?_
        refine r_sIp (args := [vI 43]) (rest := [vI v135]) (pc' := 51) D235_48 rfl ck_11_static_346 TE221 rfl (Nat.le_of_ble_eq_true rfl) ⟨Nat.le_of_ble_eq_true rfl, Nat.le_of_ble_eq_true rfl⟩ (by decide) (by omega) (k221 E (by omega) HN 43 (by omega)) ?_
        intro v141 q144
        have q143 := q144
        have e145 : v141 = 143 := by omega
        subst e145
        refine r_icmp (tgt := 58) (pc' := 54) D235_51 rfl rfl (by unfold inR; omega) (fun (c146 : v135 ≠ 143) => ?_) (fun (c146 : ¬ (v135 ≠ 143)) => ?_)
        · refine s_blx (lv' := [(4, vI 0), (0, vR 77), (1, vI live), (2, vL x2)]) (st' := [vR 77, vR 77]) B235_58_63 rfl ?_
          refine r_gint (ki := 40) (pc' := 66) D235_63 rfl gf_11_378_77 rfl HN.1 ?_
          intro w147 e148 r149
          have e150 : t0 = w147 := (e148.trans (i0)).symm
          subst e150
          refine s_blx (lv' := [(4, vI 0), (0, vR 77), (1, vI live), (2, vL x2)]) (st' := [vI (t0 + 1), vR 77]) B235_66_68 rfl ?_
          refine r_pint (ki := 40) (pc' := 71) D235_68 rfl pf_11_378_77 rfl HN (by unfold inR; omega) trivial ?_
          intro M151 u152 H153 p154
          have f155 := fN.wr u152 rfl
          have kd := h2 t0 (by omega) (by omega)
          have ke : C t0 = 143 ∨ C t0 = 145 := by omega
          have k1 := d_op (x := F t0) (C t0) (by omega) (by omega) (by omega)
          refine s_blx (lv' := [(4, vI 0), (0, vR 77), (1, vI live), (2, vL x2)]) (st' := [vI live, vR 77]) B235_71_73 rfl ?_
          have g156 : gi M151 77 41 = e := (u152.gi_ne (by decide) (Or.inr (by decide))).trans (i2)
          have g157 : gi M151 77 40 = t0 + 1 := p154
          refine r_vL (c := 77) (args := [vI live]) (rest := []) (pc' := 76) D235_73 rfl ck_11_virtual_391 TE236 rfl (Nat.le_of_ble_eq_true rfl) ⟨Nat.le_of_ble_eq_true rfl, Nat.le_of_ble_eq_true rfl⟩ sc_77 ⟨rfl, by decide⟩ H153.1 (by omega) (k236x E ihr (by omega) H153 live p q s a e (t0 + 1) F C (by omega) ((h1.fr f155 rfl)) (h2) (by omega) (by omega) (by omega) (by omega) (by omega) (by omega) (by omega) (by omega) (by omega)) ?_
          intro v158 M159 q165
          obtain ⟨H160, f161, q162, q163, q164⟩ := q165
          have f166 := f155.tr (f161.up rfl)
          obtain ⟨t167, ht168⟩ : ∃ q, q = gi M159 77 40 := ⟨_, rfl⟩
          rw [← ht168] at q162
          rw [← ht168] at q163
          rw [← ht168] at q164
          refine s_blx (lv' := [(5, vL v158), (4, vI 0), (0, vR 77), (1, vI live), (2, vL x2)]) (st' := [vI 0, vR 77]) B235_76_81 rfl ?_
          refine r_ifc (tgt := 91) (pc' := 84) D235_81 rfl rfl (by unfold inR; omega) (fun (c169 : 0 = 0) => ?_) (fun (c169 : ¬ (0 = 0)) => ?_)
          · refine s_blx (lv' := [(5, vL v158), (4, vI 0), (0, vR 77), (1, vI live), (2, vL x2)]) (st' := [vI live, vL (x2 - v158), vR 77]) B235_91_96 rfl ?_
            refine r_vL (c := 77) (args := [vL (x2 - v158), vI live]) (rest := []) (pc' := 99) D235_96 rfl ck_11_virtual_395 TE234 rfl (Nat.le_of_ble_eq_true rfl) ⟨Nat.le_of_ble_eq_true rfl, Nat.le_of_ble_eq_true rfl⟩ sc_77 ⟨rfl, by decide⟩ H160.1 (by omega) (k234x E (by omega) H160 (x2 - v158) live (by omega)) ?_
            intro v170 M171 q174
            obtain ⟨H172, f173⟩ := q174
            have f175 := f166.tr (f173.up rfl)
            refine s_blx (lv' := [(2, vL v170), (5, vL v158), (4, vI 0), (0, vR 77), (1, vI live)]) (st' := []) B235_99_100 rfl ?_
            refine r_goto (tgt := 6) D235_100 rfl ?_
            refine r_loc (lv' := [(0, vR 77), (1, vI live), (2, vL v170)]) ⟨rfl, rfl, rfl, trivial⟩ rfl rfl ?_
            have g176 : gi M171 77 40 = t167 := (f173.g rfl).trans (ht168.symm)
            have g177 : gi M171 77 41 = e := (f173.g rfl).trans ((f161.g rfl).trans ((u152.gi_ne (by decide) (Or.inr (by decide))).trans (i2)))
            exact ih v170 t167 M171 H172 f175 (by omega) (by omega) (by omega) (by omega) (by omega) (by omega)
          · exfalso; omega
        · refine s_blx (lv' := [(0, vR 77), (1, vI live), (2, vL x2)]) (st' := [vI 1]) B235_54_55 rfl ?_
          refine r_goto (tgt := 59) D235_55 rfl ?_
          refine s_blx (lv' := [(4, vI 1), (0, vR 77), (1, vI live), (2, vL x2)]) (st' := [vR 77, vR 77]) B235_59_63 rfl ?_
          refine r_gint (ki := 40) (pc' := 66) D235_63 rfl gf_11_378_77 rfl HN.1 ?_
          intro w178 e179 r180
          have e181 : t0 = w178 := (e179.trans (i0)).symm
          subst e181
          refine s_blx (lv' := [(4, vI 1), (0, vR 77), (1, vI live), (2, vL x2)]) (st' := [vI (t0 + 1), vR 77]) B235_66_68 rfl ?_
          refine r_pint (ki := 40) (pc' := 71) D235_68 rfl pf_11_378_77 rfl HN (by unfold inR; omega) trivial ?_
          intro M182 u183 H184 p185
          have f186 := fN.wr u183 rfl
          have kd := h2 t0 (by omega) (by omega)
          have ke : C t0 = 143 ∨ C t0 = 145 := by omega
          have k1 := d_op (x := F t0) (C t0) (by omega) (by omega) (by omega)
          refine s_blx (lv' := [(4, vI 1), (0, vR 77), (1, vI live), (2, vL x2)]) (st' := [vI live, vR 77]) B235_71_73 rfl ?_
          have g187 : gi M182 77 41 = e := (u183.gi_ne (by decide) (Or.inr (by decide))).trans (i2)
          have g188 : gi M182 77 40 = t0 + 1 := p185
          refine r_vL (c := 77) (args := [vI live]) (rest := []) (pc' := 76) D235_73 rfl ck_11_virtual_391 TE236 rfl (Nat.le_of_ble_eq_true rfl) ⟨Nat.le_of_ble_eq_true rfl, Nat.le_of_ble_eq_true rfl⟩ sc_77 ⟨rfl, by decide⟩ H184.1 (by omega) (k236x E ihr (by omega) H184 live p q s a e (t0 + 1) F C (by omega) ((h1.fr f186 rfl)) (h2) (by omega) (by omega) (by omega) (by omega) (by omega) (by omega) (by omega) (by omega) (by omega)) ?_
          intro v189 M190 q196
          obtain ⟨H191, f192, q193, q194, q195⟩ := q196
          have f197 := f186.tr (f192.up rfl)
          obtain ⟨t198, ht199⟩ : ∃ q, q = gi M190 77 40 := ⟨_, rfl⟩
          rw [← ht199] at q193
          rw [← ht199] at q194
          rw [← ht199] at q195
          refine s_blx (lv' := [(5, vL v189), (4, vI 1), (0, vR 77), (1, vI live), (2, vL x2)]) (st' := [vI 1, vR 77]) B235_76_81 rfl ?_
          refine r_ifc (tgt := 91) (pc' := 84) D235_81 rfl rfl (by unfold inR; omega) (fun (c200 : 1 = 0) => ?_) (fun (c200 : ¬ (1 = 0)) => ?_)
          · exfalso; omega
          · refine s_blx (lv' := [(5, vL v189), (4, vI 1), (0, vR 77), (1, vI live), (2, vL x2)]) (st' := [vL (x2 + v189), vR 77]) B235_84_88 rfl ?_
            refine r_goto (tgt := 95) D235_88 rfl ?_
            refine s_blx (lv' := [(5, vL v189), (4, vI 1), (0, vR 77), (1, vI live), (2, vL x2)]) (st' := [vI live, vL (x2 + v189), vR 77]) B235_95_96 rfl ?_
            refine r_vL (c := 77) (args := [vL (x2 + v189), vI live]) (rest := []) (pc' := 99) D235_96 rfl ck_11_virtual_395 TE234 rfl (Nat.le_of_ble_eq_true rfl) ⟨Nat.le_of_ble_eq_true rfl, Nat.le_of_ble_eq_true rfl⟩ sc_77 ⟨rfl, by decide⟩ H191.1 (by omega) (k234x E (by omega) H191 (x2 + v189) live (by omega)) ?_
            intro v201 M202 q205
            obtain ⟨H203, f204⟩ := q205
            have f206 := f197.tr (f204.up rfl)
            refine s_blx (lv' := [(2, vL v201), (5, vL v189), (4, vI 1), (0, vR 77), (1, vI live)]) (st' := []) B235_99_100 rfl ?_
            refine r_goto (tgt := 6) D235_100 rfl ?_
            refine r_loc (lv' := [(0, vR 77), (1, vI live), (2, vL v201)]) ⟨rfl, rfl, rfl, trivial⟩ rfl rfl ?_
            have g207 : gi M202 77 40 = t198 := (f204.g rfl).trans (ht199.symm)
            have g208 : gi M202 77 41 = e := (f204.g rfl).trans ((f192.g rfl).trans ((u183.gi_ne (by decide) (Or.inr (by decide))).trans (i2)))
            exact ih v201 t198 M202 H203 f206 (by omega) (by omega) (by omega) (by omega) (by omega) (by omega)
