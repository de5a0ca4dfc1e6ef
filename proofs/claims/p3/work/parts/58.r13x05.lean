set_option maxRecDepth 4000 in
theorem L_k236x {base : Nat} {X : Nat → Option mC} {G : Nat → Value} (E : EnvOK base X G) {rr : Nat} (ihr : ∀ {d : Nat} (_ : 4 + 3 * rr ≤ d) {M : mH} (_ : HI base M) (live : Int) (p : Int) (q : Int) (s : Int) (a : Int) (e : Int) (gg : Int) (F : Int → Int) (C : Int → Int), ((live = 0 ∨ live = 1)) → (KC C M) → (∀ j : Int, a ≤ j → j < e → F (j + 1) = dl (F j) (C j) ∧ F (j + 1) ≠ 0) → (F e = 2 ∨ F e = 20 ∨ F e = 2001) → (gi M 77 41 = e) → (0 ≤ a ∧ e ≤ 3200) → (gi M 77 40 = gg) → (a ≤ gg ∧ gg ≤ e) → (F gg = 1000 + 100 * p + 10 * q + s ∨ (F gg = 10 + p ∧ q = 0 ∧ s = 0 ∧ C gg ≠ 10 ∧ C gg ≠ 140 ∧ C gg ≠ 11 ∧ C gg ≠ 12)) → (0 ≤ p ∧ 0 ≤ q ∧ p + q ≤ 8) → (0 ≤ s ∧ s ≤ 1) → 8 - p - q < ((rr : Nat) : Int) → sOk base X G d T235 [vR 77, vI live] M (pL (fun v M' => HI base M' ∧ Fr [(77, 41), (77, 43)] M M' ∧ (gg < gi M' 77 40 ∧ gi M' 77 40 ≤ e) ∧ (F (gi M' 77 40) = 2000 + 100 * p + 10 * q + s) ∧ (gi M' 77 40 < e → C (gi M' 77 40) ≠ 142 ∧ C (gi M' 77 40) ≠ 147) ∧ (gi M' 77 40 < e → C (gi M' 77 40) ≠ 143 ∧ C (gi M' 77 40) ≠ 145)))) {d : Nat} (hd : 6 + 3 * rr ≤ d) {M : mH} (H : HI base M) (live : Int) (p : Int) (q : Int) (s : Int) (a : Int) (e : Int) (gg : Int) (F : Int → Int) (C : Int → Int) (h0 : (live = 0 ∨ live = 1)) (h1 : KC C M) (h2 : ∀ j : Int, a ≤ j → j < e → F (j + 1) = dl (F j) (C j) ∧ F (j + 1) ≠ 0) (h3 : F e = 2 ∨ F e = 20 ∨ F e = 2001) (h4 : gi M 77 41 = e) (h5 : 0 ≤ a ∧ e ≤ 3200) (h6 : gi M 77 40 = gg) (h7 : a ≤ gg ∧ gg ≤ e) (h8 : F gg = 1000 + 100 * p + 10 * q + s ∨ (F gg = 10 + p ∧ q = 0 ∧ s = 0 ∧ C gg ≠ 10 ∧ C gg ≠ 140 ∧ C gg ≠ 11 ∧ C gg ≠ 12)) (h9 : 0 ≤ p ∧ 0 ≤ q ∧ p + q ≤ 8) (h10 : 0 ≤ s ∧ s ≤ 1) (h11 : 8 - p - q < (rr : Int) + 1) : ∀ mz : Nat, (∀ (x2 t0 : Int) (N : mH), HI base N → Fr [(77, 41), (77, 43)] M N → (gi N 77 40 = t0) → (gg < t0 ∧ t0 ≤ e) → (gi N 77 41 = e) → (F t0 = 2000 + 100 * p + 10 * q + s) → (3200 - t0) * 1 + 0 < (mz : Int) → sRn base X G d T236 6 [(0, vR 77), (1, vI live), (2, vL x2)] [] N (s_Q base (pL (fun v M' => HI base M' ∧ Fr [(77, 41), (77, 43)] M M' ∧ (gg < gi M' 77 40 ∧ gi M' 77 40 ≤ e) ∧ (F (gi M' 77 40) = 2000 + 100 * p + 10 * q + s) ∧ (gi M' 77 40 < e → C (gi M' 77 40) ≠ 142 ∧ C (gi M' 77 40) ≠ 147))))) := by
  have f0 : Fr [(77, 41), (77, 43)] M M := Fr.rf
  intro mz
  induction mz with
  | zero => exact fun x2 t0 N _ _ z0 z1 z2 z3 z4 => by omega
  | succ mz ih =>
    intro x2 t0 N HN fN i0 i1 i2 i3 hmu
    refine s_blx (lv' := [(0, vR 77), (1, vI live), (2, vL x2)]) (st' := [vR 77, vR 77]) B236_6_8 rfl ?_
    refine r_gint (ki := 40) (pc' := 11) D236_8 rfl gf_11_378_77 rfl HN.1 ?_
    intro w15 e16 r17
    have e18 : t0 = w15 := (e16.trans (i0)).symm
    subst e18
    have g19 : gi N 77 41 = e := i2
    refine r_vIp (c := 77) (args := [vI t0]) (rest := []) (pc' := 14) D236_11 rfl ck_11_virtual_381 TE232 rfl (Nat.le_of_ble_eq_true rfl) ⟨Nat.le_of_ble_eq_true rfl, Nat.le_of_ble_eq_true rfl⟩ sc_77 ⟨rfl, by decide⟩ HN.1 (by omega) (k232x E (by omega) HN t0 e C ((h1.fr fN rfl)) (by omega) (by omega) (by omega)) ?_
    intro v20 q25
    obtain ⟨q22, q23, q24⟩ := q25
    refine s_blx (lv' := [(0, vR 77), (1, vI live), (2, vL x2)]) (st' := [vI 42, vI v20]) B236_14_16 rfl ?_
    refine r_sIp (args := [vI 42]) (rest := [vI v20]) (pc' := 19) D236_16 rfl ck_11_static_346 TE221 rfl (Nat.le_of_ble_eq_true rfl) ⟨Nat.le_of_ble_eq_true rfl, Nat.le_of_ble_eq_true rfl⟩ (by decide) (by omega) (k221 E (by omega) HN 42 (by omega)) ?_
    intro v26 q29
    have q28 := q29
    have e30 : v26 = 142 := by omega
    subst e30
    refine r_icmp (tgt := 38) (pc' := 22) D236_19 rfl rfl (by unfold inR; omega) (fun (c31 : v20 = 142) => ?_) (fun (c31 : ¬ (v20 = 142)) => ?_)
    · refine s_blx (lv' := [(0, vR 77), (1, vI live), (2, vL x2)]) (st' := [vR 77, vR 77]) B236_38_40 rfl ?_
      refine r_gint (ki := 40) (pc' := 43) D236_40 rfl gf_11_378_77 rfl HN.1 ?_
      intro w32 e33 r34
      have e35 : t0 = w32 := (e33.trans (i0)).symm
      subst e35
      have g36 : gi N 77 41 = e := i2
      refine r_vIp (c := 77) (args := [vI t0]) (rest := []) (pc' := 46) D236_43 rfl ck_11_virtual_381 TE232 rfl (Nat.le_of_ble_eq_true rfl) ⟨Nat.le_of_ble_eq_true rfl, Nat.le_of_ble_eq_true rfl⟩ sc_77 ⟨rfl, by decide⟩ HN.1 (by omega) (k232x E (by omega) HN t0 e C ((h1.fr fN rfl)) (by omega) (by omega) (by omega)) ?_
      intro v37 q42
      obtain ⟨q39, q40, q41⟩ := q42
      refine s_blx (lv' := [(0, vR 77), (1, vI live), (2, vL x2)]) (st' := [vI 42, vI v37]) B236_46_48 rfl ?_
      refine r_sIp (args := [vI 42]) (rest := [vI v37]) (pc' := 51) D236_48 rfl ck_11_static_346 TE221 rfl (Nat.le_of_ble_eq_true rfl) ⟨Nat.le_of_ble_eq_true rfl, Nat.le_of_ble_eq_true rfl⟩ (by decide) (by omega) (k221 E (by omega) HN 42 (by omega)) ?_
      intro v43 q46
      have q45 := q46
      have e47 : v43 = 142 := by omega
      subst e47
      refine r_icmp (tgt := 58) (pc' := 54) D236_51 rfl rfl (by unfold inR; omega) (fun (c48 : v37 ≠ 142) => ?_) (fun (c48 : ¬ (v37 ≠ 142)) => ?_)
      · refine s_blx (lv' := [(4, vI 0), (0, vR 77), (1, vI live), (2, vL x2)]) (st' := [vR 77, vR 77]) B236_58_63 rfl ?_
        refine r_gint (ki := 40) (pc' := 66) D236_63 rfl gf_11_378_77 rfl HN.1 ?_
        intro w49 e50 r51
        have e52 : t0 = w49 := (e50.trans (i0)).symm
        subst e52
        refine s_blx (lv' := [(4, vI 0), (0, vR 77), (1, vI live), (2, vL x2)]) (st' := [vI (t0 + 1), vR 77]) B236_66_68 rfl ?_
        refine r_pint (ki := 40) (pc' := 71) D236_68 rfl pf_11_378_77 rfl HN (by unfold inR; omega) trivial ?_
        intro M53 u54 H55 p56
        have f57 := fN.wr u54 rfl
        have kd := h2 t0 (by omega) (by omega)
        have ke : C t0 = 142 ∨ C t0 = 147 := by omega
        have k1 := d_op (x := F t0) (C t0) (by omega) (by omega) (by omega)
        refine s_blx (lv' := [(4, vI 0), (0, vR 77), (1, vI live), (2, vL x2)]) (st' := [vI live, vR 77]) B236_71_73 rfl ?_
        have g58 : gi M53 77 41 = e := (u54.gi_ne (by decide) (Or.inr (by decide))).trans (i2)
        have g59 : gi M53 77 40 = t0 + 1 := p56
        refine r_vL (c := 77) (args := [vI live]) (rest := []) (pc' := 76) D236_73 rfl ck_11_virtual_399 TE237 rfl (Nat.le_of_ble_eq_true rfl) ⟨Nat.le_of_ble_eq_true rfl, Nat.le_of_ble_eq_true rfl⟩ sc_77 ⟨rfl, by decide⟩ H55.1 (by omega) (k237x E ihr (by omega) H55 live p q s a e (t0 + 1) F C (by omega) ((h1.fr f57 rfl)) (h2) (by omega) (by omega) (by omega) (by omega) (by omega) (by omega) (by omega) (by omega) (by omega)) ?_
        intro v60 M61 q66
        obtain ⟨H62, f63, q64, q65⟩ := q66
        have f67 := f57.tr (f63.up rfl)
        obtain ⟨t68, ht69⟩ : ∃ q, q = gi M61 77 40 := ⟨_, rfl⟩
        rw [← ht69] at q64
        rw [← ht69] at q65
        refine s_blx (lv' := [(5, vL v60), (4, vI 0), (0, vR 77), (1, vI live), (2, vL x2)]) (st' := [vI 0]) B236_76_80 rfl ?_
        refine r_ifc (tgt := 113) (pc' := 83) D236_80 rfl rfl (by unfold inR; omega) (fun (c70 : 0 ≠ 0) => ?_) (fun (c70 : ¬ (0 ≠ 0)) => ?_)
        · exfalso; omega
        · refine s_blx (lv' := [(5, vL v60), (4, vI 0), (0, vR 77), (1, vI live), (2, vL x2)]) (st' := [vL 0, vL v60]) B236_83_86 rfl ?_
          refine r_lcmpz (pc' := 87) D236_86 rfl ?_
          intro z71 r72 r73 knz
          refine r_ifc (tgt := 113) (pc' := 90) D236_87 rfl rfl (by unfold inR; omega) (fun (c74 : z71 ≠ 0) => ?_) (fun (c74 : ¬ (z71 ≠ 0)) => ?_)
          · refine s_blx (lv' := [(5, vL v60), (4, vI 0), (0, vR 77), (1, vI live), (2, vL x2)]) (st' := [vI 0, vR 77]) B236_113_116 rfl ?_
            refine r_ifc (tgt := 126) (pc' := 119) D236_116 rfl rfl (by unfold inR; omega) (fun (c75 : 0 = 0) => ?_) (fun (c75 : ¬ (0 = 0)) => ?_)
            · refine s_blx (lv' := [(5, vL v60), (4, vI 0), (0, vR 77), (1, vI live), (2, vL x2)]) (st' := [vL v60, vL x2, vR 77]) B236_126_129 rfl ?_
              refine r_ldivz (pc' := 130) D236_129 rfl (by first | exact knz (by omega) | exact nz_1 | (exfalso; omega)) ?_
              intro z76 _
              refine s_blx (lv' := [(5, vL v60), (4, vI 0), (0, vR 77), (1, vI live), (2, vL x2)]) (st' := [vI live, vL z76, vR 77]) B236_130_131 rfl ?_
              refine r_vL (c := 77) (args := [vL z76, vI live]) (rest := []) (pc' := 134) D236_131 rfl ck_11_virtual_395 TE234 rfl (Nat.le_of_ble_eq_true rfl) ⟨Nat.le_of_ble_eq_true rfl, Nat.le_of_ble_eq_true rfl⟩ sc_77 ⟨rfl, by decide⟩ H62.1 (by omega) (k234x E (by omega) H62 z76 live (by omega)) ?_
              intro v77 M78 q81
              obtain ⟨H79, f80⟩ := q81
              have f82 := f67.tr (f80.up rfl)
              refine s_blx (lv' := [(2, vL v77), (5, vL v60), (4, vI 0), (0, vR 77), (1, vI live)]) (st' := []) B236_134_135 rfl ?_
              refine r_goto (tgt := 6) D236_135 rfl ?_
              refine r_loc (lv' := [(0, vR 77), (1, vI live), (2, vL v77)]) ⟨rfl, rfl, rfl, trivial⟩ rfl rfl ?_
              have g83 : gi M78 77 40 = t68 := (f80.g rfl).trans (ht69.symm)
              have g84 : gi M78 77 41 = e := (f80.g rfl).trans ((f63.g rfl).trans ((u54.gi_ne (by decide) (Or.inr (by decide))).trans (i2)))
              exact ih v77 t68 M78 H79 f82 (by omega) (by omega) (by omega) (by omega) (by omega)
            · exfalso; omega
          · refine s_blx (lv' := [(5, vL v60), (4, vI 0), (0, vR 77), (1, vI live), (2, vL x2)]) (st' := [vR 77, vR 77]) B236_90_92 rfl ?_
            refine r_gint (ki := 42) (pc' := 95) D236_92 rfl gf_11_388_77 rfl H62.1 ?_
            intro w85 e86 r87
            have b_w85 := H62.2 77 (42) 0 1 rfl
            rw [← e86] at b_w85; clear r87
            refine r_ifc (tgt := 102) (pc' := 98) D236_95 rfl rfl (by unfold inR; omega) (fun (c88 : w85 ≠ 0) => ?_) (fun (c88 : ¬ (w85 ≠ 0)) => ?_)
            · refine s_blx (lv' := [(5, vL v60), (4, vI 0), (0, vR 77), (1, vI live), (2, vL x2)]) (st' := [vI 1, vR 77]) B236_102_103 rfl ?_
              refine r_goto (tgt := 107) D236_103 rfl ?_
              refine r_pbool (ki := 42) (pc' := 110) D236_107 rfl pf_11_388_77 rfl H62 (by omega) (show 0 ≤ 1 ∧ 1 ≤ 1 by omega) ?_
              intro M89 u90 H91 p92
              have f93 := f67.wr u90 rfl
              refine s_blx (lv' := [(5, vL 1), (4, vI 0), (0, vR 77), (1, vI live), (2, vL x2)]) (st' := [vI 0, vR 77]) B236_110_116 rfl ?_
              refine r_ifc (tgt := 126) (pc' := 119) D236_116 rfl rfl (by unfold inR; omega) (fun (c94 : 0 = 0) => ?_) (fun (c94 : ¬ (0 = 0)) => ?_)
              · refine s_blx (lv' := [(5, vL 1), (4, vI 0), (0, vR 77), (1, vI live), (2, vL x2)]) (st' := [vL 1, vL x2, vR 77]) B236_126_129 rfl ?_
                refine r_ldivz (pc' := 130) D236_129 rfl (by first | exact knz (by omega) | exact nz_1 | (exfalso; omega)) ?_
                intro z95 _
                refine s_blx (lv' := [(5, vL 1), (4, vI 0), (0, vR 77), (1, vI live), (2, vL x2)]) (st' := [vI live, vL z95, vR 77]) B236_130_131 rfl ?_
                refine r_vL (c := 77) (args := [vL z95, vI live]) (rest := []) (pc' := 134) D236_131 rfl ck_11_virtual_395 TE234 rfl (Nat.le_of_ble_eq_true rfl) ⟨Nat.le_of_ble_eq_true rfl, Nat.le_of_ble_eq_true rfl⟩ sc_77 ⟨rfl, by decide⟩ H91.1 (by omega) (k234x E (by omega) H91 z95 live (by omega)) ?_
                intro v96 M97 q100
                obtain ⟨H98, f99⟩ := q100
                have f101 := f93.tr (f99.up rfl)
                refine s_blx (lv' := [(2, vL v96), (5, vL 1), (4, vI 0), (0, vR 77), (1, vI live)]) (st' := []) B236_134_135 rfl ?_
                refine r_goto (tgt := 6) D236_135 rfl ?_
                refine r_loc (lv' := [(0, vR 77), (1, vI live), (2, vL v96)]) ⟨rfl, rfl, rfl, trivial⟩ rfl rfl ?_
                have g102 : gi M97 77 40 = t68 := (f99.g rfl).trans ((u90.gi_ne (by decide) (Or.inr (by decide))).trans (ht69.symm))
                have g103 : gi M97 77 41 = e := (f99.g rfl).trans ((u90.gi_ne (by decide) (Or.inr (by decide))).trans ((f63.g rfl).trans ((u54.gi_ne (by decide) (Or.inr (by decide))).trans (i2))))
                exact ih v96 t68 M97 H98 f101 (by omega) (by omega) (by omega) (by omega) (by omega)
              · exfalso; omega
            · refine s_blx (lv' := [(5, vL v60), (4, vI 0), (0, vR 77), (1, vI live), (2, vL x2)]) (st' := [vI live, vR 77]) B236_98_99 rfl ?_
              refine r_ifc (tgt := 106) (pc' := 102) D236_99 rfl rfl (by unfold inR; omega) (fun (c104 : live = 0) => ?_) (fun (c104 : ¬ (live = 0)) => ?_)
              · refine s_blx (lv' := [(5, vL v60), (4, vI 0), (0, vR 77), (1, vI live), (2, vL x2)]) (st' := [vI 0, vR 77]) B236_106_107 rfl ?_
                refine r_pbool (ki := 42) (pc' := 110) D236_107 rfl pf_11_388_77 rfl H62 (by omega) (show 0 ≤ 0 ∧ 0 ≤ 1 by omega) ?_
                intro M105 u106 H107 p108
                have f109 := f67.wr u106 rfl
                refine s_blx (lv' := [(5, vL 1), (4, vI 0), (0, vR 77), (1, vI live), (2, vL x2)]) (st' := [vI 0, vR 77]) B236_110_116 rfl ?_
                refine r_ifc (tgt := 126) (pc' := 119) D236_116 rfl rfl (by unfold inR; omega) (fun (c110 : 0 = 0) => ?_) (fun (c110 : ¬ (0 = 0)) => ?_)
                · refine s_blx (lv' := [(5, vL 1), (4, vI 0), (0, vR 77), (1, vI live), (2, vL x2)]) (st' := [vL 1, vL x2, vR 77]) B236_126_129 rfl ?_
                  refine r_ldivz (pc' := 130) D236_129 rfl (by first | exact knz (by omega) | exact nz_1 | (exfalso; omega)) ?_
                  intro z111 _
                  refine s_blx (lv' := [(5, vL 1), (4, vI 0), (0, vR 77), (1, vI live), (2, vL x2)]) (st' := [vI live, vL z111, vR 77]) B236_130_131 rfl ?_
                  refine r_vL (c := 77) (args := [vL z111, vI live]) (rest := []) (pc' := 134) D236_131 rfl ck_11_virtual_395 TE234 rfl (Nat.le_of_ble_eq_true rfl) ⟨Nat.le_of_ble_eq_true rfl, Nat.le_of_ble_eq_true rfl⟩ sc_77 ⟨rfl, by decide⟩ H107.1 (by omega) (k234x E (by omega) H107 z111 live (by omega)) ?_
                  intro v112 M113 q116
                  obtain ⟨H114, f115⟩ := q116
                  have f117 := f109.tr (f115.up rfl)
                  refine s_blx (lv' := [(2, vL v112), (5, vL 1), (4, vI 0), (0, vR 77), (1, vI live)]) (st' := []) B236_134_135 rfl ?_
                  refine r_goto (tgt := 6) D236_135 rfl ?_
                  refine r_loc (lv' := [(0, vR 77), (1, vI live), (2, vL v112)]) ⟨rfl, rfl, rfl, trivial⟩ rfl rfl ?_
                  have g118 : gi M113 77 40 = t68 := (f115.g rfl).trans ((u106.gi_ne (by decide) (Or.inr (by decide))).trans (ht69.symm))
                  have g119 : gi M113 77 41 = e := (f115.g rfl).trans ((u106.gi_ne (by decide) (Or.inr (by decide))).trans ((f63.g rfl).trans ((u54.gi_ne (by decide) (Or.inr (by decide))).trans (i2))))
                  exact ih v112 t68 M113 H114 f117 (by omega) (by omega) (by omega) (by omega) (by omega)
                · exfalso; omega
              · refine s_blx (lv' := [(5, vL v60), (4, vI 0), (0, vR 77), (1, vI live), (2, vL x2)]) (st' := [vI 1, vR 77]) B236_102_103 rfl ?_
                refine r_goto (tgt := 107) D236_103 rfl ?_
                refine r_pbool (ki := 42) (pc' := 110) D236_107 rfl pf_11_388_77 rfl H62 (by omega) (show 0 ≤ 1 ∧ 1 ≤ 1 by omega) ?_
                intro M120 u121 H122 p123
                have f124 := f67.wr u121 rfl
                refine s_blx (lv' := [(5, vL 1), (4, vI 0), (0, vR 77), (1, vI live), (2, vL x2)]) (st' := [vI 0, vR 77]) B236_110_116 rfl ?_
                refine r_ifc (tgt := 126) (pc' := 119) D236_116 rfl rfl (by unfold inR; omega) (fun (c125 : 0 = 0) => ?_) (fun (c125 : ¬ (0 = 0)) => ?_)
                · refine s_blx (lv' := [(5, vL 1), (4, vI 0), (0, vR 77), (1, vI live), (2, vL x2)]) (st' := [vL 1, vL x2, vR 77]) B236_126_129 rfl ?_
                  refine r_ldivz (pc' := 130) D236_129 rfl (by first | exact knz (by omega) | exact nz_1 | (exfalso; omega)) ?_
                  intro z126 _
                  refine s_blx (lv' := [(5, vL 1), (4, vI 0), (0, vR 77), (1, vI live), (2, vL x2)]) (st' := [vI live, vL z126, vR 77]) B236_130_131 rfl ?_
                  refine r_vL (c := 77) (args := [vL z126, vI live]) (rest := []) (pc' := 134) D236_131 rfl ck_11_virtual_395 TE234 rfl (Nat.le_of_ble_eq_true rfl) ⟨Nat.le_of_ble_eq_true rfl, Nat.le_of_ble_eq_true rfl⟩ sc_77 ⟨rfl, by decide⟩ H122.1 (by omega) (k234x E (by omega) H122 z126 live (by omega)) ?_
                  intro v127 M128 q131
                  obtain ⟨H129, f130⟩ := q131
                  have f132 := f124.tr (f130.up rfl)
                  refine s_blx (lv' := [(2, vL v127), (5, vL 1), (4, vI 0), (0, vR 77), (1, vI live)]) (st' := []) B236_134_135 rfl ?_
                  refine r_goto (tgt := 6) D236_135 rfl ?_
                  refine r_loc (lv' := [(0, vR 77), (1, vI live), (2, vL v127)]) ⟨rfl, rfl, rfl, trivial⟩ rfl rfl ?_
                  have g133 : gi M128 77 40 = t68 := (f130.g rfl).trans ((u121.gi_ne (by decide) (Or.inr (by decide))).trans (ht69.symm))
                  have g134 : gi M128 77 41 = e := (f130.g rfl).trans ((u121.gi_ne (by decide) (Or.inr (by decide))).trans ((f63.g rfl).trans ((u54.gi_ne (by decide) (Or.inr (by decide))).trans (i2))))
                  exact ih v127 t68 M128 H129 f132 (by omega) (by omega) (by omega) (by omega) (by omega)
                · exfalso; omega
      · refine s_blx (lv' := [(0, vR 77), (1, vI live), (2, vL x2)]) (st' := [vI 1]) B236_54_55 rfl ?_
        refine r_goto (tgt := 59) D236_55 rfl ?_
        refine s_blx (lv' := [(4, vI 1), (0, vR 77), (1, vI live), (2, vL x2)]) (st' := [vR 77, vR 77]) B236_59_63 rfl ?_
        refine r_gint (ki := 40) (pc' := 66) D236_63 rfl gf_11_378_77 rfl HN.1 ?_
        intro w135 e136 r137
        have e138 : t0 = w135 := (e136.trans (i0)).symm
        subst e138
        refine s_blx (lv' := [(4, vI 1), (0, vR 77), (1, vI live), (2, vL x2)]) (st' := [vI (t0 + 1), vR 77]) B236_66_68 rfl ?_
        refine r_pint (ki := 40) (pc' := 71) D236_68 rfl pf_11_378_77 rfl HN (by unfold inR; omega) trivial ?_
        intro M139 u140 H141 p142
        have f143 := fN.wr u140 rfl
        have kd := h2 t0 (by omega) (by omega)
        have ke : C t0 = 142 ∨ C t0 = 147 := by omega
        have k1 := d_op (x := F t0) (C t0) (by omega) (by omega) (by omega)
        refine s_blx (lv' := [(4, vI 1), (0, vR 77), (1, vI live), (2, vL x2)]) (st' := [vI live, vR 77]) B236_71_73 rfl ?_
        have g144 : gi M139 77 41 = e := (u140.gi_ne (by decide) (Or.inr (by decide))).trans (i2)
        have g145 : gi M139 77 40 = t0 + 1 := p142
        refine r_vL (c := 77) (args := [vI live]) (rest := []) (pc' := 76) D236_73 rfl ck_11_virtual_399 TE237 rfl (Nat.le_of_ble_eq_true rfl) ⟨Nat.le_of_ble_eq_true rfl, Nat.le_of_ble_eq_true rfl⟩ sc_77 ⟨rfl, by decide⟩ H141.1 (by omega) (k237x E ihr (by omega) H141 live p q s a e (t0 + 1) F C (by omega) ((h1.fr f143 rfl)) (h2) (by omega) (by omega) (by omega) (by omega) (by omega) (by omega) (by omega) (by omega) (by omega)) ?_
        intro v146 M147 q152
        obtain ⟨H148, f149, q150, q151⟩ := q152
        have f153 := f143.tr (f149.up rfl)
        obtain ⟨t154, ht155⟩ : ∃ q, q = gi M147 77 40 := ⟨_, rfl⟩
        rw [← ht155] at q150
        rw [← ht155] at q151
        refine s_blx (lv' := [(5, vL v146), (4, vI 1), (0, vR 77), (1, vI live), (2, vL x2)]) (st' := [vI 1]) B236_76_80 rfl ?_
        refine r_ifc (tgt := 113) (pc' := 83) D236_80 rfl rfl (by unfold inR; omega) (fun (c156 : 1 ≠ 0) => ?_) (fun (c156 : ¬ (1 ≠ 0)) => ?_)
        · refine s_blx (lv' := [(5, vL v146), (4, vI 1), (0, vR 77), (1, vI live), (2, vL x2)]) (st' := [vI 1, vR 77]) B236_113_116 rfl ?_
          refine r_ifc (tgt := 126) (pc' := 119) D236_116 rfl rfl (by unfold inR; omega) (fun (c157 : 1 = 0) => ?_) (fun (c157 : ¬ (1 = 0)) => ?_)
          · exfalso; omega
          · refine s_blx (lv' := [(5, vL v146), (4, vI 1), (0, vR 77), (1, vI live), (2, vL x2)]) (st' := [vL (x2 * v146), vR 77]) B236_119_123 rfl ?_
            refine r_goto (tgt := 130) D236_123 rfl ?_
            refine s_blx (lv' := [(5, vL v146), (4, vI 1), (0, vR 77), (1, vI live), (2, vL x2)]) (st' := [vI live, vL (x2 * v146), vR 77]) B236_130_131 rfl ?_
            refine r_vL (c := 77) (args := [vL (x2 * v146), vI live]) (rest := []) (pc' := 134) D236_131 rfl ck_11_virtual_395 TE234 rfl (Nat.le_of_ble_eq_true rfl) ⟨Nat.le_of_ble_eq_true rfl, Nat.le_of_ble_eq_true rfl⟩ sc_77 ⟨rfl, by decide⟩ H148.1 (by omega) (k234x E (by omega) H148 (x2 * v146) live (by omega)) ?_
            intro v158 M159 q162
            obtain ⟨H160, f161⟩ := q162
            have f163 := f153.tr (f161.up rfl)
            refine s_blx (lv' := [(2, vL v158), (5, vL v146), (4, vI 1), (0, vR 77), (1, vI live)]) (st' := []) B236_134_135 rfl ?_
            refine r_goto (tgt := 6) D236_135 rfl ?_
            refine r_loc (lv' := [(0, vR 77), (1, vI live), (2, vL v158)]) ⟨rfl, rfl, rfl, trivial⟩ rfl rfl ?_
            have g164 : gi M159 77 40 = t154 := (f161.g rfl).trans (ht155.symm)
            have g165 : gi M159 77 41 = e := (f161.g rfl).trans ((f149.g rfl).trans ((u140.gi_ne (by decide) (Or.inr (by decide))).trans (i2)))
            exact ih v158 t154 M159 H160 f163 (by omega) (by omega) (by omega) (by omega) (by omega)
        · exfalso; omega
    · refine s_blx (lv' := [(0, vR 77), (1, vI live), (2, vL x2)]) (st' := [vR 77, vR 77]) B236_22_24 rfl ?_
      refine r_gint (ki := 40) (pc' := 27) D236_24 rfl gf_11_378_77 rfl HN.1 ?_
      intro w166 e167 r168
      have e169 : t0 = w166 := (e167.trans (i0)).symm
      subst e169
      have g170 : gi N 77 41 = e := i2
      refine r_vIp (c := 77) (args := [vI t0]) (rest := []) (pc' := 30) D236_27 rfl ck_11_virtual_381 TE232 rfl (Nat.le_of_ble_eq_true rfl) ⟨Nat.le_of_ble_eq_true rfl, Nat.le_of_ble_eq_true rfl⟩ sc_77 ⟨rfl, by decide⟩ HN.1 (by omega) (k232x E (by omega) HN t0 e C ((h1.fr fN rfl)) (by omega) (by omega) (by omega)) ?_
      intro v171 q176
      obtain ⟨q173, q174, q175⟩ := q176
      refine s_blx (lv' := [(0, vR 77), (1, vI live), (2, vL x2)]) (st' := [vI 47, vI v171]) B236_30_32 rfl ?_
      refine r_sIp (args := [vI 47]) (rest := [vI v171]) (pc' := 35) D236_32 rfl ck_11_static_346 TE221 rfl (Nat.le_of_ble_eq_true rfl) ⟨Nat.le_of_ble_eq_true rfl, Nat.le_of_ble_eq_true rfl⟩ (by decide) (by omega) (k221 E (by omega) HN 47 (by omega)) ?_
      intro v177 q180
      have q179 := q180
      have e181 : v177 = 147 := by omega
      subst e181
      refine r_icmp (tgt := 138) (pc' := 38) D236_35 rfl rfl (by unfold inR; omega) (fun (c182 : v171 ≠ 147) => ?_) (fun (c182 : ¬ (v171 ≠ 147)) => ?_)
      · refine s_blx (lv' := [(0, vR 77), (1, vI live), (2, vL x2)]) (st' := [vL x2]) B236_138_139 rfl ?_
        have g183 : gi N 77 40 = t0 := i0
        exact r_lretL D236_139 rfl (⟨HN, fN, by rw [g183]; omega, by rw [g183]; omega, by rw [g183]; omega⟩)
      · refine s_blx (lv' := [(0, vR 77), (1, vI live), (2, vL x2)]) (st' := [vR 77, vR 77]) B236_38_40 rfl ?_
        refine r_gint (ki := 40) (pc' := 43) D236_40 rfl gf_11_378_77 rfl HN.1 ?_
        intro w184 e185 r186
        have e187 : t0 = w184 := (e185.trans (i0)).symm
        subst e187
        have g188 : gi N 77 41 = e := i2
        refine r_vIp (c := 77) (args := [vI t0]) (rest := []) (pc' := 46) D236_43 rfl ck_11_virtual_381 TE232 rfl (Nat.le_of_ble_eq_true rfl) ⟨Nat.le_of_ble_eq_true rfl, Nat.le_of_ble_eq_true rfl⟩ sc_77 ⟨rfl, by decide⟩ HN.1 (by omega) (k232x E (by omega) HN t0 e C ((h1.fr fN rfl)) (by omega) (by omega) (by omega)) ?_
        intro v189 q194
        obtain ⟨q191, q192, q193⟩ := q194
        refine s_blx (lv' := [(0, vR 77), (1, vI live), (2, vL x2)]) (st' := [vI 42, vI v189]) B236_46_48 rfl ?_
        refine r_sIp (args := [vI 42]) (rest := [vI v189]) (pc' := 51) D236_48 rfl ck_11_static_346 TE221 rfl (Nat.le_of_ble_eq_true rfl) ⟨Nat.le_of_ble_eq_true rfl, Nat.le_of_ble_eq_true rfl⟩ (by decide) (by omega) (k221 E (by omega) HN 42 (by omega)) ?_
        intro v195 q198
        have q197 := q198
        have e199 : v195 = 142 := by omega
        subst e199
        refine r_icmp (tgt := 58) (pc' := 54) D236_51 rfl rfl (by unfold inR; omega) (fun (c200 : v189 ≠ 142) => ?_) (fun (c200 : ¬ (v189 ≠ 142)) => ?_)
        · refine s_blx (lv' := [(4, vI 0), (0, vR 77), (1, vI live), (2, vL x2)]) (st' := [vR 77, vR 77]) B236_58_63 rfl ?_
          refine r_gint (ki := 40) (pc' := 66) D236_63 rfl gf_11_378_77 rfl HN.1 ?_
          intro w201 e202 r203
          have e204 : t0 = w201 := (e202.trans (i0)).symm
          subst e204
          refine s_blx (lv' := [(4, vI 0), (0, vR 77), (1, vI live), (2, vL x2)]) (st' := [vI (t0 + 1), vR 77]) B236_66_68 rfl ?_
          refine r_pint (ki := 40) (pc' := 71) D236_68 rfl pf_11_378_77 rfl HN (by unfold inR; omega) trivial ?_
          intro M205 u206 H207 p208
          have f209 := fN.wr u206 rfl
          have kd := h2 t0 (by omega) (by omega)
          have ke : C t0 = 142 ∨ C t0 = 147 := by omega
          have k1 := d_op (x := F t0) (C t0) (by omega) (by omega) (by omega)
          refine s_blx (lv' := [(4, vI 0), (0, vR 77), (1, vI live), (2, vL x2)]) (st' := [vI live, vR 77]) B236_71_73 rfl ?_
          have g210 : gi M205 77 41 = e := (u206.gi_ne (by decide) (Or.inr (by decide))).trans (i2)
          have g211 : gi M205 77 40 = t0 + 1 := p208
          refine r_vL (c := 77) (args := [vI live]) (rest := []) (pc' := 76) D236_73 rfl ck_11_virtual_399 TE237 rfl (Nat.le_of_ble_eq_true rfl) ⟨Nat.le_of_ble_eq_true rfl, Nat.le_of_ble_eq_true rfl⟩ sc_77 ⟨rfl, by decide⟩ H207.1 (by omega) (k237x E ihr (by omega) H207 live p q s a e (t0 + 1) F C (by omega) ((h1.fr f209 rfl)) (h2) (by omega) (by omega) (by omega) (by omega) (by omega) (by omega) (by omega) (by omega) (by omega)) ?_
          intro v212 M213 q218
          obtain ⟨H214, f215, q216, q217⟩ := q218
          have f219 := f209.tr (f215.up rfl)
          obtain ⟨t220, ht221⟩ : ∃ q, q = gi M213 77 40 := ⟨_, rfl⟩
          rw [← ht221] at q216
          rw [← ht221] at q217
          refine s_blx (lv' := [(5, vL v212), (4, vI 0), (0, vR 77), (1, vI live), (2, vL x2)]) (st' := [vI 0]) B236_76_80 rfl ?_
          refine r_ifc (tgt := 113) (pc' := 83) D236_80 rfl rfl (by unfold inR; omega) (fun (c222 : 0 ≠ 0) => ?_) (fun (c222 : ¬ (0 ≠ 0)) => ?_)
          · exfalso; omega
          · refine s_blx (lv' := [(5, vL v212), (4, vI 0), (0, vR 77), (1, vI live), (2, vL x2)]) (st' := [vL 0, vL v212]) B236_83_86 rfl ?_
            refine r_lcmpz (pc' := 87) D236_86 rfl ?_
            intro z223 r224 r225 knz
            refine r_ifc (tgt := 113) (pc' := 90) D236_87 rfl rfl (by unfold inR; omega) (fun (c226 : z223 ≠ 0) => ?_) (fun (c226 : ¬ (z223 ≠ 0)) => ?_)
            · refine s_blx (lv' := [(5, vL v212), (4, vI 0), (0, vR 77), (1, vI live), (2, vL x2)]) (st' := [vI 0, vR 77]) B236_113_116 rfl ?_
              refine r_ifc (tgt := 126) (pc' := 119) D236_116 rfl rfl (by unfold inR; omega) (fun (c227 : 0 = 0) => ?_) (fun (c227 : ¬ (0 = 0)) => ?_)
              · refine s_blx (lv' := [(5, vL v212), (4, vI 0), (0, vR 77), (1, vI live), (2, vL x2)]) (st' := [vL v212, vL x2, vR 77]) B236_126_129 rfl ?_
                refine r_ldivz (pc' := 130) D236_129 rfl (by first | exact knz (by omega) | exact nz_1 | (exfalso; omega)) ?_
                intro z228 _
                refine s_blx (lv' := [(5, vL v212), (4, vI 0), (0, vR 77), (1, vI live), (2, vL x2)]) (st' := [vI live, vL z228, vR 77]) B236_130_131 rfl ?_
                refine r_vL (c := 77) (args := [vL z228, vI live]) (rest := []) (pc' := 134) D236_131 rfl ck_11_virtual_395 TE234 rfl (Nat.le_of_ble_eq_true rfl) ⟨Nat.le_of_ble_eq_true rfl, Nat.le_of_ble_eq_true rfl⟩ sc_77 ⟨rfl, by decide⟩ H214.1 (by omega) (k234x E (by omega) H214 z228 live (by omega)) ?_
                intro v229 M230 q233
                obtain ⟨H231, f232⟩ := q233
                have f234 := f219.tr (f232.up rfl)
                refine s_blx (lv' := [(2, vL v229), (5, vL v212), (4, vI 0), (0, vR 77), (1, vI live)]) (st' := []) B236_134_135 rfl ?_
                refine r_goto (tgt := 6) D236_135 rfl ?_
                refine r_loc (lv' := [(0, vR 77), (1, vI live), (2, vL v229)]) ⟨rfl, rfl, rfl, trivial⟩ rfl rfl ?_
                have g235 : gi M230 77 40 = t220 := (f232.g rfl).trans (ht221.symm)
                have g236 : gi M230 77 41 = e := (f232.g rfl).trans ((f215.g rfl).trans ((u206.gi_ne (by decide) (Or.inr (by decide))).trans (i2)))
                exact ih v229 t220 M230 H231 f234 (by omega) (by omega) (by omega) (by omega) (by omega)
              · exfalso; omega
            · refine s_blx (lv' := [(5, vL v212), (4, vI 0), (0, vR 77), (1, vI live), (2, vL x2)]) (st' := [vR 77, vR 77]) B236_90_92 rfl ?_
              refine r_gint (ki := 42) (pc' := 95) D236_92 rfl gf_11_388_77 rfl H214.1 ?_
              intro w237 e238 r239
              have b_w237 := H214.2 77 (42) 0 1 rfl
              rw [← e238] at b_w237; clear r239
              refine r_ifc (tgt := 102) (pc' := 98) D236_95 rfl rfl (by unfold inR; omega) (fun (c240 : w237 ≠ 0) => ?_) (fun (c240 : ¬ (w237 ≠ 0)) => ?_)
              · refine s_blx (lv' := [(5, vL v212), (4, vI 0), (0, vR 77), (1, vI live), (2, vL x2)]) (st' := [vI 1, vR 77]) B236_102_103 rfl ?_
                refine r_goto (tgt := 107) D236_103 rfl ?_
                refine r_pbool (ki := 42) (pc' := 110) D236_107 rfl pf_11_388_77 rfl H214 (by omega) (show 0 ≤ 1 ∧ 1 ≤ 1 by omega) ?_
                intro M241 u242 H243 p244
                have f245 := f219.wr u242 rfl
                refine s_blx (lv' := [(5, vL 1), (4, vI 0), (0, vR 77), (1, vI live), (2, vL x2)]) (st' := [vI 0, vR 77]) B236_110_116 rfl ?_
                refine r_ifc (tgt := 126) (pc' := 119) D236_116 rfl rfl (by unfold inR; omega) (fun (c246 : 0 = 0) => ?_) (fun (c246 : ¬ (0 = 0)) => ?_)
                · refine s_blx (lv' := [(5, vL 1), (4, vI 0), (0, vR 77), (1, vI live), (2, vL x2)]) (st' := [vL 1, vL x2, vR 77]) B236_126_129 rfl ?_
                  refine r_ldivz (pc' := 130) D236_129 rfl (by first | exact knz (by omega) | exact nz_1 | (exfalso; omega)) ?_
                  intro z247 _
                  refine s_blx (lv' := [(5, vL 1), (4, vI 0), (0, vR 77), (1, vI live), (2, vL x2)]) (st' := [vI live, vL z247, vR 77]) B236_130_131 rfl ?_
                  refine r_vL (c := 77) (args := [vL z247, vI live]) (rest := []) (pc' := 134) D236_131 rfl ck_11_virtual_395 TE234 rfl (Nat.le_of_ble_eq_true rfl) ⟨Nat.le_of_ble_eq_true rfl, Nat.le_of_ble_eq_true rfl⟩ sc_77 ⟨rfl, by decide⟩ H243.1 (by omega) (k234x E (by omega) H243 z247 live (by omega)) ?_
                  intro v248 M249 q252
                  obtain ⟨H250, f251⟩ := q252
                  have f253 := f245.tr (f251.up rfl)
                  refine s_blx (lv' := [(2, vL v248), (5, vL 1), (4, vI 0), (0, vR 77), (1, vI live)]) (st' := []) B236_134_135 rfl ?_
                  refine r_goto (tgt := 6) D236_135 rfl ?_
                  refine r_loc (lv' := [(0, vR 77), (1, vI live), (2, vL v248)]) ⟨rfl, rfl, rfl, trivial⟩ rfl rfl ?_
                  have g254 : gi M249 77 40 = t220 := (f251.g rfl).trans ((u242.gi_ne (by decide) (Or.inr (by decide))).trans (ht221.symm))
                  have g255 : gi M249 77 41 = e := (f251.g rfl).trans ((u242.gi_ne (by decide) (Or.inr (by decide))).trans ((f215.g rfl).trans ((u206.gi_ne (by decide) (Or.inr (by decide))).trans (i2))))
                  exact ih v248 t220 M249 H250 f253 (by omega) (by omega) (by omega) (by omega) (by omega)
                · exfalso; omega
              · refine s_blx (lv' := [(5, vL v212), (4, vI 0), (0, vR 77), (1, vI live), (2, vL x2)]) (st' := [vI live, vR 77]) B236_98_99 rfl ?_
                refine r_ifc (tgt := 106) (pc' := 102) D236_99 rfl rfl (by unfold inR; omega) (fun (c256 : live = 0) => ?_) (fun (c256 : ¬ (live = 0)) => ?_)
                · refine s_blx (lv' := [(5, vL v212), (4, vI 0), (0, vR 77), (1, vI live), (2, vL x2)]) (st' := [vI 0, vR 77]) B236_106_107 rfl ?_
                  refine r_pbool (ki := 42) (pc' := 110) D236_107 rfl pf_11_388_77 rfl H214 (by omega) (show 0 ≤ 0 ∧ 0 ≤ 1 by omega) ?_
                  intro M257 u258 H259 p260
                  have f261 := f219.wr u258 rfl
                  refine s_blx (lv' := [(5, vL 1), (4, vI 0), (0, vR 77), (1, vI live), (2, vL x2)]) (st' := [vI 0, vR 77]) B236_110_116 rfl ?_
                  refine r_ifc (tgt := 126) (pc' := 119) D236_116 rfl rfl (by unfold inR; omega) (fun (c262 : 0 = 0) => ?_) (fun (c262 : ¬ (0 = 0)) => ?_)
                  · refine s_blx (lv' := [(5, vL 1), (4, vI 0), (0, vR 77), (1, vI live), (2, vL x2)]) (st' := [vL 1, vL x2, vR 77]) B236_126_129 rfl ?_
                    refine r_ldivz (pc' := 130) D236_129 rfl (by first | exact knz (by omega) | exact nz_1 | (exfalso; omega)) ?_
                    intro z263 _
                    refine s_blx (lv' := [(5, vL 1), (4, vI 0), (0, vR 77), (1, vI live), (2, vL x2)]) (st' := [vI live, vL z263, vR 77]) B236_130_131 rfl ?_
                    refine r_vL (c := 77) (args := [vL z263, vI live]) (rest := []) (pc' := 134) D236_131 rfl ck_11_virtual_395 TE234 rfl (Nat.le_of_ble_eq_true rfl) ⟨Nat.le_of_ble_eq_true rfl, Nat.le_of_ble_eq_true rfl⟩ sc_77 ⟨rfl, by decide⟩ H259.1 (by omega) (k234x E (by omega) H259 z263 live (by omega)) ?_
                    intro v264 M265 q268
                    obtain ⟨H266, f267⟩ := q268
                    have f269 := f261.tr (f267.up rfl)
                    refine s_blx (lv' := [(2, vL v264), (5, vL 1), (4, vI 0), (0, vR 77), (1, vI live)]) (st' := []) B236_134_135 rfl ?_
                    refine r_goto (tgt := 6) D236_135 rfl ?_
                    refine r_loc (lv' := [(0, vR 77), (1, vI live), (2, vL v264)]) ⟨rfl, rfl, rfl, trivial⟩ rfl rfl ?_
                    have g270 : gi M265 77 40 = t220 := (f267.g rfl).trans ((u258.gi_ne (by decide) (Or.inr (by decide))).trans (ht221.symm))
                    have g271 : gi M265 77 41 = e := (f267.g rfl).trans ((u258.gi_ne (by decide) (Or.inr (by decide))).trans ((f215.g rfl).trans ((u206.gi_ne (by decide) (Or.inr (by decide))).trans (i2))))
                    exact ih v264 t220 M265 H266 f269 (by omega) (by omega) (by omega) (by omega) (by omega)
                  · exfalso; omega
                · refine s_blx (lv' := [(5, vL v212), (4, vI 0), (0, vR 77), (1, vI live), (2, vL x2)]) (st' := [vI 1, vR 77]) B236_102_103 rfl ?_
                  refine r_goto (tgt := 107) D236_103 rfl ?_
                  refine r_pbool (ki := 42) (pc' := 110) D236_107 rfl pf_11_388_77 rfl H214 (by omega) (show 0 ≤ 1 ∧ 1 ≤ 1 by omega) ?_
                  intro M272 u273 H274 p275
                  have f276 := f219.wr u273 rfl
                  refine s_blx (lv' := [(5, vL 1), (4, vI 0), (0, vR 77), (1, vI live), (2, vL x2)]) (st' := [vI 0, vR 77]) B236_110_116 rfl ?_
                  refine r_ifc (tgt := 126) (pc' := 119) D236_116 rfl rfl (by unfold inR; omega) (fun (c277 : 0 = 0) => ?_) (fun (c277 : ¬ (0 = 0)) => ?_)
                  · refine s_blx (lv' := [(5, vL 1), (4, vI 0), (0, vR 77), (1, vI live), (2, vL x2)]) (st' := [vL 1, vL x2, vR 77]) B236_126_129 rfl ?_
                    refine r_ldivz (pc' := 130) D236_129 rfl (by first | exact knz (by omega) | exact nz_1 | (exfalso; omega)) ?_
                    intro z278 _
                    refine s_blx (lv' := [(5, vL 1), (4, vI 0), (0, vR 77), (1, vI live), (2, vL x2)]) (st' := [vI live, vL z278, vR 77]) B236_130_131 rfl ?_
                    refine r_vL (c := 77) (args := [vL z278, vI live]) (rest := []) (pc' := 134) D236_131 rfl ck_11_virtual_395 TE234 rfl (Nat.le_of_ble_eq_true rfl) ⟨Nat.le_of_ble_eq_true rfl, Nat.le_of_ble_eq_true rfl⟩ sc_77 ⟨rfl, by decide⟩ H274.1 (by omega) (k234x E (by omega) H274 z278 live (by omega)) ?_
                    intro v279 M280 q283
                    obtain ⟨H281, f282⟩ := q283
                    have f284 := f276.tr (f282.up rfl)
                    refine s_blx (lv' := [(2, vL v279), (5, vL 1), (4, vI 0), (0, vR 77), (1, vI live)]) (st' := []) B236_134_135 rfl ?_
                    refine r_goto (tgt := 6) D236_135 rfl ?_
                    refine r_loc (lv' := [(0, vR 77), (1, vI live), (2, vL v279)]) ⟨rfl, rfl, rfl, trivial⟩ rfl rfl ?_
                    have g285 : gi M280 77 40 = t220 := (f282.g rfl).trans ((u273.gi_ne (by decide) (Or.inr (by decide))).trans (ht221.symm))
                    have g286 : gi M280 77 41 = e := (f282.g rfl).trans ((u273.gi_ne (by decide) (Or.inr (by decide))).trans ((f215.g rfl).trans ((u206.gi_ne (by decide) (Or.inr (by decide))).trans (i2))))
                    exact ih v279 t220 M280 H281 f284 (by omega) (by omega) (by omega) (by omega) (by omega)
                  · exfalso; omega
        · refine s_blx (lv' := [(0, vR 77), (1, vI live), (2, vL x2)]) (st' := [vI 1]) B236_54_55 rfl ?_
          refine r_goto (tgt := 59) D236_55 rfl ?_
          refine s_blx (lv' := [(4, vI 1), (0, vR 77), (1, vI live), (2, vL x2)]) (st' := [vR 77, vR 77]) B236_59_63 rfl ?_
          refine r_gint (ki := 40) (pc' := 66) D236_63 rfl gf_11_378_77 rfl HN.1 ?_
          intro w287 e288 r289
          have e290 : t0 = w287 := (e288.trans (i0)).symm
          subst e290
          refine s_blx (lv' := [(4, vI 1), (0, vR 77), (1, vI live), (2, vL x2)]) (st' := [vI (t0 + 1), vR 77]) B236_66_68 rfl ?_
          refine r_pint (ki := 40) (pc' := 71) D236_68 rfl pf_11_378_77 rfl HN (by unfold inR; omega) trivial ?_
          intro M291 u292 H293 p294
          have f295 := fN.wr u292 rfl
          have kd := h2 t0 (by omega) (by omega)
          have ke : C t0 = 142 ∨ C t0 = 147 := by omega
          have k1 := d_op (x := F t0) (C t0) (by omega) (by omega) (by omega)
          refine s_blx (lv' := [(4, vI 1), (0, vR 77), (1, vI live), (2, vL x2)]) (st' := [vI live, vR 77]) B236_71_73 rfl ?_
          have g296 : gi M291 77 41 = e := (u292.gi_ne (by decide) (Or.inr (by decide))).trans (i2)
          have g297 : gi M291 77 40 = t0 + 1 := p294
          refine r_vL (c := 77) (args := [vI live]) (rest := []) (pc' := 76) D236_73 rfl ck_11_virtual_399 TE237 rfl (Nat.le_of_ble_eq_true rfl) ⟨Nat.le_of_ble_eq_true rfl, Nat.le_of_ble_eq_true rfl⟩ sc_77 ⟨rfl, by decide⟩ H293.1 (by omega) (k237x E ihr (by omega) H293 live p q s a e (t0 + 1) F C (by omega) ((h1.fr f295 rfl)) (h2) (by omega) (by omega) (by omega) (by omega) (by omega) (by omega) (by omega) (by omega) (by omega)) ?_
          intro v298 M299 q304
          obtain ⟨H300, f301, q302, q303⟩ := q304
          have f305 := f295.tr (f301.up rfl)
          obtain ⟨t306, ht307⟩ : ∃ q, q = gi M299 77 40 := ⟨_, rfl⟩
          rw [← ht307] at q302
          rw [← ht307] at q303
          refine s_blx (lv' := [(5, vL v298), (4, vI 1), (0, vR 77), (1, vI live), (2, vL x2)]) (st' := [vI 1]) B236_76_80 rfl ?_
          refine r_ifc (tgt := 113) (pc' := 83) D236_80 rfl rfl (by unfold inR; omega) (fun (c308 : 1 ≠ 0) => ?_) (fun (c308 : ¬ (1 ≠ 0)) => ?_)
          · refine s_blx (lv' := [(5, vL v298), (4, vI 1), (0, vR 77), (1, vI live), (2, vL x2)]) (st' := [vI 1, vR 77]) B236_113_116 rfl ?_
            refine r_ifc (tgt := 126) (pc' := 119) D236_116 rfl rfl (by unfold inR; omega) (fun (c309 : 1 = 0) => ?_) (fun (c309 : ¬ (1 = 0)) => ?_)
            · exfalso; omega
            · refine s_blx (lv' := [(5, vL v298), (4, vI 1), (0, vR 77), (1, vI live), (2, vL x2)]) (st' := [vL (x2 * v298), vR 77]) B236_119_123 rfl ?_
              refine r_goto (tgt := 130) D236_123 rfl ?_
              refine s_blx (lv' := [(5, vL v298), (4, vI 1), (0, vR 77), (1, vI live), (2, vL x2)]) (st' := [vI live, vL (x2 * v298), vR 77]) B236_130_131 rfl ?_
              refine r_vL (c := 77) (args := [vL (x2 * v298), vI live]) (rest := []) (pc' := 134) D236_131 rfl ck_11_virtual_395 TE234 rfl (Nat.le_of_ble_eq_true rfl) ⟨Nat.le_of_ble_eq_true rfl, Nat.le_of_ble_eq_true rfl⟩ sc_77 ⟨rfl, by decide⟩ H300.1 (by omega) (k234x E (by omega) H300 (x2 * v298) live (by omega)) ?_
              intro v310 M311 q314
              obtain ⟨H312, f313⟩ := q314
              have f315 := f305.tr (f313.up rfl)
              refine s_blx (lv' := [(2, vL v310), (5, vL v298), (4, vI 1), (0, vR 77), (1, vI live)]) (st' := []) B236_134_135 rfl ?_
              refine r_goto (tgt := 6) D236_135 rfl ?_
              refine r_loc (lv' := [(0, vR 77), (1, vI live), (2, vL v310)]) ⟨rfl, rfl, rfl, trivial⟩ rfl rfl ?_
              have g316 : gi M311 77 40 = t306 := (f313.g rfl).trans (ht307.symm)
              have g317 : gi M311 77 41 = e := (f313.g rfl).trans ((f301.g rfl).trans ((u292.gi_ne (by decide) (Or.inr (by decide))).trans (i2)))
              exact ih v310 t306 M311 H312 f315 (by omega) (by omega) (by omega) (by omega) (by omega)
          · exfalso; omega
