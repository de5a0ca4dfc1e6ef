set_option maxRecDepth 4000 in
theorem k237x {base : Nat} {X : Nat → Option mC} {G : Nat → Value} (E : EnvOK base X G) {rr : Nat} (ihr : ∀ {d : Nat} (_ : 4 + 3 * rr ≤ d) {M : mH} (_ : HI base M) (live : Int) (p : Int) (q : Int) (s : Int) (a : Int) (e : Int) (gg : Int) (F : Int → Int) (C : Int → Int), ((live = 0 ∨ live = 1)) → (KC C M) → (∀ j : Int, a ≤ j → j < e → F (j + 1) = dl (F j) (C j) ∧ F (j + 1) ≠ 0) → (F e = 2 ∨ F e = 20 ∨ F e = 2001) → (gi M 77 41 = e) → (0 ≤ a ∧ e ≤ 3200) → (gi M 77 40 = gg) → (a ≤ gg ∧ gg ≤ e) → (F gg = 1000 + 100 * p + 10 * q + s ∨ (F gg = 10 + p ∧ q = 0 ∧ s = 0 ∧ C gg ≠ 10 ∧ C gg ≠ 140 ∧ C gg ≠ 11 ∧ C gg ≠ 12)) → (0 ≤ p ∧ 0 ≤ q ∧ p + q ≤ 8) → (0 ≤ s ∧ s ≤ 1) → 8 - p - q < ((rr : Nat) : Int) → sOk base X G d T235 [vR 77, vI live] M (pL (fun v M' => HI base M' ∧ Fr [(77, 41), (77, 43)] M M' ∧ (gg < gi M' 77 40 ∧ gi M' 77 40 ≤ e) ∧ (F (gi M' 77 40) = 2000 + 100 * p + 10 * q + s) ∧ (gi M' 77 40 < e → C (gi M' 77 40) ≠ 142 ∧ C (gi M' 77 40) ≠ 147) ∧ (gi M' 77 40 < e → C (gi M' 77 40) ≠ 143 ∧ C (gi M' 77 40) ≠ 145)))) {d : Nat} (hd : 5 + 3 * rr ≤ d) {M : mH} (H : HI base M) (live : Int) (p : Int) (q : Int) (s : Int) (a : Int) (e : Int) (gg : Int) (F : Int → Int) (C : Int → Int) (h0 : (live = 0 ∨ live = 1)) (h1 : KC C M) (h2 : ∀ j : Int, a ≤ j → j < e → F (j + 1) = dl (F j) (C j) ∧ F (j + 1) ≠ 0) (h3 : F e = 2 ∨ F e = 20 ∨ F e = 2001) (h4 : gi M 77 41 = e) (h5 : 0 ≤ a ∧ e ≤ 3200) (h6 : gi M 77 40 = gg) (h7 : a ≤ gg ∧ gg ≤ e) (h8 : F gg = 1000 + 100 * p + 10 * q + s ∨ (F gg = 10 + p ∧ q = 0 ∧ s = 0 ∧ C gg ≠ 10 ∧ C gg ≠ 140 ∧ C gg ≠ 11 ∧ C gg ≠ 12)) (h9 : 0 ≤ p ∧ 0 ≤ q ∧ p + q ≤ 8) (h10 : 0 ≤ s ∧ s ≤ 1) (h11 : 8 - p - q < (rr : Int) + 1) : sOk base X G d T237 [vR 77, vI live] M (pL (fun v M' => HI base M' ∧ Fr [(77, 41), (77, 43)] M M' ∧ (gg < gi M' 77 40 ∧ gi M' 77 40 ≤ e) ∧ (F (gi M' 77 40) = 2000 + 100 * p + 10 * q + s))) := by
  have f0 : Fr [(77, 41), (77, 43)] M M := Fr.rf
  refine sOk.of (show sRn base X G d T237 0 [(0, vR 77), (1, vI live)] [] M _ from ?_)
  refine s_blx (lv' := [(0, vR 77), (1, vI live)]) (st' := [vI 91, vR 77]) B237_0_3 rfl ?_
  have kne : gg ≠ e := fun h => by rw [h] at h8; omega
  have kd := h2 gg (by omega) (by omega)
  have ks := e_S (x := F gg) (c := C gg) (p := p) (q := q) (s := s) (by omega) (by omega) (by omega) (by omega) (by omega) (by omega) (by omega)
  refine r_sIp (args := [vI 91]) (rest := [vR 77]) (pc' := 6) D237_3 rfl ck_11_static_346 TE221 rfl (Nat.le_of_ble_eq_true rfl) ⟨Nat.le_of_ble_eq_true rfl, Nat.le_of_ble_eq_true rfl⟩ (by decide) (by omega) (k221 E (by omega) H 91 (by omega)) ?_
  intro v1 q4
  have q3 := q4
  have e5 : v1 = 191 := by omega
  subst e5
  have g6 : gi M 77 41 = e := h4
  have g7 : gi M 77 40 = gg := h6
  refine r_vI (c := 77) (args := [vI 191]) (rest := []) (pc' := 9) D237_6 rfl ck_11_virtual_402 TE233 rfl (Nat.le_of_ble_eq_true rfl) ⟨Nat.le_of_ble_eq_true rfl, Nat.le_of_ble_eq_true rfl⟩ sc_77 ⟨rfl, by decide⟩ H.1 (by omega) (k233x E (by omega) H 191 a e gg F C (h1) (h2) (by omega) (by omega) (by omega) (by omega) (by omega) (by omega) (by omega)) ?_
  intro v8 M9 q16
  obtain ⟨H10, f11, q12, q13, q14, q15⟩ := q16
  have f17 := f0.tr (f11.up rfl)
  obtain ⟨t18, ht19⟩ : ∃ q, q = gi M9 77 40 := ⟨_, rfl⟩
  rw [← ht19] at q13
  rw [← ht19] at q14
  rw [← ht19] at q15
  refine r_ifc (tgt := 30) (pc' := 12) D237_9 rfl rfl (by unfold inR; omega) (fun (c20 : v8 = 0) => ?_) (fun (c20 : ¬ (v8 = 0)) => ?_)
  · refine s_blx (lv' := [(0, vR 77), (1, vI live)]) (st' := [vR 77, vR 77]) B237_30_32 rfl ?_
    refine r_gint (ki := 40) (pc' := 35) D237_32 rfl gf_11_378_77 rfl H10.1 ?_
    intro w21 e22 r23
    have e24 : t18 = w21 := (e22.trans (ht19.symm)).symm
    subst e24
    have g25 : gi M9 77 41 = e := (f11.g rfl).trans (h4)
    refine r_vIp (c := 77) (args := [vI t18]) (rest := []) (pc' := 38) D237_35 rfl ck_11_virtual_381 TE232 rfl (Nat.le_of_ble_eq_true rfl) ⟨Nat.le_of_ble_eq_true rfl, Nat.le_of_ble_eq_true rfl⟩ sc_77 ⟨rfl, by decide⟩ H10.1 (by omega) (k232x E (by omega) H10 t18 e C ((h1.fr f17 rfl)) (by omega) (by omega) (by omega)) ?_
    intro v26 q31
    obtain ⟨q28, q29, q30⟩ := q31
    refine s_blx (lv' := [(2, vI v26), (0, vR 77), (1, vI live)]) (st' := [vR 77, vR 77]) B237_38_41 rfl ?_
    refine r_gint (ki := 40) (pc' := 44) D237_41 rfl gf_11_378_77 rfl H10.1 ?_
    intro w32 e33 r34
    have e35 : t18 = w32 := (e33.trans (ht19.symm)).symm
    subst e35
    refine s_blx (lv' := [(2, vI v26), (0, vR 77), (1, vI live)]) (st' := [vI (t18 + 1), vR 77]) B237_44_46 rfl ?_
    refine r_pint (ki := 40) (pc' := 49) D237_46 rfl pf_11_378_77 rfl H10 (by unfold inR; omega) trivial ?_
    intro M36 u37 H38 p39
    have f40 := f17.wr u37 rfl
    have kf : F ((t18 + 1)) = dl (F gg) (C gg) := by rw [show (t18 + 1) = gg + 1 by omega]; exact kd.1
    have k3 := d_lf (x := F gg) (c := C gg) (p := p) (q := q) (s := s) (by omega) (by omega) (by omega) (by omega) (by omega) (by omega) (by omega)
    refine s_blx (lv' := [(2, vI v26), (0, vR 77), (1, vI live)]) (st' := [vI live]) B237_49_50 rfl ?_
    refine r_ifc (tgt := 60) (pc' := 53) D237_50 rfl rfl (by unfold inR; omega) (fun (c41 : live = 0) => ?_) (fun (c41 : ¬ (live = 0)) => ?_)
    · refine s_blx (lv' := [(2, vI v26), (0, vR 77), (1, vI live)]) (st' := [vL 0]) B237_60_61 rfl ?_
      have g42 : gi M36 77 40 = t18 + 1 := p39
      exact r_lretL D237_61 rfl (⟨H38, f40, by rw [g42]; omega, by rw [g42]; omega⟩)
    · refine s_blx (lv' := [(2, vI v26), (0, vR 77), (1, vI live)]) (st' := [vR 77]) B237_53_54 rfl ?_
      refine r_gint (ki := 42) (pc' := 57) D237_54 rfl gf_11_388_77 rfl H38.1 ?_
      intro w43 e44 r45
      have b_w43 := H38.2 77 (42) 0 1 rfl
      rw [← e44] at b_w43; clear r45
      refine r_ifc (tgt := 62) (pc' := 60) D237_57 rfl rfl (by unfold inR; omega) (fun (c46 : w43 = 0) => ?_) (fun (c46 : ¬ (w43 = 0)) => ?_)
      · refine s_blx (lv' := [(2, vI v26), (0, vR 77), (1, vI live)]) (st' := [vI 50, vI v26]) B237_62_65 rfl ?_
        refine r_icmp (tgt := 87) (pc' := 68) D237_65 rfl rfl (by unfold inR; omega) (fun (c47 : v26 ≠ 50) => ?_) (fun (c47 : ¬ (v26 ≠ 50)) => ?_)
        · refine s_blx (lv' := [(2, vI v26), (0, vR 77), (1, vI live)]) (st' := [vR 77]) B237_87_88 rfl ?_
          refine r_gfix (r := 100) (pc' := 91) D237_88 rfl gf_11_87_77 H38.1 ?_
          refine s_blx (lv' := [(2, vI v26), (0, vR 77), (1, vI live)]) (st' := [vI (v26 - 13), vR 100]) B237_91_95 rfl ?_
          refine r_iald (pc' := 96) D237_95 rfl sc_100 H38.1 (by omega) ?_
          intro w48 e49 r50
          unfold inR at r50
          refine r_i2l (pc' := 97) D237_96 rfl (by unfold inR; omega) ?_
          have g51 : gi M36 77 40 = t18 + 1 := p39
          exact r_lretL D237_97 rfl (⟨H38, f40, by rw [g51]; omega, by rw [g51]; omega⟩)
        · refine s_blx (lv' := [(2, vI v26), (0, vR 77), (1, vI live)]) (st' := [vR 77]) B237_68_69 rfl ?_
          refine r_gfix (r := 78) (pc' := 72) D237_69 rfl gf_11_13_77 H38.1 ?_
          refine s_blx (lv' := [(2, vI v26), (0, vR 77), (1, vI live)]) (st' := [vR 77, vI 3683, vR 78]) B237_72_76 rfl ?_
          refine r_gint (ki := 40) (pc' := 79) D237_76 rfl gf_11_378_77 rfl H38.1 ?_
          intro w52 e53 r54
          have e55 : t18 + 1 = w52 := (e53.trans (p39)).symm
          subst e55
          refine s_blx (lv' := [(2, vI v26), (0, vR 77), (1, vI live)]) (st' := [vI ((3683 + (t18 + 1)) - 1), vR 78]) B237_79_82 rfl ?_
          refine r_iald (pc' := 83) D237_82 rfl sc_78 H38.1 (by omega) ?_
          intro w56 e57 r58
          unfold inR at r58
          refine r_i2l (pc' := 84) D237_83 rfl (by unfold inR; omega) ?_
          refine r_goto (tgt := 97) D237_84 rfl ?_
          have g59 : gi M36 77 40 = t18 + 1 := p39
          exact r_lretL D237_97 rfl (⟨H38, f40, by rw [g59]; omega, by rw [g59]; omega⟩)
      · refine s_blx (lv' := [(2, vI v26), (0, vR 77), (1, vI live)]) (st' := [vL 0]) B237_60_61 rfl ?_
        have g60 : gi M36 77 40 = t18 + 1 := p39
        exact r_lretL D237_61 rfl (⟨H38, f40, by rw [g60]; omega, by rw [g60]; omega⟩)
  · refine s_blx (lv' := [(0, vR 77), (1, vI live)]) (st' := [vI live, vR 77]) B237_12_14 rfl ?_
    have k1 := d_ob (x := F gg) (p := p) (q := q) (s := s) (by omega) (by omega) (by omega) (by omega) (by omega) (by omega)
    have g61 : gi M9 77 41 = e := (f11.g rfl).trans (h4)
    have g62 : gi M9 77 40 = t18 := ht19.symm
    refine r_vL (c := 77) (args := [vI live]) (rest := []) (pc' := 17) D237_14 rfl ck_11_virtual_405 TE235 rfl (Nat.le_of_ble_eq_true rfl) ⟨Nat.le_of_ble_eq_true rfl, Nat.le_of_ble_eq_true rfl⟩ sc_77 ⟨rfl, by decide⟩ H10.1 (by omega) (ihr (by omega) H10 live p (q + 1) s a e t18 F C (by omega) ((h1.fr f17 rfl)) (h2) (by omega) (by omega) (by omega) (by omega) (by omega) (by omega) (by omega) (by omega) (by omega)) ?_
    intro v63 M64 q71
    obtain ⟨H65, f66, q67, q68, q69, q70⟩ := q71
    have f72 := f17.tr (f66.up rfl)
    obtain ⟨t73, ht74⟩ : ∃ q, q = gi M64 77 40 := ⟨_, rfl⟩
    rw [← ht74] at q67
    rw [← ht74] at q68
    rw [← ht74] at q69
    rw [← ht74] at q70
    have km : t73 ≠ e := fun h => by have kx := q68; rw [h] at kx; omega
    have kd2 := h2 t73 (by omega) (by omega)
    have ka := e_A (x := F t73) (c := C t73) (p := p) (q := q + 1) (s := s) (by omega) (by omega) (by omega) (by omega) (by omega) (by omega) (by omega) (by omega) (by omega) (by omega) (by omega)
    have kg := dg (x := F t73) (k := 2) (p := p) (q := q + 1) (s := s) (by omega) (by omega) (by omega) (by omega) (by omega)
    have kb2 : C t73 = 193 := by omega
    rw [kb2] at kd2
    have kb := d_cb (x := F t73) (by omega) (by omega) (by omega)
    clear ka kg
    refine s_blx (lv' := [(2, vL v63), (0, vR 77), (1, vI live)]) (st' := [vR 77, vR 77]) B237_17_20 rfl ?_
    refine r_gint (ki := 40) (pc' := 23) D237_20 rfl gf_11_378_77 rfl H65.1 ?_
    intro w75 e76 r77
    have e78 : t73 = w75 := (e76.trans (ht74.symm)).symm
    subst e78
    refine s_blx (lv' := [(2, vL v63), (0, vR 77), (1, vI live)]) (st' := [vI (t73 + 1), vR 77]) B237_23_25 rfl ?_
    refine r_pint (ki := 40) (pc' := 28) D237_25 rfl pf_11_378_77 rfl H65 (by unfold inR; omega) trivial ?_
    intro M79 u80 H81 p82
    have f83 := f72.wr u80 rfl
    refine s_blx (lv' := [(2, vL v63), (0, vR 77), (1, vI live)]) (st' := [vL v63]) B237_28_29 rfl ?_
    have g84 : gi M79 77 40 = t73 + 1 := p82
    exact r_lretL D237_29 rfl (⟨H81, f83, by rw [g84]; omega, by rw [g84]; omega⟩)
