/-- how a TEXT is answered: v the answer, fa where the fault lies, c how many HABITS, n were -/
noncomputable def HAx (T : Int → Int) (s n v fa c : Int) : Prop := (HRx T s 0 fa ∧ v = -6 ∧ c = n) ∨ (HRx T s (-1) 0 ∧ v = n ∧ fa = -1 ∧ c = n + 1)
theorem HAx.uniq {T : Int → Int} {s n v fa c v' fa' c' : Int} (h : HAx T s n v fa c) (h' : HAx T s n v' fa' c') : v = v' ∧ fa = fa' ∧ c = c' := by
  rcases h with ⟨a, b, e⟩ | ⟨a, b, f, e⟩ <;> rcases h' with ⟨a', b', e'⟩ | ⟨a', b', f', e'⟩
  · exact ⟨by omega, (a.uniq a').2 rfl, by omega⟩
  · exact absurd (a.uniq a').1 (by decide)
  · exact absurd (a.uniq a').1 (by decide)
  · exact ⟨by omega, by omega, by omega⟩

set_option maxRecDepth 4000 in
theorem k62_1p {base : Nat} {X : Nat → Option mC} {G : Nat → Value} (E : EnvOK base X G) {d : Nat} (hd : 0 ≤ d) {M : mH} (H : HI base M) (habit : Nat) (nh : Int) (nc : Int) (n : Int) (h0 : HB base M) (h1 : HN base M) (h2 : IsHab base habit nh nc M) (h3 : gi M 1 12 = n) (h4 : 0 ≤ n ∧ n ≤ 7) (h5 : 0 ≤ nh ∧ nh ≤ 12) : sOk base X G d T62 [vR 1, vR (habit)] M (pI (fun v M' => HI base M' ∧ Fr [(1, 13), (9, 0)] M M' ∧ (v = n) ∧ (gi M' 1 12 = n + 1))) := by
  have f0 : Fr [(1, 13), (9, 0)] M M := Fr.rf
  refine sOk.of (show sRn base X G d T62 0 [(0, vR 1), (1, vR (habit))] [] M _ from ?_)
  refine s_blx (lv' := [(0, vR 1), (1, vR (habit))]) (st' := [vR 1]) B62_0_1 rfl ?_
  refine r_gfix (r := 9) (pc' := 4) D62_1 rfl gf_8_48_1 H.1 ?_
  refine s_blx (lv' := [(0, vR 1), (1, vR (habit))]) (st' := [vR 1, vR 9]) B62_4_5 rfl ?_
  refine r_gint (ki := 12) (pc' := 8) D62_5 rfl gf_8_52_1 rfl H.1 ?_
  intro w1 e2 r3
  have e4 : n = w1 := (e2.trans (h3)).symm
  subst e4
  refine s_blx (lv' := [(0, vR 1), (1, vR (habit))]) (st' := [vR (habit), vI n, vR 9]) B62_8_9 rfl ?_
  refine r_aastH (pc' := 10) D62_9 rfl H (h2) (by omega) ?_
  intro M5 u6 H7
  have f8 := f0.wr u6 rfl
  refine s_blx (lv' := [(0, vR 1), (1, vR (habit))]) (st' := [vR 1, vR 1]) B62_10_12 rfl ?_
  refine r_gint (ki := 12) (pc' := 15) D62_12 rfl gf_8_52_1 rfl H7.1 ?_
  intro w9 e10 r11
  have e12 : n = w9 := (e10.trans ((u6.gi_ne (by omega) (Or.inl (by decide))).trans (h3))).symm
  subst e12
  refine s_blx (lv' := [(0, vR 1), (1, vR (habit))]) (st' := [vI (n + 1), vR 1]) B62_15_17 rfl ?_
  refine r_pint (ki := 12) (pc' := 20) D62_17 rfl pf_8_52_1 rfl H7 (by unfold inR; omega) (show 0 ≤ (n + 1) ∧ (n + 1) ≤ 8 by omega) ?_
  intro M13 u14 H15 p16
  have f17 := f8.wr u14 rfl
  refine s_blx (lv' := [(0, vR 1), (1, vR (habit))]) (st' := [vR 1]) B62_20_21 rfl ?_
  refine r_gint (ki := 12) (pc' := 24) D62_21 rfl gf_8_52_1 rfl H15.1 ?_
  intro w18 e19 r20
  have e21 : n + 1 = w18 := (e19.trans (p16)).symm
  subst e21
  refine s_blx (lv' := [(0, vR 1), (1, vR (habit))]) (st' := [vI ((n + 1) - 1)]) B62_24_26 rfl ?_
  have g22 : gi M13 1 12 = n + 1 := p16
  exact r_iretI D62_26 rfl (⟨H15, f17, by omega, by first | (rw [g22]; omega) | rw [g22]⟩)
set_option maxRecDepth 4000 in
theorem k112unp {base : Nat} {X : Nat → Option mC} {G : Nat → Value} (E : EnvOK base X G) {d : Nat} (hd : 1 ≤ d) {M : mH} (H : HI base M) (len : Int) (fa : Int) (h0 : 0 ≤ len ∧ len ≤ 400) (h1 : gi M 14 10 = fa) (h2 : -2147483648 ≤ fa ∧ fa ≤ 2147483647) : sRn base X G d T112 36 [(0, vR 0), (1, vI len)] [vN] M (s_Q base (pI (fun v M' => HI base M' ∧ Fr [(0, 5), (0, 6)] M M' ∧ (v = -6) ∧ (gi M' 0 4 = fa) ∧ (gi M' 1 12 = gi M 1 12)))) := by
  have f0 : Fr [(0, 5), (0, 6)] M M := Fr.rf
  refine s_blx (lv' := [(2, vN), (0, vR 0), (1, vI len)]) (st' := [vR 0, vR 0]) B112_36_39 rfl ?_
  refine r_gfix (r := 14) (pc' := 42) D112_39 rfl gf_10_37_0 H.1 ?_
  refine r_gint (ki := 10) (pc' := 45) D112_42 rfl gf_10_244_14 rfl H.1 ?_
  intro w1 e2 r3
  have e4 : fa = w1 := (e2.trans (h1)).symm
  subst e4
  refine r_pint (ki := 4) (pc' := 48) D112_45 rfl pf_10_28_0 rfl H (by unfold inR; omega) trivial ?_
  intro M5 u6 H7 p8
  have f9 := f0.wr u6 rfl
  refine s_blx (lv' := [(2, vN), (0, vR 0), (1, vI len)]) (st' := [vN]) B112_48_49 rfl ?_
  refine r_ifnonnull (q := none) (tgt := 59) (pc' := 52) D112_49 rfl rfl (fun hq_ => ?_) (fun hq_ => ?_)
  · exact absurd hq_ (by simp)
  · refine s_blx (lv' := [(2, vN), (0, vR 0), (1, vI len)]) (st' := [vI (-6), vR 0]) B112_52_55 rfl ?_
    refine r_vI (c := 0) (args := [vI (-6)]) (rest := []) (pc' := 58) D112_55 rfl ck_10_virtual_106 TE133 rfl (Nat.le_of_ble_eq_true rfl) ⟨Nat.le_of_ble_eq_true rfl, Nat.le_of_ble_eq_true rfl⟩ sc_0 ⟨rfl, by decide⟩ H7.1 (dp_0 hd rfl) (k133 E (dp_n hd rfl) H7 (-6) (by omega)) ?_
    intro v10 M11 q15
    obtain ⟨H12, f13, q14⟩ := q15
    have f16 := f9.tr (f13.up rfl)
    have g17 : gi M11 0 4 = fa := (f13.g rfl).trans (p8)
    have g18 : gi M11 1 12 = gi M 1 12 := (f13.g rfl).trans ((u6.gi_ne (by decide) (Or.inl (by decide))).trans (rfl))
    exact r_iretI D112_58 rfl (⟨H12, f16, by omega, by first | (rw [g17]; omega) | rw [g17], by first | (rw [g18]; omega) | rw [g18]⟩)
set_option maxRecDepth 4000 in
theorem k112urp {base : Nat} {X : Nat → Option mC} {G : Nat → Value} (E : EnvOK base X G) {d : Nat} (hd : 1 ≤ d) {M : mH} (H : HI base M) (len : Int) (habit : Nat) (nh : Int) (nc : Int) (n0 : Int) (fa : Int) (h0 : HB base M) (h1 : HN base M) (h2 : 0 ≤ len ∧ len ≤ 400) (h3 : IsHab base habit nh nc M) (h4 : gi M 1 12 = n0) (h5 : 0 ≤ n0 ∧ n0 ≤ 7) (h6 : 0 ≤ nh ∧ nh ≤ 12) (h7 : gi M 14 10 = fa) (h8 : -2147483648 ≤ fa ∧ fa ≤ 2147483647) : sRn base X G d T112 36 [(0, vR 0), (1, vI len)] [vR (habit)] M (s_Q base (pI (fun v M' => HI base M' ∧ Fr [(0, 5), (0, 6), (0, 10), (1, 13), (9, 0)] M M' ∧ (v = n0) ∧ (gi M' 0 4 = fa) ∧ (gi M' 1 12 = n0 + 1)))) := by
  have f0 : Fr [(0, 5), (0, 6), (0, 10), (1, 13), (9, 0)] M M := Fr.rf
  refine s_blx (lv' := [(2, vR (habit)), (0, vR 0), (1, vI len)]) (st' := [vR 0, vR 0]) B112_36_39 rfl ?_
  refine r_gfix (r := 14) (pc' := 42) D112_39 rfl gf_10_37_0 H.1 ?_
  refine r_gint (ki := 10) (pc' := 45) D112_42 rfl gf_10_244_14 rfl H.1 ?_
  intro w1 e2 r3
  have e4 : fa = w1 := (e2.trans (h7)).symm
  subst e4
  refine r_pint (ki := 4) (pc' := 48) D112_45 rfl pf_10_28_0 rfl H (by unfold inR; omega) trivial ?_
  intro M5 u6 H7 p8
  have f9 := f0.wr u6 rfl
  have hp10 := h0.wr u6 (by decide)
  have hp11 := h1.wr u6 (by decide)
  refine s_blx (lv' := [(2, vR (habit)), (0, vR 0), (1, vI len)]) (st' := [vR (habit)]) B112_48_49 rfl ?_
  refine r_ifnonnull (q := some (.inl habit)) (tgt := 59) (pc' := 52) D112_49 rfl rfl (fun hq_ => ?_) (fun hq_ => ?_)
  · refine s_blx (lv' := [(2, vR (habit)), (0, vR 0), (1, vI len)]) (st' := [vR 0, vR 0]) B112_59_61 rfl ?_
    refine r_gfix (r := 1) (pc' := 64) D112_61 rfl gf_10_10_0 H7.1 ?_
    refine s_blx (lv' := [(2, vR (habit)), (0, vR 0), (1, vI len)]) (st' := [vR (habit), vR 1, vR 0]) B112_64_65 rfl ?_
    have g12 : gi M5 1 12 = n0 := (u6.gi_ne (by decide) (Or.inl (by decide))).trans (h4)
    refine r_vI (c := 1) (args := [vR (habit)]) (rest := [vR 0]) (pc' := 68) D112_65 rfl ck_10_virtual_245 TE62 rfl (Nat.le_of_ble_eq_true rfl) ⟨Nat.le_of_ble_eq_true rfl, Nat.le_of_ble_eq_true rfl⟩ sc_1 ⟨rfl, by decide⟩ H7.1 (dp_0 hd rfl) (k62_1p E (dp_n hd rfl) H7 habit nh nc n0 (hp10) (hp11) ((h3.fr f9 rfl)) (by omega) (by omega) (by omega)) ?_
    intro v13 M14 q19
    obtain ⟨H15, f16, q17, q18⟩ := q19
    have f20 := f9.tr (f16.up rfl)
    obtain ⟨t21, ht22⟩ : ∃ q, q = gi M14 1 12 := ⟨_, rfl⟩
    have b_t21 := H15.2 1 12 0 8 rfl
    rw [← ht22] at b_t21
    rw [← ht22] at q18
    refine r_vI (c := 0) (args := [vI v13]) (rest := []) (pc' := 71) D112_68 rfl ck_10_virtual_123 TE134 rfl (Nat.le_of_ble_eq_true rfl) ⟨Nat.le_of_ble_eq_true rfl, Nat.le_of_ble_eq_true rfl⟩ sc_0 ⟨rfl, by decide⟩ H15.1 (dp_0 hd rfl) (k134s E (dp_n hd rfl) H15 v13 (by omega)) ?_
    intro v23 M24 q29
    obtain ⟨H25, f26, q27, q28⟩ := q29
    have f30 := f20.tr (f26.up rfl)
    have g31 : gi M24 0 4 = fa := (f26.g rfl).trans ((f16.g rfl).trans (p8))
    have g32 : gi M24 1 12 = t21 := (f26.g rfl).trans (ht22.symm)
    exact r_iretI D112_71 rfl (⟨H25, f30, by omega, by first | (rw [g31]; omega) | rw [g31], by first | (rw [g32]; omega) | rw [g32]⟩)
  · exact absurd hq_ (by simp)
