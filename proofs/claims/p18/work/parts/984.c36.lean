
set_option maxRecDepth 4000 in
theorem k112un {base : Nat} {X : Nat → Option mC} {G : Nat → Value} (E : EnvOK base X G) {d : Nat} (hd : 1 ≤ d) {M : mH} (H : HI base M) (len : Int) (h0 : HB base M) (h1 : HN base M) (h2 : 0 ≤ len ∧ len ≤ 400) : sRn base X G d T112 36 [(0, vR 0), (1, vI len)] [vN] M (s_Q base (pI (fun v M' => HI base M' ∧ Fr [(0, 5), (0, 6)] M M' ∧ (HB base M') ∧ (HN base M') ∧ (gi M' 0 9 = 1 ∨ gi M' 0 9 = gi M 0 9)))) := by
  have f0 : Fr [(0, 5), (0, 6)] M M := Fr.rf
  refine s_blx (lv' := [(2, vN), (0, vR 0), (1, vI len)]) (st' := [vR 0, vR 0]) B112_36_39 rfl ?_
  refine r_gfix (r := 14) (pc' := 42) D112_39 rfl gf_10_37_0 H.1 ?_
  refine r_gint (ki := 10) (pc' := 45) D112_42 rfl gf_10_244_14 rfl H.1 ?_
  intro w1 e2 r3
  unfold inR at r3
  refine r_pint (ki := 4) (pc' := 48) D112_45 rfl pf_10_28_0 rfl H (by unfold inR; omega) trivial ?_
  intro M4 u5 H6 p7
  have f8 := f0.wr u5 rfl
  have hp9 := h0.wr u5 (by decide)
  have hp10 := h1.wr u5 (by decide)
  refine s_blx (lv' := [(2, vN), (0, vR 0), (1, vI len)]) (st' := [vN]) B112_48_49 rfl ?_
  refine r_ifnonnull (q := none) (tgt := 59) (pc' := 52) D112_49 rfl rfl (fun hq_ => ?_) (fun hq_ => ?_)
  · exact absurd hq_ (by simp)
  · refine s_blx (lv' := [(2, vN), (0, vR 0), (1, vI len)]) (st' := [vI (-6), vR 0]) B112_52_55 rfl ?_
    refine r_vI (c := 0) (args := [vI (-6)]) (rest := []) (pc' := 58) D112_55 rfl ck_10_virtual_106 TE133 rfl (Nat.le_of_ble_eq_true rfl) ⟨Nat.le_of_ble_eq_true rfl, Nat.le_of_ble_eq_true rfl⟩ sc_0 ⟨rfl, by decide⟩ H6.1 (dp_0 hd rfl) (k133 E (dp_n hd rfl) H6 (-6) (by omega)) ?_
    intro v11 M12 q16
    obtain ⟨H13, f14, q15⟩ := q16
    have f17 := f8.tr (f14.up rfl)
    have hp18 := hp9.fr f14 (by decide)
    have hp19 := hp10.fr f14 (by decide)
    have g20 : gi M12 0 9 = gi M 0 9 := (f14.g rfl).trans ((u5.gi_ne (by decide) (Or.inr (by decide))).trans (rfl))
    exact r_iretI D112_58 rfl (⟨H13, f17, hp18, hp19, by rw [g20]; omega⟩)
set_option maxRecDepth 4000 in
theorem k112ur {base : Nat} {X : Nat → Option mC} {G : Nat → Value} (E : EnvOK base X G) {d : Nat} (hd : 1 ≤ d) {M : mH} (H : HI base M) (len : Int) (habit : Nat) (nh : Int) (nc : Int) (n0 : Int) (h0 : HB base M) (h1 : HN base M) (h2 : 0 ≤ len ∧ len ≤ 400) (h3 : IsHab base habit nh nc M) (h4 : gi M 1 12 = n0) (h5 : 0 ≤ n0 ∧ n0 ≤ 7) (h6 : 0 ≤ nh ∧ nh ≤ 12) : sRn base X G d T112 36 [(0, vR 0), (1, vI len)] [vR (habit)] M (s_Q base (pI (fun v M' => HI base M' ∧ Fr [(0, 5), (0, 6), (0, 10), (1, 13), (9, 0)] M M' ∧ (HB base M') ∧ (HN base M') ∧ (gi M' 0 9 = 1 ∨ gi M' 0 9 = gi M 0 9)))) := by
  have f0 : Fr [(0, 5), (0, 6), (0, 10), (1, 13), (9, 0)] M M := Fr.rf
  refine s_blx (lv' := [(2, vR (habit)), (0, vR 0), (1, vI len)]) (st' := [vR 0, vR 0]) B112_36_39 rfl ?_
  refine r_gfix (r := 14) (pc' := 42) D112_39 rfl gf_10_37_0 H.1 ?_
  refine r_gint (ki := 10) (pc' := 45) D112_42 rfl gf_10_244_14 rfl H.1 ?_
  intro w1 e2 r3
  unfold inR at r3
  refine r_pint (ki := 4) (pc' := 48) D112_45 rfl pf_10_28_0 rfl H (by unfold inR; omega) trivial ?_
  intro M4 u5 H6 p7
  have f8 := f0.wr u5 rfl
  have hp9 := h0.wr u5 (by decide)
  have hp10 := h1.wr u5 (by decide)
  refine s_blx (lv' := [(2, vR (habit)), (0, vR 0), (1, vI len)]) (st' := [vR (habit)]) B112_48_49 rfl ?_
  refine r_ifnonnull (q := some (.inl habit)) (tgt := 59) (pc' := 52) D112_49 rfl rfl (fun hq_ => ?_) (fun hq_ => ?_)
  · refine s_blx (lv' := [(2, vR (habit)), (0, vR 0), (1, vI len)]) (st' := [vR 0, vR 0]) B112_59_61 rfl ?_
    refine r_gfix (r := 1) (pc' := 64) D112_61 rfl gf_10_10_0 H6.1 ?_
    refine s_blx (lv' := [(2, vR (habit)), (0, vR 0), (1, vI len)]) (st' := [vR (habit), vR 1, vR 0]) B112_64_65 rfl ?_
    have g11 : gi M4 1 12 = n0 := (u5.gi_ne (by decide) (Or.inl (by decide))).trans (h4)
    refine r_vI (c := 1) (args := [vR (habit)]) (rest := [vR 0]) (pc' := 68) D112_65 rfl ck_10_virtual_245 TE62 rfl (Nat.le_of_ble_eq_true rfl) ⟨Nat.le_of_ble_eq_true rfl, Nat.le_of_ble_eq_true rfl⟩ sc_1 ⟨rfl, by decide⟩ H6.1 (dp_0 hd rfl) (k62_1h E (dp_n hd rfl) H6 habit nh nc n0 (hp9) (hp10) ((h3.fr f8 rfl)) (by omega) (by omega) (by omega)) ?_
    intro v12 M13 q19
    obtain ⟨H14, f15, q16, q17, q18⟩ := q19
    have f20 := f8.tr (f15.up rfl)
    refine r_vI (c := 0) (args := [vI v12]) (rest := []) (pc' := 71) D112_68 rfl ck_10_virtual_123 TE134 rfl (Nat.le_of_ble_eq_true rfl) ⟨Nat.le_of_ble_eq_true rfl, Nat.le_of_ble_eq_true rfl⟩ sc_0 ⟨rfl, by decide⟩ H14.1 (dp_0 hd rfl) (k134s E (dp_n hd rfl) H14 v12 (by omega)) ?_
    intro v21 M22 q27
    obtain ⟨H23, f24, q25, q26⟩ := q27
    have f28 := f20.tr (f24.up rfl)
    have hp29 := q17.fr f24 (by decide)
    have hp30 := q18.fr f24 (by decide)
    have g31 : gi M22 0 9 = 1 := q26
    exact r_iretI D112_71 rfl (⟨H23, f28, hp29, hp30, by rw [g31]; omega⟩)
  · exact absurd hq_ (by simp)
