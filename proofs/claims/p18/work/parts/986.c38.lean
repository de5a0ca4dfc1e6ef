
set_option maxRecDepth 4000 in
theorem k112h {base : Nat} {X : Nat → Option mC} {G : Nat → Value} (E : EnvOK base X G) {d : Nat} (hd : 60 ≤ d) {M : mH} (H : HI base M) (h0 : HB base M) (h1 : HN base M) : sOk base X G d T112 [vR 0] M (pI (fun v M' => HI base M' ∧ HB base M' ∧ HN base M' ∧ Fx [(0, 4), (0, 5), (0, 6), (0, 10), (1, 13), (9, 0), (14, 3), (14, 4), (14, 5), (14, 8), (14, 10), (14, 11), (15, 0), (16, 0), (17, 0), (18, 0), (19, 0)] 4 427 M M' ∧ (gi M' 0 9 = 1 ∨ gi M' 0 9 = gi M 0 9))) := by
  have f0 : Fr [(0, 4), (0, 5), (0, 6), (0, 10), (1, 13), (9, 0), (14, 3), (14, 4), (14, 5), (14, 8), (14, 10), (14, 11), (15, 0), (16, 0), (17, 0), (18, 0), (19, 0)] M M := Fr.rf
  refine sOk.of (show sRn base X G d T112 0 [(0, vR 0)] [] M _ from ?_)
  refine s_blx (lv' := [(0, vR 0)]) (st' := [vR 0]) B112_0_1 rfl ?_
  refine r_vI (c := 0) (args := []) (rest := []) (pc' := 4) D112_1 rfl ck_10_virtual_149 TE135 rfl (Nat.le_of_ble_eq_true rfl) ⟨Nat.le_of_ble_eq_true rfl, Nat.le_of_ble_eq_true rfl⟩ sc_0 ⟨rfl, by decide⟩ H.1 (dp_0 hd rfl) (k135 E (dp_n hd rfl) H ) ?_
  intro v1 M2 q6
  obtain ⟨H3, f4, q5⟩ := q6
  have f7 := f0.tr (f4.up rfl)
  have hp8 := h0.fr f4 (by decide)
  have hp9 := h1.fr f4 (by decide)
  refine s_blx (lv' := [(1, vI v1), (0, vR 0)]) (st' := [vR 0]) B112_4_6 rfl ?_
  refine r_gfix (r := 1) (pc' := 9) D112_6 rfl gf_10_10_0 H3.1 ?_
  refine r_gint (ki := 12) (pc' := 12) D112_9 rfl gf_10_237_1 rfl H3.1 ?_
  intro w10 e11 r12
  have b_w10 := H3.2 1 (12) 0 8 rfl
  rw [← e11] at b_w10; clear r12
  refine s_blx (lv' := [(1, vI v1), (0, vR 0)]) (st' := [vI 8, vI w10]) B112_12_14 rfl ?_
  refine r_icmp (tgt := 24) (pc' := 17) D112_14 rfl rfl (by unfold inR; omega) (fun (c13 : w10 < 8) => ?_) (fun (c13 : ¬ (w10 < 8)) => ?_)
  · refine s_blx (lv' := [(1, vI v1), (0, vR 0)]) (st' := [vR 0]) B112_24_25 rfl ?_
    refine r_gfix (r := 14) (pc' := 28) D112_25 rfl gf_10_37_0 H3.1 ?_
    refine s_blx (lv' := [(1, vI v1), (0, vR 0)]) (st' := [vR 0, vR 14]) B112_28_29 rfl ?_
    refine r_gfix (r := 13) (pc' := 32) D112_29 rfl gf_10_20_0 H3.1 ?_
    refine s_blx (lv' := [(1, vI v1), (0, vR 0)]) (st' := [vI v1, vR 13, vR 14]) B112_32_33 rfl ?_
    refine r_loc (lv' := [(0, vR 0), (1, vI v1)]) ⟨rfl, rfl, trivial⟩ rfl rfl ?_
    exact w112 E (by omega) H3 (hp8) (hp9) (by omega) ((e11.symm)) (by omega) (fun v M' a b c e s => ⟨a, b, c, ((f7.x.up rfl).tr (e.up rfl)).more, by have g0 : gi M2 0 9 = gi M 0 9 := ((f4.g rfl).trans (rfl)); rw [← g0]; exact s⟩)
  · refine s_blx (lv' := [(1, vI v1), (0, vR 0)]) (st' := [vI (-5), vR 0]) B112_17_20 rfl ?_
    refine r_vI (c := 0) (args := [vI (-5)]) (rest := []) (pc' := 23) D112_20 rfl ck_10_virtual_106 TE133 rfl (Nat.le_of_ble_eq_true rfl) ⟨Nat.le_of_ble_eq_true rfl, Nat.le_of_ble_eq_true rfl⟩ sc_0 ⟨rfl, by decide⟩ H3.1 (dp_0 hd rfl) (k133 E (dp_n hd rfl) H3 (-5) (by omega)) ?_
    intro v14 M15 q19
    obtain ⟨H16, f17, q18⟩ := q19
    have f20 := f7.tr (f17.up rfl)
    have hp21 := hp8.fr f17 (by decide)
    have hp22 := hp9.fr f17 (by decide)
    exact r_iretI D112_23 rfl (⟨H16, hp21, hp22, (f20.x).more, Or.inr ((f17.g rfl).trans ((f4.g rfl).trans (rfl)))⟩)
