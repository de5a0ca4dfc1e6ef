
set_option maxRecDepth 4000 in
theorem k112e {base : Nat} {X : Nat → Option mC} {G : Nat → Value} (E : EnvOK base X G) {d : Nat} (hd : 60 ≤ d) {M : mH} (H : HI base M) (h0 : HB base M) (h1 : HN base M) : sOk base X G d T112 [vR 0] M (pI (fun v M' => HI base M' ∧ HB base M' ∧ HN base M' ∧ Fx [(0, 4), (0, 5), (0, 6), (0, 10), (1, 13), (9, 0), (14, 3), (14, 4), (14, 5), (14, 8), (14, 10), (14, 11), (15, 0), (16, 0), (17, 0), (18, 0), (19, 0)] 4 427 M M' ∧ (gi M' 0 9 = 1 ∨ gi M' 0 9 = gi M 0 9) ∧ gi M' 0 3 = 0)) := by
  have f0 : Fr [(0, 4), (0, 5), (0, 6), (0, 10), (1, 13), (9, 0), (14, 3), (14, 4), (14, 5), (14, 8), (14, 10), (14, 11), (15, 0), (16, 0), (17, 0), (18, 0), (19, 0)] M M := Fr.rf
  refine sOk.of (show sRn base X G d T112 0 [(0, vR 0)] [] M _ from ?_)
  refine s_blx (lv' := [(0, vR 0)]) (st' := [vR 0]) B112_0_1 rfl ?_
  refine r_vI (c := 0) (args := []) (rest := []) (pc' := 4) D112_1 rfl ck_10_virtual_149 TE135 rfl (Nat.le_of_ble_eq_true rfl) ⟨Nat.le_of_ble_eq_true rfl, Nat.le_of_ble_eq_true rfl⟩ sc_0 ⟨rfl, by decide⟩ H.1 (dp_0 hd rfl) (k135e E (dp_n hd rfl) H ) ?_
  intro v1 M2 q8
  obtain ⟨H3, f4, q5, q6, q7⟩ := q8
  have f9 := f0.tr (f4.up rfl)
  have hp10 := h0.fr f4 (by decide)
  have hp11 := h1.fr f4 (by decide)
  refine s_blx (lv' := [(1, vI v1), (0, vR 0)]) (st' := [vR 0]) B112_4_6 rfl ?_
  refine r_gfix (r := 1) (pc' := 9) D112_6 rfl gf_10_10_0 H3.1 ?_
  refine r_gint (ki := 12) (pc' := 12) D112_9 rfl gf_10_237_1 rfl H3.1 ?_
  intro w12 e13 r14
  have b_w12 := H3.2 1 (12) 0 8 rfl
  rw [← e13] at b_w12; clear r14
  refine s_blx (lv' := [(1, vI v1), (0, vR 0)]) (st' := [vI 8, vI w12]) B112_12_14 rfl ?_
  refine r_icmp (tgt := 24) (pc' := 17) D112_14 rfl rfl (by unfold inR; omega) (fun (c15 : w12 < 8) => ?_) (fun (c15 : ¬ (w12 < 8)) => ?_)
  · refine s_blx (lv' := [(1, vI v1), (0, vR 0)]) (st' := [vR 0]) B112_24_25 rfl ?_
    refine r_gfix (r := 14) (pc' := 28) D112_25 rfl gf_10_37_0 H3.1 ?_
    refine s_blx (lv' := [(1, vI v1), (0, vR 0)]) (st' := [vR 0, vR 14]) B112_28_29 rfl ?_
    refine r_gfix (r := 13) (pc' := 32) D112_29 rfl gf_10_20_0 H3.1 ?_
    refine s_blx (lv' := [(1, vI v1), (0, vR 0)]) (st' := [vI v1, vR 13, vR 14]) B112_32_33 rfl ?_
    refine r_loc (lv' := [(0, vR 0), (1, vI v1)]) ⟨rfl, rfl, trivial⟩ rfl rfl ?_
    exact z112 E (by omega) H3 (hp10) (hp11) (by omega) ((e13.symm)) (by omega) (fun v M' a b c e s t => ⟨a, b, c, ((f9.x.up rfl).tr (e.up rfl)).more, (by have g0 : gi M2 0 9 = gi M 0 9 := ((f4.g rfl).trans (rfl)); rw [← g0]; exact s), by have g3 : gi M2 0 3 = 0 := (q7); rw [t, g3]⟩)
  · refine s_blx (lv' := [(1, vI v1), (0, vR 0)]) (st' := [vI (-5), vR 0]) B112_17_20 rfl ?_
    refine r_vI (c := 0) (args := [vI (-5)]) (rest := []) (pc' := 23) D112_20 rfl ck_10_virtual_106 TE133 rfl (Nat.le_of_ble_eq_true rfl) ⟨Nat.le_of_ble_eq_true rfl, Nat.le_of_ble_eq_true rfl⟩ sc_0 ⟨rfl, by decide⟩ H3.1 (dp_0 hd rfl) (k133 E (dp_n hd rfl) H3 (-5) (by omega)) ?_
    intro v16 M17 q21
    obtain ⟨H18, f19, q20⟩ := q21
    have f22 := f9.tr (f19.up rfl)
    have hp23 := hp10.fr f19 (by decide)
    have hp24 := hp11.fr f19 (by decide)
    exact r_iretI D112_23 rfl (⟨H18, hp23, hp24, (f22.x).more, Or.inr ((f19.g rfl).trans ((f4.g rfl).trans (rfl))), ((f19.g rfl).trans (q7))⟩)
