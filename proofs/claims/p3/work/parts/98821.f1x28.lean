set_option maxRecDepth 4000 in
theorem k60_1_13n {base : Nat} {X : Nat → Option mC} {G : Nat → Value} (E : EnvOK base X G) {d : Nat} (hd : 0 ≤ d) {M : mH} (H : HI base M) (length : Int) (h0 : TC length M) (h1 : 1 ≤ length ∧ length ≤ 8) (h2 : gi M 1 10 ≤ 15) : sOk base X G d T60 [vR 1, vR 13, vI length] M (pI (fun v M' => HI base M' ∧ Fr [(1, 11), (5, 0), (6, 0), (8, 0)] M M' ∧ (0 ≤ v ∧ v ≤ 15) ∧ (v = gi M 1 10) ∧ (gi M' 1 10 = gi M 1 10 + 1) ∧ (∀ i : Int, gi M' 6 i = updN (gi M 6) (gi M 1 10) length i) ∧ (∀ i : Int, gi M' 8 i = wtN (gi M 8) (gi M 1 10 * 4) 4 i) ∧ (∀ i : Int, 0 ≤ i → gi M' 5 i = rwN (gi M 5) (gi M 13) (gi M 1 10 * 8) length i))) := by
  have f0 : Fr [(1, 11), (5, 0), (6, 0), (8, 0)] M M := Fr.rf
  refine sOk.of (show sRn base X G d T60 0 [(0, vR 1), (1, vR 13), (2, vI length)] [] M _ from ?_)
  refine s_blx (lv' := [(0, vR 1), (1, vR 13), (2, vI length)]) (st' := [vR 1]) B60_0_1 rfl ?_
  refine r_gint (ki := 10) (pc' := 4) D60_1 rfl gf_8_43_1 rfl H.1 ?_
  intro w1 e2 r3
  have b_w1 := H.2 1 (10) 0 16 rfl
  rw [← e2] at b_w1; clear r3
  have kn := e2
  refine s_blx (lv' := [(3, vI w1), (0, vR 1), (1, vR 13), (2, vI length)]) (st' := [vR 1, vI 0, vR 13]) B60_4_8 rfl ?_
  refine r_gfix (r := 5) (pc' := 11) D60_8 rfl gf_8_31_1 H.1 ?_
  refine s_blx (lv' := [(3, vI w1), (0, vR 1), (1, vR 13), (2, vI length)]) (st' := [vI length, vI (w1 * 8), vR 5, vI 0, vR 13]) B60_11_16 rfl ?_
  refine r_acpy (pc' := 19) D60_16 rfl mc_8_static_70 sp_8_70 (Nat.le_of_ble_eq_true rfl) sc_13 sc_5 H (by omega) (fun j h0_ h1_ => (show 0 ≤ _ ∧ _ ≤ 29 from by have q := H.2 13 (0 + j) 0 255 rfl; have q2 := h0 (0 + j) (by omega) (by omega); omega)) ?_
  intro M4 u5 H6
  have f7 := f0.cp u5 (fun _ => rfl)
  have kcp := u5
  refine s_blx (lv' := [(3, vI w1), (0, vR 1), (1, vR 13), (2, vI length)]) (st' := [vR 1]) B60_19_20 rfl ?_
  refine r_gfix (r := 6) (pc' := 23) D60_20 rfl gf_8_34_1 H6.1 ?_
  refine s_blx (lv' := [(3, vI w1), (0, vR 1), (1, vR 13), (2, vI length)]) (st' := [vI length, vI w1, vR 6]) B60_23_25 rfl ?_
  refine r_iast (pc' := 26) D60_25 rfl sc_6 H6 (by omega) (by unfold inR; omega) (show 0 ≤ length ∧ length ≤ 8 by omega) ?_
  intro M8 u9 H10 p11
  have f12 := f7.wr u9 rfl
  have kw6 := u9
  have kA5 : ∀ i : Int, 0 ≤ i → gi M8 5 i = rwN (gi M 5) (gi M 13) (gi M 1 10 * 8) length i := fun i hi => by rw [kw6.gi_ne (by omega) (Or.inl (by decide)), rwN_cp kcp (by omega) (by omega) i hi, kn]
  have kA6 : ∀ i : Int, gi M8 6 i = updN (gi M 6) (gi M 1 10) length i := fun i => by rw [← kn, wrU kw6 (by omega) p11 i]; unfold updN; rw [kcp.gi_ne (c := 6) (by decide) i]
  have kA8 : ∀ i : Int, gi M8 8 i = wtN (gi M 8) (gi M 1 10 * 4) 0 i := fun i => by rw [kw6.gi_ne (by omega) (Or.inl (by decide)), kcp.gi_ne (c := 8) (by decide) i]; exact wtN_0.symm
  refine s_blx (lv' := [(4, vI 0), (3, vI w1), (0, vR 1), (1, vR 13), (2, vI length)]) (st' := []) B60_26_29 rfl ?_
  refine r_loc (lv' := [(0, vR 1), (3, vI w1), (4, vI 0)]) ⟨rfl, rfl, rfl, trivial⟩ rfl rfl ?_
  have g13 : gi M8 1 10 = w1 := (u9.gi_ne (by omega) (Or.inl (by decide))).trans ((u5.gi_ne (by decide) _).trans (e2.symm))
  exact (L_k60_1_13n E hd H length h0 h1 h2 (((4 - 0) * 1 + 0 : Int) + 1).toNat) w1 0 M8 H10 f12 (by omega) (by omega) (by omega) (by omega) (kA6) (kA8) (kA5) (by omega) (by omega) (by omega) (by omega) (by omega)
