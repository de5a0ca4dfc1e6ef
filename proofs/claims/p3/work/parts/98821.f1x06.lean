set_option maxRecDepth 4000 in
theorem k59_1n {base : Nat} {X : Nat → Option mC} {G : Nat → Value} (E : EnvOK base X G) {d : Nat} (hd : 0 ≤ d) {M : mH} (H : HI base M) (slot : Int) (values : Int) (length : Int) (h0 : 0 ≤ slot ∧ slot ≤ 2) (h1 : 0 ≤ values ∧ values ≤ 255) (h2 : 0 ≤ length ∧ length ≤ 9) (h3 : gi M 1 4 ≤ 11) : sOk base X G d T59 [vR 1, vI slot, vI values, vI length] M (pI (fun v M' => HI base M' ∧ Fr [(1, 5), (4, 0)] M M' ∧ (-2147483648 ≤ v ∧ v ≤ 2147483647) ∧ (v = gi M 1 4) ∧ (W4 4 (gi M 1 4 * 3) 1 4 slot values length (gi M 1 4 + 1) M M'))) := by
  have f0 : Fr [(1, 5), (4, 0)] M M := Fr.rf
  refine sOk.of (show sRn base X G d T59 0 [(0, vR 1), (1, vI slot), (2, vI values), (3, vI length)] [] M _ from ?_)
  refine s_blx (lv' := [(0, vR 1), (1, vI slot), (2, vI values), (3, vI length)]) (st' := [vR 1]) B59_0_1 rfl ?_
  refine r_gfix (r := 4) (pc' := 4) D59_1 rfl gf_8_22_1 H.1 ?_
  refine s_blx (lv' := [(0, vR 1), (1, vI slot), (2, vI values), (3, vI length)]) (st' := [vR 1, vR 4]) B59_4_5 rfl ?_
  refine r_gint (ki := 4) (pc' := 8) D59_5 rfl gf_8_25_1 rfl H.1 ?_
  intro w1 e2 r3
  have b_w1 := H.2 1 (4) 0 12 rfl
  rw [← e2] at b_w1; clear r3
  have ke := e2
  refine s_blx (lv' := [(0, vR 1), (1, vI slot), (2, vI values), (3, vI length)]) (st' := [vI slot, vI (w1 * 3), vR 4]) B59_8_11 rfl ?_
  refine r_iast (pc' := 12) D59_11 rfl sc_4 H (by omega) (by unfold inR; omega) (show 0 ≤ slot ∧ slot ≤ 255 by omega) ?_
  intro M4 u5 H6 p7
  have f8 := f0.wr u5 rfl
  have ku1 := u5
  refine s_blx (lv' := [(0, vR 1), (1, vI slot), (2, vI values), (3, vI length)]) (st' := [vR 1]) B59_12_13 rfl ?_
  refine r_gfix (r := 4) (pc' := 16) D59_13 rfl gf_8_22_1 H6.1 ?_
  refine s_blx (lv' := [(0, vR 1), (1, vI slot), (2, vI values), (3, vI length)]) (st' := [vR 1, vR 4]) B59_16_17 rfl ?_
  refine r_gint (ki := 4) (pc' := 20) D59_17 rfl gf_8_25_1 rfl H6.1 ?_
  intro w9 e10 r11
  have e12 : w1 = w9 := (e10.trans ((u5.gi_ne (by omega) (Or.inl (by decide))).trans (e2.symm))).symm
  subst e12
  refine s_blx (lv' := [(0, vR 1), (1, vI slot), (2, vI values), (3, vI length)]) (st' := [vI values, vI ((w1 * 3) + 1), vR 4]) B59_20_25 rfl ?_
  refine r_iast (pc' := 26) D59_25 rfl sc_4 H6 (by omega) (by unfold inR; omega) (show 0 ≤ values ∧ values ≤ 255 by omega) ?_
  intro M13 u14 H15 p16
  have f17 := f8.wr u14 rfl
  have ku2 := u14
  refine s_blx (lv' := [(0, vR 1), (1, vI slot), (2, vI values), (3, vI length)]) (st' := [vR 1]) B59_26_27 rfl ?_
  refine r_gfix (r := 4) (pc' := 30) D59_27 rfl gf_8_22_1 H15.1 ?_
  refine s_blx (lv' := [(0, vR 1), (1, vI slot), (2, vI values), (3, vI length)]) (st' := [vR 1, vR 4]) B59_30_31 rfl ?_
  refine r_gint (ki := 4) (pc' := 34) D59_31 rfl gf_8_25_1 rfl H15.1 ?_
  intro w18 e19 r20
  have e21 : w1 = w18 := (e19.trans ((u14.gi_ne (by omega) (Or.inl (by decide))).trans ((u5.gi_ne (by omega) (Or.inl (by decide))).trans (e2.symm)))).symm
  subst e21
  refine s_blx (lv' := [(0, vR 1), (1, vI slot), (2, vI values), (3, vI length)]) (st' := [vI length, vI ((w1 * 3) + 2), vR 4]) B59_34_39 rfl ?_
  refine r_iast (pc' := 40) D59_39 rfl sc_4 H15 (by omega) (by unfold inR; omega) (show 0 ≤ length ∧ length ≤ 255 by omega) ?_
  intro M22 u23 H24 p25
  have f26 := f17.wr u23 rfl
  have ku3 := u23
  refine s_blx (lv' := [(0, vR 1), (1, vI slot), (2, vI values), (3, vI length)]) (st' := [vR 1, vR 1]) B59_40_42 rfl ?_
  refine r_gint (ki := 4) (pc' := 45) D59_42 rfl gf_8_25_1 rfl H24.1 ?_
  intro w27 e28 r29
  have e30 : w1 = w27 := (e28.trans ((u23.gi_ne (by omega) (Or.inl (by decide))).trans ((u14.gi_ne (by omega) (Or.inl (by decide))).trans ((u5.gi_ne (by omega) (Or.inl (by decide))).trans (e2.symm))))).symm
  subst e30
  refine s_blx (lv' := [(0, vR 1), (1, vI slot), (2, vI values), (3, vI length)]) (st' := [vI (w1 + 1), vR 1]) B59_45_47 rfl ?_
  refine r_pint (ki := 4) (pc' := 50) D59_47 rfl pf_8_25_1 rfl H24 (by unfold inR; omega) (show 0 ≤ (w1 + 1) ∧ (w1 + 1) ≤ 12 by omega) ?_
  intro M31 u32 H33 p34
  have f35 := f26.wr u32 rfl
  have ku4 := u32
  refine s_blx (lv' := [(0, vR 1), (1, vI slot), (2, vI values), (3, vI length)]) (st' := [vR 1]) B59_50_51 rfl ?_
  refine r_gint (ki := 4) (pc' := 54) D59_51 rfl gf_8_25_1 rfl H33.1 ?_
  intro w36 e37 r38
  have e39 : w1 + 1 = w36 := (e37.trans (p34)).symm
  subst e39
  refine s_blx (lv' := [(0, vR 1), (1, vI slot), (2, vI values), (3, vI length)]) (st' := [vI ((w1 + 1) - 1)]) B59_54_56 rfl ?_
  exact r_iretI D59_56 rfl (⟨H33, f35, by omega, by omega, ⟨_, _, _, kuv ku1 (by omega) rfl, kuv ku2 (by omega) rfl, kuv ku3 (by omega) rfl, kuv ku4 rfl (by omega)⟩⟩)
