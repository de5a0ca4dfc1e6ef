set_option maxRecDepth 4000 in
theorem k159x {base : Nat} {X : Nat → Option mC} {G : Nat → Value} (E : EnvOK base X G) {d : Nat} (hd : 0 ≤ d) {M : mH} (H : HI base M) (s : Int) (h0 : 0 ≤ s ∧ s ≤ 15) : sOk base X G d T159 [vR 77, vI s] M (pI (fun v M' => M' = M ∧ (0 ≤ v ∧ v ≤ 100) ∧ v = gi M 78 (135 + 16 * s + 12 + gi M 78 474))) := by
  refine sOk.of (show sRn base X G d T159 0 [(0, vR 77), (1, vI s)] [] M _ from ?_)
  refine s_blx (lv' := [(0, vR 77), (1, vI s)]) (st' := [vR 77]) B159_0_1 rfl ?_
  refine r_gfix (r := 78) (pc' := 4) D159_1 rfl gf_11_13_77 H.1 ?_
  refine s_blx (lv' := [(0, vR 77), (1, vI s)]) (st' := [vR 77, vI ((135 + (16 * s)) + 12), vR 78]) B159_4_16 rfl ?_
  refine r_gfix (r := 78) (pc' := 19) D159_16 rfl gf_11_13_77 H.1 ?_
  refine s_blx (lv' := [(0, vR 77), (1, vI s)]) (st' := [vI 474, vR 78, vI ((135 + (16 * s)) + 12), vR 78]) B159_19_22 rfl ?_
  refine r_iald (pc' := 23) D159_22 rfl sc_78 H.1 (by omega) ?_
  intro w1 e2 r3
  have b_w1 := H.2 78 (474) 0 3 (rk_who (by omega))
  rw [← e2] at b_w1; clear r3
  refine s_blx (lv' := [(0, vR 77), (1, vI s)]) (st' := [vI (((135 + (16 * s)) + 12) + w1), vR 78]) B159_23_24 rfl ?_
  refine r_iald (pc' := 25) D159_24 rfl sc_78 H.1 (by omega) ?_
  intro w4 e5 r6
  have b_w4 := H.2 78 (((135 + (16 * s)) + 12) + w1) 0 100 (rk_wgt (by omega))
  rw [← e5] at b_w4; clear r6
  exact r_iretI D159_25 rfl (⟨rfl, by omega, by subst_vars; rfl⟩)
