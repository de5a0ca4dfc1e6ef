set_option maxRecDepth 4000 in
theorem k156x {base : Nat} {X : Nat → Option mC} {G : Nat → Value} (E : EnvOK base X G) {d : Nat} (hd : 0 ≤ d) {M : mH} (H : HI base M) (s : Int) (h0 : 0 ≤ s ∧ s ≤ 15) : sOk base X G d T156 [vR 77, vI s] M (pI (fun v M' => M' = M ∧ (0 ≤ v ∧ v ≤ 8) ∧ v = gi M 78 (135 + 16 * s))) := by
  refine sOk.of (show sRn base X G d T156 0 [(0, vR 77), (1, vI s)] [] M _ from ?_)
  refine s_blx (lv' := [(0, vR 77), (1, vI s)]) (st' := [vR 77]) B156_0_1 rfl ?_
  refine r_gfix (r := 78) (pc' := 4) D156_1 rfl gf_11_13_77 H.1 ?_
  refine s_blx (lv' := [(0, vR 77), (1, vI s)]) (st' := [vI (135 + (16 * s)), vR 78]) B156_4_12 rfl ?_
  refine r_iald (pc' := 13) D156_12 rfl sc_78 H.1 (by omega) ?_
  intro w1 e2 r3
  have b_w1 := H.2 78 (135 + (16 * s)) 0 8 (rk_len (by omega))
  rw [← e2] at b_w1; clear r3
  exact r_iretI D156_13 rfl (⟨rfl, by omega, by omega⟩)
