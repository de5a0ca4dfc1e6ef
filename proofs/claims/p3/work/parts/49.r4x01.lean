set_option maxRecDepth 4000 in
theorem k157x {base : Nat} {X : Nat → Option mC} {G : Nat → Value} (E : EnvOK base X G) {d : Nat} (hd : 0 ≤ d) {M : mH} (H : HI base M) (s : Int) (i : Int) (h0 : 0 ≤ s ∧ s ≤ 15) (h1 : 0 ≤ i ∧ i ≤ 7) : sOk base X G d T157 [vR 77, vI s, vI i] M (pI (fun v M' => M' = M ∧ (0 ≤ v ∧ v ≤ 29) ∧ v = gi M 78 (135 + 16 * s + 1 + i))) := by
  refine sOk.of (show sRn base X G d T157 0 [(0, vR 77), (1, vI s), (2, vI i)] [] M _ from ?_)
  refine s_blx (lv' := [(0, vR 77), (1, vI s), (2, vI i)]) (st' := [vR 77]) B157_0_1 rfl ?_
  refine r_gfix (r := 78) (pc' := 4) D157_1 rfl gf_11_13_77 H.1 ?_
  refine s_blx (lv' := [(0, vR 77), (1, vI s), (2, vI i)]) (st' := [vI (((135 + (16 * s)) + 1) + i), vR 78]) B157_4_16 rfl ?_
  refine r_iald (pc' := 17) D157_16 rfl sc_78 H.1 (by omega) ?_
  intro w1 e2 r3
  have b_w1 := H.2 78 (((135 + (16 * s)) + 1) + i) 0 29 (rk_word (by omega))
  rw [← e2] at b_w1; clear r3
  exact r_iretI D157_17 rfl (⟨rfl, by omega, by omega⟩)
