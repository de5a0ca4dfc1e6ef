set_option maxRecDepth 4000 in
theorem k51 {base : Nat} {X : Nat → Option mC} {G : Nat → Value} (E : EnvOK base X G) {d : Nat} (hd : 0 ≤ d) {M : mH} (H : HI base M) (loss : Int) (move : Int) (h0 : 0 ≤ move ∧ move ≤ 31) : sOk base X G d T51 [vL loss, vI move] M (pL (fun v M' => M' = M ∧ True)) := by
  refine sOk.of (show sRn base X G d T51 0 [(0, vL loss), (2, vI move)] [] M _ from ?_)
  refine s_blx (lv' := [(0, vL loss), (2, vI move)]) (st' := [vI 5, vL loss]) B51_0_2 rfl ?_
  refine r_binLI (pc' := 3) D51_2 rfl rfl ?_
  intro z1 _ _
  refine s_blx (lv' := [(0, vL loss), (2, vI move)]) (st' := [vI move, vL z1]) B51_3_4 rfl ?_
  refine r_i2l (pc' := 5) D51_4 rfl (by unfold inR; omega) ?_
  refine r_binL (pc' := 6) D51_5 rfl rfl ?_
  intro z3 _ _
  exact r_lretL D51_6 rfl (⟨rfl, trivial⟩)
