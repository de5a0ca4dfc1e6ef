set_option maxRecDepth 4000 in
theorem k71_1_13n {base : Nat} {X : Nat → Option mC} {G : Nat → Value} (E : EnvOK base X G) {d : Nat} (hd : 0 ≤ d) {M : mH} (H : HI base M) (sentence : Int) (at_ : Int) (n : Int) (h0 : 0 ≤ sentence ∧ sentence ≤ 15) (h1 : 0 ≤ at_ ∧ at_ ≤ 120) (h2 : 0 ≤ n ∧ n ≤ 8) : sOk base X G d T71 [vR 1, vI sentence, vR 13, vI at_, vI n] M (pI (fun v M' => M' = M ∧ (v = 0 ∨ v = 1) ∧ (v = 1 → BW 13 sentence at_ n M) ∧ (v = 0 → ¬ BW 13 sentence at_ n M))) := by
  refine sOk.of (show sRn base X G d T71 0 [(0, vR 1), (1, vI sentence), (2, vR 13), (3, vI at_), (4, vI n)] [] M _ from ?_)
  refine s_blx (lv' := [(5, vI 0), (0, vR 1), (1, vI sentence), (2, vR 13), (3, vI at_), (4, vI n)]) (st' := []) B71_0_3 rfl ?_
  refine r_loc (lv' := [(0, vR 1), (1, vI sentence), (2, vR 13), (3, vI at_), (4, vI n), (5, vI 0)]) ⟨rfl, rfl, rfl, rfl, rfl, rfl, trivial⟩ rfl rfl ?_
  exact (L_k71_1_13n E hd H sentence at_ n h0 h1 h2 (((8 - 0) * 1 + 0 : Int) + 1).toNat) 0 (BW.zero) (by omega) (by omega) (by omega) (by omega)
