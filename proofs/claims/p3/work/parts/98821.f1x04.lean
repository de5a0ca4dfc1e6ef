set_option maxRecDepth 4000 in
theorem k145_8n {base : Nat} {X : Nat → Option mC} {G : Nat → Value} (E : EnvOK base X G) {d : Nat} (hd : 0 ≤ d) {M : mH} (H : HI base M) (at_ : Int) (value : Int) (h0 : 0 ≤ at_ ∧ at_ ≤ 63) (h1 : 0 ≤ value ∧ value ≤ 100) : sOk base X G d T145 [vR 8, vI at_, vI value] M (pI (fun v M' => HI base M' ∧ Fr [(8, 0)] M M' ∧ (-2147483648 ≤ v ∧ v ≤ 2147483647) ∧ (v = gi M 8 at_) ∧ (Wr M 8 at_.toNat (.int (Int32.ofInt value)) M'))) := by
  have f0 : Fr [(8, 0)] M M := Fr.rf
  refine sOk.of (show sRn base X G d T145 0 [(0, vR 8), (1, vI at_), (2, vI value)] [] M _ from ?_)
  refine s_blx (lv' := [(0, vR 8), (1, vI at_), (2, vI value)]) (st' := [vI at_, vR 8]) B145_0_2 rfl ?_
  refine r_iald (pc' := 3) D145_2 rfl sc_8 H.1 (by omega) ?_
  intro w1 e2 r3
  have b_w1 := H.2 8 (at_) 0 100 rfl
  rw [← e2] at b_w1; clear r3
  refine s_blx (lv' := [(3, vI w1), (0, vR 8), (1, vI at_), (2, vI value)]) (st' := [vI value, vI at_, vR 8]) B145_3_7 rfl ?_
  refine r_iast (pc' := 8) D145_7 rfl sc_8 H (by omega) (by unfold inR; omega) (show 0 ≤ value ∧ value ≤ 100 by omega) ?_
  intro M4 u5 H6 p7
  have f8 := f0.wr u5 rfl
  have ku := u5
  refine s_blx (lv' := [(3, vI w1), (0, vR 8), (1, vI at_), (2, vI value)]) (st' := [vI w1]) B145_8_9 rfl ?_
  exact r_iretI D145_9 rfl (⟨H6, f8, by omega, by omega, ku⟩)
