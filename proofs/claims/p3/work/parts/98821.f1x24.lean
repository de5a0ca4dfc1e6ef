set_option maxRecDepth 4000 in
theorem k64_1_13n {base : Nat} {X : Nat → Option mC} {G : Nat → Value} (E : EnvOK base X G) {d : Nat} (hd : 1 ≤ d) {M : mH} (H : HI base M) (length : Int) (h0 : 0 ≤ length ∧ length ≤ 8) : sOk base X G d T64 [vR 1, vR 13, vI length] M (pI (fun v M' => M' = M ∧ (v = 0 ∨ v = 1) ∧ (v = 1 → HR length M) ∧ (v = 0 → ¬ HR length M))) := by
  refine sOk.of (show sRn base X G d T64 0 [(0, vR 1), (1, vR 13), (2, vI length)] [] M _ from ?_)
  refine s_blx (lv' := [(3, vI 0), (0, vR 1), (1, vR 13), (2, vI length)]) (st' := []) B64_0_2 rfl ?_
  refine r_loc (lv' := [(0, vR 1), (1, vR 13), (2, vI length), (3, vI 0)]) ⟨rfl, rfl, rfl, rfl, trivial⟩ rfl rfl ?_
  exact (L_k64_1_13n E hd H length h0 (((16 - 0) * 1 + 0 : Int) + 1).toNat) 0 (NR.zero) (by omega) (by omega) (by omega) (by omega)
