set_option maxRecDepth 4000 in
theorem L_k44x {base : Nat} {X : Nat → Option mC} {G : Nat → Value} (E : EnvOK base X G) {d : Nat} (hd : 0 ≤ d) {M : mH} (H : HI base M) (said : Int) (done : Int) (at_ : Int) (h0 : 0 ≤ done ∧ done ≤ 3 ∧ 0 ≤ said ∧ said ≤ 1110) (h1 : (done = 0 ∧ said = 0) ∨ (done = 1 ∧ 1 ≤ said ∧ said ≤ 10) ∨ (done = 2 ∧ 11 ≤ said ∧ said ≤ 110) ∨ (done = 3 ∧ 111 ≤ said ∧ said ≤ 1110)) (h2 : 0 ≤ at_ ∧ at_ ≤ 2) : ∀ mz : Nat, (∀ (x3 x4 : Int), (at_ < done) → (at_ ≤ x4 ∧ x4 ≤ done - 1) → (1 ≤ x3 ∧ x3 ≤ 1110) → (done - 1 - x4 = 0 → x3 = said) → (done - 1 - x4 = 1 → x3 = (said - 1) / 10) → (done - 1 - x4 = 2 → x3 = ((said - 1) / 10 - 1) / 10) → (0 ≤ x3) → (x3 ≤ 1110) → (0 ≤ x4) → (x4 ≤ 2) → (1 ≤ done) → (done ≤ 3) → (x4 + 0) * 1 + 0 < (mz : Int) → sRn base X G d T44 14 [(2, vI at_), (3, vI x3), (4, vI x4)] [] M (s_Q base (pI (fun v M' => M' = M ∧ (-1 ≤ v ∧ v ≤ 9) ∧ (done = 1 → at_ = 0 → v = said - 1) ∧ (done = 2 → at_ = 0 → v = (said - 11) / 10) ∧ (done = 2 → at_ = 1 → v = (said - 11) % 10) ∧ (done = 3 → at_ = 0 → v = (said - 111) / 100) ∧ (done = 3 → at_ = 1 → v = (said - 111) / 10 % 10) ∧ (done = 3 → at_ = 2 → v = (said - 111) % 10))))) := by
  intro mz
  induction mz with
  | zero => exact fun x3 x4 z0 z1 z2 z3 z4 z5 z6 z7 z8 z9 z10 z11 z12 => by omega
  | succ mz ih =>
    intro x3 x4 i0 i1 i2 i3 i4 i5 i6 i7 i8 i9 i10 i11 hmu
    refine s_blx (lv' := [(2, vI at_), (3, vI x3), (4, vI x4)]) (st' := [vI at_, vI x4]) B44_14_17 rfl ?_
    refine r_icmp (tgt := 33) (pc' := 20) D44_17 rfl rfl (by unfold inR; omega) (fun (c2 : x4 ≤ at_) => ?_) (fun (c2 : ¬ (x4 ≤ at_)) => ?_)
    · refine s_blx (lv' := [(2, vI at_), (3, vI x3), (4, vI x4)]) (st' := [vI 10, vI (x3 - 1)]) B44_33_38 rfl ?_
      refine r_irem (pc' := 39) D44_38 rfl (by omega) ?_
      exact r_iretI D44_39 rfl (⟨rfl, by clear i3 i4 i5 h1; omega, fun e1 e2 => by have q := i3 (by clear i3 i4 i5 h1; omega); clear i3 i4 i5; omega, fun e1 e2 => by have q := i4 (by clear i3 i4 i5 h1; omega); clear i3 i4 i5; omega, fun e1 e2 => by have q := i3 (by clear i3 i4 i5 h1; omega); clear i3 i4 i5; omega, fun e1 e2 => by have q := i5 (by clear i3 i4 i5 h1; omega); clear i3 i4 i5; omega, fun e1 e2 => by have q := i4 (by clear i3 i4 i5 h1; omega); clear i3 i4 i5; omega, fun e1 e2 => by have q := i3 (by clear i3 i4 i5 h1; omega); clear i3 i4 i5; omega⟩)
    · refine s_blx (lv' := [(2, vI at_), (3, vI x3), (4, vI x4)]) (st' := [vI 10, vI (x3 - 1)]) B44_20_25 rfl ?_
      refine r_idiv (pc' := 26) D44_25 rfl (by omega) ?_
      refine s_blx (lv' := [(4, vI (x4 + (-1))), (3, vI ((x3 - 1) / 10)), (2, vI at_)]) (st' := []) B44_26_30 rfl ?_
      refine r_goto (tgt := 14) D44_30 rfl ?_
      refine r_loc (lv' := [(2, vI at_), (3, vI ((x3 - 1) / 10)), (4, vI (x4 + (-1)))]) ⟨rfl, rfl, rfl, trivial⟩ rfl rfl ?_
      exact ih ((x3 - 1) / 10) (x4 + (-1)) (by omega) (by omega) (by have q3 := i3; have q4 := i4; clear i3 i4 i5; by_cases e : done - 1 - x4 = 0; (have q := q3 e; clear q3 q4; omega); (have q := q4 (by clear q3 q4 h1; omega); clear q3 q4; omega)) (fun e => by exfalso; clear i3 i4 i5 h1; omega) (fun e => by rw [i3 (by clear i3 i4 i5 h1; omega)]) (fun e => by rw [i4 (by clear i3 i4 i5 h1; omega)]) (by omega) (by omega) (by omega) (by omega) (by omega) (by omega) (by omega)
