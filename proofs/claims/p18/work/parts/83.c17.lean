theorem dg_pos {said done at_ v : Int} (h1 : (done = 0 ∧ said = 0) ∨ (done = 1 ∧ 1 ≤ said ∧ said ≤ 10) ∨ (done = 2 ∧ 11 ≤ said ∧ said ≤ 110) ∨ (done = 3 ∧ 111 ≤ said ∧ said ≤ 1110)) (h2 : 0 ≤ at_ ∧ at_ < done) (q0 : -1 ≤ v ∧ v ≤ 9) (q1 : done = 1 → at_ = 0 → v = said - 1) (q2 : done = 2 → at_ = 0 → v = (said - 11) / 10) (q3 : done = 2 → at_ = 1 → v = (said - 11) % 10) (q4 : done = 3 → at_ = 0 → v = (said - 111) / 100) (q5 : done = 3 → at_ = 1 → v = (said - 111) / 10 % 10) (q6 : done = 3 → at_ = 2 → v = (said - 111) % 10) : 0 ≤ v ∧ v ≤ 9 := by
  rcases h1 with ⟨a, b⟩ | ⟨a, b⟩ | ⟨a, b⟩ | ⟨a, b⟩
  · exfalso; clear q1 q2 q3 q4 q5 q6; omega
  · have q := q1 a (by clear q1 q2 q3 q4 q5 q6; omega)
    clear q1 q2 q3 q4 q5 q6
    omega
  · by_cases e : at_ = 0
    · have q := q2 a e
      clear q1 q2 q3 q4 q5 q6
      omega
    · have q := q3 a (by clear q1 q2 q3 q4 q5 q6; omega)
      clear q1 q2 q3 q4 q5 q6
      omega
  · by_cases e : at_ = 0
    · have q := q4 a e
      clear q1 q2 q3 q4 q5 q6
      omega
    · by_cases e2 : at_ = 1
      · have q := q5 a e2
        clear q1 q2 q3 q4 q5 q6
        omega
      · have q := q6 a (by clear q1 q2 q3 q4 q5 q6; omega)
        clear q1 q2 q3 q4 q5 q6
        omega

set_option maxRecDepth 4000 in
theorem L_k44x {base : Nat} {X : Nat → Option mC} {G : Nat → Value} (E : EnvOK base X G) {d : Nat} (hd : 0 ≤ d) {M : mH} (H : HI base M) (said : Int) (done : Int) (at_ : Int) (h0 : 0 ≤ done ∧ done ≤ 3 ∧ 0 ≤ said ∧ said ≤ 1110) (h1 : (done = 0 ∧ said = 0) ∨ (done = 1 ∧ 1 ≤ said ∧ said ≤ 10) ∨ (done = 2 ∧ 11 ≤ said ∧ said ≤ 110) ∨ (done = 3 ∧ 111 ≤ said ∧ said ≤ 1110)) (h2 : 0 ≤ at_ ∧ at_ ≤ 2) : ∀ mz : Nat, (∀ (x3 x4 : Int), (at_ < done) → (at_ ≤ x4 ∧ x4 ≤ done - 1) → (1 ≤ x3 ∧ x3 ≤ 1110) → (done - 1 - x4 = 0 → x3 = said) → (done - 1 - x4 = 1 → x3 = (said - 1) / 10) → (done - 1 - x4 = 2 → x3 = ((said - 1) / 10 - 1) / 10) → (0 ≤ x3) → (x3 ≤ 1110) → (0 ≤ x4) → (x4 ≤ 2) → (1 ≤ done) → (done ≤ 3) → (x4 + 0) * 1 + 0 < (mz : Int) → sRn base X G d T44 14 [(2, vI at_), (3, vI x3), (4, vI x4)] [] M (s_Q base (pI (fun v M' => M' = M ∧ (-1 ≤ v ∧ v ≤ 9) ∧ (done = 1 → at_ = 0 → v = said - 1) ∧ (done = 2 → at_ = 0 → v = (said - 11) / 10) ∧ (done = 2 → at_ = 1 → v = (said - 11) % 10) ∧ (done = 3 → at_ = 0 → v = (said - 111) / 100) ∧ (done = 3 → at_ = 1 → v = (said - 111) / 10 % 10) ∧ (done = 3 → at_ = 2 → v = (said - 111) % 10))))) := by
  intro mz
  induction mz with
  | zero => exact fun x3 x4 z0 z1 z2 z3 z4 z5 z6 z7 z8 z9 z10 z11 z12 => by omega
  | succ mz ih =>
    intro x3 x4 i0 i1 i2 i3 i4 i5 i6 i7 i8 i9 i10 i11 hmu
    refine s_blx (lv' := [(2, vI at_), (3, vI x3), (4, vI x4)]) (st' := [vI at_, vI x4]) B44_14_17 rfl ?_
    refine r_icmp (tgt := 33) (pc' := 20) D44_17 rfl rfl (by unfold inR; omega) (fun (c2 : x4 ≤ at_) => ?_) (fun (c2 : ¬ (x4 ≤ at_)) => ?_)
    · refine s_blx (lv' := [(2, vI at_), (3, vI x3), (4, vI x4)]) (st' := [vI 10, vI (x3 - 1)]) B44_33_38 rfl ?_
      refine r_irem (pc' := 39) D44_38 rfl (by omega) ?_
      exact r_iretI D44_39 rfl (⟨rfl, by clear i3 i4 i5 h1; omega, fun e1 e2 => by have q := i3 (by clear i3 i4 i5 h1; omega); clear i3 i4 i5; omega, fun e1 e2 => by have q := i4 (by clear i3 i4 i5 h1; omega); clear i3 i4 i5; omega, fun e1 e2 => by have q := i3 (by clear i3 i4 i5 h1; omega); clear i3 i4 i5; omega, fun e1 e2 => by have q := i5 (by clear i3 i4 i5 h1; omega); clear i3 i4 i5; omega, fun e1 e2 => by have q := i4 (by clear i3 i4 i5 h1; omega); clear i3 i4 i5; omega, fun e1 e2 => by have q := i3 (by clear i3 i4 i5 h1; omega); clear i3 i4 i5; omega⟩)
    · refine s_blx (lv' := [(2, vI at_), (3, vI x3), (4, vI x4)]) (st' := [vI 10, vI (x3 - 1)]) B44_20_25 rfl ?_
      refine r_idiv (pc' := 26) D44_25 rfl (by omega) ?_
      refine s_blx (lv' := [(4, vI (x4 + (-1))), (3, vI ((x3 - 1) / 10)), (2, vI at_)]) (st' := []) B44_26_30 rfl ?_
      refine r_goto (tgt := 14) D44_30 rfl ?_
      refine r_loc (lv' := [(2, vI at_), (3, vI ((x3 - 1) / 10)), (4, vI (x4 + (-1)))]) ⟨rfl, rfl, rfl, trivial⟩ rfl rfl ?_
      exact ih ((x3 - 1) / 10) (x4 + (-1)) (by omega) (by omega) (by have q3 := i3; have q4 := i4; clear i3 i4 i5; by_cases e : done - 1 - x4 = 0; (have q := q3 e; clear q3 q4; omega); (have q := q4 (by clear q3 q4 h1; omega); clear q3 q4; omega)) (fun e => by exfalso; clear i3 i4 i5 h1; omega) (fun e => by rw [i3 (by clear i3 i4 i5 h1; omega)]) (fun e => by rw [i4 (by clear i3 i4 i5 h1; omega)]) (by omega) (by omega) (by omega) (by omega) (by omega) (by omega) (by omega)
set_option maxRecDepth 4000 in
theorem k44x {base : Nat} {X : Nat → Option mC} {G : Nat → Value} (E : EnvOK base X G) {d : Nat} (hd : 0 ≤ d) {M : mH} (H : HI base M) (said : Int) (done : Int) (at_ : Int) (h0 : 0 ≤ done ∧ done ≤ 3 ∧ 0 ≤ said ∧ said ≤ 1110) (h1 : (done = 0 ∧ said = 0) ∨ (done = 1 ∧ 1 ≤ said ∧ said ≤ 10) ∨ (done = 2 ∧ 11 ≤ said ∧ said ≤ 110) ∨ (done = 3 ∧ 111 ≤ said ∧ said ≤ 1110)) (h2 : 0 ≤ at_ ∧ at_ ≤ 2) : sOk base X G d T44 [vI said, vI done, vI at_] M (pI (fun v M' => M' = M ∧ (-1 ≤ v ∧ v ≤ 9) ∧ (done = 1 → at_ = 0 → v = said - 1) ∧ (done = 2 → at_ = 0 → v = (said - 11) / 10) ∧ (done = 2 → at_ = 1 → v = (said - 11) % 10) ∧ (done = 3 → at_ = 0 → v = (said - 111) / 100) ∧ (done = 3 → at_ = 1 → v = (said - 111) / 10 % 10) ∧ (done = 3 → at_ = 2 → v = (said - 111) % 10))) := by
  refine sOk.of (show sRn base X G d T44 0 [(0, vI said), (1, vI done), (2, vI at_)] [] M _ from ?_)
  refine s_blx (lv' := [(0, vI said), (1, vI done), (2, vI at_)]) (st' := [vI done, vI at_]) B44_0_2 rfl ?_
  refine r_icmp (tgt := 7) (pc' := 5) D44_2 rfl rfl (by unfold inR; omega) (fun (c1 : at_ < done) => ?_) (fun (c1 : ¬ (at_ < done)) => ?_)
  · refine s_blx (lv' := [(4, vI (done - 1)), (3, vI said), (0, vI said), (1, vI done), (2, vI at_)]) (st' := []) B44_7_14 rfl ?_
    refine r_loc (lv' := [(2, vI at_), (3, vI said), (4, vI (done - 1))]) ⟨rfl, rfl, rfl, trivial⟩ rfl rfl ?_
    exact (L_k44x E hd H said done at_ h0 h1 h2 ((((done - 1) + 0) * 1 + 0 : Int) + 1).toNat) said (done - 1) (by omega) (by omega) (by omega) (fun _ => rfl) (fun e => by exfalso; clear h1; omega) (fun e => by exfalso; clear h1; omega) (by omega) (by omega) (by omega) (by omega) (by omega) (by omega) (by omega)
  · refine s_blx (lv' := [(0, vI said), (1, vI done), (2, vI at_)]) (st' := [vI (-1)]) B44_5_6 rfl ?_
    exact r_iretI D44_6 rfl (⟨rfl, by omega, fun e1 e2 => by exfalso; clear h1; omega, fun e1 e2 => by exfalso; clear h1; omega, fun e1 e2 => by exfalso; clear h1; omega, fun e1 e2 => by exfalso; clear h1; omega, fun e1 e2 => by exfalso; clear h1; omega, fun e1 e2 => by exfalso; clear h1; omega⟩)
set_option maxRecDepth 4000 in
theorem L_k45x {base : Nat} {X : Nat → Option mC} {G : Nat → Value} (E : EnvOK base X G) {d : Nat} (hd : 1 ≤ d) {M : mH} (H : HI base M) (said : Int) (done : Int) (at_ : Int) (digit : Int) (h0 : 0 ≤ done ∧ done ≤ 3 ∧ 0 ≤ said ∧ said ≤ 1110) (h1 : (done = 0 ∧ said = 0) ∨ (done = 1 ∧ 1 ≤ said ∧ said ≤ 10) ∨ (done = 2 ∧ 11 ≤ said ∧ said ≤ 110) ∨ (done = 3 ∧ 111 ≤ said ∧ said ≤ 1110)) (h2 : 0 ≤ at_ ∧ at_ < done) (h3 : 0 ≤ digit ∧ digit ≤ 9) : ∀ mz : Nat, (∀ (x4 x5 dg : Int), (at_ ≤ x5 ∧ x5 ≤ done - 1) → (0 ≤ dg ∧ dg ≤ 9) → (done - 1 - x5 = 0 → x4 = digit - dg) → (done - 1 - x5 = 1 → x4 = 10 * (digit - dg)) → (done - 1 - x5 = 2 → x4 = 100 * (digit - dg)) → (-900 ≤ x4 ∧ x4 ≤ 900) → (done = 1 → at_ = 0 → dg = said - 1) → (done = 2 → at_ = 0 → dg = (said - 11) / 10) → (done = 2 → at_ = 1 → dg = (said - 11) % 10) → (done = 3 → at_ = 0 → dg = (said - 111) / 100) → (done = 3 → at_ = 1 → dg = (said - 111) / 10 % 10) → (done = 3 → at_ = 2 → dg = (said - 111) % 10) → ((-9000) ≤ x4) → (x4 ≤ 9000) → (0 ≤ x5) → (x5 ≤ 2) → (x5 + 0) * 1 + 0 < (mz : Int) → sRn base X G d T45 15 [(0, vI said), (2, vI at_), (4, vI x4), (5, vI x5)] [] M (s_Q base (pI (fun v M' => M' = M ∧ (-1000 ≤ v ∧ v ≤ 3000) ∧ (done = 1 → at_ = 0 → v = 1 + digit) ∧ (done = 2 → at_ = 0 → v = said + 10 * (digit - (said - 11) / 10)) ∧ (done = 2 → at_ = 1 → v = said + (digit - (said - 11) % 10)) ∧ (done = 3 → at_ = 0 → v = said + 100 * (digit - (said - 111) / 100)) ∧ (done = 3 → at_ = 1 → v = said + 10 * (digit - (said - 111) / 10 % 10)) ∧ (done = 3 → at_ = 2 → v = said + (digit - (said - 111) % 10)))))) := by
  intro mz
  induction mz with
  | zero => exact fun x4 x5 dg z0 z1 z2 z3 z4 z5 z6 z7 z8 z9 z10 z11 z12 z13 z14 z15 z16 => by omega
  | succ mz ih =>
    intro x4 x5 dg i0 i1 i2 i3 i4 i5 i6 i7 i8 i9 i10 i11 i12 i13 i14 i15 hmu
    refine s_blx (lv' := [(0, vI said), (2, vI at_), (4, vI x4), (5, vI x5)]) (st' := [vI at_, vI x5]) B45_15_18 rfl ?_
    refine r_icmp (tgt := 34) (pc' := 21) D45_18 rfl rfl (by unfold inR; omega) (fun (c11 : x5 ≤ at_) => ?_) (fun (c11 : ¬ (x5 ≤ at_)) => ?_)
    · refine s_blx (lv' := [(0, vI said), (2, vI at_), (4, vI x4), (5, vI x5)]) (st' := [vI (said + x4)]) B45_34_38 rfl ?_
      exact r_iretI D45_38 rfl (⟨rfl, by clear i2 i3 i4 i6 i7 i8 i9 i10 i11; clear h1; omega, fun e1 e2 => by have q := i2 (by clear i2 i3 i4 i6 i7 i8 i9 i10 i11; clear h1; omega); have w := i6 e1 e2; clear i2 i3 i4 i6 i7 i8 i9 i10 i11; omega, fun e1 e2 => by have q := i3 (by clear i2 i3 i4 i6 i7 i8 i9 i10 i11; clear h1; omega); have w := i7 e1 e2; clear i2 i3 i4 i6 i7 i8 i9 i10 i11; omega, fun e1 e2 => by have q := i2 (by clear i2 i3 i4 i6 i7 i8 i9 i10 i11; clear h1; omega); have w := i8 e1 e2; clear i2 i3 i4 i6 i7 i8 i9 i10 i11; omega, fun e1 e2 => by have q := i4 (by clear i2 i3 i4 i6 i7 i8 i9 i10 i11; clear h1; omega); have w := i9 e1 e2; clear i2 i3 i4 i6 i7 i8 i9 i10 i11; omega, fun e1 e2 => by have q := i3 (by clear i2 i3 i4 i6 i7 i8 i9 i10 i11; clear h1; omega); have w := i10 e1 e2; clear i2 i3 i4 i6 i7 i8 i9 i10 i11; omega, fun e1 e2 => by have q := i2 (by clear i2 i3 i4 i6 i7 i8 i9 i10 i11; clear h1; omega); have w := i11 e1 e2; clear i2 i3 i4 i6 i7 i8 i9 i10 i11; omega⟩)
    · refine s_blx (lv' := [(5, vI (x5 + (-1))), (4, vI (x4 * 10)), (0, vI said), (2, vI at_)]) (st' := []) B45_21_31 rfl ?_
      refine r_goto (tgt := 15) D45_31 rfl ?_
      refine r_loc (lv' := [(0, vI said), (2, vI at_), (4, vI (x4 * 10)), (5, vI (x5 + (-1)))]) ⟨rfl, rfl, rfl, rfl, trivial⟩ rfl rfl ?_
      exact ih (x4 * 10) (x5 + (-1)) dg (by omega) (by omega) (fun e => by exfalso; clear i2 i3 i4 i6 i7 i8 i9 i10 i11; clear h1; omega) (fun e => by have q := i2 (by clear i2 i3 i4 i6 i7 i8 i9 i10 i11; clear h1; omega); clear i2 i3 i4 i6 i7 i8 i9 i10 i11; clear h1; omega) (fun e => by have q := i3 (by clear i2 i3 i4 i6 i7 i8 i9 i10 i11; clear h1; omega); clear i2 i3 i4 i6 i7 i8 i9 i10 i11; clear h1; omega) (by have q2 := i2; have q3 := i3; clear i2 i3 i4 i6 i7 i8 i9 i10 i11; clear h1; by_cases e : done - 1 - x5 = 0; (have q := q2 e; clear q2 q3; omega); (have q := q3 (by clear q2 q3; omega); clear q2 q3; omega)) (i6) (i7) (i8) (i9) (i10) (i11) (by omega) (by omega) (by omega) (by omega) (by omega)
set_option maxRecDepth 4000 in
theorem k45x {base : Nat} {X : Nat → Option mC} {G : Nat → Value} (E : EnvOK base X G) {d : Nat} (hd : 1 ≤ d) {M : mH} (H : HI base M) (said : Int) (done : Int) (at_ : Int) (digit : Int) (h0 : 0 ≤ done ∧ done ≤ 3 ∧ 0 ≤ said ∧ said ≤ 1110) (h1 : (done = 0 ∧ said = 0) ∨ (done = 1 ∧ 1 ≤ said ∧ said ≤ 10) ∨ (done = 2 ∧ 11 ≤ said ∧ said ≤ 110) ∨ (done = 3 ∧ 111 ≤ said ∧ said ≤ 1110)) (h2 : 0 ≤ at_ ∧ at_ < done) (h3 : 0 ≤ digit ∧ digit ≤ 9) : sOk base X G d T45 [vI said, vI done, vI at_, vI digit] M (pI (fun v M' => M' = M ∧ (-1000 ≤ v ∧ v ≤ 3000) ∧ (done = 1 → at_ = 0 → v = 1 + digit) ∧ (done = 2 → at_ = 0 → v = said + 10 * (digit - (said - 11) / 10)) ∧ (done = 2 → at_ = 1 → v = said + (digit - (said - 11) % 10)) ∧ (done = 3 → at_ = 0 → v = said + 100 * (digit - (said - 111) / 100)) ∧ (done = 3 → at_ = 1 → v = said + 10 * (digit - (said - 111) / 10 % 10)) ∧ (done = 3 → at_ = 2 → v = said + (digit - (said - 111) % 10)))) := by
  refine sOk.of (show sRn base X G d T45 0 [(0, vI said), (1, vI done), (2, vI at_), (3, vI digit)] [] M _ from ?_)
  refine s_blx (lv' := [(0, vI said), (1, vI done), (2, vI at_), (3, vI digit)]) (st' := [vI at_, vI done, vI said, vI digit]) B45_0_4 rfl ?_
  refine r_sIp (args := [vI said, vI done, vI at_]) (rest := [vI digit]) (pc' := 7) D45_4 rfl ck_6_static_9 TE44 rfl (Nat.le_of_ble_eq_true rfl) ⟨Nat.le_of_ble_eq_true rfl, Nat.le_of_ble_eq_true rfl⟩ (by decide) (dp_0 hd rfl) (k44x E (dp_n hd rfl) H said done at_ (by omega) (by omega) (by omega)) ?_
  intro v1 q10
  obtain ⟨q3, q4, q5, q6, q7, q8, q9⟩ := q10
  have kd0 := q3; clear q3
  have kd1 := q4
  have kd2 := q5
  have kd3 := q6
  have kd4 := q7
  have kd5 := q8
  have kd6 := q9
  clear q4 q5 q6 q7 q8 q9
  refine s_blx (lv' := [(5, vI (done - 1)), (4, vI (digit - v1)), (0, vI said), (1, vI done), (2, vI at_), (3, vI digit)]) (st' := []) B45_7_15 rfl ?_
  refine r_loc (lv' := [(0, vI said), (2, vI at_), (4, vI (digit - v1)), (5, vI (done - 1))]) ⟨rfl, rfl, rfl, rfl, trivial⟩ rfl rfl ?_
  exact (L_k45x E hd H said done at_ digit h0 h1 h2 h3 ((((done - 1) + 0) * 1 + 0 : Int) + 1).toNat) (digit - v1) (done - 1) v1 (by omega) (dg_pos h1 h2 kd0 kd1 kd2 kd3 kd4 kd5 kd6) (fun _ => rfl) (fun e => by exfalso; clear h1 kd1 kd2 kd3 kd4 kd5 kd6; omega) (fun e => by exfalso; clear h1 kd1 kd2 kd3 kd4 kd5 kd6; omega) (by have q := dg_pos h1 h2 kd0 kd1 kd2 kd3 kd4 kd5 kd6; clear h1 kd1 kd2 kd3 kd4 kd5 kd6; omega) (kd1) (kd2) (kd3) (kd4) (kd5) (kd6) (by omega) (by omega) (by omega) (by omega) (by omega)
