set_option maxRecDepth 4000 in
theorem k56_55 {base : Nat} {X : Nat → Option mC} {G : Nat → Value} (E : EnvOK base X G) {rr : Nat} (ihr : ∀ {d : Nat} (_ : 8 + 4 * rr ≤ d) {M : mH} (_ : HI base M) (place : Int) (said : Int) (done : Int) (depth : Int) (n : Int), (RW base 56 n M) → (TR 40 n M) → (1 ≤ n ∧ n ≤ 145) → (0 ≤ done ∧ done ≤ 3 ∧ 0 ≤ said ∧ said ≤ 1110) → (1 ≤ place ∧ place < n) → ((done = 0 ∧ said = 0) ∨ (done = 1 ∧ 1 ≤ said ∧ said ≤ 10) ∨ (done = 2 ∧ 11 ≤ said ∧ said ≤ 110) ∨ (done = 3 ∧ 111 ≤ said ∧ said ≤ 1110)) → (0 ≤ depth ∧ depth ≤ 41) → 41 - depth < ((rr : Nat) : Int) → sOk base X G d T52 [vR 55, vI place, vI said, vI done, vI depth] M (pL (fun v M' => HI base M' ∧ Fq [(57, 0)] M M'))) {d : Nat} (hd : 9 + 4 * rr ≤ d) {M : mH} (H : HI base M) (place : Int) (said : Int) (done : Int) (depth : Int) (n : Int) (h0 : RW base 56 n M) (h1 : TR 40 n M) (h2 : 1 ≤ n ∧ n ≤ 145) (h3 : 0 ≤ done ∧ done ≤ 3 ∧ 0 ≤ said ∧ said ≤ 1110) (h4 : 0 ≤ place ∧ place < n) (h5 : (done = 0 ∧ said = 0) ∨ (done = 1 ∧ 1 ≤ said ∧ said ≤ 10) ∨ (done = 2 ∧ 11 ≤ said ∧ said ≤ 110) ∨ (done = 3 ∧ 111 ≤ said ∧ said ≤ 1110)) (h6 : 0 ≤ depth ∧ depth ≤ 40 ∧ 40 - depth < (rr : Int)) : sOk base X G d T56 [vR 55, vI place, vI said, vI done, vI depth] M (pL (fun v M' => HI base M' ∧ Fq [(57, 0)] M M')) := by
  have f0 : Fq [(57, 0)] M M := Fq.rf
  refine sOk.of (show sRn base X G d T56 0 [(0, vR 55), (1, vI place), (2, vI said), (3, vI done), (4, vI depth)] [] M _ from ?_)
  refine s_blx (lv' := [(5, vL 0), (0, vR 55), (1, vI place), (2, vI said), (3, vI done), (4, vI depth)]) (st' := [vR 55]) B56_0_4 rfl ?_
  refine r_gfix (r := 39) (pc' := 7) D56_4 rfl gf_7_31_55 H.1 ?_
  refine r_gfix (r := 40) (pc' := 10) D56_7 rfl gf_7_121_39 H.1 ?_
  refine s_blx (lv' := [(5, vL 0), (0, vR 55), (1, vI place), (2, vI said), (3, vI done), (4, vI depth)]) (st' := [vI place, vR 40]) B56_10_11 rfl ?_
  refine r_iald (pc' := 12) D56_11 rfl sc_40 H.1 (by omega) ?_
  intro w1 e2 r3
  have b_w1 := H.2 40 (place) (-1) 144 rfl
  rw [← e2] at b_w1; clear r3
  have tq := (h1 (place) (by omega) (by omega)).1
  rw [← e2] at tq
  refine s_blx (lv' := [(8, vI 0), (7, vI w1), (5, vL 0), (0, vR 55), (1, vI place), (2, vI said), (3, vI done), (4, vI depth)]) (st' := []) B56_12_17 rfl ?_
  refine r_loc (lv' := [(0, vR 55), (2, vI said), (3, vI done), (4, vI depth), (5, vL 0), (7, vI w1), (8, vI 0)]) ⟨rfl, rfl, rfl, rfl, rfl, rfl, rfl, trivial⟩ rfl rfl ?_
  exact (L_k56_55 E ihr hd H place said done depth n h0 h1 h2 h3 h4 h5 h6 (((145 - 0) * 1 + 0 : Int) + 1).toNat) 0 w1 0 M H f0 (by omega) (by omega) (by omega) (by omega) (by omega) (by omega)
