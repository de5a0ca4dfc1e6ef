set_option maxRecDepth 4000 in
theorem k52_36r {base : Nat} {X : Nat → Option mC} {G : Nat → Value} (E : EnvOK base X G) : ∀ rr : Nat, ∀ {d : Nat} (_ : 8 + 4 * rr ≤ d) {M : mH} (_ : HI base M) (place : Int) (said : Int) (done : Int) (depth : Int) (n : Int), (RW base 37 n M) → (TR 21 n M) → (1 ≤ n ∧ n ≤ 145) → (0 ≤ done ∧ done ≤ 3 ∧ 0 ≤ said ∧ said ≤ 1110) → (1 ≤ place ∧ place < n) → ((done = 0 ∧ said = 0) ∨ (done = 1 ∧ 1 ≤ said ∧ said ≤ 10) ∨ (done = 2 ∧ 11 ≤ said ∧ said ≤ 110) ∨ (done = 3 ∧ 111 ≤ said ∧ said ≤ 1110)) → (0 ≤ depth ∧ depth ≤ 41) → 41 - depth < ((rr : Nat) : Int) → sOk base X G d T52 [vR 36, vI place, vI said, vI done, vI depth] M (pL (fun v M' => HI base M' ∧ Fq [(38, 0)] M M')) := by
  intro rr
  induction rr with
  | zero => intro d hd M H place said done depth n h0 h1 h2 h3 h4 h5 h6 hrr; exfalso; omega
  | succ rr ihr =>
  intro d hd M H place said done depth n h0 h1 h2 h3 h4 h5 h6 hrr
  have f0 : Fq [(38, 0)] M M := Fq.rf
  refine sOk.of (show sRn base X G d T52 0 [(0, vR 36), (1, vI place), (2, vI said), (3, vI done), (4, vI depth)] [] M _ from ?_)
  refine s_blx (lv' := [(0, vR 36), (1, vI place), (2, vI said), (3, vI done), (4, vI depth)]) (st' := [vI 40, vI depth]) B52_0_4 rfl ?_
  refine r_icmp (tgt := 9) (pc' := 7) D52_4 rfl rfl (by unfold inR; omega) (fun (c1 : depth ≤ 40) => ?_) (fun (c1 : ¬ (depth ≤ 40)) => ?_)
  · refine s_blx (lv' := [(0, vR 36), (1, vI place), (2, vI said), (3, vI done), (4, vI depth)]) (st' := [vR 36]) B52_9_10 rfl ?_
    refine r_gfix (r := 20) (pc' := 13) D52_10 rfl gf_7_31_36 H.1 ?_
    refine r_gfix (r := 25) (pc' := 16) D52_13 rfl gf_7_84_20 H.1 ?_
    refine s_blx (lv' := [(0, vR 36), (1, vI place), (2, vI said), (3, vI done), (4, vI depth)]) (st' := [vI place, vR 25]) B52_16_17 rfl ?_
    refine r_bald (pc' := 18) D52_17 rfl sc_25 (by decide) H.1 (by omega) ?_
    intro w2 e3 r4
    have b_w2 := H.2 25 (place) 0 1 rfl
    rw [← e3] at b_w2; clear r4
    refine r_ifc (tgt := 27) (pc' := 21) D52_18 rfl rfl (by unfold inR; omega) (fun (c5 : w2 = 0) => ?_) (fun (c5 : ¬ (w2 = 0)) => ?_)
    · refine s_blx (lv' := [(0, vR 36), (1, vI place), (2, vI said), (3, vI done), (4, vI depth)]) (st' := [vI depth, vI done, vI said, vI place, vR 36]) B52_27_33 rfl ?_
      refine r_vL (c := 36) (args := [vI place, vI said, vI done, vI depth]) (rest := []) (pc' := 36) D52_33 rfl ck_7_virtual_90 TE55 rfl (Nat.le_of_ble_eq_true rfl) ⟨Nat.le_of_ble_eq_true rfl, Nat.le_of_ble_eq_true rfl⟩ sc_36 ⟨rfl, by decide⟩ H.1 (by omega) (k55_36 E ihr (by omega) H place said done depth n (h0) (h1) (by omega) (by omega) (by omega) (by omega) (by omega)) ?_
      intro v6 M7 q10
      obtain ⟨H8, f9⟩ := q10
      have f11 := f0.tr (f9.up rfl)
      refine s_blx (lv' := [(0, vR 36), (1, vI place), (2, vI said), (3, vI done), (4, vI depth)]) (st' := [vI 0, vL v6]) B52_36_37 rfl ?_
      refine r_sLp (args := [vL v6, vI 0]) (rest := []) (pc' := 40) D52_37 rfl ck_7_static_93 TE51 rfl (Nat.le_of_ble_eq_true rfl) ⟨Nat.le_of_ble_eq_true rfl, Nat.le_of_ble_eq_true rfl⟩ (by decide) (by omega) (k51 E (by omega) H8 v6 0 (by omega)) ?_
      intro v12 q14
      refine s_blx (lv' := [(5, vL v12), (0, vR 36), (1, vI place), (2, vI said), (3, vI done), (4, vI depth)]) (st' := [vI 3, vI done]) B52_40_44 rfl ?_
      refine r_icmp (tgt := 63) (pc' := 47) D52_44 rfl rfl (by unfold inR; omega) (fun (c15 : 3 ≤ done) => ?_) (fun (c15 : ¬ (3 ≤ done)) => ?_)
      · refine s_blx (lv' := [(10, vI (done - 1)), (9, vI 1), (8, vI said), (7, vI 0), (5, vL v12), (0, vR 36), (1, vI place), (2, vI said), (3, vI done), (4, vI depth)]) (st' := []) B52_63_77 rfl ?_
        refine r_loc (lv' := [(0, vR 36), (1, vI place), (2, vI said), (3, vI done), (4, vI depth), (5, vL v12), (7, vI 0), (8, vI said), (9, vI 1), (10, vI (done - 1))]) ⟨rfl, rfl, rfl, rfl, rfl, rfl, rfl, rfl, rfl, rfl, trivial⟩ rfl rfl ?_
        exact (L_k52_36 E ihr hd H place said done depth n h0 h1 h2 h3 h4 h5 h6 hrr ((((done - 1) + 1) * 1 + 0 : Int) + 1).toNat) v12 0 said 1 (done - 1) M7 H8 f11 (by omega) (by omega) (by omega) (by omega) (by omega) (by omega) (by omega) (by omega) (by omega) (by omega) (by omega) (by omega) (by omega) (by omega) (by omega)
      · refine s_blx (lv' := [(5, vL v12), (0, vR 36), (1, vI place), (2, vI said), (3, vI done), (4, vI depth)]) (st' := [vI depth, vI done, vI said, vI place, vR 36, vL v12]) B52_47_55 rfl ?_
        refine r_vL (c := 36) (args := [vI place, vI said, vI done, vI depth]) (rest := [vL v12]) (pc' := 58) D52_55 rfl ck_7_virtual_97 TE53 rfl (Nat.le_of_ble_eq_true rfl) ⟨Nat.le_of_ble_eq_true rfl, Nat.le_of_ble_eq_true rfl⟩ sc_36 ⟨rfl, by decide⟩ H8.1 (by omega) (k53_36 E ihr (by omega) H8 place said done depth n ((h0.fq f11 rfl)) ((h1.fq f11 rfl)) (by omega) (by omega) (by omega) (by omega) (by omega) (by omega)) ?_
        intro v16 M17 q20
        obtain ⟨H18, f19⟩ := q20
        have f21 := f11.tr (f19.up rfl)
        refine r_minX (pc' := 61) D52_58 rfl mc_7_static_100 sp_7_100 (Nat.le_of_ble_eq_true rfl) ?_
        intro z22
        refine s_blx (lv' := [(10, vI (done - 1)), (9, vI 1), (8, vI said), (7, vI 0), (5, vL z22), (0, vR 36), (1, vI place), (2, vI said), (3, vI done), (4, vI depth)]) (st' := []) B52_61_77 rfl ?_
        refine r_loc (lv' := [(0, vR 36), (1, vI place), (2, vI said), (3, vI done), (4, vI depth), (5, vL z22), (7, vI 0), (8, vI said), (9, vI 1), (10, vI (done - 1))]) ⟨rfl, rfl, rfl, rfl, rfl, rfl, rfl, rfl, rfl, rfl, trivial⟩ rfl rfl ?_
        exact (L_k52_36 E ihr hd H place said done depth n h0 h1 h2 h3 h4 h5 h6 hrr ((((done - 1) + 1) * 1 + 0 : Int) + 1).toNat) z22 0 said 1 (done - 1) M17 H18 f21 (by omega) (by omega) (by omega) (by omega) (by omega) (by omega) (by omega) (by omega) (by omega) (by omega) (by omega) (by omega) (by omega) (by omega) (by omega)
    · refine r_ldc2 (e := 4611686018427387904) (pc' := 24) D52_21 rfl cl_7_88 (by decide) ?_
      refine r_goto (tgt := 40) D52_24 rfl ?_
      refine s_blx (lv' := [(5, vL 4611686018427387904), (0, vR 36), (1, vI place), (2, vI said), (3, vI done), (4, vI depth)]) (st' := [vI 3, vI done]) B52_40_44 rfl ?_
      refine r_icmp (tgt := 63) (pc' := 47) D52_44 rfl rfl (by unfold inR; omega) (fun (c23 : 3 ≤ done) => ?_) (fun (c23 : ¬ (3 ≤ done)) => ?_)
      · refine s_blx (lv' := [(10, vI (done - 1)), (9, vI 1), (8, vI said), (7, vI 0), (5, vL 4611686018427387904), (0, vR 36), (1, vI place), (2, vI said), (3, vI done), (4, vI depth)]) (st' := []) B52_63_77 rfl ?_
        refine r_loc (lv' := [(0, vR 36), (1, vI place), (2, vI said), (3, vI done), (4, vI depth), (5, vL 4611686018427387904), (7, vI 0), (8, vI said), (9, vI 1), (10, vI (done - 1))]) ⟨rfl, rfl, rfl, rfl, rfl, rfl, rfl, rfl, rfl, rfl, trivial⟩ rfl rfl ?_
        exact (L_k52_36 E ihr hd H place said done depth n h0 h1 h2 h3 h4 h5 h6 hrr ((((done - 1) + 1) * 1 + 0 : Int) + 1).toNat) 4611686018427387904 0 said 1 (done - 1) M H f0 (by omega) (by omega) (by omega) (by omega) (by omega) (by omega) (by omega) (by omega) (by omega) (by omega) (by omega) (by omega) (by omega) (by omega) (by omega)
      · refine s_blx (lv' := [(5, vL 4611686018427387904), (0, vR 36), (1, vI place), (2, vI said), (3, vI done), (4, vI depth)]) (st' := [vI depth, vI done, vI said, vI place, vR 36, vL 4611686018427387904]) B52_47_55 rfl ?_
        refine r_vL (c := 36) (args := [vI place, vI said, vI done, vI depth]) (rest := [vL 4611686018427387904]) (pc' := 58) D52_55 rfl ck_7_virtual_97 TE53 rfl (Nat.le_of_ble_eq_true rfl) ⟨Nat.le_of_ble_eq_true rfl, Nat.le_of_ble_eq_true rfl⟩ sc_36 ⟨rfl, by decide⟩ H.1 (by omega) (k53_36 E ihr (by omega) H place said done depth n (h0) (h1) (by omega) (by omega) (by omega) (by omega) (by omega) (by omega)) ?_
        intro v24 M25 q28
        obtain ⟨H26, f27⟩ := q28
        have f29 := f0.tr (f27.up rfl)
        refine r_minX (pc' := 61) D52_58 rfl mc_7_static_100 sp_7_100 (Nat.le_of_ble_eq_true rfl) ?_
        intro z30
        refine s_blx (lv' := [(10, vI (done - 1)), (9, vI 1), (8, vI said), (7, vI 0), (5, vL z30), (0, vR 36), (1, vI place), (2, vI said), (3, vI done), (4, vI depth)]) (st' := []) B52_61_77 rfl ?_
        refine r_loc (lv' := [(0, vR 36), (1, vI place), (2, vI said), (3, vI done), (4, vI depth), (5, vL z30), (7, vI 0), (8, vI said), (9, vI 1), (10, vI (done - 1))]) ⟨rfl, rfl, rfl, rfl, rfl, rfl, rfl, rfl, rfl, rfl, trivial⟩ rfl rfl ?_
        exact (L_k52_36 E ihr hd H place said done depth n h0 h1 h2 h3 h4 h5 h6 hrr ((((done - 1) + 1) * 1 + 0 : Int) + 1).toNat) z30 0 said 1 (done - 1) M25 H26 f29 (by omega) (by omega) (by omega) (by omega) (by omega) (by omega) (by omega) (by omega) (by omega) (by omega) (by omega) (by omega) (by omega) (by omega) (by omega)
  · refine s_blx (lv' := [(0, vR 36), (1, vI place), (2, vI said), (3, vI done), (4, vI depth)]) (st' := [vL 0]) B52_7_8 rfl ?_
    exact r_lretL D52_8 rfl (⟨H, f0⟩)
