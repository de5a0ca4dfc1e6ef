set_option maxRecDepth 4000 in
theorem k52_55l {base : Nat} {X : Nat → Option mC} {G : Nat → Value} (E : EnvOK base X G) {d : Nat} (hd : 176 ≤ d) {M : mH} (H : HI base M) (place : Int) (said : Int) (done : Int) (depth : Int) (n : Int) (h0 : RW base 56 n M) (h1 : TR 40 n M) (h2 : 1 ≤ n ∧ n ≤ 145) (h3 : 0 ≤ done ∧ done ≤ 3 ∧ 0 ≤ said ∧ said ≤ 1110) (h4 : 1 ≤ place ∧ place < n) (h5 : (done = 0 ∧ said = 0) ∨ (done = 1 ∧ 1 ≤ said ∧ said ≤ 10) ∨ (done = 2 ∧ 11 ≤ said ∧ said ≤ 110) ∨ (done = 3 ∧ 111 ≤ said ∧ said ≤ 1110)) (h6 : depth = 0) : sOk base X G d T52 [vR 55, vI place, vI said, vI done, vI depth] M (pL (fun v M' => HI base M' ∧ Fq [(57, 0)] M M' ∧ ((v % 32 = 0 ∨ v % 32 = 4 ∨ (20 ≤ v % 32 ∧ v % 32 ≤ 22)) ∨ (done ≤ 2 ∧ 1 ≤ v % 32 ∧ v % 32 ≤ 17)))) := by
  have f0 : Fq [(57, 0)] M M := Fq.rf
  refine sOk.of (show sRn base X G d T52 0 [(0, vR 55), (1, vI place), (2, vI said), (3, vI done), (4, vI depth)] [] M _ from ?_)
  refine s_blx (lv' := [(0, vR 55), (1, vI place), (2, vI said), (3, vI done), (4, vI depth)]) (st' := [vI 40, vI depth]) B52_0_4 rfl ?_
  refine r_icmp (tgt := 9) (pc' := 7) D52_4 rfl rfl (by unfold inR; omega) (fun (c1 : depth ≤ 40) => ?_) (fun (c1 : ¬ (depth ≤ 40)) => ?_)
  · refine s_blx (lv' := [(0, vR 55), (1, vI place), (2, vI said), (3, vI done), (4, vI depth)]) (st' := [vR 55]) B52_9_10 rfl ?_
    refine r_gfix (r := 39) (pc' := 13) D52_10 rfl gf_7_31_55 H.1 ?_
    refine r_gfix (r := 44) (pc' := 16) D52_13 rfl gf_7_84_39 H.1 ?_
    refine s_blx (lv' := [(0, vR 55), (1, vI place), (2, vI said), (3, vI done), (4, vI depth)]) (st' := [vI place, vR 44]) B52_16_17 rfl ?_
    refine r_bald (pc' := 18) D52_17 rfl sc_44 (by decide) H.1 (by omega) ?_
    intro w2 e3 r4
    have b_w2 := H.2 44 (place) 0 1 rfl
    rw [← e3] at b_w2; clear r4
    refine r_ifc (tgt := 27) (pc' := 21) D52_18 rfl rfl (by unfold inR; omega) (fun (c5 : w2 = 0) => ?_) (fun (c5 : ¬ (w2 = 0)) => ?_)
    · refine s_blx (lv' := [(0, vR 55), (1, vI place), (2, vI said), (3, vI done), (4, vI depth)]) (st' := [vI depth, vI done, vI said, vI place, vR 55]) B52_27_33 rfl ?_
      refine r_vL (c := 55) (args := [vI place, vI said, vI done, vI depth]) (rest := []) (pc' := 36) D52_33 rfl ck_7_virtual_90 TE55 rfl (Nat.le_of_ble_eq_true rfl) ⟨Nat.le_of_ble_eq_true rfl, Nat.le_of_ble_eq_true rfl⟩ sc_55 ⟨rfl, by decide⟩ H.1 (by omega) (k55_55 E (rr := 41) (k52_55r E 41) (by omega) H place said done depth n (h0) (h1) (by omega) (by omega) (by omega) (by omega) (by omega)) ?_
      intro v6 M7 q10
      obtain ⟨H8, f9⟩ := q10
      have f11 := f0.tr (f9.up rfl)
      refine s_blx (lv' := [(0, vR 55), (1, vI place), (2, vI said), (3, vI done), (4, vI depth)]) (st' := [vI 0, vL v6]) B52_36_37 rfl ?_
      refine r_sLp (args := [vL v6, vI 0]) (rest := []) (pc' := 40) D52_37 rfl ck_7_static_93 TE51 rfl (Nat.le_of_ble_eq_true rfl) ⟨Nat.le_of_ble_eq_true rfl, Nat.le_of_ble_eq_true rfl⟩ (by decide) (dp_0 hd rfl) (k51l E (dp_n hd rfl) H8 v6 0 (by omega)) ?_
      intro v12 q15
      have q14 := q15
      refine s_blx (lv' := [(5, vL v12), (0, vR 55), (1, vI place), (2, vI said), (3, vI done), (4, vI depth)]) (st' := [vI 3, vI done]) B52_40_44 rfl ?_
      refine r_icmp (tgt := 63) (pc' := 47) D52_44 rfl rfl (by unfold inR; omega) (fun (c16 : 3 ≤ done) => ?_) (fun (c16 : ¬ (3 ≤ done)) => ?_)
      · refine s_blx (lv' := [(10, vI (done - 1)), (9, vI 1), (8, vI said), (7, vI 0), (5, vL v12), (0, vR 55), (1, vI place), (2, vI said), (3, vI done), (4, vI depth)]) (st' := []) B52_63_77 rfl ?_
        refine r_loc (lv' := [(0, vR 55), (1, vI place), (2, vI said), (3, vI done), (4, vI depth), (5, vL v12), (7, vI 0), (8, vI said), (9, vI 1), (10, vI (done - 1))]) ⟨rfl, rfl, rfl, rfl, rfl, rfl, rfl, rfl, rfl, rfl, trivial⟩ rfl rfl ?_
        exact (L_k52_55l E hd H place said done depth n h0 h1 h2 h3 h4 h5 h6 ((((done - 1) + 1) * 1 + 0 : Int) + 1).toNat) v12 0 said 1 (done - 1) M7 H8 f11 (by omega) (by omega) (by omega) (by omega) (by omega) (by omega) (by omega) (by omega) (by omega) (by omega) (by omega) (by omega) (by omega) (by omega)
      · refine s_blx (lv' := [(5, vL v12), (0, vR 55), (1, vI place), (2, vI said), (3, vI done), (4, vI depth)]) (st' := [vI depth, vI done, vI said, vI place, vR 55, vL v12]) B52_47_55 rfl ?_
        refine r_vL (c := 55) (args := [vI place, vI said, vI done, vI depth]) (rest := [vL v12]) (pc' := 58) D52_55 rfl ck_7_virtual_97 TE53 rfl (Nat.le_of_ble_eq_true rfl) ⟨Nat.le_of_ble_eq_true rfl, Nat.le_of_ble_eq_true rfl⟩ sc_55 ⟨rfl, by decide⟩ H8.1 (dp_0 hd rfl) (k53_55l E (dp_n hd rfl) H8 place said done depth n ((h0.fq f11 rfl)) ((h1.fq f11 rfl)) (by omega) (by omega) (by omega) (by omega) (by omega) (by omega)) ?_
        intro v17 M18 q22
        obtain ⟨H19, f20, q21⟩ := q22
        have f23 := f11.tr (f20.up rfl)
        refine r_minE (pc' := 61) D52_58 rfl mc_7_static_100 sp_7_100 (Nat.le_of_ble_eq_true rfl) ?_
        intro z24 hm25
        refine s_blx (lv' := [(10, vI (done - 1)), (9, vI 1), (8, vI said), (7, vI 0), (5, vL z24), (0, vR 55), (1, vI place), (2, vI said), (3, vI done), (4, vI depth)]) (st' := []) B52_61_77 rfl ?_
        refine r_loc (lv' := [(0, vR 55), (1, vI place), (2, vI said), (3, vI done), (4, vI depth), (5, vL z24), (7, vI 0), (8, vI said), (9, vI 1), (10, vI (done - 1))]) ⟨rfl, rfl, rfl, rfl, rfl, rfl, rfl, rfl, rfl, rfl, trivial⟩ rfl rfl ?_
        exact (L_k52_55l E hd H place said done depth n h0 h1 h2 h3 h4 h5 h6 ((((done - 1) + 1) * 1 + 0 : Int) + 1).toNat) z24 0 said 1 (done - 1) M18 H19 f23 (by omega) (by omega) (by omega) (by omega) (by omega) (by omega) (by omega) (by omega) (by omega) (by omega) (by omega) (by omega) (by omega) (by omega)
    · refine r_ldc2 (e := 4611686018427387904) (pc' := 24) D52_21 rfl cl_7_88 (by decide) ?_
      refine r_goto (tgt := 40) D52_24 rfl ?_
      refine s_blx (lv' := [(5, vL 4611686018427387904), (0, vR 55), (1, vI place), (2, vI said), (3, vI done), (4, vI depth)]) (st' := [vI 3, vI done]) B52_40_44 rfl ?_
      refine r_icmp (tgt := 63) (pc' := 47) D52_44 rfl rfl (by unfold inR; omega) (fun (c26 : 3 ≤ done) => ?_) (fun (c26 : ¬ (3 ≤ done)) => ?_)
      · refine s_blx (lv' := [(10, vI (done - 1)), (9, vI 1), (8, vI said), (7, vI 0), (5, vL 4611686018427387904), (0, vR 55), (1, vI place), (2, vI said), (3, vI done), (4, vI depth)]) (st' := []) B52_63_77 rfl ?_
        refine r_loc (lv' := [(0, vR 55), (1, vI place), (2, vI said), (3, vI done), (4, vI depth), (5, vL 4611686018427387904), (7, vI 0), (8, vI said), (9, vI 1), (10, vI (done - 1))]) ⟨rfl, rfl, rfl, rfl, rfl, rfl, rfl, rfl, rfl, rfl, trivial⟩ rfl rfl ?_
        exact (L_k52_55l E hd H place said done depth n h0 h1 h2 h3 h4 h5 h6 ((((done - 1) + 1) * 1 + 0 : Int) + 1).toNat) 4611686018427387904 0 said 1 (done - 1) M H f0 (by omega) (by omega) (by omega) (by omega) (by omega) (by omega) (by omega) (by omega) (by omega) (by omega) (by omega) (by omega) (by omega) (by omega)
      · refine s_blx (lv' := [(5, vL 4611686018427387904), (0, vR 55), (1, vI place), (2, vI said), (3, vI done), (4, vI depth)]) (st' := [vI depth, vI done, vI said, vI place, vR 55, vL 4611686018427387904]) B52_47_55 rfl ?_
        refine r_vL (c := 55) (args := [vI place, vI said, vI done, vI depth]) (rest := [vL 4611686018427387904]) (pc' := 58) D52_55 rfl ck_7_virtual_97 TE53 rfl (Nat.le_of_ble_eq_true rfl) ⟨Nat.le_of_ble_eq_true rfl, Nat.le_of_ble_eq_true rfl⟩ sc_55 ⟨rfl, by decide⟩ H.1 (dp_0 hd rfl) (k53_55l E (dp_n hd rfl) H place said done depth n (h0) (h1) (by omega) (by omega) (by omega) (by omega) (by omega) (by omega)) ?_
        intro v27 M28 q32
        obtain ⟨H29, f30, q31⟩ := q32
        have f33 := f0.tr (f30.up rfl)
        refine r_minE (pc' := 61) D52_58 rfl mc_7_static_100 sp_7_100 (Nat.le_of_ble_eq_true rfl) ?_
        intro z34 hm35
        refine s_blx (lv' := [(10, vI (done - 1)), (9, vI 1), (8, vI said), (7, vI 0), (5, vL z34), (0, vR 55), (1, vI place), (2, vI said), (3, vI done), (4, vI depth)]) (st' := []) B52_61_77 rfl ?_
        refine r_loc (lv' := [(0, vR 55), (1, vI place), (2, vI said), (3, vI done), (4, vI depth), (5, vL z34), (7, vI 0), (8, vI said), (9, vI 1), (10, vI (done - 1))]) ⟨rfl, rfl, rfl, rfl, rfl, rfl, rfl, rfl, rfl, rfl, trivial⟩ rfl rfl ?_
        exact (L_k52_55l E hd H place said done depth n h0 h1 h2 h3 h4 h5 h6 ((((done - 1) + 1) * 1 + 0 : Int) + 1).toNat) z34 0 said 1 (done - 1) M28 H29 f33 (by omega) (by omega) (by omega) (by omega) (by omega) (by omega) (by omega) (by omega) (by omega) (by omega) (by omega) (by omega) (by omega) (by omega)
  · exfalso; omega
