set_option maxRecDepth 4000 in
theorem L_k56_36 {base : Nat} {X : Nat → Option mC} {G : Nat → Value} (E : EnvOK base X G) {rr : Nat} (ihr : ∀ {d : Nat} (_ : 8 + 4 * rr ≤ d) {M : mH} (_ : HI base M) (place : Int) (said : Int) (done : Int) (depth : Int) (n : Int), (RW base 37 n M) → (TR 21 n M) → (1 ≤ n ∧ n ≤ 145) → (0 ≤ done ∧ done ≤ 3 ∧ 0 ≤ said ∧ said ≤ 1110) → (1 ≤ place ∧ place < n) → ((done = 0 ∧ said = 0) ∨ (done = 1 ∧ 1 ≤ said ∧ said ≤ 10) ∨ (done = 2 ∧ 11 ≤ said ∧ said ≤ 110) ∨ (done = 3 ∧ 111 ≤ said ∧ said ≤ 1110)) → (0 ≤ depth ∧ depth ≤ 41) → 41 - depth < ((rr : Nat) : Int) → sOk base X G d T52 [vR 36, vI place, vI said, vI done, vI depth] M (pL (fun v M' => HI base M' ∧ Fq [(38, 0)] M M'))) {d : Nat} (hd : 9 + 4 * rr ≤ d) {M : mH} (H : HI base M) (place : Int) (said : Int) (done : Int) (depth : Int) (n : Int) (h0 : RW base 37 n M) (h1 : TR 21 n M) (h2 : 1 ≤ n ∧ n ≤ 145) (h3 : 0 ≤ done ∧ done ≤ 3 ∧ 0 ≤ said ∧ said ≤ 1110) (h4 : 0 ≤ place ∧ place < n) (h5 : (done = 0 ∧ said = 0) ∨ (done = 1 ∧ 1 ≤ said ∧ said ≤ 10) ∨ (done = 2 ∧ 11 ≤ said ∧ said ≤ 110) ∨ (done = 3 ∧ 111 ≤ said ∧ said ≤ 1110)) (h6 : 0 ≤ depth ∧ depth ≤ 40 ∧ 40 - depth < (rr : Int)) : ∀ mz : Nat, (∀ (x5 x7 x8 : Int) (N : mH), HI base N → Fq [(38, 0)] M N → (x7 = -1 ∨ (1 ≤ x7 ∧ x7 < n)) → ((-1) ≤ x7) → (x7 ≤ 144) → (0 ≤ x8) → (x8 ≤ 145) → (145 - x8) * 1 + 0 < (mz : Int) → sRn base X G d T56 17 [(0, vR 36), (2, vI said), (3, vI done), (4, vI depth), (5, vL x5), (7, vI x7), (8, vI x8)] [] N (s_Q base (pL (fun v M' => HI base M' ∧ Fq [(38, 0)] M M')))) := by
  have f0 : Fq [(38, 0)] M M := Fq.rf
  intro mz
  induction mz with
  | zero => exact fun x5 x7 x8 N _ _ z0 z1 z2 z3 z4 z5 => by omega
  | succ mz ih =>
    intro x5 x7 x8 N HN fN i0 i1 i2 i3 i4 hmu
    refine s_blx (lv' := [(0, vR 36), (2, vI said), (3, vI done), (4, vI depth), (5, vL x5), (7, vI x7), (8, vI x8)]) (st' := [vI 145, vI x8]) B56_17_22 rfl ?_
    refine r_icmp (tgt := 96) (pc' := 25) D56_22 rfl rfl (by unfold inR; omega) (fun (c4 : 145 ≤ x8) => ?_) (fun (c4 : ¬ (145 ≤ x8)) => ?_)
    · refine s_blx (lv' := [(0, vR 36), (2, vI said), (3, vI done), (4, vI depth), (5, vL x5), (7, vI x7), (8, vI x8)]) (st' := [vL x5]) B56_96_98 rfl ?_
      exact r_lretL D56_98 rfl (⟨HN, fN⟩)
    · refine s_blx (lv' := [(0, vR 36), (2, vI said), (3, vI done), (4, vI depth), (5, vL x5), (7, vI x7), (8, vI x8)]) (st' := [vI (-1), vI x7]) B56_25_28 rfl ?_
      refine r_icmp (tgt := 96) (pc' := 31) D56_28 rfl rfl (by unfold inR; omega) (fun (c5 : x7 = (-1)) => ?_) (fun (c5 : ¬ (x7 = (-1))) => ?_)
      · refine s_blx (lv' := [(0, vR 36), (2, vI said), (3, vI done), (4, vI depth), (5, vL x5), (7, vI x7), (8, vI x8)]) (st' := [vL x5]) B56_96_98 rfl ?_
        exact r_lretL D56_98 rfl (⟨HN, fN⟩)
      · refine s_blx (lv' := [(0, vR 36), (2, vI said), (3, vI done), (4, vI depth), (5, vL x5), (7, vI x7), (8, vI x8)]) (st' := [vR 36]) B56_31_32 rfl ?_
        refine r_gfix (r := 20) (pc' := 35) D56_32 rfl gf_7_31_36 HN.1 ?_
        refine r_gfix (r := 26) (pc' := 38) D56_35 rfl gf_7_124_20 HN.1 ?_
        refine s_blx (lv' := [(0, vR 36), (2, vI said), (3, vI done), (4, vI depth), (5, vL x5), (7, vI x7), (8, vI x8)]) (st' := [vI x7, vR 26]) B56_38_40 rfl ?_
        refine r_bald (pc' := 41) D56_40 rfl sc_26 (by decide) HN.1 (by omega) ?_
        intro w6 e7 r8
        have b_w6 := HN.2 26 (x7) 0 1 rfl
        rw [← e7] at b_w6; clear r8
        refine r_ifc (tgt := 55) (pc' := 44) D56_41 rfl rfl (by unfold inR; omega) (fun (c9 : w6 = 0) => ?_) (fun (c9 : ¬ (w6 = 0)) => ?_)
        · refine s_blx (lv' := [(9, vI said), (0, vR 36), (2, vI said), (3, vI done), (4, vI depth), (5, vL x5), (7, vI x7), (8, vI x8)]) (st' := [vI (depth + 1), vI done, vI said, vI x7, vR 36, vL x5]) B56_55_70 rfl ?_
          refine r_vL (c := 36) (args := [vI x7, vI said, vI done, vI (depth + 1)]) (rest := [vL x5]) (pc' := 73) D56_70 rfl ck_7_virtual_67 TE52 rfl (Nat.le_of_ble_eq_true rfl) ⟨Nat.le_of_ble_eq_true rfl, Nat.le_of_ble_eq_true rfl⟩ sc_36 ⟨rfl, by decide⟩ HN.1 (by omega) (ihr (by omega) HN x7 said done (depth + 1) n ((h0.fq fN rfl)) ((h1.fq fN rfl)) (by omega) (by omega) (by omega) (by omega) (by omega) (by omega)) ?_
          intro v10 M11 q14
          obtain ⟨H12, f13⟩ := q14
          have f15 := fN.tr (f13.up rfl)
          refine s_blx (lv' := [(9, vI said), (0, vR 36), (2, vI said), (3, vI done), (4, vI depth), (5, vL x5), (7, vI x7), (8, vI x8)]) (st' := [vI 5, vL v10, vL x5]) B56_73_74 rfl ?_
          refine r_binLI (pc' := 75) D56_74 rfl rfl ?_
          intro z16 _ _
          refine s_blx (lv' := [(5, vL (x5 + z16)), (9, vI said), (0, vR 36), (2, vI said), (3, vI done), (4, vI depth), (7, vI x7), (8, vI x8)]) (st' := [vR 36]) B56_75_79 rfl ?_
          refine r_gfix (r := 20) (pc' := 82) D56_79 rfl gf_7_31_36 H12.1 ?_
          refine r_gfix (r := 22) (pc' := 85) D56_82 rfl gf_7_127_20 H12.1 ?_
          refine s_blx (lv' := [(5, vL (x5 + z16)), (9, vI said), (0, vR 36), (2, vI said), (3, vI done), (4, vI depth), (7, vI x7), (8, vI x8)]) (st' := [vI x7, vR 22]) B56_85_87 rfl ?_
          refine r_iald (pc' := 88) D56_87 rfl sc_22 H12.1 (by omega) ?_
          intro w18 e19 r20
          have b_w18 := H12.2 22 (x7) (-1) 144 rfl
          rw [← e19] at b_w18; clear r20
          have tq := ((h1.fq f15 rfl) (x7) (by omega) (by omega)).2 (by omega)
          rw [← e19] at tq
          refine s_blx (lv' := [(8, vI (x8 + 1)), (7, vI w18), (5, vL (x5 + z16)), (9, vI said), (0, vR 36), (2, vI said), (3, vI done), (4, vI depth)]) (st' := []) B56_88_93 rfl ?_
          refine r_goto (tgt := 17) D56_93 rfl ?_
          refine r_loc (lv' := [(0, vR 36), (2, vI said), (3, vI done), (4, vI depth), (5, vL (x5 + z16)), (7, vI w18), (8, vI (x8 + 1))]) ⟨rfl, rfl, rfl, rfl, rfl, rfl, rfl, trivial⟩ rfl rfl ?_
          exact ih (x5 + z16) w18 (x8 + 1) M11 H12 f15 (by omega) (by omega) (by omega) (by omega) (by omega) (by omega)
        · refine s_blx (lv' := [(0, vR 36), (2, vI said), (3, vI done), (4, vI depth), (5, vL x5), (7, vI x7), (8, vI x8)]) (st' := [vI done, vI said, vI x7, vR 36]) B56_44_49 rfl ?_
          refine r_vIp (c := 36) (args := [vI x7, vI said, vI done]) (rest := []) (pc' := 52) D56_49 rfl ck_7_virtual_64 TE49 rfl (Nat.le_of_ble_eq_true rfl) ⟨Nat.le_of_ble_eq_true rfl, Nat.le_of_ble_eq_true rfl⟩ sc_36 ⟨rfl, by decide⟩ HN.1 (by omega) (k49_36 E (by omega) HN x7 said done (by omega) (by omega) (by omega) (by omega)) ?_
          intro v21 q25
          obtain ⟨q23, q24⟩ := q25
          refine r_goto (tgt := 56) D56_52 rfl ?_
          refine s_blx (lv' := [(9, vI v21), (0, vR 36), (2, vI said), (3, vI done), (4, vI depth), (5, vL x5), (7, vI x7), (8, vI x8)]) (st' := [vI (depth + 1), vI done, vI v21, vI x7, vR 36, vL x5]) B56_56_70 rfl ?_
          refine r_vL (c := 36) (args := [vI x7, vI v21, vI done, vI (depth + 1)]) (rest := [vL x5]) (pc' := 73) D56_70 rfl ck_7_virtual_67 TE52 rfl (Nat.le_of_ble_eq_true rfl) ⟨Nat.le_of_ble_eq_true rfl, Nat.le_of_ble_eq_true rfl⟩ sc_36 ⟨rfl, by decide⟩ HN.1 (by omega) (ihr (by omega) HN x7 v21 done (depth + 1) n ((h0.fq fN rfl)) ((h1.fq fN rfl)) (by omega) (by omega) (by omega) (by omega) (by omega) (by omega)) ?_
          intro v26 M27 q30
          obtain ⟨H28, f29⟩ := q30
          have f31 := fN.tr (f29.up rfl)
          refine s_blx (lv' := [(9, vI v21), (0, vR 36), (2, vI said), (3, vI done), (4, vI depth), (5, vL x5), (7, vI x7), (8, vI x8)]) (st' := [vI 5, vL v26, vL x5]) B56_73_74 rfl ?_
          refine r_binLI (pc' := 75) D56_74 rfl rfl ?_
          intro z32 _ _
          refine s_blx (lv' := [(5, vL (x5 + z32)), (9, vI v21), (0, vR 36), (2, vI said), (3, vI done), (4, vI depth), (7, vI x7), (8, vI x8)]) (st' := [vR 36]) B56_75_79 rfl ?_
          refine r_gfix (r := 20) (pc' := 82) D56_79 rfl gf_7_31_36 H28.1 ?_
          refine r_gfix (r := 22) (pc' := 85) D56_82 rfl gf_7_127_20 H28.1 ?_
          refine s_blx (lv' := [(5, vL (x5 + z32)), (9, vI v21), (0, vR 36), (2, vI said), (3, vI done), (4, vI depth), (7, vI x7), (8, vI x8)]) (st' := [vI x7, vR 22]) B56_85_87 rfl ?_
          refine r_iald (pc' := 88) D56_87 rfl sc_22 H28.1 (by omega) ?_
          intro w34 e35 r36
          have b_w34 := H28.2 22 (x7) (-1) 144 rfl
          rw [← e35] at b_w34; clear r36
          have tq := ((h1.fq f31 rfl) (x7) (by omega) (by omega)).2 (by omega)
          rw [← e35] at tq
          refine s_blx (lv' := [(8, vI (x8 + 1)), (7, vI w34), (5, vL (x5 + z32)), (9, vI v21), (0, vR 36), (2, vI said), (3, vI done), (4, vI depth)]) (st' := []) B56_88_93 rfl ?_
          refine r_goto (tgt := 17) D56_93 rfl ?_
          refine r_loc (lv' := [(0, vR 36), (2, vI said), (3, vI done), (4, vI depth), (5, vL (x5 + z32)), (7, vI w34), (8, vI (x8 + 1))]) ⟨rfl, rfl, rfl, rfl, rfl, rfl, rfl, trivial⟩ rfl rfl ?_
          exact ih (x5 + z32) w34 (x8 + 1) M27 H28 f31 (by omega) (by omega) (by omega) (by omega) (by omega) (by omega)
