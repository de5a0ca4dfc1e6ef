set_option maxRecDepth 4000 in
theorem k55_36 {base : Nat} {X : Nat → Option mC} {G : Nat → Value} (E : EnvOK base X G) {rr : Nat} (ihr : ∀ {d : Nat} (_ : 8 + 4 * rr ≤ d) {M : mH} (_ : HI base M) (place : Int) (said : Int) (done : Int) (depth : Int) (n : Int), (RW base 37 n M) → (TR 21 n M) → (1 ≤ n ∧ n ≤ 145) → (0 ≤ done ∧ done ≤ 3 ∧ 0 ≤ said ∧ said ≤ 1110) → (1 ≤ place ∧ place < n) → ((done = 0 ∧ said = 0) ∨ (done = 1 ∧ 1 ≤ said ∧ said ≤ 10) ∨ (done = 2 ∧ 11 ≤ said ∧ said ≤ 110) ∨ (done = 3 ∧ 111 ≤ said ∧ said ≤ 1110)) → (0 ≤ depth ∧ depth ≤ 41) → 41 - depth < ((rr : Nat) : Int) → sOk base X G d T52 [vR 36, vI place, vI said, vI done, vI depth] M (pL (fun v M' => HI base M' ∧ Fq [(38, 0)] M M'))) {d : Nat} (hd : 10 + 4 * rr ≤ d) {M : mH} (H : HI base M) (place : Int) (said : Int) (done : Int) (depth : Int) (n : Int) (h0 : RW base 37 n M) (h1 : TR 21 n M) (h2 : 1 ≤ n ∧ n ≤ 145) (h3 : 0 ≤ done ∧ done ≤ 3 ∧ 0 ≤ said ∧ said ≤ 1110) (h4 : 1 ≤ place ∧ place < n) (h5 : (done = 0 ∧ said = 0) ∨ (done = 1 ∧ 1 ≤ said ∧ said ≤ 10) ∨ (done = 2 ∧ 11 ≤ said ∧ said ≤ 110) ∨ (done = 3 ∧ 111 ≤ said ∧ said ≤ 1110)) (h6 : 0 ≤ depth ∧ depth ≤ 40 ∧ 40 - depth < (rr : Int)) : sOk base X G d T55 [vR 36, vI place, vI said, vI done, vI depth] M (pL (fun v M' => HI base M' ∧ Fq [(38, 0)] M M')) := by
  have f0 : Fq [(38, 0)] M M := Fq.rf
  refine sOk.of (show sRn base X G d T55 0 [(0, vR 36), (1, vI place), (2, vI said), (3, vI done), (4, vI depth)] [] M _ from ?_)
  refine s_blx (lv' := [(0, vR 36), (1, vI place), (2, vI said), (3, vI done), (4, vI depth)]) (st' := [vR 36]) B55_0_1 rfl ?_
  refine r_gfix (r := 37) (pc' := 4) D55_1 rfl gf_7_13_36 H.1 ?_
  refine s_blx (lv' := [(0, vR 36), (1, vI place), (2, vI said), (3, vI done), (4, vI depth)]) (st' := [vI place, vR 37]) B55_4_5 rfl ?_
  obtain ⟨r1, a2, a3⟩ := h0 (place) (by omega) (by omega)
  refine r_aald (v := vR r1) (pc' := 6) D55_5 rfl sc_37 (by decide) H.1 (by omega) a2 ?_
  refine s_blx (lv' := [(0, vR 36), (1, vI place), (2, vI said), (3, vI done), (4, vI depth)]) (st' := [vI said, vR (r1)]) B55_6_7 rfl ?_
  refine r_laldD (pc' := 8) D55_7 rfl a3 (by omega) ?_
  intro w4
  refine s_blx (lv' := [(5, vL w4), (0, vR 36), (1, vI place), (2, vI said), (3, vI done), (4, vI depth)]) (st' := [vI 32, vL w4]) B55_8_14 rfl ?_
  refine r_binLI (pc' := 15) D55_14 rfl rfl ?_
  intro z5 _ _
  refine s_blx (lv' := [(5, vL w4), (0, vR 36), (1, vI place), (2, vI said), (3, vI done), (4, vI depth)]) (st' := [vR 36, vL z5]) B55_15_16 rfl ?_
  refine r_glong (ki := 3) (pc' := 19) D55_16 rfl gf_7_23_36 rfl H.1 ?_
  intro w7 e8 r9
  clear r9
  refine r_lcmp (pc' := 20) D55_19 rfl ?_
  intro z10 r11 r12
  refine r_ifc (tgt := 30) (pc' := 23) D55_20 rfl rfl (by unfold inR; omega) (fun (c13 : z10 ≠ 0) => ?_) (fun (c13 : ¬ (z10 ≠ 0)) => ?_)
  · refine s_blx (lv' := [(5, vL w4), (0, vR 36), (1, vI place), (2, vI said), (3, vI done), (4, vI depth)]) (st' := [vR 36]) B55_30_31 rfl ?_
    refine r_gfix (r := 38) (pc' := 34) D55_31 rfl gf_7_19_36 H.1 ?_
    refine s_blx (lv' := [(5, vL w4), (0, vR 36), (1, vI place), (2, vI said), (3, vI done), (4, vI depth)]) (st' := [vI ((place * 4) + done), vR 38]) B55_34_39 rfl ?_
    refine r_iald (pc' := 40) D55_39 rfl sc_38 H.1 (by omega) ?_
    intro w14 e15 r16
    unfold inR at r16
    refine r_i2l (pc' := 41) D55_40 rfl (by unfold inR; omega) ?_
    refine s_blx (lv' := [(7, vL w14), (5, vL w4), (0, vR 36), (1, vI place), (2, vI said), (3, vI done), (4, vI depth)]) (st' := [vR 36]) B55_41_44 rfl ?_
    refine r_gfix (r := 20) (pc' := 47) D55_44 rfl gf_7_31_36 H.1 ?_
    refine r_gfix (r := 25) (pc' := 50) D55_47 rfl gf_7_84_20 H.1 ?_
    refine s_blx (lv' := [(7, vL w14), (5, vL w4), (0, vR 36), (1, vI place), (2, vI said), (3, vI done), (4, vI depth)]) (st' := [vI place, vR 25]) B55_50_51 rfl ?_
    refine r_bald (pc' := 52) D55_51 rfl sc_25 (by decide) H.1 (by omega) ?_
    intro w17 e18 r19
    have b_w17 := H.2 25 (place) 0 1 rfl
    rw [← e18] at b_w17; clear r19
    refine r_ifc (tgt := 76) (pc' := 55) D55_52 rfl rfl (by unfold inR; omega) (fun (c20 : w17 = 0) => ?_) (fun (c20 : ¬ (w17 = 0)) => ?_)
    · refine s_blx (lv' := [(7, vL w14), (5, vL w4), (0, vR 36), (1, vI place), (2, vI said), (3, vI done), (4, vI depth)]) (st' := [vI depth, vI done, vI said, vI place, vR 36, vL w14]) B55_76_84 rfl ?_
      refine r_vL (c := 36) (args := [vI place, vI said, vI done, vI depth]) (rest := [vL w14]) (pc' := 87) D55_84 rfl ck_7_virtual_46 TE56 rfl (Nat.le_of_ble_eq_true rfl) ⟨Nat.le_of_ble_eq_true rfl, Nat.le_of_ble_eq_true rfl⟩ sc_36 ⟨rfl, by decide⟩ H.1 (by omega) (k56_36 E ihr (by omega) H place said done depth n (h0) (h1) (by omega) (by omega) (by omega) (by omega) (by omega)) ?_
      intro v21 M22 q25
      obtain ⟨H23, f24⟩ := q25
      have f26 := f0.tr (f24.up rfl)
      refine s_blx (lv' := [(7, vL (w14 + v21)), (5, vL w4), (0, vR 36), (1, vI place), (2, vI said), (3, vI done), (4, vI depth)]) (st' := [vR 36]) B55_87_91 rfl ?_
      refine r_gfix (r := 37) (pc' := 94) D55_91 rfl gf_7_13_36 H23.1 ?_
      refine s_blx (lv' := [(7, vL (w14 + v21)), (5, vL w4), (0, vR 36), (1, vI place), (2, vI said), (3, vI done), (4, vI depth)]) (st' := [vI place, vR 37]) B55_94_95 rfl ?_
      obtain ⟨r27, a28, a29⟩ := (h0.fq f26 rfl) (place) (by omega) (by omega)
      refine r_aald (v := vR r27) (pc' := 96) D55_95 rfl sc_37 (by decide) H23.1 (by omega) a28 ?_
      refine s_blx (lv' := [(7, vL (w14 + v21)), (5, vL w4), (0, vR 36), (1, vI place), (2, vI said), (3, vI done), (4, vI depth)]) (st' := [vR 36, vI said, vR (r27)]) B55_96_98 rfl ?_
      refine r_glong (ki := 3) (pc' := 101) D55_98 rfl gf_7_23_36 rfl H23.1 ?_
      intro w30 e31 r32
      clear r32
      refine s_blx (lv' := [(7, vL (w14 + v21)), (5, vL w4), (0, vR 36), (1, vI place), (2, vI said), (3, vI done), (4, vI depth)]) (st' := [vI 32, vL w30, vI said, vR (r27)]) B55_101_103 rfl ?_
      refine r_binLI (pc' := 104) D55_103 rfl rfl ?_
      intro z33 _ _
      refine s_blx (lv' := [(7, vL (w14 + v21)), (5, vL w4), (0, vR 36), (1, vI place), (2, vI said), (3, vI done), (4, vI depth)]) (st' := [vL (w14 + v21), vL z33, vI said, vR (r27)]) B55_104_106 rfl ?_
      refine r_binL (pc' := 107) D55_106 rfl rfl ?_
      intro z35 _ _
      refine r_normL ?_
      intro z37 r38 _; unfold inJ at r38
      refine r_lastD (pc' := 108) D55_107 rfl H23 a29 (by omega) ?_
      intro M39 u40 H41
      have f42 := f26.row u40 a29
      refine s_blx (lv' := [(7, vL (w14 + v21)), (5, vL w4), (0, vR 36), (1, vI place), (2, vI said), (3, vI done), (4, vI depth)]) (st' := [vL (w14 + v21)]) B55_108_110 rfl ?_
      exact r_lretL D55_110 rfl (⟨H41, f42⟩)
    · refine s_blx (lv' := [(7, vL w14), (5, vL w4), (0, vR 36), (1, vI place), (2, vI said), (3, vI done), (4, vI depth)]) (st' := [vI (depth + 1), vI done, vI said, vI place, vR 36, vL w14]) B55_55_65 rfl ?_
      refine r_vL (c := 36) (args := [vI place, vI said, vI done, vI (depth + 1)]) (rest := [vL w14]) (pc' := 68) D55_65 rfl ck_7_virtual_67 TE52 rfl (Nat.le_of_ble_eq_true rfl) ⟨Nat.le_of_ble_eq_true rfl, Nat.le_of_ble_eq_true rfl⟩ sc_36 ⟨rfl, by decide⟩ H.1 (by omega) (ihr (by omega) H place said done (depth + 1) n (h0) (h1) (by omega) (by omega) (by omega) (by omega) (by omega) (by omega)) ?_
      intro v43 M44 q47
      obtain ⟨H45, f46⟩ := q47
      have f48 := f0.tr (f46.up rfl)
      refine s_blx (lv' := [(7, vL w14), (5, vL w4), (0, vR 36), (1, vI place), (2, vI said), (3, vI done), (4, vI depth)]) (st' := [vI 5, vL v43, vL w14]) B55_68_69 rfl ?_
      refine r_binLI (pc' := 70) D55_69 rfl rfl ?_
      intro z49 _ _
      refine s_blx (lv' := [(7, vL (w14 + z49)), (5, vL w4), (0, vR 36), (1, vI place), (2, vI said), (3, vI done), (4, vI depth)]) (st' := []) B55_70_73 rfl ?_
      refine r_goto (tgt := 90) D55_73 rfl ?_
      refine s_blx (lv' := [(7, vL (w14 + z49)), (5, vL w4), (0, vR 36), (1, vI place), (2, vI said), (3, vI done), (4, vI depth)]) (st' := [vR 36]) B55_90_91 rfl ?_
      refine r_gfix (r := 37) (pc' := 94) D55_91 rfl gf_7_13_36 H45.1 ?_
      refine s_blx (lv' := [(7, vL (w14 + z49)), (5, vL w4), (0, vR 36), (1, vI place), (2, vI said), (3, vI done), (4, vI depth)]) (st' := [vI place, vR 37]) B55_94_95 rfl ?_
      obtain ⟨r51, a52, a53⟩ := (h0.fq f48 rfl) (place) (by omega) (by omega)
      refine r_aald (v := vR r51) (pc' := 96) D55_95 rfl sc_37 (by decide) H45.1 (by omega) a52 ?_
      refine s_blx (lv' := [(7, vL (w14 + z49)), (5, vL w4), (0, vR 36), (1, vI place), (2, vI said), (3, vI done), (4, vI depth)]) (st' := [vR 36, vI said, vR (r51)]) B55_96_98 rfl ?_
      refine r_glong (ki := 3) (pc' := 101) D55_98 rfl gf_7_23_36 rfl H45.1 ?_
      intro w54 e55 r56
      clear r56
      refine s_blx (lv' := [(7, vL (w14 + z49)), (5, vL w4), (0, vR 36), (1, vI place), (2, vI said), (3, vI done), (4, vI depth)]) (st' := [vI 32, vL w54, vI said, vR (r51)]) B55_101_103 rfl ?_
      refine r_binLI (pc' := 104) D55_103 rfl rfl ?_
      intro z57 _ _
      refine s_blx (lv' := [(7, vL (w14 + z49)), (5, vL w4), (0, vR 36), (1, vI place), (2, vI said), (3, vI done), (4, vI depth)]) (st' := [vL (w14 + z49), vL z57, vI said, vR (r51)]) B55_104_106 rfl ?_
      refine r_binL (pc' := 107) D55_106 rfl rfl ?_
      intro z59 _ _
      refine r_normL ?_
      intro z61 r62 _; unfold inJ at r62
      refine r_lastD (pc' := 108) D55_107 rfl H45 a53 (by omega) ?_
      intro M63 u64 H65
      have f66 := f48.row u64 a53
      refine s_blx (lv' := [(7, vL (w14 + z49)), (5, vL w4), (0, vR 36), (1, vI place), (2, vI said), (3, vI done), (4, vI depth)]) (st' := [vL (w14 + z49)]) B55_108_110 rfl ?_
      exact r_lretL D55_110 rfl (⟨H65, f66⟩)
  · refine s_blx (lv' := [(5, vL w4), (0, vR 36), (1, vI place), (2, vI said), (3, vI done), (4, vI depth)]) (st' := [vL w4]) B55_23_25 rfl ?_
    refine r_ldc2 (e := 4294967295) (pc' := 28) D55_25 rfl cl_7_119 (by decide) ?_
    refine r_binL (pc' := 29) D55_28 rfl rfl ?_
    intro z67 _ _
    exact r_lretL D55_29 rfl (⟨H, f0⟩)
