set_option maxRecDepth 4000 in
theorem k53_55l {base : Nat} {X : Nat → Option mC} {G : Nat → Value} (E : EnvOK base X G) {d : Nat} (hd : 175 ≤ d) {M : mH} (H : HI base M) (place : Int) (said : Int) (done : Int) (depth : Int) (n : Int) (h0 : RW base 56 n M) (h1 : TR 40 n M) (h2 : 1 ≤ n ∧ n ≤ 145) (h3 : 0 ≤ done ∧ done ≤ 3 ∧ 0 ≤ said ∧ said ≤ 1110) (h4 : 1 ≤ place ∧ place < n) (h5 : (done = 0 ∧ said = 0) ∨ (done = 1 ∧ 1 ≤ said ∧ said ≤ 10) ∨ (done = 2 ∧ 11 ≤ said ∧ said ≤ 110) ∨ (done = 3 ∧ 111 ≤ said ∧ said ≤ 1110)) (h6 : done ≤ 2) (h7 : depth = 0) : sOk base X G d T53 [vR 55, vI place, vI said, vI done, vI depth] M (pL (fun v M' => HI base M' ∧ Fq [(57, 0)] M M' ∧ (1 ≤ v % 32 ∧ v % 32 ≤ 17))) := by
  have f0 : Fq [(57, 0)] M M := Fq.rf
  refine sOk.of (show sRn base X G d T53 0 [(0, vR 55), (1, vI place), (2, vI said), (3, vI done), (4, vI depth)] [] M _ from ?_)
  refine s_blx (lv' := [(0, vR 55), (1, vI place), (2, vI said), (3, vI done), (4, vI depth)]) (st' := [vR 55]) B53_0_1 rfl ?_
  refine r_gfix (r := 39) (pc' := 4) D53_1 rfl gf_7_31_55 H.1 ?_
  refine s_blx (lv' := [(0, vR 55), (1, vI place), (2, vI said), (3, vI done), (4, vI depth)]) (st' := [vI done, vI place, vR 39]) B53_4_6 rfl ?_
  refine r_vIp (c := 39) (args := [vI place, vI done]) (rest := []) (pc' := 9) D53_6 rfl ck_7_virtual_72 TE85 rfl (Nat.le_of_ble_eq_true rfl) ⟨Nat.le_of_ble_eq_true rfl, Nat.le_of_ble_eq_true rfl⟩ sc_39 ⟨rfl, by decide⟩ H.1 (dp_0 hd rfl) (k85_39 E (dp_n hd rfl) H place done (by omega) (by omega)) ?_
  intro v1 q4
  have q3 := q4
  refine s_blx (lv' := [(5, vI v1), (0, vR 55), (1, vI place), (2, vI said), (3, vI done), (4, vI depth)]) (st' := [vR 55]) B53_9_12 rfl ?_
  refine r_gfix (r := 39) (pc' := 15) D53_12 rfl gf_7_31_55 H.1 ?_
  refine r_gfix (r := 42) (pc' := 18) D53_15 rfl gf_7_39_39 H.1 ?_
  refine s_blx (lv' := [(5, vI v1), (0, vR 55), (1, vI place), (2, vI said), (3, vI done), (4, vI depth)]) (st' := [vI place, vR 42]) B53_18_19 rfl ?_
  refine r_iald (pc' := 20) D53_19 rfl sc_42 H.1 (by omega) ?_
  intro w5 e6 r7
  unfold inR at r7
  refine r_i2l (pc' := 21) D53_20 rfl (by unfold inR; omega) ?_
  refine s_blx (lv' := [(6, vL w5), (5, vI v1), (0, vR 55), (1, vI place), (2, vI said), (3, vI done), (4, vI depth)]) (st' := [vI 8, vI said, vI place, vR 55]) B53_21_28 rfl ?_
  refine r_sIp (args := [vI said, vI 8]) (rest := [vI place, vR 55]) (pc' := 31) D53_28 rfl ck_7_static_113 TE43 rfl (Nat.le_of_ble_eq_true rfl) ⟨Nat.le_of_ble_eq_true rfl, Nat.le_of_ble_eq_true rfl⟩ (by decide) (dp_0 hd rfl) (k43 E (dp_n hd rfl) H said 8 (by omega) (by omega)) ?_
  intro v8 q11
  have q10 := q11
  refine s_blx (lv' := [(6, vL w5), (5, vI v1), (0, vR 55), (1, vI place), (2, vI said), (3, vI done), (4, vI depth)]) (st' := [vI depth, vI (done + 1), vI v8, vI place, vR 55]) B53_31_36 rfl ?_
  refine r_vL (c := 55) (args := [vI place, vI v8, vI (done + 1), vI depth]) (rest := []) (pc' := 39) D53_36 rfl ck_7_virtual_90 TE55 rfl (Nat.le_of_ble_eq_true rfl) ⟨Nat.le_of_ble_eq_true rfl, Nat.le_of_ble_eq_true rfl⟩ sc_55 ⟨rfl, by decide⟩ H.1 (by omega) (k55_55 E (rr := 41) (k52_55r E 41) (by omega) H place v8 (done + 1) depth n (h0) (h1) (by omega) (by omega) (by omega) (by omega) (by omega)) ?_
  intro v12 M13 q16
  obtain ⟨H14, f15⟩ := q16
  have f17 := f0.tr (f15.up rfl)
  refine s_blx (lv' := [(8, vL v12), (6, vL w5), (5, vI v1), (0, vR 55), (1, vI place), (2, vI said), (3, vI done), (4, vI depth)]) (st' := [vR 55, vL w5, vL v12]) B53_39_46 rfl ?_
  refine r_gfix (r := 39) (pc' := 49) D53_46 rfl gf_7_31_55 H14.1 ?_
  refine r_gfix (r := 53) (pc' := 52) D53_49 rfl gf_7_110_39 H14.1 ?_
  refine s_blx (lv' := [(8, vL v12), (6, vL w5), (5, vI v1), (0, vR 55), (1, vI place), (2, vI said), (3, vI done), (4, vI depth)]) (st' := [vI 5, vR 53, vL w5, vL v12]) B53_52_53 rfl ?_
  refine r_iald (pc' := 54) D53_53 rfl sc_53 H14.1 (by omega) ?_
  intro w18 e19 r20
  have b_w18 := H14.2 53 (5) 0 1000 rfl
  rw [← e19] at b_w18; clear r20
  refine r_i2l (pc' := 55) D53_54 rfl (by unfold inR; omega) ?_
  refine s_blx (lv' := [(8, vL v12), (6, vL w5), (5, vI v1), (0, vR 55), (1, vI place), (2, vI said), (3, vI done), (4, vI depth)]) (st' := [vI 3, vL (v12 + (w5 * w18))]) B53_55_58 rfl ?_
  refine r_sLp (args := [vL (v12 + (w5 * w18)), vI 3]) (rest := []) (pc' := 61) D53_58 rfl ck_7_static_93 TE51 rfl (Nat.le_of_ble_eq_true rfl) ⟨Nat.le_of_ble_eq_true rfl, Nat.le_of_ble_eq_true rfl⟩ (by decide) (dp_0 hd rfl) (k51l E (dp_n hd rfl) H14 (v12 + (w5 * w18)) 3 (by omega)) ?_
  intro v21 q24
  have q23 := q24
  refine s_blx (lv' := [(10, vL v21), (8, vL v12), (6, vL w5), (5, vI v1), (0, vR 55), (1, vI place), (2, vI said), (3, vI done), (4, vI depth)]) (st' := [vR 55]) B53_61_64 rfl ?_
  refine r_gfix (r := 39) (pc' := 67) D53_64 rfl gf_7_31_55 H14.1 ?_
  refine r_gfix (r := 47) (pc' := 70) D53_67 rfl gf_7_81_39 H14.1 ?_
  refine s_blx (lv' := [(10, vL v21), (8, vL v12), (6, vL w5), (5, vI v1), (0, vR 55), (1, vI place), (2, vI said), (3, vI done), (4, vI depth)]) (st' := [vI v1, vR 47]) B53_70_72 rfl ?_
  refine r_iald (pc' := 73) D53_72 rfl sc_47 H14.1 (by omega) ?_
  intro w25 e26 r27
  have b_w25 := H14.2 47 (v1) (-1) 7 rfl
  rw [← e26] at b_w25; clear r27
  refine s_blx (lv' := [(10, vL v21), (8, vL v12), (6, vL w5), (5, vI v1), (0, vR 55), (1, vI place), (2, vI said), (3, vI done), (4, vI depth)]) (st' := [vI (-1), vI w25]) B53_73_74 rfl ?_
  refine r_icmp (tgt := 89) (pc' := 77) D53_74 rfl rfl (by unfold inR; omega) (fun (c28 : w25 = (-1)) => ?_) (fun (c28 : ¬ (w25 = (-1))) => ?_)
  · refine s_blx (lv' := [(10, vL v21), (8, vL v12), (6, vL w5), (5, vI v1), (0, vR 55), (1, vI place), (2, vI said), (3, vI done), (4, vI depth)]) (st' := [vR 55]) B53_89_90 rfl ?_
    refine r_gfix (r := 39) (pc' := 93) D53_90 rfl gf_7_31_55 H14.1 ?_
    refine r_gfix (r := 50) (pc' := 96) D53_93 rfl gf_7_116_39 H14.1 ?_
    refine s_blx (lv' := [(10, vL v21), (8, vL v12), (6, vL w5), (5, vI v1), (0, vR 55), (1, vI place), (2, vI said), (3, vI done), (4, vI depth)]) (st' := [vI v1, vR 50]) B53_96_98 rfl ?_
    refine r_iald (pc' := 99) D53_98 rfl sc_50 H14.1 (by omega) ?_
    intro w29 e30 r31
    unfold inR at r31
    refine r_ifc (tgt := 146) (pc' := 102) D53_99 rfl rfl (by unfold inR; omega) (fun (c32 : w29 ≤ 0) => ?_) (fun (c32 : ¬ (w29 ≤ 0)) => ?_)
    · refine s_blx (lv' := [(10, vL v21), (8, vL v12), (6, vL w5), (5, vI v1), (0, vR 55), (1, vI place), (2, vI said), (3, vI done), (4, vI depth)]) (st' := [vR 55]) B53_146_147 rfl ?_
      refine r_gint (ki := 4) (pc' := 150) D53_147 rfl gf_7_27_55 rfl H14.1 ?_
      intro w33 e34 r35
      have b_w33 := H14.2 55 (4) 0 1 rfl
      rw [← e34] at b_w33; clear r35
      refine r_ifc (tgt := 166) (pc' := 153) D53_150 rfl rfl (by unfold inR; omega) (fun (c36 : w33 = 0) => ?_) (fun (c36 : ¬ (w33 = 0)) => ?_)
      · refine s_blx (lv' := [(13, vI 0), (12, vI 0), (10, vL v21), (8, vL v12), (6, vL w5), (5, vI v1), (0, vR 55), (1, vI place), (2, vI said), (3, vI done), (4, vI depth)]) (st' := []) B53_166_172 rfl ?_
        refine r_loc (lv' := [(0, vR 55), (1, vI place), (2, vI said), (3, vI done), (4, vI depth), (10, vL v21), (12, vI 0), (13, vI 0)]) ⟨rfl, rfl, rfl, rfl, rfl, rfl, rfl, rfl, trivial⟩ rfl rfl ?_
        exact (L_k53_55l E hd H place said done depth n h0 h1 h2 h3 h4 h5 h6 h7 (((8 - 0) * 1 + 0 : Int) + 1).toNat) v21 0 0 M13 H14 f17 (by omega) (by omega) (by omega) (by omega) (by omega) (by omega)
      · refine s_blx (lv' := [(10, vL v21), (8, vL v12), (6, vL w5), (5, vI v1), (0, vR 55), (1, vI place), (2, vI said), (3, vI done), (4, vI depth)]) (st' := [vR 55]) B53_153_154 rfl ?_
        refine r_gfix (r := 39) (pc' := 157) D53_154 rfl gf_7_31_55 H14.1 ?_
        refine r_gfix (r := 46) (pc' := 160) D53_157 rfl gf_7_78_39 H14.1 ?_
        refine s_blx (lv' := [(10, vL v21), (8, vL v12), (6, vL w5), (5, vI v1), (0, vR 55), (1, vI place), (2, vI said), (3, vI done), (4, vI depth)]) (st' := [vI v1, vR 46]) B53_160_162 rfl ?_
        refine r_iald (pc' := 163) D53_162 rfl sc_46 H14.1 (by omega) ?_
        intro w37 e38 r39
        unfold inR at r39
        refine r_goto (tgt := 167) D53_163 rfl ?_
        refine s_blx (lv' := [(13, vI 0), (12, vI w37), (10, vL v21), (8, vL v12), (6, vL w5), (5, vI v1), (0, vR 55), (1, vI place), (2, vI said), (3, vI done), (4, vI depth)]) (st' := []) B53_167_172 rfl ?_
        refine r_loc (lv' := [(0, vR 55), (1, vI place), (2, vI said), (3, vI done), (4, vI depth), (10, vL v21), (12, vI w37), (13, vI 0)]) ⟨rfl, rfl, rfl, rfl, rfl, rfl, rfl, rfl, trivial⟩ rfl rfl ?_
        exact (L_k53_55l E hd H place said done depth n h0 h1 h2 h3 h4 h5 h6 h7 (((8 - 0) * 1 + 0 : Int) + 1).toNat) v21 w37 0 M13 H14 f17 (by omega) (by omega) (by omega) (by omega) (by omega) (by omega)
    · refine s_blx (lv' := [(10, vL v21), (8, vL v12), (6, vL w5), (5, vI v1), (0, vR 55), (1, vI place), (2, vI said), (3, vI done), (4, vI depth)]) (st' := [vR 55, vL w5, vL v12]) B53_102_107 rfl ?_
      refine r_gfix (r := 39) (pc' := 110) D53_107 rfl gf_7_31_55 H14.1 ?_
      refine r_gfix (r := 53) (pc' := 113) D53_110 rfl gf_7_110_39 H14.1 ?_
      refine s_blx (lv' := [(10, vL v21), (8, vL v12), (6, vL w5), (5, vI v1), (0, vR 55), (1, vI place), (2, vI said), (3, vI done), (4, vI depth)]) (st' := [vI 7, vR 53, vL w5, vL v12]) B53_113_115 rfl ?_
      refine r_iald (pc' := 116) D53_115 rfl sc_53 H14.1 (by omega) ?_
      intro w40 e41 r42
      have b_w40 := H14.2 53 (7) 0 1000 rfl
      rw [← e41] at b_w40; clear r42
      refine r_i2l (pc' := 117) D53_116 rfl (by unfold inR; omega) ?_
      refine s_blx (lv' := [(10, vL v21), (8, vL v12), (6, vL w5), (5, vI v1), (0, vR 55), (1, vI place), (2, vI said), (3, vI done), (4, vI depth)]) (st' := [vR 55, vL (w5 * w40), vL v12]) B53_117_119 rfl ?_
      refine r_gfix (r := 39) (pc' := 122) D53_119 rfl gf_7_31_55 H14.1 ?_
      refine r_gfix (r := 50) (pc' := 125) D53_122 rfl gf_7_116_39 H14.1 ?_
      refine s_blx (lv' := [(10, vL v21), (8, vL v12), (6, vL w5), (5, vI v1), (0, vR 55), (1, vI place), (2, vI said), (3, vI done), (4, vI depth)]) (st' := [vI v1, vR 50, vL (w5 * w40), vL v12]) B53_125_127 rfl ?_
      refine r_iald (pc' := 128) D53_127 rfl sc_50 H14.1 (by omega) ?_
      intro w43 e44 r45
      have e46 : w29 = w43 := (e44.trans (e30.symm)).symm
      subst e46
      refine r_i2l (pc' := 129) D53_128 rfl (by unfold inR; omega) ?_
      refine s_blx (lv' := [(12, vL (v12 + ((w5 * w40) * w29))), (10, vL v21), (8, vL v12), (6, vL w5), (5, vI v1), (0, vR 55), (1, vI place), (2, vI said), (3, vI done), (4, vI depth)]) (st' := [vI 2, vL (v12 + ((w5 * w40) * w29)), vL v21]) B53_129_138 rfl ?_
      refine r_sLp (args := [vL (v12 + ((w5 * w40) * w29)), vI 2]) (rest := [vL v21]) (pc' := 141) D53_138 rfl ck_7_static_93 TE51 rfl (Nat.le_of_ble_eq_true rfl) ⟨Nat.le_of_ble_eq_true rfl, Nat.le_of_ble_eq_true rfl⟩ (by decide) (dp_0 hd rfl) (k51l E (dp_n hd rfl) H14 (v12 + ((w5 * w40) * w29)) 2 (by omega)) ?_
      intro v47 q50
      have q49 := q50
      refine r_minE (pc' := 144) D53_141 rfl mc_7_static_100 sp_7_100 (Nat.le_of_ble_eq_true rfl) ?_
      intro z51 hm52
      refine s_blx (lv' := [(10, vL z51), (12, vL (v12 + ((w5 * w40) * w29))), (8, vL v12), (6, vL w5), (5, vI v1), (0, vR 55), (1, vI place), (2, vI said), (3, vI done), (4, vI depth)]) (st' := [vR 55]) B53_144_147 rfl ?_
      refine r_gint (ki := 4) (pc' := 150) D53_147 rfl gf_7_27_55 rfl H14.1 ?_
      intro w53 e54 r55
      have b_w53 := H14.2 55 (4) 0 1 rfl
      rw [← e54] at b_w53; clear r55
      refine r_ifc (tgt := 166) (pc' := 153) D53_150 rfl rfl (by unfold inR; omega) (fun (c56 : w53 = 0) => ?_) (fun (c56 : ¬ (w53 = 0)) => ?_)
      · refine s_blx (lv' := [(13, vI 0), (12, vI 0), (10, vL z51), (8, vL v12), (6, vL w5), (5, vI v1), (0, vR 55), (1, vI place), (2, vI said), (3, vI done), (4, vI depth)]) (st' := []) B53_166_172 rfl ?_
        refine r_loc (lv' := [(0, vR 55), (1, vI place), (2, vI said), (3, vI done), (4, vI depth), (10, vL z51), (12, vI 0), (13, vI 0)]) ⟨rfl, rfl, rfl, rfl, rfl, rfl, rfl, rfl, trivial⟩ rfl rfl ?_
        exact (L_k53_55l E hd H place said done depth n h0 h1 h2 h3 h4 h5 h6 h7 (((8 - 0) * 1 + 0 : Int) + 1).toNat) z51 0 0 M13 H14 f17 (by omega) (by omega) (by omega) (by omega) (by omega) (by omega)
      · refine s_blx (lv' := [(10, vL z51), (12, vL (v12 + ((w5 * w40) * w29))), (8, vL v12), (6, vL w5), (5, vI v1), (0, vR 55), (1, vI place), (2, vI said), (3, vI done), (4, vI depth)]) (st' := [vR 55]) B53_153_154 rfl ?_
        refine r_gfix (r := 39) (pc' := 157) D53_154 rfl gf_7_31_55 H14.1 ?_
        refine r_gfix (r := 46) (pc' := 160) D53_157 rfl gf_7_78_39 H14.1 ?_
        refine s_blx (lv' := [(10, vL z51), (12, vL (v12 + ((w5 * w40) * w29))), (8, vL v12), (6, vL w5), (5, vI v1), (0, vR 55), (1, vI place), (2, vI said), (3, vI done), (4, vI depth)]) (st' := [vI v1, vR 46]) B53_160_162 rfl ?_
        refine r_iald (pc' := 163) D53_162 rfl sc_46 H14.1 (by omega) ?_
        intro w57 e58 r59
        unfold inR at r59
        refine r_goto (tgt := 167) D53_163 rfl ?_
        refine s_blx (lv' := [(13, vI 0), (12, vI w57), (10, vL z51), (8, vL v12), (6, vL w5), (5, vI v1), (0, vR 55), (1, vI place), (2, vI said), (3, vI done), (4, vI depth)]) (st' := []) B53_167_172 rfl ?_
        refine r_loc (lv' := [(0, vR 55), (1, vI place), (2, vI said), (3, vI done), (4, vI depth), (10, vL z51), (12, vI w57), (13, vI 0)]) ⟨rfl, rfl, rfl, rfl, rfl, rfl, rfl, rfl, trivial⟩ rfl rfl ?_
        exact (L_k53_55l E hd H place said done depth n h0 h1 h2 h3 h4 h5 h6 h7 (((8 - 0) * 1 + 0 : Int) + 1).toNat) z51 w57 0 M13 H14 f17 (by omega) (by omega) (by omega) (by omega) (by omega) (by omega)
  · refine s_blx (lv' := [(10, vL v21), (8, vL v12), (6, vL w5), (5, vI v1), (0, vR 55), (1, vI place), (2, vI said), (3, vI done), (4, vI depth)]) (st' := [vI 1, vL v12, vL v21]) B53_77_82 rfl ?_
    refine r_sLp (args := [vL v12, vI 1]) (rest := [vL v21]) (pc' := 85) D53_82 rfl ck_7_static_93 TE51 rfl (Nat.le_of_ble_eq_true rfl) ⟨Nat.le_of_ble_eq_true rfl, Nat.le_of_ble_eq_true rfl⟩ (by decide) (dp_0 hd rfl) (k51l E (dp_n hd rfl) H14 v12 1 (by omega)) ?_
    intro v60 q63
    have q62 := q63
    refine r_minE (pc' := 88) D53_85 rfl mc_7_static_100 sp_7_100 (Nat.le_of_ble_eq_true rfl) ?_
    intro z64 hm65
    exact r_lretL D53_88 rfl (⟨H14, f17, by omega⟩)
