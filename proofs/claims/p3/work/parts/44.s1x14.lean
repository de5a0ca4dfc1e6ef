set_option maxRecDepth 4000 in
theorem L_k52_36 {base : Nat} {X : Nat → Option mC} {G : Nat → Value} (E : EnvOK base X G) {rr : Nat} (ihr : ∀ {d : Nat} (_ : 8 + 4 * rr ≤ d) {M : mH} (_ : HI base M) (place : Int) (said : Int) (done : Int) (depth : Int) (n : Int), (RW base 37 n M) → (TR 21 n M) → (1 ≤ n ∧ n ≤ 145) → (0 ≤ done ∧ done ≤ 3 ∧ 0 ≤ said ∧ said ≤ 1110) → (1 ≤ place ∧ place < n) → ((done = 0 ∧ said = 0) ∨ (done = 1 ∧ 1 ≤ said ∧ said ≤ 10) ∨ (done = 2 ∧ 11 ≤ said ∧ said ≤ 110) ∨ (done = 3 ∧ 111 ≤ said ∧ said ≤ 1110)) → (0 ≤ depth ∧ depth ≤ 41) → 41 - depth < ((rr : Nat) : Int) → sOk base X G d T52 [vR 36, vI place, vI said, vI done, vI depth] M (pL (fun v M' => HI base M' ∧ Fq [(38, 0)] M M'))) {d : Nat} (hd : 8 + 4 * (rr + 1) ≤ d) {M : mH} (H : HI base M) (place : Int) (said : Int) (done : Int) (depth : Int) (n : Int) (h0 : RW base 37 n M) (h1 : TR 21 n M) (h2 : 1 ≤ n ∧ n ≤ 145) (h3 : 0 ≤ done ∧ done ≤ 3 ∧ 0 ≤ said ∧ said ≤ 1110) (h4 : 1 ≤ place ∧ place < n) (h5 : (done = 0 ∧ said = 0) ∨ (done = 1 ∧ 1 ≤ said ∧ said ≤ 10) ∨ (done = 2 ∧ 11 ≤ said ∧ said ≤ 110) ∨ (done = 3 ∧ 111 ≤ said ∧ said ≤ 1110)) (h6 : 0 ≤ depth ∧ depth ≤ 41) (hrr : 41 - depth < ((rr + 1 : Nat) : Int)) : ∀ mz : Nat, (∀ (x5 x7 x8 x9 x10 : Int) (N : mH), HI base N → Fq [(38, 0)] M N → ((done - 1 - x10 = 0 ∧ x9 = 1 ∧ said = x8) ∨ (done - 1 - x10 = 1 ∧ x9 = 10 ∧ 1 ≤ said - 10 * x8 ∧ said - 10 * x8 ≤ 10) ∨ (done - 1 - x10 = 2 ∧ x9 = 100 ∧ 11 ≤ said - 100 * x8 ∧ said - 100 * x8 ≤ 110) ∨ (done - 1 - x10 = 3 ∧ x9 = 1000 ∧ 111 ≤ said - 1000 * x8 ∧ said - 1000 * x8 ≤ 1110)) → (((x10 + 1) = 0 ∧ x8 = 0) ∨ ((x10 + 1) = 1 ∧ 1 ≤ x8 ∧ x8 ≤ 10) ∨ ((x10 + 1) = 2 ∧ 11 ≤ x8 ∧ x8 ≤ 110) ∨ ((x10 + 1) = 3 ∧ 111 ≤ x8 ∧ x8 ≤ 1110)) → (0 ≤ x8 ∧ x8 ≤ 1110) → (1 ≤ x9 ∧ x9 ≤ 1000) → (-1 ≤ x10 ∧ x10 ≤ 2) → (0 ≤ x7) → ((-1) ≤ x8) → (x8 ≤ 1110) → (1 ≤ x9) → (x9 ≤ 10000) → ((-1) ≤ x10) → (x10 ≤ 2) → (0 ≤ depth) → (depth ≤ 40) → (x10 + 1) * 1 + 0 < (mz : Int) → sRn base X G d T52 77 [(0, vR 36), (1, vI place), (2, vI said), (3, vI done), (4, vI depth), (5, vL x5), (7, vI x7), (8, vI x8), (9, vI x9), (10, vI x10)] [] N (s_Q base (pL (fun v M' => HI base M' ∧ Fq [(38, 0)] M M')))) := by
  have f0 : Fq [(38, 0)] M M := Fq.rf
  intro mz
  induction mz with
  | zero => exact fun x5 x7 x8 x9 x10 N _ _ z0 z1 z2 z3 z4 z5 z6 z7 z8 z9 z10 z11 z12 z13 z14 => by omega
  | succ mz ih =>
    intro x5 x7 x8 x9 x10 N HN fN i0 i1 i2 i3 i4 i5 i6 i7 i8 i9 i10 i11 i12 i13 hmu
    refine s_blx (lv' := [(0, vR 36), (1, vI place), (2, vI said), (3, vI done), (4, vI depth), (5, vL x5), (7, vI x7), (8, vI x8), (9, vI x9), (10, vI x10)]) (st' := [vI x10]) B52_77_79 rfl ?_
    refine r_ifc (tgt := 140) (pc' := 82) D52_79 rfl rfl (by unfold inR; omega) (fun (c31 : x10 < 0) => ?_) (fun (c31 : ¬ (x10 < 0)) => ?_)
    · refine s_blx (lv' := [(0, vR 36), (1, vI place), (2, vI said), (3, vI done), (4, vI depth), (5, vL x5), (7, vI x7), (8, vI x8), (9, vI x9), (10, vI x10)]) (st' := [vI 3, vI done]) B52_140_142 rfl ?_
      refine r_icmp (tgt := 197) (pc' := 145) D52_142 rfl rfl (by unfold inR; omega) (fun (c32 : done ≠ 3) => ?_) (fun (c32 : ¬ (done ≠ 3)) => ?_)
      · refine s_blx (lv' := [(0, vR 36), (1, vI place), (2, vI said), (3, vI done), (4, vI depth), (5, vL x5), (7, vI x7), (8, vI x8), (9, vI x9), (10, vI x10)]) (st' := [vL x5]) B52_197_199 rfl ?_
        exact r_lretL D52_199 rfl (⟨HN, fN⟩)
      · refine s_blx (lv' := [(0, vR 36), (1, vI place), (2, vI said), (3, vI done), (4, vI depth), (5, vL x5), (7, vI x7), (8, vI x8), (9, vI x9), (10, vI x10)]) (st' := [vR 36]) B52_145_146 rfl ?_
        refine r_gfix (r := 20) (pc' := 149) D52_146 rfl gf_7_31_36 HN.1 ?_
        refine r_gfix (r := 25) (pc' := 152) D52_149 rfl gf_7_84_20 HN.1 ?_
        refine s_blx (lv' := [(0, vR 36), (1, vI place), (2, vI said), (3, vI done), (4, vI depth), (5, vL x5), (7, vI x7), (8, vI x8), (9, vI x9), (10, vI x10)]) (st' := [vI place, vR 25]) B52_152_153 rfl ?_
        refine r_bald (pc' := 154) D52_153 rfl sc_25 (by decide) HN.1 (by omega) ?_
        intro w33 e34 r35
        have b_w33 := HN.2 25 (place) 0 1 rfl
        rw [← e34] at b_w33; clear r35
        refine r_ifc (tgt := 197) (pc' := 157) D52_154 rfl rfl (by unfold inR; omega) (fun (c36 : w33 = 0) => ?_) (fun (c36 : ¬ (w33 = 0)) => ?_)
        · refine s_blx (lv' := [(0, vR 36), (1, vI place), (2, vI said), (3, vI done), (4, vI depth), (5, vL x5), (7, vI x7), (8, vI x8), (9, vI x9), (10, vI x10)]) (st' := [vL x5]) B52_197_199 rfl ?_
          exact r_lretL D52_199 rfl (⟨HN, fN⟩)
        · refine s_blx (lv' := [(0, vR 36), (1, vI place), (2, vI said), (3, vI done), (4, vI depth), (5, vL x5), (7, vI x7), (8, vI x8), (9, vI x9), (10, vI x10)]) (st' := [vR 36]) B52_157_158 rfl ?_
          refine r_gfix (r := 20) (pc' := 161) D52_158 rfl gf_7_31_36 HN.1 ?_
          refine r_gfix (r := 23) (pc' := 164) D52_161 rfl gf_7_39_20 HN.1 ?_
          refine s_blx (lv' := [(0, vR 36), (1, vI place), (2, vI said), (3, vI done), (4, vI depth), (5, vL x5), (7, vI x7), (8, vI x8), (9, vI x9), (10, vI x10)]) (st' := [vI place, vR 23]) B52_164_165 rfl ?_
          refine r_iald (pc' := 166) D52_165 rfl sc_23 HN.1 (by omega) ?_
          intro w37 e38 r39
          unfold inR at r39
          refine r_i2l (pc' := 167) D52_166 rfl (by unfold inR; omega) ?_
          refine s_blx (lv' := [(0, vR 36), (1, vI place), (2, vI said), (3, vI done), (4, vI depth), (5, vL x5), (7, vI x7), (8, vI x8), (9, vI x9), (10, vI x10)]) (st' := [vR 36, vL w37]) B52_167_168 rfl ?_
          refine r_gfix (r := 20) (pc' := 171) D52_168 rfl gf_7_31_36 HN.1 ?_
          refine r_gfix (r := 34) (pc' := 174) D52_171 rfl gf_7_110_20 HN.1 ?_
          refine s_blx (lv' := [(0, vR 36), (1, vI place), (2, vI said), (3, vI done), (4, vI depth), (5, vL x5), (7, vI x7), (8, vI x8), (9, vI x9), (10, vI x10)]) (st' := [vI 4, vR 34, vL w37]) B52_174_175 rfl ?_
          refine r_iald (pc' := 176) D52_175 rfl sc_34 HN.1 (by omega) ?_
          intro w40 e41 r42
          have b_w40 := HN.2 34 (4) 0 1000 rfl
          rw [← e41] at b_w40; clear r42
          refine r_i2l (pc' := 177) D52_176 rfl (by unfold inR; omega) ?_
          refine s_blx (lv' := [(0, vR 36), (1, vI place), (2, vI said), (3, vI done), (4, vI depth), (5, vL x5), (7, vI x7), (8, vI x8), (9, vI x9), (10, vI x10)]) (st' := [vI x7, vL (w37 * w40)]) B52_177_180 rfl ?_
          refine r_norm ?_
          intro z43 r44 _; unfold inR at r44
          refine r_i2l (pc' := 181) D52_180 rfl (by unfold inR; omega) ?_
          refine s_blx (lv' := [(10, vL ((w37 * w40) * z43)), (0, vR 36), (1, vI place), (2, vI said), (3, vI done), (4, vI depth), (5, vL x5), (7, vI x7), (8, vI x8), (9, vI x9)]) (st' := [vI 4, vL ((w37 * w40) * z43), vL x5]) B52_181_189 rfl ?_
          refine r_sLp (args := [vL ((w37 * w40) * z43), vI 4]) (rest := [vL x5]) (pc' := 192) D52_189 rfl ck_7_static_93 TE51 rfl (Nat.le_of_ble_eq_true rfl) ⟨Nat.le_of_ble_eq_true rfl, Nat.le_of_ble_eq_true rfl⟩ (by decide) (by omega) (k51 E (by omega) HN ((w37 * w40) * z43) 4 (by omega)) ?_
          intro v45 q47
          refine r_minX (pc' := 195) D52_192 rfl mc_7_static_100 sp_7_100 (Nat.le_of_ble_eq_true rfl) ?_
          intro z48
          refine s_blx (lv' := [(5, vL z48), (10, vL ((w37 * w40) * z43)), (0, vR 36), (1, vI place), (2, vI said), (3, vI done), (4, vI depth), (7, vI x7), (8, vI x8), (9, vI x9)]) (st' := [vL z48]) B52_195_199 rfl ?_
          exact r_lretL D52_199 rfl (⟨HN, fN⟩)
    · refine s_blx (lv' := [(0, vR 36), (1, vI place), (2, vI said), (3, vI done), (4, vI depth), (5, vL x5), (7, vI x7), (8, vI x8), (9, vI x9), (10, vI x10)]) (st' := [vI 10, vI (x8 - 1)]) B52_82_88 rfl ?_
      refine r_irem (pc' := 89) D52_88 rfl (by omega) ?_
      refine s_blx (lv' := [(0, vR 36), (1, vI place), (2, vI said), (3, vI done), (4, vI depth), (5, vL x5), (7, vI x7), (8, vI x8), (9, vI x9), (10, vI x10)]) (st' := [vI 9, vI ((x8 - 1) % 10)]) B52_89_91 rfl ?_
      refine r_icmp (tgt := 118) (pc' := 94) D52_91 rfl rfl (by unfold inR; omega) (fun (c49 : ((x8 - 1) % 10) ≠ 9) => ?_) (fun (c49 : ¬ (((x8 - 1) % 10) ≠ 9)) => ?_)
      · refine s_blx (lv' := [(0, vR 36), (1, vI place), (2, vI said), (3, vI done), (4, vI depth), (5, vL x5), (7, vI x7), (8, vI x8), (9, vI x9), (10, vI x10)]) (st' := [vI 10, vI (x8 - 1)]) B52_118_124 rfl ?_
        refine r_idiv (pc' := 125) D52_124 rfl (by omega) ?_
        refine s_blx (lv' := [(10, vI (x10 + (-1))), (9, vI (x9 * 10)), (8, vI ((x8 - 1) / 10)), (0, vR 36), (1, vI place), (2, vI said), (3, vI done), (4, vI depth), (5, vL x5), (7, vI x7)]) (st' := []) B52_125_137 rfl ?_
        refine r_goto (tgt := 77) D52_137 rfl ?_
        refine r_loc (lv' := [(0, vR 36), (1, vI place), (2, vI said), (3, vI done), (4, vI depth), (5, vL x5), (7, vI x7), (8, vI ((x8 - 1) / 10)), (9, vI (x9 * 10)), (10, vI (x10 + (-1)))]) ⟨rfl, rfl, rfl, rfl, rfl, rfl, rfl, rfl, rfl, rfl, trivial⟩ rfl rfl ?_
        exact ih x5 x7 ((x8 - 1) / 10) (x9 * 10) (x10 + (-1)) N HN fN (by rcases i0 with ⟨z1, rfl, z2⟩ | ⟨z1, rfl, z2⟩ | ⟨z1, rfl, z2⟩ | ⟨z1, rfl, z2⟩ <;> omega) (by omega) (by omega) (by omega) (by omega) (by omega) (by omega) (by omega) (by omega) (by omega) (by omega) (by omega) (by omega) (by omega) (by omega)
      · refine s_blx (lv' := [(7, vI (x7 + 1)), (0, vR 36), (1, vI place), (2, vI said), (3, vI done), (4, vI depth), (5, vL x5), (8, vI x8), (9, vI x9), (10, vI x10)]) (st' := [vI depth, vI x10, vI done, vI (said - x9), vI place, vR 36, vL x5]) B52_94_110 rfl ?_
        refine r_vL (c := 36) (args := [vI place, vI (said - x9), vI done, vI x10, vI depth]) (rest := [vL x5]) (pc' := 113) D52_110 rfl ck_7_virtual_106 TE54 rfl (Nat.le_of_ble_eq_true rfl) ⟨Nat.le_of_ble_eq_true rfl, Nat.le_of_ble_eq_true rfl⟩ sc_36 ⟨rfl, by decide⟩ HN.1 (by omega) (k54_36 E ihr (by omega) HN place (said - x9) done x10 depth n ((h0.fq fN rfl)) ((h1.fq fN rfl)) (by omega) (by rcases i0 with ⟨z1, rfl, z2⟩ | ⟨z1, rfl, z2⟩ | ⟨z1, rfl, z2⟩ | ⟨z1, rfl, z2⟩ <;> omega) (by omega) (by rcases i0 with ⟨z1, rfl, z2⟩ | ⟨z1, rfl, z2⟩ | ⟨z1, rfl, z2⟩ | ⟨z1, rfl, z2⟩ <;> omega) (by omega) (by omega)) ?_
        intro v50 M51 q54
        obtain ⟨H52, f53⟩ := q54
        have f55 := fN.tr (f53.up rfl)
        refine r_minX (pc' := 116) D52_113 rfl mc_7_static_100 sp_7_100 (Nat.le_of_ble_eq_true rfl) ?_
        intro z56
        refine s_blx (lv' := [(5, vL z56), (7, vI (x7 + 1)), (0, vR 36), (1, vI place), (2, vI said), (3, vI done), (4, vI depth), (8, vI x8), (9, vI x9), (10, vI x10)]) (st' := [vI 10, vI (x8 - 1)]) B52_116_124 rfl ?_
        refine r_idiv (pc' := 125) D52_124 rfl (by omega) ?_
        refine s_blx (lv' := [(10, vI (x10 + (-1))), (9, vI (x9 * 10)), (8, vI ((x8 - 1) / 10)), (5, vL z56), (7, vI (x7 + 1)), (0, vR 36), (1, vI place), (2, vI said), (3, vI done), (4, vI depth)]) (st' := []) B52_125_137 rfl ?_
        refine r_goto (tgt := 77) D52_137 rfl ?_
        refine r_loc (lv' := [(0, vR 36), (1, vI place), (2, vI said), (3, vI done), (4, vI depth), (5, vL z56), (7, vI (x7 + 1)), (8, vI ((x8 - 1) / 10)), (9, vI (x9 * 10)), (10, vI (x10 + (-1)))]) ⟨rfl, rfl, rfl, rfl, rfl, rfl, rfl, rfl, rfl, rfl, trivial⟩ rfl rfl ?_
        exact ih z56 (x7 + 1) ((x8 - 1) / 10) (x9 * 10) (x10 + (-1)) M51 H52 f55 (by rcases i0 with ⟨z1, rfl, z2⟩ | ⟨z1, rfl, z2⟩ | ⟨z1, rfl, z2⟩ | ⟨z1, rfl, z2⟩ <;> omega) (by omega) (by omega) (by omega) (by omega) (by omega) (by omega) (by omega) (by omega) (by omega) (by omega) (by omega) (by omega) (by omega) (by omega)
