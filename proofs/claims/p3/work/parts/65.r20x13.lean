set_option maxRecDepth 4000 in
set_option maxHeartbeats 4000000 in
theorem L_k264k {base : Nat} {X : Nat → Option mC} {G : Nat → Value} (E : EnvOK base X G) {d : Nat} (hd : 70 ≤ d) {M : mH} (H : HI base M) (what : Int) (K : Int → Int) (h0 : TB M) (h1 : KK K M) (h2 : GK M) (h3 : -2147483648 ≤ what ∧ what ≤ 2147483647) : ∀ mz : Nat, (∀ (x2 x3 x4 : Int) (N : mH), HI base N → Fr [(77, 7), (77, 8), (77, 9), (77, 10), (77, 14), (77, 15), (77, 16), (77, 41), (77, 42), (77, 43), (77, 46), (77, 47), (83, 0), (84, 0), (85, 0), (100, 0), (101, 0), (109, 0), (110, 0)] M N → (0 ≤ x4 ∧ x4 ≤ 16) → ((-1) ≤ x2) → (0 ≤ x3) → (0 ≤ x4) → (x4 ≤ 16) → (0 ≤ what) → (what ≤ 1) → (16 - x4) * 316 + 315 < (mz : Int) → sRn base X G d T264 18 [(0, vR 77), (1, vI what), (2, vI x2), (3, vI x3), (4, vI x4)] [] N (s_Q base (pI (fun v M' => HI base M' ∧ Fr [(77, 7), (77, 8), (77, 9), (77, 10), (77, 14), (77, 15), (77, 16), (77, 41), (77, 42), (77, 43), (77, 46), (77, 47), (83, 0), (84, 0), (85, 0), (100, 0), (101, 0), (109, 0), (110, 0)] M M' ∧ (-2147483648 ≤ v ∧ v ≤ 2147483647))))) ∧ (∀ (x2 x3 x4 x5 x6 : Int) (N : mH), HI base N → Fr [(77, 7), (77, 8), (77, 9), (77, 10), (77, 14), (77, 15), (77, 16), (77, 41), (77, 42), (77, 43), (77, 46), (77, 47), (83, 0), (84, 0), (85, 0), (100, 0), (101, 0), (109, 0), (110, 0)] M N → (0 ≤ x4 ∧ x4 ≤ 15) → (x4 < K 469) → (1 ≤ K (135 + 16 * x4 + 12 + K 474)) → (0 ≤ x6 ∧ x6 ≤ 8) → ((-1) ≤ x2) → (0 ≤ x3) → (0 ≤ x4) → (x4 ≤ 15) → (0 ≤ x5) → (0 ≤ x6) → (x6 ≤ 8) → (0 ≤ what) → (what ≤ 1) → (16 - x4) * 316 + 0 + (8 - x6) * 35 + 34 < (mz : Int) → sRn base X G d T264 49 [(0, vR 77), (1, vI what), (2, vI x2), (3, vI x3), (4, vI x4), (5, vI x5), (6, vI x6)] [] N (s_Q base (pI (fun v M' => HI base M' ∧ Fr [(77, 7), (77, 8), (77, 9), (77, 10), (77, 14), (77, 15), (77, 16), (77, 41), (77, 42), (77, 43), (77, 46), (77, 47), (83, 0), (84, 0), (85, 0), (100, 0), (101, 0), (109, 0), (110, 0)] M M' ∧ (-2147483648 ≤ v ∧ v ≤ 2147483647))))) ∧ (∀ (x2 x3 x4 x5 x6 x7 : Int) (N : mH), HI base N → Fr [(77, 7), (77, 8), (77, 9), (77, 10), (77, 14), (77, 15), (77, 16), (77, 41), (77, 42), (77, 43), (77, 46), (77, 47), (83, 0), (84, 0), (85, 0), (100, 0), (101, 0), (109, 0), (110, 0)] M N → (0 ≤ x4 ∧ x4 ≤ 15) → (x4 < K 469) → (1 ≤ K (135 + 16 * x4 + 12 + K 474)) → (0 ≤ x6 ∧ x6 ≤ 7) → (0 ≤ x7 ∧ x7 ≤ 24) → ((-1) ≤ x2) → (0 ≤ x3) → (0 ≤ x4) → (x4 ≤ 15) → (0 ≤ x5) → (0 ≤ x6) → (x6 ≤ 7) → (0 ≤ x7) → (x7 ≤ 24) → (0 ≤ what) → (what ≤ 1) → (16 - x4) * 316 + 0 + (8 - x6) * 35 + 0 + (24 - x7) * 1 + 9 < (mz : Int) → sRn base X G d T264 85 [(0, vR 77), (1, vI what), (2, vI x2), (3, vI x3), (4, vI x4), (5, vI x5), (6, vI x6), (7, vI x7)] [] N (s_Q base (pI (fun v M' => HI base M' ∧ Fr [(77, 7), (77, 8), (77, 9), (77, 10), (77, 14), (77, 15), (77, 16), (77, 41), (77, 42), (77, 43), (77, 46), (77, 47), (83, 0), (84, 0), (85, 0), (100, 0), (101, 0), (109, 0), (110, 0)] M M' ∧ (-2147483648 ≤ v ∧ v ≤ 2147483647))))) ∧ (∀ (x2 x3 x4 x5 x6 x7 : Int) (N : mH), HI base N → Fr [(77, 7), (77, 8), (77, 9), (77, 10), (77, 14), (77, 15), (77, 16), (77, 41), (77, 42), (77, 43), (77, 46), (77, 47), (83, 0), (84, 0), (85, 0), (100, 0), (101, 0), (109, 0), (110, 0)] M N → (0 ≤ x4 ∧ x4 ≤ 15) → (x4 < K 469) → (1 ≤ K (135 + 16 * x4 + 12 + K 474)) → (0 ≤ x6 ∧ x6 ≤ 7) → (0 ≤ x7 ∧ x7 ≤ 8) → ((-1) ≤ x2) → (0 ≤ x3) → (0 ≤ x4) → (x4 ≤ 15) → (0 ≤ x5) → (0 ≤ x6) → (x6 ≤ 7) → (0 ≤ x7) → (x7 ≤ 7) → (0 ≤ what) → (what ≤ 1) → (16 - x4) * 316 + 0 + (8 - x6) * 35 + 0 + (8 - x7) * 1 + 0 < (mz : Int) → sRn base X G d T264 123 [(0, vR 77), (1, vI what), (2, vI x2), (3, vI x3), (4, vI x4), (5, vI x5), (6, vI x6), (7, vI x7)] [] N (s_Q base (pI (fun v M' => HI base M' ∧ Fr [(77, 7), (77, 8), (77, 9), (77, 10), (77, 14), (77, 15), (77, 16), (77, 41), (77, 42), (77, 43), (77, 46), (77, 47), (83, 0), (84, 0), (85, 0), (100, 0), (101, 0), (109, 0), (110, 0)] M M' ∧ (-2147483648 ≤ v ∧ v ≤ 2147483647))))) := by
  have f0 : Fr [(77, 7), (77, 8), (77, 9), (77, 10), (77, 14), (77, 15), (77, 16), (77, 41), (77, 42), (77, 43), (77, 46), (77, 47), (83, 0), (84, 0), (85, 0), (100, 0), (101, 0), (109, 0), (110, 0)] M M := Fr.rf
  intro mz
  induction mz with
  | zero => exact ⟨fun x2 x3 x4 N _ _ z0 z1 z2 z3 z4 z5 z6 z7 => by omega, fun x2 x3 x4 x5 x6 N _ _ z0 z1 z2 z3 z4 z5 z6 z7 z8 z9 z10 z11 z12 z13 => by omega, fun x2 x3 x4 x5 x6 x7 N _ _ z0 z1 z2 z3 z4 z5 z6 z7 z8 z9 z10 z11 z12 z13 z14 z15 z16 => by omega, fun x2 x3 x4 x5 x6 x7 N _ _ z0 z1 z2 z3 z4 z5 z6 z7 z8 z9 z10 z11 z12 z13 z14 z15 z16 => by omega⟩
  | succ mz ih =>
    refine ⟨?_, ?_, ?_, ?_⟩
    · intro x2 x3 x4 N HN fN i0 i1 i2 i3 i4 i5 i6 hmu
      refine s_blx (lv' := [(0, vR 77), (1, vI what), (2, vI x2), (3, vI x3), (4, vI x4)]) (st' := [vR 77, vI x4]) B264_18_21 rfl ?_
      refine r_gfix (r := 78) (pc' := 24) D264_21 rfl gf_11_13_77 HN.1 ?_
      refine s_blx (lv' := [(0, vR 77), (1, vI what), (2, vI x2), (3, vI x3), (4, vI x4)]) (st' := [vI 469, vR 78, vI x4]) B264_24_27 rfl ?_
      refine r_iald (pc' := 28) D264_27 rfl sc_78 HN.1 (by omega) ?_
      intro w8 e9 r10
      have kk_w8 := ((h1.fr fN rfl)) (469)
      have b_w8 := HN.2 78 (469) 0 16 (rk_many (by omega))
      rw [← e9] at b_w8; clear r10
      refine r_icmp (tgt := 184) (pc' := 31) D264_28 rfl rfl (by unfold inR; omega) (fun (c11 : w8 ≤ x4) => ?_) (fun (c11 : ¬ (w8 ≤ x4)) => ?_)
      · refine s_blx (lv' := [(0, vR 77), (1, vI what), (2, vI x2), (3, vI x3), (4, vI x4)]) (st' := [vI what]) B264_184_185 rfl ?_
        refine r_ifc (tgt := 193) (pc' := 188) D264_185 rfl rfl (by unfold inR; omega) (fun (c12 : what = 0) => ?_) (fun (c12 : ¬ (what = 0)) => ?_)
        · refine s_blx (lv' := [(0, vR 77), (1, vI what), (2, vI x2), (3, vI x3), (4, vI x4)]) (st' := [vI x2]) B264_193_194 rfl ?_
          refine r_goto (tgt := 198) D264_194 rfl ?_
          refine r_norm ?_
          intro z13 r14 _; unfold inR at r14
          exact r_iretI D264_198 rfl (⟨HN, fN, by omega⟩)
        · refine s_blx (lv' := [(0, vR 77), (1, vI what), (2, vI x2), (3, vI x3), (4, vI x4)]) (st' := [vI (-1), vI x2]) B264_188_190 rfl ?_
          refine r_norm2 ?_
          intro z15 r16 _; unfold inR at r16
          refine r_icmp (tgt := 197) (pc' := 193) D264_190 rfl rfl (by unfold inR; omega) (fun (c17 : z15 ≠ (-1)) => ?_) (fun (c17 : ¬ (z15 ≠ (-1))) => ?_)
          · refine s_blx (lv' := [(0, vR 77), (1, vI what), (2, vI x2), (3, vI x3), (4, vI x4)]) (st' := [vI x3]) B264_197_198 rfl ?_
            refine r_norm ?_
            intro z18 r19 _; unfold inR at r19
            exact r_iretI D264_198 rfl (⟨HN, fN, by omega⟩)
          · refine s_blx (lv' := [(0, vR 77), (1, vI what), (2, vI x2), (3, vI x3), (4, vI x4)]) (st' := [vI x2]) B264_193_194 rfl ?_
            refine r_goto (tgt := 198) D264_194 rfl ?_
            refine r_norm ?_
            intro z20 r21 _; unfold inR at r21
            exact r_iretI D264_198 rfl (⟨HN, fN, by omega⟩)
      · refine s_blx (lv' := [(0, vR 77), (1, vI what), (2, vI x2), (3, vI x3), (4, vI x4)]) (st' := [vI x4, vR 77]) B264_31_34 rfl ?_
        refine r_vIp (c := 77) (args := [vI x4]) (rest := []) (pc' := 37) D264_34 rfl ck_11_virtual_138 TE159 rfl (Nat.le_of_ble_eq_true rfl) ⟨Nat.le_of_ble_eq_true rfl, Nat.le_of_ble_eq_true rfl⟩ sc_77 ⟨rfl, by decide⟩ HN.1 (dp_0 hd rfl) (k159f E (dp_n hd rfl) HN x4 K ((h1.fr fN rfl)) (by omega)) ?_
        intro v22 q26
        obtain ⟨q24, q25⟩ := q26
        have kw := q25
        refine r_ifc (tgt := 43) (pc' := 40) D264_37 rfl rfl (by unfold inR; omega) (fun (c27 : v22 ≠ 0) => ?_) (fun (c27 : ¬ (v22 ≠ 0)) => ?_)
        · refine s_blx (lv' := [(6, vI 0), (5, vI 0), (0, vR 77), (1, vI what), (2, vI x2), (3, vI x3), (4, vI x4)]) (st' := []) B264_43_49 rfl ?_
          refine r_loc (lv' := [(0, vR 77), (1, vI what), (2, vI x2), (3, vI x3), (4, vI x4), (5, vI 0), (6, vI 0)]) ⟨rfl, rfl, rfl, rfl, rfl, rfl, rfl, trivial⟩ rfl rfl ?_
          exact ih.2.1 x2 x3 x4 0 0 N HN fN (by omega) (by omega) (by omega) (by omega) (by omega) (by omega) (by omega) (by omega) (by omega) (by omega) (by omega) (by omega) (by omega) (by omega)
        · refine r_goto (tgt := 178) D264_40 rfl ?_
          refine s_blx (lv' := [(4, vI (x4 + 1)), (0, vR 77), (1, vI what), (2, vI x2), (3, vI x3)]) (st' := []) B264_178_181 rfl ?_
          refine r_goto (tgt := 18) D264_181 rfl ?_
          refine r_loc (lv' := [(0, vR 77), (1, vI what), (2, vI x2), (3, vI x3), (4, vI (x4 + 1))]) ⟨rfl, rfl, rfl, rfl, rfl, trivial⟩ rfl rfl ?_
          exact ih.1 x2 x3 (x4 + 1) N HN fN (by omega) (by omega) (by omega) (by omega) (by omega) (by omega) (by omega) (by omega)
    · intro x2 x3 x4 x5 x6 N HN fN i0 i1 i2 i3 i4 i5 i6 i7 i8 i9 i10 i11 i12 hmu
      refine s_blx (lv' := [(0, vR 77), (1, vI what), (2, vI x2), (3, vI x3), (4, vI x4), (5, vI x5), (6, vI x6)]) (st' := [vR 77, vI x6]) B264_49_52 rfl ?_
      refine r_gfix (r := 78) (pc' := 55) D264_52 rfl gf_11_13_77 HN.1 ?_
      refine s_blx (lv' := [(0, vR 77), (1, vI what), (2, vI x2), (3, vI x3), (4, vI x4), (5, vI x5), (6, vI x6)]) (st' := [vI 471, vR 78, vI x6]) B264_55_58 rfl ?_
      refine r_iald (pc' := 59) D264_58 rfl sc_78 HN.1 (by omega) ?_
      intro w28 e29 r30
      have kk_w28 := ((h1.fr fN rfl)) (471)
      have b_w28 := HN.2 78 (471) 0 8 (rk_told (by omega))
      rw [← e29] at b_w28; clear r30
      refine r_icmp (tgt := 163) (pc' := 62) D264_59 rfl rfl (by unfold inR; omega) (fun (c31 : w28 ≤ x6) => ?_) (fun (c31 : ¬ (w28 ≤ x6)) => ?_)
      · refine s_blx (lv' := [(0, vR 77), (1, vI what), (2, vI x2), (3, vI x3), (4, vI x4), (5, vI x5), (6, vI x6)]) (st' := [vI x3, vI x5]) B264_163_166 rfl ?_
        refine r_norm ?_
        intro z32 r33 _; unfold inR at r33
        refine r_norm2 ?_
        intro z34 r35 _; unfold inR at r35
        refine r_icmp (tgt := 172) (pc' := 169) D264_166 rfl rfl (by unfold inR; omega) (fun (c36 : z32 < z34) => ?_) (fun (c36 : ¬ (z32 < z34)) => ?_)
        · refine s_blx (lv' := [(4, vI (x4 + 1)), (2, vI x4), (3, vI x5), (0, vR 77), (1, vI what), (5, vI x5), (6, vI x6)]) (st' := []) B264_172_181 rfl ?_
          refine r_goto (tgt := 18) D264_181 rfl ?_
          refine r_loc (lv' := [(0, vR 77), (1, vI what), (2, vI x4), (3, vI x5), (4, vI (x4 + 1))]) ⟨rfl, rfl, rfl, rfl, rfl, trivial⟩ rfl rfl ?_
          exact ih.1 x4 x5 (x4 + 1) N HN fN (by omega) (by omega) (by omega) (by omega) (by omega) (by omega) (by omega) (by omega)
        · refine r_goto (tgt := 178) D264_169 rfl ?_
          refine s_blx (lv' := [(4, vI (x4 + 1)), (0, vR 77), (1, vI what), (2, vI x2), (3, vI x3), (5, vI x5), (6, vI x6)]) (st' := []) B264_178_181 rfl ?_
          refine r_goto (tgt := 18) D264_181 rfl ?_
          refine r_loc (lv' := [(0, vR 77), (1, vI what), (2, vI x2), (3, vI x3), (4, vI (x4 + 1))]) ⟨rfl, rfl, rfl, rfl, rfl, trivial⟩ rfl rfl ?_
          exact ih.1 x2 x3 (x4 + 1) N HN fN (by omega) (by omega) (by omega) (by omega) (by omega) (by omega) (by omega) (by omega)
      · refine s_blx (lv' := [(0, vR 77), (1, vI what), (2, vI x2), (3, vI x3), (4, vI x4), (5, vI x5), (6, vI x6)]) (st' := [vI x4, vI x6, vR 77]) B264_62_67 rfl ?_
        refine r_vL (c := 77) (args := [vI x6, vI x4]) (rest := []) (pc' := 70) D264_67 rfl ck_11_virtual_446 TE247 rfl (Nat.le_of_ble_eq_true rfl) ⟨Nat.le_of_ble_eq_true rfl, Nat.le_of_ble_eq_true rfl⟩ sc_77 ⟨rfl, by decide⟩ HN.1 (dp_0 hd rfl) (k247k E (dp_n hd rfl) HN x6 x4 K ((h0.fr fN rfl)) ((h1.fr fN rfl)) ((h2.fr fN rfl)) (by omega) (by omega) (by omega) (by omega) (by omega)) ?_
        intro v37 M38 q41
        obtain ⟨H39, f40⟩ := q41
        have f42 := fN.tr (f40.up rfl)
        refine s_blx (lv' := [(0, vR 77), (1, vI what), (2, vI x2), (3, vI x3), (4, vI x4), (5, vI x5), (6, vI x6)]) (st' := [vR 77]) B264_70_72 rfl ?_
        refine r_gfix (r := 110) (pc' := 75) D264_72 rfl gf_11_120_77 H39.1 ?_
        refine s_blx (lv' := [(0, vR 77), (1, vI what), (2, vI x2), (3, vI x3), (4, vI x4), (5, vI x5), (6, vI x6)]) (st' := [vR 77, vI x6, vR 110]) B264_75_78 rfl ?_
        refine r_gint (ki := 45) (pc' := 81) D264_78 rfl gf_11_437_77 rfl H39.1 ?_
        intro w43 e44 r45
        have b_w43 := H39.2 77 (45) 0 24 rfl
        rw [← e44] at b_w43; clear r45
        refine r_iast (pc' := 82) D264_81 rfl sc_110 H39 (by omega) (by unfold inR; omega) (show 0 ≤ w43 ∧ w43 ≤ 24 by omega) ?_
        intro M46 u47 H48 p49
        have f50 := f42.wr u47 rfl
        refine s_blx (lv' := [(7, vI 0), (0, vR 77), (1, vI what), (2, vI x2), (3, vI x3), (4, vI x4), (5, vI x5), (6, vI x6)]) (st' := []) B264_82_85 rfl ?_
        refine r_loc (lv' := [(0, vR 77), (1, vI what), (2, vI x2), (3, vI x3), (4, vI x4), (5, vI x5), (6, vI x6), (7, vI 0)]) ⟨rfl, rfl, rfl, rfl, rfl, rfl, rfl, rfl, trivial⟩ rfl rfl ?_
        exact ih.2.2.1 x2 x3 x4 x5 x6 0 M46 H48 f50 (by omega) (by omega) (by omega) (by omega) (by omega) (by omega) (by omega) (by omega) (by omega) (by omega) (by omega) (by omega) (by omega) (by omega) (by omega) (by omega) (by omega)
    · intro x2 x3 x4 x5 x6 x7 N HN fN i0 i1 i2 i3 i4 i5 i6 i7 i8 i9 i10 i11 i12 i13 i14 i15 hmu
      refine s_blx (lv' := [(0, vR 77), (1, vI what), (2, vI x2), (3, vI x3), (4, vI x4), (5, vI x5), (6, vI x6), (7, vI x7)]) (st' := [vR 77, vI x7]) B264_85_88 rfl ?_
      refine r_gint (ki := 45) (pc' := 91) D264_88 rfl gf_11_437_77 rfl HN.1 ?_
      intro w51 e52 r53
      have b_w51 := HN.2 77 (45) 0 24 rfl
      rw [← e52] at b_w51; clear r53
      refine r_icmp (tgt := 120) (pc' := 94) D264_91 rfl rfl (by unfold inR; omega) (fun (c54 : w51 ≤ x7) => ?_) (fun (c54 : ¬ (w51 ≤ x7)) => ?_)
      · refine s_blx (lv' := [(7, vI 0), (0, vR 77), (1, vI what), (2, vI x2), (3, vI x3), (4, vI x4), (5, vI x5), (6, vI x6)]) (st' := []) B264_120_123 rfl ?_
        refine r_loc (lv' := [(0, vR 77), (1, vI what), (2, vI x2), (3, vI x3), (4, vI x4), (5, vI x5), (6, vI x6), (7, vI 0)]) ⟨rfl, rfl, rfl, rfl, rfl, rfl, rfl, rfl, trivial⟩ rfl rfl ?_
        exact ih.2.2.2 x2 x3 x4 x5 x6 0 N HN fN (by omega) (by omega) (by omega) (by omega) (by omega) (by omega) (by omega) (by omega) (by omega) (by omega) (by omega) (by omega) (by omega) (by omega) (by omega) (by omega) (by omega)
      · refine s_blx (lv' := [(0, vR 77), (1, vI what), (2, vI x2), (3, vI x3), (4, vI x4), (5, vI x5), (6, vI x6), (7, vI x7)]) (st' := [vR 77]) B264_94_95 rfl ?_
        refine r_gfix (r := 109) (pc' := 98) D264_95 rfl gf_11_117_77 HN.1 ?_
        refine s_blx (lv' := [(0, vR 77), (1, vI what), (2, vI x2), (3, vI x3), (4, vI x4), (5, vI x5), (6, vI x6), (7, vI x7)]) (st' := [vR 77, vI ((24 * x6) + x7), vR 109]) B264_98_107 rfl ?_
        refine r_gfix (r := 101) (pc' := 110) D264_107 rfl gf_11_90_77 HN.1 ?_
        refine s_blx (lv' := [(0, vR 77), (1, vI what), (2, vI x2), (3, vI x3), (4, vI x4), (5, vI x5), (6, vI x6), (7, vI x7)]) (st' := [vI x7, vR 101, vI ((24 * x6) + x7), vR 109]) B264_110_112 rfl ?_
        refine r_iald (pc' := 113) D264_112 rfl sc_101 HN.1 (by omega) ?_
        intro w55 e56 r57
        unfold inR at r57
        refine r_iast (pc' := 114) D264_113 rfl sc_109 HN (by omega) (by unfold inR; omega) trivial ?_
        intro M58 u59 H60 p61
        have f62 := fN.wr u59 rfl
        refine s_blx (lv' := [(7, vI (x7 + 1)), (0, vR 77), (1, vI what), (2, vI x2), (3, vI x3), (4, vI x4), (5, vI x5), (6, vI x6)]) (st' := []) B264_114_117 rfl ?_
        refine r_goto (tgt := 85) D264_117 rfl ?_
        refine r_loc (lv' := [(0, vR 77), (1, vI what), (2, vI x2), (3, vI x3), (4, vI x4), (5, vI x5), (6, vI x6), (7, vI (x7 + 1))]) ⟨rfl, rfl, rfl, rfl, rfl, rfl, rfl, rfl, trivial⟩ rfl rfl ?_
        exact ih.2.2.1 x2 x3 x4 x5 x6 (x7 + 1) M58 H60 f62 (by omega) (by omega) (by omega) (by omega) (by omega) (by omega) (by omega) (by omega) (by omega) (by omega) (by omega) (by omega) (by omega) (by omega) (by omega) (by omega) (by omega)
    · intro x2 x3 x4 x5 x6 x7 N HN fN i0 i1 i2 i3 i4 i5 i6 i7 i8 i9 i10 i11 i12 i13 i14 i15 hmu
      refine s_blx (lv' := [(0, vR 77), (1, vI what), (2, vI x2), (3, vI x3), (4, vI x4), (5, vI x5), (6, vI x6), (7, vI x7)]) (st' := [vI x6, vI x7]) B264_123_127 rfl ?_
      refine r_icmp (tgt := 157) (pc' := 130) D264_127 rfl rfl (by unfold inR; omega) (fun (c63 : x6 ≤ x7) => ?_) (fun (c63 : ¬ (x6 ≤ x7)) => ?_)
      · refine s_blx (lv' := [(6, vI (x6 + 1)), (0, vR 77), (1, vI what), (2, vI x2), (3, vI x3), (4, vI x4), (5, vI x5), (7, vI x7)]) (st' := []) B264_157_160 rfl ?_
        refine r_goto (tgt := 49) D264_160 rfl ?_
        refine r_loc (lv' := [(0, vR 77), (1, vI what), (2, vI x2), (3, vI x3), (4, vI x4), (5, vI x5), (6, vI (x6 + 1))]) ⟨rfl, rfl, rfl, rfl, rfl, rfl, rfl, trivial⟩ rfl rfl ?_
        exact ih.2.1 x2 x3 x4 x5 (x6 + 1) N HN fN (by omega) (by omega) (by omega) (by omega) (by omega) (by omega) (by omega) (by omega) (by omega) (by omega) (by omega) (by omega) (by omega) (by omega)
      · refine s_blx (lv' := [(0, vR 77), (1, vI what), (2, vI x2), (3, vI x3), (4, vI x4), (5, vI x5), (6, vI x6), (7, vI x7)]) (st' := [vI x7, vI x6, vR 77, vI x5]) B264_130_137 rfl ?_
        refine r_vIp (c := 77) (args := [vI x6, vI x7]) (rest := [vI x5]) (pc' := 140) D264_137 rfl ck_11_virtual_465 TE263 rfl (Nat.le_of_ble_eq_true rfl) ⟨Nat.le_of_ble_eq_true rfl, Nat.le_of_ble_eq_true rfl⟩ sc_77 ⟨rfl, by decide⟩ HN.1 (dp_0 hd rfl) (k263 E (dp_n hd rfl) HN x6 x7 (by omega) (by omega)) ?_
        intro v64 q67
        have q66 := q67
        refine r_ifc (tgt := 147) (pc' := 143) D264_140 rfl rfl (by unfold inR; omega) (fun (c68 : v64 = 0) => ?_) (fun (c68 : ¬ (v64 = 0)) => ?_)
        · refine s_blx (lv' := [(7, vI (x7 + 1)), (5, vI (x5 + 1)), (0, vR 77), (1, vI what), (2, vI x2), (3, vI x3), (4, vI x4), (6, vI x6)]) (st' := []) B264_147_154 rfl ?_
          refine r_goto (tgt := 123) D264_154 rfl ?_
          refine r_loc (lv' := [(0, vR 77), (1, vI what), (2, vI x2), (3, vI x3), (4, vI x4), (5, vI (x5 + 1)), (6, vI x6), (7, vI (x7 + 1))]) ⟨rfl, rfl, rfl, rfl, rfl, rfl, rfl, rfl, trivial⟩ rfl rfl ?_
          exact ih.2.2.2 x2 x3 x4 (x5 + 1) x6 (x7 + 1) N HN fN (by omega) (by omega) (by omega) (by omega) (by omega) (by omega) (by omega) (by omega) (by omega) (by omega) (by omega) (by omega) (by omega) (by omega) (by omega) (by omega) (by omega)
        · refine s_blx (lv' := [(0, vR 77), (1, vI what), (2, vI x2), (3, vI x3), (4, vI x4), (5, vI x5), (6, vI x6), (7, vI x7)]) (st' := [vI 0, vI x5]) B264_143_144 rfl ?_
          refine r_goto (tgt := 148) D264_144 rfl ?_
          refine s_blx (lv' := [(7, vI (x7 + 1)), (5, vI (x5 + 0)), (0, vR 77), (1, vI what), (2, vI x2), (3, vI x3), (4, vI x4), (6, vI x6)]) (st' := []) B264_148_154 rfl ?_
          refine r_goto (tgt := 123) D264_154 rfl ?_
          refine r_loc (lv' := [(0, vR 77), (1, vI what), (2, vI x2), (3, vI x3), (4, vI x4), (5, vI (x5 + 0)), (6, vI x6), (7, vI (x7 + 1))]) ⟨rfl, rfl, rfl, rfl, rfl, rfl, rfl, rfl, trivial⟩ rfl rfl ?_
          exact ih.2.2.2 x2 x3 x4 (x5 + 0) x6 (x7 + 1) N HN fN (by omega) (by omega) (by omega) (by omega) (by omega) (by omega) (by omega) (by omega) (by omega) (by omega) (by omega) (by omega) (by omega) (by omega) (by omega) (by omega) (by omega)
