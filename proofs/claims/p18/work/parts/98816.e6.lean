
set_option maxRecDepth 4000 in
set_option maxHeartbeats 4000000 in
theorem L_k167e {base : Nat} {X : Nat → Option mC} {G : Nat → Value} (E : EnvOK base X G) {d : Nat} (hd : 2 ≤ d) {M : mH} (H : HI base M) (a : Int) (b : Int) (c : Int) (h0 : LN M) (h1 : GK M) (h2 : -2147483648 ≤ a ∧ a ≤ 2147483647) (h3 : -2147483648 ≤ b ∧ b ≤ 2147483647) (h4 : -2147483648 ≤ c ∧ c ≤ 2147483647) : ∀ mz : Nat, (∀ (x4 x5 x6 : Int) (N : mH), HI base N → Fr [(77, 1), (77, 32), (78, 0)] M N → (x5 = 1 → TA x6 N) → (x5 = 1 → 1 ≤ x4 ∧ x4 ≤ 8) → (0 ≤ x4 ∧ x4 ≤ 400) → (0 ≤ x5 ∧ x5 ≤ 1) → (0 ≤ x6 ∧ x6 ≤ 400) → (LN N) → (GK N) → (0 ≤ a ∧ a ≤ 7) → (0 ≤ b ∧ b ≤ 7) → (0 ≤ c ∧ c ≤ 7) → (gi N 77 31 = 0) → (0 ≤ x4) → (x4 ≤ 400) → (0 ≤ x5) → (x5 ≤ 1) → (0 ≤ x6) → (x6 ≤ 400) → (0 ≤ a) → (a ≤ 7) → (0 ≤ b) → (b ≤ 7) → (0 ≤ c) → (c ≤ 7) → (400 - x6) * 1 + 31 < (mz : Int) → sRn base X G d T167 60 [(0, vR 77), (1, vI a), (2, vI b), (3, vI c), (4, vI x4), (5, vI x5), (6, vI x6)] [] N (s_Q base (pI (fun v M' => HI base M' ∧ Fr [(77, 1), (77, 32), (78, 0)] M M' ∧ (LN M') ∧ (GK M') ∧ (gi M' 77 31 = 0))))) ∧ (∀ (x4 x6 x7 : Int) (N : mH), HI base N → Fr [(77, 1), (77, 32), (78, 0)] M N → (TA x4 N) → (1 ≤ x4 ∧ x4 ≤ 8) → (LN N) → (GK N) → (gi N 78 469 = x6) → (0 ≤ x6 ∧ x6 ≤ 16) → (0 ≤ x7 ∧ x7 ≤ x6) → (0 ≤ a ∧ a ≤ 7) → (0 ≤ b ∧ b ≤ 7) → (0 ≤ c ∧ c ≤ 7) → (gi N 77 31 = 0) → (0 ≤ x4) → (x4 ≤ 400) → (0 ≤ x6) → (x6 ≤ 16) → (0 ≤ x7) → (x7 ≤ 16) → (0 ≤ a) → (a ≤ 7) → (0 ≤ b) → (b ≤ 7) → (0 ≤ c) → (c ≤ 7) → (16 - x7) * 1 + 14 < (mz : Int) → sRn base X G d T167 118 [(0, vR 77), (1, vI a), (2, vI b), (3, vI c), (4, vI x4), (6, vI x6), (7, vI x7)] [] N (s_Q base (pI (fun v M' => HI base M' ∧ Fr [(77, 1), (77, 32), (78, 0)] M M' ∧ (LN M') ∧ (GK M') ∧ (gi M' 77 31 = 0))))) ∧ (∀ (x4 x6 x7 x8 : Int) (N : mH), HI base N → Fr [(77, 1), (77, 32), (78, 0)] M N → (TA x4 N) → (1 ≤ x4 ∧ x4 ≤ 8) → (LM (x6 + 1) N) → (GK N) → (gi N 78 469 = x6) → (0 ≤ x6 ∧ x6 ≤ 15) → (x7 = 135 + 16 * x6) → (0 ≤ x8 ∧ x8 ≤ 8) → (0 ≤ a ∧ a ≤ 7) → (0 ≤ b ∧ b ≤ 7) → (0 ≤ c ∧ c ≤ 7) → (gi N 77 31 = 0) → (1 ≤ x4) → (x4 ≤ 8) → (0 ≤ x6) → (x6 ≤ 15) → (135 ≤ x7) → (x7 ≤ 375) → (0 ≤ x8) → (x8 ≤ 8) → (0 ≤ a) → (a ≤ 7) → (0 ≤ b) → (b ≤ 7) → (0 ≤ c) → (c ≤ 7) → (8 - x8) * 1 + 5 < (mz : Int) → sRn base X G d T167 186 [(0, vR 77), (1, vI a), (2, vI b), (3, vI c), (4, vI x4), (6, vI x6), (7, vI x7), (8, vI x8)] [] N (s_Q base (pI (fun v M' => HI base M' ∧ Fr [(77, 1), (77, 32), (78, 0)] M M' ∧ (LN M') ∧ (GK M') ∧ (gi M' 77 31 = 0))))) ∧ (∀ (x6 x7 x8 : Int) (N : mH), HI base N → Fr [(77, 1), (77, 32), (78, 0)] M N → (LM (x6 + 1) N) → (GK N) → (gi N 78 469 = x6) → (0 ≤ x6 ∧ x6 ≤ 15) → (x7 = 135 + 16 * x6) → (0 ≤ x8 ∧ x8 ≤ 4) → (gi N 77 31 = 0) → (0 ≤ x6) → (x6 ≤ 15) → (135 ≤ x7) → (x7 ≤ 375) → (0 ≤ x8) → (x8 ≤ 4) → (0 ≤ a) → (a ≤ 7) → (0 ≤ b) → (b ≤ 7) → (0 ≤ c) → (c ≤ 7) → (4 - x8) * 1 + 0 < (mz : Int) → sRn base X G d T167 265 [(0, vR 77), (6, vI x6), (7, vI x7), (8, vI x8)] [] N (s_Q base (pI (fun v M' => HI base M' ∧ Fr [(77, 1), (77, 32), (78, 0)] M M' ∧ (LN M') ∧ (GK M') ∧ (gi M' 77 31 = 0))))) := by
  have f0 : Fr [(77, 1), (77, 32), (78, 0)] M M := Fr.rf
  intro mz
  induction mz with
  | zero => exact ⟨fun x4 x5 x6 N _ _ z0 z1 z2 z3 z4 z5 z6 z7 z8 z9 z10 z11 z12 z13 z14 z15 z16 z17 z18 z19 z20 z21 z22 z23 => by omega, fun x4 x6 x7 N _ _ z0 z1 z2 z3 z4 z5 z6 z7 z8 z9 z10 z11 z12 z13 z14 z15 z16 z17 z18 z19 z20 z21 z22 z23 => by omega, fun x4 x6 x7 x8 N _ _ z0 z1 z2 z3 z4 z5 z6 z7 z8 z9 z10 z11 z12 z13 z14 z15 z16 z17 z18 z19 z20 z21 z22 z23 z24 z25 z26 => by omega, fun x6 x7 x8 N _ _ z0 z1 z2 z3 z4 z5 z6 z7 z8 z9 z10 z11 z12 z13 z14 z15 z16 z17 z18 z19 => by omega⟩
  | succ mz ih =>
    refine ⟨?_, ?_, ?_, ?_⟩
    · intro x4 x5 x6 N HN fN i0 i1 i2 i3 i4 i5 i6 i7 i8 i9 i10 i11 i12 i13 i14 i15 i16 i17 i18 i19 i20 i21 i22 hmu
      refine s_blx (lv' := [(0, vR 77), (1, vI a), (2, vI b), (3, vI c), (4, vI x4), (5, vI x5), (6, vI x6)]) (st' := [vI x4, vI x6]) B167_60_64 rfl ?_
      refine r_icmp (tgt := 93) (pc' := 67) D167_64 rfl rfl (by unfold inR; omega) (fun (c69 : x4 ≤ x6) => ?_) (fun (c69 : ¬ (x4 ≤ x6)) => ?_)
      · refine s_blx (lv' := [(0, vR 77), (1, vI a), (2, vI b), (3, vI c), (4, vI x4), (5, vI x5), (6, vI x6)]) (st' := [vI x5]) B167_93_95 rfl ?_
        refine r_ifc (tgt := 105) (pc' := 98) D167_95 rfl rfl (by unfold inR; omega) (fun (c70 : x5 ≠ 0) => ?_) (fun (c70 : ¬ (x5 ≠ 0)) => ?_)
        · refine s_blx (lv' := [(0, vR 77), (1, vI a), (2, vI b), (3, vI c), (4, vI x4), (5, vI x5), (6, vI x6)]) (st' := [vR 77]) B167_105_106 rfl ?_
          refine r_gfix (r := 78) (pc' := 109) D167_106 rfl gf_11_13_77 HN.1 ?_
          refine s_blx (lv' := [(0, vR 77), (1, vI a), (2, vI b), (3, vI c), (4, vI x4), (5, vI x5), (6, vI x6)]) (st' := [vI 469, vR 78]) B167_109_112 rfl ?_
          refine r_iald (pc' := 113) D167_112 rfl sc_78 HN.1 (by omega) ?_
          intro w71 e72 r73
          have b_w71 := HN.2 78 (469) 0 16 (rk_many (by omega))
          rw [← e72] at b_w71; clear r73
          refine s_blx (lv' := [(7, vI 0), (6, vI w71), (0, vR 77), (1, vI a), (2, vI b), (3, vI c), (4, vI x4), (5, vI x5)]) (st' := []) B167_113_118 rfl ?_
          refine r_loc (lv' := [(0, vR 77), (1, vI a), (2, vI b), (3, vI c), (4, vI x4), (6, vI w71), (7, vI 0)]) ⟨rfl, rfl, rfl, rfl, rfl, rfl, rfl, trivial⟩ rfl rfl ?_
          exact ih.2.1 x4 w71 0 N HN fN ((i0 (by omega)).mono (by omega)) (by omega) (i5) (i6) (by omega) (by omega) (by omega) (by omega) (by omega) (by omega) (by omega) (by omega) (by omega) (by omega) (by omega) (by omega) (by omega) (by omega) (by omega) (by omega) (by omega) (by omega) (by omega) (by omega)
        · refine s_blx (lv' := [(0, vR 77), (1, vI a), (2, vI b), (3, vI c), (4, vI x4), (5, vI x5), (6, vI x6)]) (st' := [vI (-6), vR 77]) B167_98_101 rfl ?_
          refine r_vI (c := 77) (args := [vI (-6)]) (rest := []) (pc' := 104) D167_101 rfl ck_11_virtual_127 TE148 rfl (Nat.le_of_ble_eq_true rfl) ⟨Nat.le_of_ble_eq_true rfl, Nat.le_of_ble_eq_true rfl⟩ sc_77 ⟨rfl, by decide⟩ HN.1 (dp_0 hd rfl) (k148 E (dp_n hd rfl) HN (-6) (by omega)) ?_
          intro v74 M75 q79
          obtain ⟨H76, f77, q78⟩ := q79
          have f80 := fN.tr (f77.up rfl)
          have hp81 := i5.fr f77 (by decide)
          have hp82 := i6.fr f77 (by decide)
          have g83 : gi M75 77 31 = gi N 77 31 := (f77.g rfl).trans (rfl)
          exact r_iretI D167_104 rfl (⟨H76, f80, hp81, hp82, by first | (rw [g83]; omega) | rw [g83]⟩)
      · refine s_blx (lv' := [(0, vR 77), (1, vI a), (2, vI b), (3, vI c), (4, vI x4), (5, vI x5), (6, vI x6)]) (st' := [vI x5]) B167_67_69 rfl ?_
        refine r_ifc (tgt := 93) (pc' := 72) D167_69 rfl rfl (by unfold inR; omega) (fun (c84 : x5 = 0) => ?_) (fun (c84 : ¬ (x5 = 0)) => ?_)
        · refine s_blx (lv' := [(0, vR 77), (1, vI a), (2, vI b), (3, vI c), (4, vI x4), (5, vI x5), (6, vI x6)]) (st' := [vI x5]) B167_93_95 rfl ?_
          refine r_ifc (tgt := 105) (pc' := 98) D167_95 rfl rfl (by unfold inR; omega) (fun (c85 : x5 ≠ 0) => ?_) (fun (c85 : ¬ (x5 ≠ 0)) => ?_)
          · exfalso; omega
          · refine s_blx (lv' := [(0, vR 77), (1, vI a), (2, vI b), (3, vI c), (4, vI x4), (5, vI x5), (6, vI x6)]) (st' := [vI (-6), vR 77]) B167_98_101 rfl ?_
            refine r_vI (c := 77) (args := [vI (-6)]) (rest := []) (pc' := 104) D167_101 rfl ck_11_virtual_127 TE148 rfl (Nat.le_of_ble_eq_true rfl) ⟨Nat.le_of_ble_eq_true rfl, Nat.le_of_ble_eq_true rfl⟩ sc_77 ⟨rfl, by decide⟩ HN.1 (dp_0 hd rfl) (k148 E (dp_n hd rfl) HN (-6) (by omega)) ?_
            intro v86 M87 q91
            obtain ⟨H88, f89, q90⟩ := q91
            have f92 := fN.tr (f89.up rfl)
            have hp93 := i5.fr f89 (by decide)
            have hp94 := i6.fr f89 (by decide)
            have g95 : gi M87 77 31 = gi N 77 31 := (f89.g rfl).trans (rfl)
            exact r_iretI D167_104 rfl (⟨H88, f92, hp93, hp94, by first | (rw [g95]; omega) | rw [g95]⟩)
        · refine s_blx (lv' := [(0, vR 77), (1, vI a), (2, vI b), (3, vI c), (4, vI x4), (5, vI x5), (6, vI x6)]) (st' := [vR 77]) B167_72_73 rfl ?_
          refine r_gfix (r := 95) (pc' := 76) D167_73 rfl gf_11_69_77 HN.1 ?_
          refine s_blx (lv' := [(0, vR 77), (1, vI a), (2, vI b), (3, vI c), (4, vI x4), (5, vI x5), (6, vI x6)]) (st' := [vI x6, vR 95]) B167_76_78 rfl ?_
          refine r_bald (pc' := 79) D167_78 rfl sc_95 (by decide) HN.1 (by omega) ?_
          intro w96 e97 r98
          have b_w96 := HN.2 95 (x6) (-128) 127 rfl
          rw [← e97] at b_w96; clear r98
          have ke := e97
          refine s_blx (lv' := [(0, vR 77), (1, vI a), (2, vI b), (3, vI c), (4, vI x4), (5, vI x5), (6, vI x6)]) (st' := [vI 29, vI 0, vI w96]) B167_79_82 rfl ?_
          refine r_sIp (args := [vI w96, vI 0, vI 29]) (rest := []) (pc' := 85) D167_82 rfl ck_11_static_123 TE147 rfl (Nat.le_of_ble_eq_true rfl) ⟨Nat.le_of_ble_eq_true rfl, Nat.le_of_ble_eq_true rfl⟩ (by decide) (dp_0 hd rfl) (k147 E (dp_n hd rfl) HN w96 0 29 (by omega) (by omega) (by omega)) ?_
          intro v99 q104
          obtain ⟨q101, q102, q103⟩ := q104
          have kiv : v99 = 1 → 0 ≤ gi N 95 x6 ∧ gi N 95 x6 ≤ 29 := fun h => by rw [← ke]; exact q102 h
          refine s_blx (lv' := [(6, vI (x6 + 1)), (5, vI v99), (0, vR 77), (1, vI a), (2, vI b), (3, vI c), (4, vI x4)]) (st' := []) B167_85_90 rfl ?_
          refine r_goto (tgt := 60) D167_90 rfl ?_
          refine r_loc (lv' := [(0, vR 77), (1, vI a), (2, vI b), (3, vI c), (4, vI x4), (5, vI v99), (6, vI (x6 + 1))]) ⟨rfl, rfl, rfl, rfl, rfl, rfl, rfl, trivial⟩ rfl rfl ?_
          exact ih.1 x4 v99 (x6 + 1) N HN fN (fun h => (i0 (by omega)).next (by have kin := kiv h; omega)) (by omega) (by omega) (by omega) (by omega) (i5) (i6) (by omega) (by omega) (by omega) (by omega) (by omega) (by omega) (by omega) (by omega) (by omega) (by omega) (by omega) (by omega) (by omega) (by omega) (by omega) (by omega) (by omega)
    · intro x4 x6 x7 N HN fN i0 i1 i2 i3 i4 i5 i6 i7 i8 i9 i10 i11 i12 i13 i14 i15 i16 i17 i18 i19 i20 i21 i22 hmu
      refine s_blx (lv' := [(0, vR 77), (1, vI a), (2, vI b), (3, vI c), (4, vI x4), (6, vI x6), (7, vI x7)]) (st' := [vI x6, vI x7]) B167_118_122 rfl ?_
      refine r_icmp (tgt := 149) (pc' := 125) D167_122 rfl rfl (by unfold inR; omega) (fun (c105 : x6 ≤ x7) => ?_) (fun (c105 : ¬ (x6 ≤ x7)) => ?_)
      · refine s_blx (lv' := [(0, vR 77), (1, vI a), (2, vI b), (3, vI c), (4, vI x4), (6, vI x6), (7, vI x7)]) (st' := [vI 16, vI x6]) B167_149_153 rfl ?_
        refine r_icmp (tgt := 163) (pc' := 156) D167_153 rfl rfl (by unfold inR; omega) (fun (c106 : x6 ≠ 16) => ?_) (fun (c106 : ¬ (x6 ≠ 16)) => ?_)
        · refine s_blx (lv' := [(7, vI (135 + (16 * x6))), (0, vR 77), (1, vI a), (2, vI b), (3, vI c), (4, vI x4), (6, vI x6)]) (st' := [vR 77]) B167_163_175 rfl ?_
          refine r_gfix (r := 78) (pc' := 178) D167_175 rfl gf_11_13_77 HN.1 ?_
          refine s_blx (lv' := [(7, vI (135 + (16 * x6))), (0, vR 77), (1, vI a), (2, vI b), (3, vI c), (4, vI x4), (6, vI x6)]) (st' := [vI x4, vI (135 + (16 * x6)), vR 78]) B167_178_182 rfl ?_
          refine r_iast (pc' := 183) D167_182 rfl sc_78 HN (by omega) (by unfold inR; omega) (by show s_in (rgK _) _; rw [rk_len (by omega)]; show 0 ≤ x4 ∧ x4 ≤ 8; omega) ?_
          intro M107 u108 H109 p110
          have f111 := fN.wr u108 rfl
          have hp112 := i0.wr u108 (by decide)
          have hp113 := i3.w u108 (by omega) HN
          have klm := i2.grow i4 (by omega) u108 p110 (by omega)
          refine s_blx (lv' := [(8, vI 0), (7, vI (135 + (16 * x6))), (0, vR 77), (1, vI a), (2, vI b), (3, vI c), (4, vI x4), (6, vI x6)]) (st' := []) B167_183_186 rfl ?_
          refine r_loc (lv' := [(0, vR 77), (1, vI a), (2, vI b), (3, vI c), (4, vI x4), (6, vI x6), (7, vI (135 + (16 * x6))), (8, vI 0)]) ⟨rfl, rfl, rfl, rfl, rfl, rfl, rfl, rfl, trivial⟩ rfl rfl ?_
          have g114 : gi M107 78 469 = gi N 78 469 := (u108.gi_ne (by omega) (Or.inr (by omega))).trans (rfl)
          have g115 : gi M107 77 31 = gi N 77 31 := (u108.gi_ne (by omega) (Or.inl (by decide))).trans (rfl)
          exact ih.2.2.1 x4 x6 (135 + (16 * x6)) 0 M107 H109 f111 (hp112) (by omega) (klm) (hp113) (by omega) (by omega) (by omega) (by omega) (by omega) (by omega) (by omega) (by omega) (by omega) (by omega) (by omega) (by omega) (by omega) (by omega) (by omega) (by omega) (by omega) (by omega) (by omega) (by omega) (by omega) (by omega) (by omega)
        · refine s_blx (lv' := [(0, vR 77), (1, vI a), (2, vI b), (3, vI c), (4, vI x4), (6, vI x6), (7, vI x7)]) (st' := [vI (-5), vR 77]) B167_156_159 rfl ?_
          refine r_vI (c := 77) (args := [vI (-5)]) (rest := []) (pc' := 162) D167_159 rfl ck_11_virtual_127 TE148 rfl (Nat.le_of_ble_eq_true rfl) ⟨Nat.le_of_ble_eq_true rfl, Nat.le_of_ble_eq_true rfl⟩ sc_77 ⟨rfl, by decide⟩ HN.1 (dp_0 hd rfl) (k148 E (dp_n hd rfl) HN (-5) (by omega)) ?_
          intro v116 M117 q121
          obtain ⟨H118, f119, q120⟩ := q121
          have f122 := fN.tr (f119.up rfl)
          have hp123 := i0.fr f119 (by decide)
          have hp124 := i2.fr f119 (by decide)
          have hp125 := i3.fr f119 (by decide)
          have g126 : gi M117 77 31 = gi N 77 31 := (f119.g rfl).trans (rfl)
          exact r_iretI D167_162 rfl (⟨H118, f122, hp124, hp125, by first | (rw [g126]; omega) | rw [g126]⟩)
      · refine s_blx (lv' := [(0, vR 77), (1, vI a), (2, vI b), (3, vI c), (4, vI x4), (6, vI x6), (7, vI x7)]) (st' := [vI x4, vI x7, vR 77]) B167_125_130 rfl ?_
        refine r_vIp (c := 77) (args := [vI x7, vI x4]) (rest := []) (pc' := 133) D167_130 rfl ck_11_virtual_154 TE166 rfl (Nat.le_of_ble_eq_true rfl) ⟨Nat.le_of_ble_eq_true rfl, Nat.le_of_ble_eq_true rfl⟩ sc_77 ⟨rfl, by decide⟩ HN.1 (dp_0 hd rfl) (k166 E (dp_n hd rfl) HN x7 x4 (by omega) (by omega)) ?_
        intro v127 q130
        have q129 := q130; clear q130
        refine r_ifc (tgt := 143) (pc' := 136) D167_133 rfl rfl (by unfold inR; omega) (fun (c131 : v127 = 0) => ?_) (fun (c131 : ¬ (v127 = 0)) => ?_)
        · refine s_blx (lv' := [(7, vI (x7 + 1)), (0, vR 77), (1, vI a), (2, vI b), (3, vI c), (4, vI x4), (6, vI x6)]) (st' := []) B167_143_146 rfl ?_
          refine r_goto (tgt := 118) D167_146 rfl ?_
          refine r_loc (lv' := [(0, vR 77), (1, vI a), (2, vI b), (3, vI c), (4, vI x4), (6, vI x6), (7, vI (x7 + 1))]) ⟨rfl, rfl, rfl, rfl, rfl, rfl, rfl, trivial⟩ rfl rfl ?_
          exact ih.2.1 x4 x6 (x7 + 1) N HN fN (i0) (by omega) (i2) (i3) (by omega) (by omega) (by omega) (by omega) (by omega) (by omega) (by omega) (by omega) (by omega) (by omega) (by omega) (by omega) (by omega) (by omega) (by omega) (by omega) (by omega) (by omega) (by omega) (by omega)
        · refine s_blx (lv' := [(0, vR 77), (1, vI a), (2, vI b), (3, vI c), (4, vI x4), (6, vI x6), (7, vI x7)]) (st' := [vI (-4), vR 77]) B167_136_139 rfl ?_
          refine r_vI (c := 77) (args := [vI (-4)]) (rest := []) (pc' := 142) D167_139 rfl ck_11_virtual_127 TE148 rfl (Nat.le_of_ble_eq_true rfl) ⟨Nat.le_of_ble_eq_true rfl, Nat.le_of_ble_eq_true rfl⟩ sc_77 ⟨rfl, by decide⟩ HN.1 (dp_0 hd rfl) (k148 E (dp_n hd rfl) HN (-4) (by omega)) ?_
          intro v132 M133 q137
          obtain ⟨H134, f135, q136⟩ := q137
          have f138 := fN.tr (f135.up rfl)
          have hp139 := i0.fr f135 (by decide)
          have hp140 := i2.fr f135 (by decide)
          have hp141 := i3.fr f135 (by decide)
          have g142 : gi M133 77 31 = gi N 77 31 := (f135.g rfl).trans (rfl)
          exact r_iretI D167_142 rfl (⟨H134, f138, hp140, hp141, by first | (rw [g142]; omega) | rw [g142]⟩)
    · intro x4 x6 x7 x8 N HN fN i0 i1 i2 i3 i4 i5 i6 i7 i8 i9 i10 i11 i12 i13 i14 i15 i16 i17 i18 i19 i20 i21 i22 i23 i24 i25 hmu
      refine s_blx (lv' := [(0, vR 77), (1, vI a), (2, vI b), (3, vI c), (4, vI x4), (6, vI x6), (7, vI x7), (8, vI x8)]) (st' := [vI 8, vI x8]) B167_186_190 rfl ?_
      refine r_icmp (tgt := 229) (pc' := 193) D167_190 rfl rfl (by unfold inR; omega) (fun (c143 : 8 ≤ x8) => ?_) (fun (c143 : ¬ (8 ≤ x8)) => ?_)
      · refine s_blx (lv' := [(0, vR 77), (1, vI a), (2, vI b), (3, vI c), (4, vI x4), (6, vI x6), (7, vI x7), (8, vI x8)]) (st' := [vR 77]) B167_229_230 rfl ?_
        refine r_gfix (r := 78) (pc' := 233) D167_230 rfl gf_11_13_77 HN.1 ?_
        refine s_blx (lv' := [(0, vR 77), (1, vI a), (2, vI b), (3, vI c), (4, vI x4), (6, vI x6), (7, vI x7), (8, vI x8)]) (st' := [vI a, vI (x7 + 9), vR 78]) B167_233_239 rfl ?_
        refine r_iast (pc' := 240) D167_239 rfl sc_78 HN (by omega) (by unfold inR; omega) (by show s_in (rgK _) _; rw [rk_val (by omega)]; show 0 ≤ a ∧ a ≤ 7; omega) ?_
        intro M144 u145 H146 p147
        have f148 := fN.wr u145 rfl
        have hp149 := i0.wr u145 (by decide)
        have hp150 := i2.w u145 (by omega) HN
        have hp151 := i3.w u145 (by omega) HN
        refine s_blx (lv' := [(0, vR 77), (1, vI a), (2, vI b), (3, vI c), (4, vI x4), (6, vI x6), (7, vI x7), (8, vI x8)]) (st' := [vR 77]) B167_240_241 rfl ?_
        refine r_gfix (r := 78) (pc' := 244) D167_241 rfl gf_11_13_77 H146.1 ?_
        refine s_blx (lv' := [(0, vR 77), (1, vI a), (2, vI b), (3, vI c), (4, vI x4), (6, vI x6), (7, vI x7), (8, vI x8)]) (st' := [vI b, vI (x7 + 10), vR 78]) B167_244_250 rfl ?_
        refine r_iast (pc' := 251) D167_250 rfl sc_78 H146 (by omega) (by unfold inR; omega) (by show s_in (rgK _) _; rw [rk_val (by omega)]; show 0 ≤ b ∧ b ≤ 7; omega) ?_
        intro M152 u153 H154 p155
        have f156 := f148.wr u153 rfl
        have hp157 := hp149.wr u153 (by decide)
        have hp158 := hp150.w u153 (by omega) H146
        have hp159 := hp151.w u153 (by omega) H146
        refine s_blx (lv' := [(0, vR 77), (1, vI a), (2, vI b), (3, vI c), (4, vI x4), (6, vI x6), (7, vI x7), (8, vI x8)]) (st' := [vR 77]) B167_251_252 rfl ?_
        refine r_gfix (r := 78) (pc' := 255) D167_252 rfl gf_11_13_77 H154.1 ?_
        refine s_blx (lv' := [(0, vR 77), (1, vI a), (2, vI b), (3, vI c), (4, vI x4), (6, vI x6), (7, vI x7), (8, vI x8)]) (st' := [vI c, vI (x7 + 11), vR 78]) B167_255_261 rfl ?_
        refine r_iast (pc' := 262) D167_261 rfl sc_78 H154 (by omega) (by unfold inR; omega) (by show s_in (rgK _) _; rw [rk_val (by omega)]; show 0 ≤ c ∧ c ≤ 7; omega) ?_
        intro M160 u161 H162 p163
        have f164 := f156.wr u161 rfl
        have hp165 := hp157.wr u161 (by decide)
        have hp166 := hp158.w u161 (by omega) H154
        have hp167 := hp159.w u161 (by omega) H154
        refine s_blx (lv' := [(8, vI 0), (0, vR 77), (1, vI a), (2, vI b), (3, vI c), (4, vI x4), (6, vI x6), (7, vI x7)]) (st' := []) B167_262_265 rfl ?_
        refine r_loc (lv' := [(0, vR 77), (6, vI x6), (7, vI x7), (8, vI 0)]) ⟨rfl, rfl, rfl, rfl, trivial⟩ rfl rfl ?_
        have g168 : gi M160 78 469 = gi N 78 469 := (u161.gi_ne (by omega) (Or.inr (by omega))).trans ((u153.gi_ne (by omega) (Or.inr (by omega))).trans ((u145.gi_ne (by omega) (Or.inr (by omega))).trans (rfl)))
        have g169 : gi M160 77 31 = gi N 77 31 := (u161.gi_ne (by omega) (Or.inl (by decide))).trans ((u153.gi_ne (by omega) (Or.inl (by decide))).trans ((u145.gi_ne (by omega) (Or.inl (by decide))).trans (rfl)))
        exact ih.2.2.2 x6 x7 0 M160 H162 f164 (hp166) (hp167) (by omega) (by omega) (by omega) (by omega) (by omega) (by omega) (by omega) (by omega) (by omega) (by omega) (by omega) (by omega) (by omega) (by omega) (by omega) (by omega) (by omega) (by omega)
      · refine s_blx (lv' := [(0, vR 77), (1, vI a), (2, vI b), (3, vI c), (4, vI x4), (6, vI x6), (7, vI x7), (8, vI x8)]) (st' := [vR 77]) B167_193_194 rfl ?_
        refine r_gfix (r := 78) (pc' := 197) D167_194 rfl gf_11_13_77 HN.1 ?_
        refine s_blx (lv' := [(0, vR 77), (1, vI a), (2, vI b), (3, vI c), (4, vI x4), (6, vI x6), (7, vI x7), (8, vI x8)]) (st' := [vI x4, vI x8, vI ((x7 + 1) + x8), vR 78]) B167_197_208 rfl ?_
        refine r_icmp (tgt := 221) (pc' := 211) D167_208 rfl rfl (by unfold inR; omega) (fun (c170 : x4 ≤ x8) => ?_) (fun (c170 : ¬ (x4 ≤ x8)) => ?_)
        · refine s_blx (lv' := [(0, vR 77), (1, vI a), (2, vI b), (3, vI c), (4, vI x4), (6, vI x6), (7, vI x7), (8, vI x8)]) (st' := [vI 0, vI ((x7 + 1) + x8), vR 78]) B167_221_222 rfl ?_
          refine r_iast (pc' := 223) D167_222 rfl sc_78 HN (by omega) (by unfold inR; omega) (by show s_in (rgK _) _; rw [rk_word (by omega)]; show 0 ≤ 0 ∧ 0 ≤ 29; omega) ?_
          intro M171 u172 H173 p174
          have f175 := fN.wr u172 rfl
          have hp176 := i0.wr u172 (by decide)
          have hp177 := i2.w u172 (by omega) HN
          have hp178 := i3.w u172 (by omega) HN
          refine s_blx (lv' := [(8, vI (x8 + 1)), (0, vR 77), (1, vI a), (2, vI b), (3, vI c), (4, vI x4), (6, vI x6), (7, vI x7)]) (st' := []) B167_223_226 rfl ?_
          refine r_goto (tgt := 186) D167_226 rfl ?_
          refine r_loc (lv' := [(0, vR 77), (1, vI a), (2, vI b), (3, vI c), (4, vI x4), (6, vI x6), (7, vI x7), (8, vI (x8 + 1))]) ⟨rfl, rfl, rfl, rfl, rfl, rfl, rfl, rfl, trivial⟩ rfl rfl ?_
          have g179 : gi M171 78 469 = gi N 78 469 := (u172.gi_ne (by omega) (Or.inr (by omega))).trans (rfl)
          have g180 : gi M171 77 31 = gi N 77 31 := (u172.gi_ne (by omega) (Or.inl (by decide))).trans (rfl)
          exact ih.2.2.1 x4 x6 x7 (x8 + 1) M171 H173 f175 (hp176) (by omega) (hp177) (hp178) (by omega) (by omega) (by omega) (by omega) (by omega) (by omega) (by omega) (by omega) (by omega) (by omega) (by omega) (by omega) (by omega) (by omega) (by omega) (by omega) (by omega) (by omega) (by omega) (by omega) (by omega) (by omega) (by omega)
        · refine s_blx (lv' := [(0, vR 77), (1, vI a), (2, vI b), (3, vI c), (4, vI x4), (6, vI x6), (7, vI x7), (8, vI x8)]) (st' := [vR 77, vI ((x7 + 1) + x8), vR 78]) B167_211_212 rfl ?_
          refine r_gfix (r := 95) (pc' := 215) D167_212 rfl gf_11_69_77 HN.1 ?_
          refine s_blx (lv' := [(0, vR 77), (1, vI a), (2, vI b), (3, vI c), (4, vI x4), (6, vI x6), (7, vI x7), (8, vI x8)]) (st' := [vI x8, vR 95, vI ((x7 + 1) + x8), vR 78]) B167_215_217 rfl ?_
          refine r_bald (pc' := 218) D167_217 rfl sc_95 (by decide) HN.1 (by omega) ?_
          intro w181 e182 r183
          have b_w181 := HN.2 95 (x8) (-128) 127 rfl
          rw [← e182] at b_w181; clear r183
          have kta := i0 x8 (by omega) (by omega)
          rw [← e182] at kta
          refine r_goto (tgt := 222) D167_218 rfl ?_
          refine r_iast (pc' := 223) D167_222 rfl sc_78 HN (by omega) (by unfold inR; omega) (by show s_in (rgK _) _; rw [rk_word (by omega)]; show 0 ≤ w181 ∧ w181 ≤ 29; omega) ?_
          intro M184 u185 H186 p187
          have f188 := fN.wr u185 rfl
          have hp189 := i0.wr u185 (by decide)
          have hp190 := i2.w u185 (by omega) HN
          have hp191 := i3.w u185 (by omega) HN
          refine s_blx (lv' := [(8, vI (x8 + 1)), (0, vR 77), (1, vI a), (2, vI b), (3, vI c), (4, vI x4), (6, vI x6), (7, vI x7)]) (st' := []) B167_223_226 rfl ?_
          refine r_goto (tgt := 186) D167_226 rfl ?_
          refine r_loc (lv' := [(0, vR 77), (1, vI a), (2, vI b), (3, vI c), (4, vI x4), (6, vI x6), (7, vI x7), (8, vI (x8 + 1))]) ⟨rfl, rfl, rfl, rfl, rfl, rfl, rfl, rfl, trivial⟩ rfl rfl ?_
          have g192 : gi M184 78 469 = gi N 78 469 := (u185.gi_ne (by omega) (Or.inr (by omega))).trans (rfl)
          have g193 : gi M184 77 31 = gi N 77 31 := (u185.gi_ne (by omega) (Or.inl (by decide))).trans (rfl)
          exact ih.2.2.1 x4 x6 x7 (x8 + 1) M184 H186 f188 (hp189) (by omega) (hp190) (hp191) (by omega) (by omega) (by omega) (by omega) (by omega) (by omega) (by omega) (by omega) (by omega) (by omega) (by omega) (by omega) (by omega) (by omega) (by omega) (by omega) (by omega) (by omega) (by omega) (by omega) (by omega) (by omega) (by omega)
    · intro x6 x7 x8 N HN fN i0 i1 i2 i3 i4 i5 i6 i7 i8 i9 i10 i11 i12 i13 i14 i15 i16 i17 i18 hmu
      refine s_blx (lv' := [(0, vR 77), (6, vI x6), (7, vI x7), (8, vI x8)]) (st' := [vI 4, vI x8]) B167_265_268 rfl ?_
      refine r_icmp (tgt := 291) (pc' := 271) D167_268 rfl rfl (by unfold inR; omega) (fun (c194 : 4 ≤ x8) => ?_) (fun (c194 : ¬ (4 ≤ x8)) => ?_)
      · refine s_blx (lv' := [(0, vR 77), (6, vI x6), (7, vI x7), (8, vI x8)]) (st' := [vR 77]) B167_291_292 rfl ?_
        refine r_gfix (r := 78) (pc' := 295) D167_292 rfl gf_11_13_77 HN.1 ?_
        refine s_blx (lv' := [(0, vR 77), (6, vI x6), (7, vI x7), (8, vI x8)]) (st' := [vI 469, vR 78, vI 469, vR 78]) B167_295_299 rfl ?_
        refine r_iald (pc' := 300) D167_299 rfl sc_78 HN.1 (by omega) ?_
        intro w195 e196 r197
        have b_w195 := HN.2 78 (469) 0 16 (rk_many (by omega))
        rw [← e196] at b_w195; clear r197
        refine s_blx (lv' := [(0, vR 77), (6, vI x6), (7, vI x7), (8, vI x8)]) (st' := [vI (w195 + 1), vI 469, vR 78]) B167_300_302 rfl ?_
        refine r_iast (pc' := 303) D167_302 rfl sc_78 HN (by omega) (by unfold inR; omega) (by show s_in (rgK _) _; rw [rk_many (by omega)]; show 0 ≤ (w195 + 1) ∧ (w195 + 1) ≤ 16; omega) ?_
        intro M198 u199 H200 p201
        have f202 := fN.wr u199 rfl
        have hp203 := i0.w u199 (by omega) HN
        have hp204 := i1.w u199 (by omega) HN
        have kln : LN M198 := hp203.ln (by rw [p201]; omega)
        refine s_blx (lv' := [(0, vR 77), (6, vI x6), (7, vI x7), (8, vI x8)]) (st' := [vI x6, vR 77]) B167_303_306 rfl ?_
        refine r_vI (c := 77) (args := [vI x6]) (rest := []) (pc' := 309) D167_306 rfl ck_11_virtual_131 TE149 rfl (Nat.le_of_ble_eq_true rfl) ⟨Nat.le_of_ble_eq_true rfl, Nat.le_of_ble_eq_true rfl⟩ sc_77 ⟨rfl, by decide⟩ H200.1 (dp_0 hd rfl) (k149 E (dp_n hd rfl) H200 x6 (by omega)) ?_
        intro v205 M206 q210
        obtain ⟨H207, f208, q209⟩ := q210
        have f211 := f202.tr (f208.up rfl)
        have hp212 := hp203.fr f208 (by decide)
        have hp213 := hp204.fr f208 (by decide)
        have hp214 := kln.fr f208 (by decide)
        have g215 : gi M206 77 31 = gi N 77 31 := (f208.g rfl).trans ((u199.gi_ne (by decide) (Or.inl (by decide))).trans (rfl))
        exact r_iretI D167_309 rfl (⟨H207, f211, hp214, hp213, by first | (rw [g215]; omega) | rw [g215]⟩)
      · refine s_blx (lv' := [(0, vR 77), (6, vI x6), (7, vI x7), (8, vI x8)]) (st' := [vR 77]) B167_271_272 rfl ?_
        refine r_gfix (r := 78) (pc' := 275) D167_272 rfl gf_11_13_77 HN.1 ?_
        refine s_blx (lv' := [(0, vR 77), (6, vI x6), (7, vI x7), (8, vI x8)]) (st' := [vI 1, vI ((x7 + 12) + x8), vR 78]) B167_275_284 rfl ?_
        refine r_iast (pc' := 285) D167_284 rfl sc_78 HN (by omega) (by unfold inR; omega) (by show s_in (rgK _) _; rw [rk_wgt (by omega)]; show 0 ≤ 1 ∧ 1 ≤ 100; omega) ?_
        intro M216 u217 H218 p219
        have f220 := fN.wr u217 rfl
        have hp221 := i0.w u217 (by omega) HN
        have hp222 := i1.w u217 (by omega) HN
        refine s_blx (lv' := [(8, vI (x8 + 1)), (0, vR 77), (6, vI x6), (7, vI x7)]) (st' := []) B167_285_288 rfl ?_
        refine r_goto (tgt := 265) D167_288 rfl ?_
        refine r_loc (lv' := [(0, vR 77), (6, vI x6), (7, vI x7), (8, vI (x8 + 1))]) ⟨rfl, rfl, rfl, rfl, trivial⟩ rfl rfl ?_
        have g223 : gi M216 78 469 = gi N 78 469 := (u217.gi_ne (by omega) (Or.inr (by omega))).trans (rfl)
        have g224 : gi M216 77 31 = gi N 77 31 := (u217.gi_ne (by omega) (Or.inl (by decide))).trans (rfl)
        exact ih.2.2.2 x6 x7 (x8 + 1) M216 H218 f220 (hp221) (hp222) (by omega) (by omega) (by omega) (by omega) (by omega) (by omega) (by omega) (by omega) (by omega) (by omega) (by omega) (by omega) (by omega) (by omega) (by omega) (by omega) (by omega) (by omega)
set_option maxRecDepth 4000 in
set_option maxHeartbeats 4000000 in
theorem k167e {base : Nat} {X : Nat → Option mC} {G : Nat → Value} (E : EnvOK base X G) {d : Nat} (hd : 2 ≤ d) {M : mH} (H : HI base M) (a : Int) (b : Int) (c : Int) (h0 : LN M) (h1 : GK M) (h2 : -2147483648 ≤ a ∧ a ≤ 2147483647) (h3 : -2147483648 ≤ b ∧ b ≤ 2147483647) (h4 : -2147483648 ≤ c ∧ c ≤ 2147483647) : sOk base X G d T167 [vR 77, vI a, vI b, vI c] M (pI (fun v M' => HI base M' ∧ Fr [(77, 1), (77, 32), (78, 0)] M M' ∧ (LN M') ∧ (GK M') ∧ (gi M' 77 31 = 0))) := by
  have f0 : Fr [(77, 1), (77, 32), (78, 0)] M M := Fr.rf
  refine sOk.of (show sRn base X G d T167 0 [(0, vR 77), (1, vI a), (2, vI b), (3, vI c)] [] M _ from ?_)
  refine s_blx (lv' := [(0, vR 77), (1, vI a), (2, vI b), (3, vI c)]) (st' := [vR 77]) B167_0_1 rfl ?_
  refine r_gint (ki := 31) (pc' := 4) D167_1 rfl gf_11_151_77 rfl H.1 ?_
  intro w1 e2 r3
  have b_w1 := H.2 77 (31) 0 400 rfl
  rw [← e2] at b_w1; clear r3
  refine s_blx (lv' := [(4, vI w1), (0, vR 77), (1, vI a), (2, vI b), (3, vI c)]) (st' := [vI 0, vR 77]) B167_4_8 rfl ?_
  refine r_pint (ki := 31) (pc' := 11) D167_8 rfl pf_11_151_77 rfl H (by unfold inR; omega) (show 0 ≤ 0 ∧ 0 ≤ 400 by omega) ?_
  intro M4 u5 H6 p7
  have f8 := f0.wr u5 rfl
  have hp9 := h0.wr u5 (by decide)
  have hp10 := h1.wr u5 (by decide)
  refine s_blx (lv' := [(4, vI w1), (0, vR 77), (1, vI a), (2, vI b), (3, vI c)]) (st' := [vI 7, vI 0, vI a]) B167_11_15 rfl ?_
  refine r_sIp (args := [vI a, vI 0, vI 7]) (rest := []) (pc' := 18) D167_15 rfl ck_11_static_123 TE147 rfl (Nat.le_of_ble_eq_true rfl) ⟨Nat.le_of_ble_eq_true rfl, Nat.le_of_ble_eq_true rfl⟩ (by decide) (dp_0 hd rfl) (k147 E (dp_n hd rfl) H6 a 0 7 (by omega) (by omega) (by omega)) ?_
  intro v11 q16
  obtain ⟨q13, q14, q15⟩ := q16
  refine r_ifc (tgt := 41) (pc' := 21) D167_18 rfl rfl (by unfold inR; omega) (fun (c17 : v11 = 0) => ?_) (fun (c17 : ¬ (v11 = 0)) => ?_)
  · refine s_blx (lv' := [(4, vI w1), (0, vR 77), (1, vI a), (2, vI b), (3, vI c)]) (st' := [vI (-1), vR 77]) B167_41_43 rfl ?_
    refine r_vI (c := 77) (args := [vI (-1)]) (rest := []) (pc' := 46) D167_43 rfl ck_11_virtual_127 TE148 rfl (Nat.le_of_ble_eq_true rfl) ⟨Nat.le_of_ble_eq_true rfl, Nat.le_of_ble_eq_true rfl⟩ sc_77 ⟨rfl, by decide⟩ H6.1 (dp_0 hd rfl) (k148 E (dp_n hd rfl) H6 (-1) (by omega)) ?_
    intro v18 M19 q23
    obtain ⟨H20, f21, q22⟩ := q23
    have f24 := f8.tr (f21.up rfl)
    have hp25 := hp9.fr f21 (by decide)
    have hp26 := hp10.fr f21 (by decide)
    have g27 : gi M19 77 31 = 0 := (f21.g rfl).trans (p7)
    exact r_iretI D167_46 rfl (⟨H20, f24, hp25, hp26, by first | (rw [g27]; omega) | rw [g27]⟩)
  · refine s_blx (lv' := [(4, vI w1), (0, vR 77), (1, vI a), (2, vI b), (3, vI c)]) (st' := [vI 7, vI 0, vI b]) B167_21_25 rfl ?_
    refine r_sIp (args := [vI b, vI 0, vI 7]) (rest := []) (pc' := 28) D167_25 rfl ck_11_static_123 TE147 rfl (Nat.le_of_ble_eq_true rfl) ⟨Nat.le_of_ble_eq_true rfl, Nat.le_of_ble_eq_true rfl⟩ (by decide) (dp_0 hd rfl) (k147 E (dp_n hd rfl) H6 b 0 7 (by omega) (by omega) (by omega)) ?_
    intro v28 q33
    obtain ⟨q30, q31, q32⟩ := q33
    refine r_ifc (tgt := 41) (pc' := 31) D167_28 rfl rfl (by unfold inR; omega) (fun (c34 : v28 = 0) => ?_) (fun (c34 : ¬ (v28 = 0)) => ?_)
    · refine s_blx (lv' := [(4, vI w1), (0, vR 77), (1, vI a), (2, vI b), (3, vI c)]) (st' := [vI (-1), vR 77]) B167_41_43 rfl ?_
      refine r_vI (c := 77) (args := [vI (-1)]) (rest := []) (pc' := 46) D167_43 rfl ck_11_virtual_127 TE148 rfl (Nat.le_of_ble_eq_true rfl) ⟨Nat.le_of_ble_eq_true rfl, Nat.le_of_ble_eq_true rfl⟩ sc_77 ⟨rfl, by decide⟩ H6.1 (dp_0 hd rfl) (k148 E (dp_n hd rfl) H6 (-1) (by omega)) ?_
      intro v35 M36 q40
      obtain ⟨H37, f38, q39⟩ := q40
      have f41 := f8.tr (f38.up rfl)
      have hp42 := hp9.fr f38 (by decide)
      have hp43 := hp10.fr f38 (by decide)
      have g44 : gi M36 77 31 = 0 := (f38.g rfl).trans (p7)
      exact r_iretI D167_46 rfl (⟨H37, f41, hp42, hp43, by first | (rw [g44]; omega) | rw [g44]⟩)
    · refine s_blx (lv' := [(4, vI w1), (0, vR 77), (1, vI a), (2, vI b), (3, vI c)]) (st' := [vI 7, vI 0, vI c]) B167_31_35 rfl ?_
      refine r_sIp (args := [vI c, vI 0, vI 7]) (rest := []) (pc' := 38) D167_35 rfl ck_11_static_123 TE147 rfl (Nat.le_of_ble_eq_true rfl) ⟨Nat.le_of_ble_eq_true rfl, Nat.le_of_ble_eq_true rfl⟩ (by decide) (dp_0 hd rfl) (k147 E (dp_n hd rfl) H6 c 0 7 (by omega) (by omega) (by omega)) ?_
      intro v45 q50
      obtain ⟨q47, q48, q49⟩ := q50
      refine r_ifc (tgt := 47) (pc' := 41) D167_38 rfl rfl (by unfold inR; omega) (fun (c51 : v45 ≠ 0) => ?_) (fun (c51 : ¬ (v45 ≠ 0)) => ?_)
      · refine s_blx (lv' := [(4, vI w1), (0, vR 77), (1, vI a), (2, vI b), (3, vI c)]) (st' := [vI 8, vI 1, vI w1]) B167_47_52 rfl ?_
        refine r_sIp (args := [vI w1, vI 1, vI 8]) (rest := []) (pc' := 55) D167_52 rfl ck_11_static_123 TE147 rfl (Nat.le_of_ble_eq_true rfl) ⟨Nat.le_of_ble_eq_true rfl, Nat.le_of_ble_eq_true rfl⟩ (by decide) (dp_0 hd rfl) (k147 E (dp_n hd rfl) H6 w1 1 8 (by omega) (by omega) (by omega)) ?_
        intro v52 q57
        obtain ⟨q54, q55, q56⟩ := q57
        refine s_blx (lv' := [(6, vI 0), (5, vI v52), (4, vI w1), (0, vR 77), (1, vI a), (2, vI b), (3, vI c)]) (st' := []) B167_55_60 rfl ?_
        refine r_loc (lv' := [(0, vR 77), (1, vI a), (2, vI b), (3, vI c), (4, vI w1), (5, vI v52), (6, vI 0)]) ⟨rfl, rfl, rfl, rfl, rfl, rfl, rfl, trivial⟩ rfl rfl ?_
        have g58 : gi M4 77 31 = 0 := p7
        exact (L_k167e E hd H a b c h0 h1 h2 h3 h4 (((400 - 0) * 1 + 31 : Int) + 1).toNat).1 w1 v52 0 M4 H6 f8 (fun _ => TA.zero) (by omega) (by omega) (by omega) (by omega) (hp9) (hp10) (by omega) (by omega) (by omega) (by omega) (by omega) (by omega) (by omega) (by omega) (by omega) (by omega) (by omega) (by omega) (by omega) (by omega) (by omega) (by omega) (by omega)
      · refine s_blx (lv' := [(4, vI w1), (0, vR 77), (1, vI a), (2, vI b), (3, vI c)]) (st' := [vI (-1), vR 77]) B167_41_43 rfl ?_
        refine r_vI (c := 77) (args := [vI (-1)]) (rest := []) (pc' := 46) D167_43 rfl ck_11_virtual_127 TE148 rfl (Nat.le_of_ble_eq_true rfl) ⟨Nat.le_of_ble_eq_true rfl, Nat.le_of_ble_eq_true rfl⟩ sc_77 ⟨rfl, by decide⟩ H6.1 (dp_0 hd rfl) (k148 E (dp_n hd rfl) H6 (-1) (by omega)) ?_
        intro v59 M60 q64
        obtain ⟨H61, f62, q63⟩ := q64
        have f65 := f8.tr (f62.up rfl)
        have hp66 := hp9.fr f62 (by decide)
        have hp67 := hp10.fr f62 (by decide)
        have g68 : gi M60 77 31 = 0 := (f62.g rfl).trans (p7)
        exact r_iretI D167_46 rfl (⟨H61, f65, hp66, hp67, by first | (rw [g68]; omega) | rw [g68]⟩)
set_option maxRecDepth 4000 in
theorem L_k229e {base : Nat} {X : Nat → Option mC} {G : Nat → Value} (E : EnvOK base X G) {d : Nat} (hd : 59 ≤ d) {M : mH} (H : HI base M) (h0 : WD M) : ∀ mz : Nat, (∀ (x1 tk t0 : Int) (F C : Int → Int) (N : mH), HI base N → Fr [(77, 32), (77, 33), (77, 37), (77, 38), (77, 39), (77, 40), (97, 0), (98, 0), (99, 0)] M N → (PC C N) → (∀ j : Int, 0 ≤ j → F (j + 1) = dl (F j) (C j)) → (gi N 77 36 = tk) → (C tk = 0) → (0 ≤ tk ∧ tk ≤ 400) → (gi N 77 37 = t0) → (0 ≤ t0 ∧ t0 ≤ tk) → (F 0 = 1) → (gi N 77 39 = -1 → F t0 = 2 ∨ F t0 = 20 ∨ F t0 = 2001) → (1 ≤ x1 ∧ x1 ≤ 1 + t0) → (gi N 77 31 = 0) → (1 ≤ x1) → (x1 ≤ 402) → (400 - t0) * 1 + 0 < (mz : Int) → sRn base X G d T229 34 [(0, vR 77), (1, vI x1)] [] N (s_Q base (pI (fun v M' => HI base M' ∧ Fr [(77, 32), (77, 33), (77, 37), (77, 38), (77, 39), (77, 40), (97, 0), (98, 0), (99, 0)] M M' ∧ (v = 0 ∨ v = 1) ∧ (v = 1 → AC 97 0 (gi M' 77 36) M') ∧ (gi M' 77 36 ≤ 400 ∧ 0 ≤ gi M' 77 36) ∧ (gi M' 77 31 = 0))))) := by
  have f0 : Fr [(77, 32), (77, 33), (77, 37), (77, 38), (77, 39), (77, 40), (97, 0), (98, 0), (99, 0)] M M := Fr.rf
  intro mz
  induction mz with
  | zero => exact fun x1 tk t0 F C N _ _ z0 z1 z2 z3 z4 z5 z6 z7 z8 z9 z10 z11 z12 z13 => by omega
  | succ mz ih =>
    intro x1 tk t0 F C N HN fN i0 i1 i2 i3 i4 i5 i6 i7 i8 i9 i10 i11 i12 hmu
    refine s_blx (lv' := [(0, vR 77), (1, vI x1)]) (st' := [vI 59, vR 77]) B229_34_37 rfl ?_
    refine r_sIp (args := [vI 59]) (rest := [vR 77]) (pc' := 40) D229_37 rfl ck_11_static_346 TE221 rfl (Nat.le_of_ble_eq_true rfl) ⟨Nat.le_of_ble_eq_true rfl, Nat.le_of_ble_eq_true rfl⟩ (by decide) (dp_0 hd rfl) (k221 E (dp_n hd rfl) HN 59 (by omega)) ?_
    intro v56 q59
    have q58 := q59; clear q59
    have e60 : v56 = 159 := by omega
    subst e60
    have k1 := d_sc (x := F t0)
    have g61 : gi N 77 36 = tk := i2
    have g62 : gi N 77 37 = t0 := i5
    refine r_vI (c := 77) (args := [vI 159]) (rest := []) (pc' := 43) D229_40 rfl ck_11_virtual_328 TE218 rfl (Nat.le_of_ble_eq_true rfl) ⟨Nat.le_of_ble_eq_true rfl, Nat.le_of_ble_eq_true rfl⟩ sc_77 ⟨rfl, by decide⟩ HN.1 (dp_0 hd rfl) (k218x E (dp_n hd rfl) HN 159 tk t0 F C (i0) (i1) (by omega) (by omega) (by omega) (by omega) (by omega) (by omega) (by omega)) ?_
    intro v63 M64 q71
    obtain ⟨H65, f66, q67, q68, q69, q70⟩ := q71
    have f72 := fN.tr (f66.up rfl)
    have hp73 := i0.fr f66 (by decide)
    obtain ⟨t74, ht75⟩ : ∃ q, q = gi M64 77 37 := ⟨_, rfl⟩
    rw [← ht75] at q68
    rw [← ht75] at q69
    rw [← ht75] at q70
    refine r_ifc (tgt := 73) (pc' := 46) D229_43 rfl rfl (by unfold inR; omega) (fun (c76 : v63 = 0) => ?_) (fun (c76 : ¬ (v63 = 0)) => ?_)
    · refine s_blx (lv' := [(0, vR 77), (1, vI x1)]) (st' := [vR 77]) B229_73_74 rfl ?_
      have g77 : gi M64 77 39 = gi N 77 39 := (f66.g rfl).trans (rfl)
      refine r_vIp (c := 77) (args := []) (rest := []) (pc' := 77) D229_74 rfl ck_11_virtual_321 TE216 rfl (Nat.le_of_ble_eq_true rfl) ⟨Nat.le_of_ble_eq_true rfl, Nat.le_of_ble_eq_true rfl⟩ sc_77 ⟨rfl, by decide⟩ H65.1 (dp_0 hd rfl) (k216x E (dp_n hd rfl) H65 ) ?_
      intro v78 q83
      obtain ⟨q80, q81, q82⟩ := q83
      refine r_ifc (tgt := 95) (pc' := 80) D229_77 rfl rfl (by unfold inR; omega) (fun (c84 : v78 = 0) => ?_) (fun (c84 : ¬ (v78 = 0)) => ?_)
      · refine s_blx (lv' := [(0, vR 77), (1, vI x1)]) (st' := [vR 77, vR 77]) B229_95_97 rfl ?_
        refine r_gint (ki := 39) (pc' := 100) D229_97 rfl gf_11_318_77 rfl H65.1 ?_
        intro w85 e86 r87
        unfold inR at r87
        refine r_pint (ki := 32) (pc' := 103) D229_100 rfl pf_11_75_77 rfl H65 (by unfold inR; omega) trivial ?_
        intro M88 u89 H90 p91
        have f92 := f72.wr u89 rfl
        have hp93 := hp73.wr u89 (by decide)
        refine s_blx (lv' := [(0, vR 77), (1, vI x1)]) (st' := [vR 77]) B229_103_104 rfl ?_
        have g94 : gi M88 77 39 = w85 := (u89.gi_ne (by decide) (Or.inr (by decide))).trans (e86.symm)
        refine r_vIp (c := 77) (args := []) (rest := []) (pc' := 107) D229_104 rfl ck_11_virtual_321 TE216 rfl (Nat.le_of_ble_eq_true rfl) ⟨Nat.le_of_ble_eq_true rfl, Nat.le_of_ble_eq_true rfl⟩ sc_77 ⟨rfl, by decide⟩ H90.1 (dp_0 hd rfl) (k216x E (dp_n hd rfl) H90 ) ?_
        intro v95 q100
        obtain ⟨q97, q98, q99⟩ := q100
        have g101 : gi M88 77 36 = tk := (u89.gi_ne (by decide) (Or.inr (by decide))).trans ((f66.g rfl).trans (i2))
        have g102 : gi M88 77 31 = gi N 77 31 := (u89.gi_ne (by decide) (Or.inr (by decide))).trans ((f66.g rfl).trans (rfl))
        exact r_zretI D229_107 rfl (by omega) (⟨H90, f92, by omega, fun hv => ⟨F, i7, fun j h1 h2 => by rw [i1 j h1, Int.zero_add, (hp93) j], by rw [((u89.gi_ne (by decide) (Or.inr (by decide))).trans ((f66.g rfl).trans (i2))), show tk = t74 by omega]; omega⟩, by first | (rw [g101]; omega) | rw [g101], by first | (rw [g102]; omega) | rw [g102]⟩)
      · refine s_blx (lv' := [(0, vR 77), (1, vI x1)]) (st' := [vR 77]) B229_80_81 rfl ?_
        refine r_gint (ki := 37) (pc' := 84) D229_81 rfl gf_11_325_77 rfl H65.1 ?_
        intro w103 e104 r105
        have e106 : t74 = w103 := (e104.trans (ht75.symm)).symm
        subst e106
        refine s_blx (lv' := [(0, vR 77), (1, vI x1)]) (st' := [vR 77, vI t74]) B229_84_85 rfl ?_
        refine r_gint (ki := 36) (pc' := 88) D229_85 rfl gf_11_305_77 rfl H65.1 ?_
        intro w107 e108 r109
        have e110 : tk = w107 := (e108.trans ((f66.g rfl).trans (i2))).symm
        subst e110
        refine r_icmp (tgt := 95) (pc' := 91) D229_88 rfl rfl (by unfold inR; omega) (fun (c111 : tk ≤ t74) => ?_) (fun (c111 : ¬ (tk ≤ t74)) => ?_)
        · refine s_blx (lv' := [(0, vR 77), (1, vI x1)]) (st' := [vR 77, vR 77]) B229_95_97 rfl ?_
          refine r_gint (ki := 39) (pc' := 100) D229_97 rfl gf_11_318_77 rfl H65.1 ?_
          intro w112 e113 r114
          unfold inR at r114
          refine r_pint (ki := 32) (pc' := 103) D229_100 rfl pf_11_75_77 rfl H65 (by unfold inR; omega) trivial ?_
          intro M115 u116 H117 p118
          have f119 := f72.wr u116 rfl
          have hp120 := hp73.wr u116 (by decide)
          refine s_blx (lv' := [(0, vR 77), (1, vI x1)]) (st' := [vR 77]) B229_103_104 rfl ?_
          have g121 : gi M115 77 39 = w112 := (u116.gi_ne (by decide) (Or.inr (by decide))).trans (e113.symm)
          refine r_vIp (c := 77) (args := []) (rest := []) (pc' := 107) D229_104 rfl ck_11_virtual_321 TE216 rfl (Nat.le_of_ble_eq_true rfl) ⟨Nat.le_of_ble_eq_true rfl, Nat.le_of_ble_eq_true rfl⟩ sc_77 ⟨rfl, by decide⟩ H117.1 (dp_0 hd rfl) (k216x E (dp_n hd rfl) H117 ) ?_
          intro v122 q127
          obtain ⟨q124, q125, q126⟩ := q127
          have g128 : gi M115 77 36 = tk := (u116.gi_ne (by decide) (Or.inr (by decide))).trans ((f66.g rfl).trans (i2))
          have g129 : gi M115 77 31 = gi N 77 31 := (u116.gi_ne (by decide) (Or.inr (by decide))).trans ((f66.g rfl).trans (rfl))
          exact r_zretI D229_107 rfl (by omega) (⟨H117, f119, by omega, fun hv => ⟨F, i7, fun j h1 h2 => by rw [i1 j h1, Int.zero_add, (hp120) j], by rw [((u116.gi_ne (by decide) (Or.inr (by decide))).trans ((f66.g rfl).trans (i2))), show tk = t74 by omega]; omega⟩, by first | (rw [g128]; omega) | rw [g128], by first | (rw [g129]; omega) | rw [g129]⟩)
        · refine s_blx (lv' := [(0, vR 77), (1, vI x1)]) (st' := [vR 77]) B229_91_92 rfl ?_
          refine r_vV (c := 77) (args := []) (rest := []) (pc' := 95) D229_92 rfl ck_11_virtual_331 TE217 rfl (Nat.le_of_ble_eq_true rfl) ⟨Nat.le_of_ble_eq_true rfl, Nat.le_of_ble_eq_true rfl⟩ sc_77 ⟨rfl, by decide⟩ H65.1 (dp_0 hd rfl) (k217x E (dp_n hd rfl) H65 ) ?_
          intro M131 q135
          obtain ⟨H132, f133, q134⟩ := q135
          have f136 := f72.tr (f133.up rfl)
          have hp137 := hp73.fr f133 (by decide)
          obtain ⟨t138, ht139⟩ : ∃ q, q = gi M131 77 39 := ⟨_, rfl⟩
          rw [← ht139] at q134
          refine s_blx (lv' := [(0, vR 77), (1, vI x1)]) (st' := [vR 77, vR 77]) B229_95_97 rfl ?_
          refine r_gint (ki := 39) (pc' := 100) D229_97 rfl gf_11_318_77 rfl H132.1 ?_
          intro w140 e141 r142
          have e143 : t138 = w140 := (e141.trans (ht139.symm)).symm
          subst e143
          refine r_norm ?_
          intro z144 r145 _; unfold inR at r145
          refine r_pint (ki := 32) (pc' := 103) D229_100 rfl pf_11_75_77 rfl H132 (by unfold inR; omega) trivial ?_
          intro M146 u147 H148 p149
          have f150 := f136.wr u147 rfl
          have hp151 := hp137.wr u147 (by decide)
          refine s_blx (lv' := [(0, vR 77), (1, vI x1)]) (st' := [vR 77]) B229_103_104 rfl ?_
          have g152 : gi M146 77 39 = t138 := (u147.gi_ne (by decide) (Or.inr (by decide))).trans (ht139.symm)
          refine r_vIp (c := 77) (args := []) (rest := []) (pc' := 107) D229_104 rfl ck_11_virtual_321 TE216 rfl (Nat.le_of_ble_eq_true rfl) ⟨Nat.le_of_ble_eq_true rfl, Nat.le_of_ble_eq_true rfl⟩ sc_77 ⟨rfl, by decide⟩ H148.1 (dp_0 hd rfl) (k216x E (dp_n hd rfl) H148 ) ?_
          intro v153 q158
          obtain ⟨q155, q156, q157⟩ := q158
          have g159 : gi M146 77 36 = tk := (u147.gi_ne (by decide) (Or.inr (by decide))).trans ((f133.g rfl).trans ((f66.g rfl).trans (i2)))
          have g160 : gi M146 77 31 = gi N 77 31 := (u147.gi_ne (by decide) (Or.inr (by decide))).trans ((f133.g rfl).trans ((f66.g rfl).trans (rfl)))
          exact r_zretI D229_107 rfl (by omega) (⟨H148, f150, by omega, fun hv => ⟨F, i7, fun j h1 h2 => by rw [i1 j h1, Int.zero_add, (hp151) j], by rw [((u147.gi_ne (by decide) (Or.inr (by decide))).trans ((f133.g rfl).trans ((f66.g rfl).trans (i2)))), show tk = t74 by omega]; omega⟩, by first | (rw [g159]; omega) | rw [g159], by first | (rw [g160]; omega) | rw [g160]⟩)
    · refine s_blx (lv' := [(0, vR 77), (1, vI x1)]) (st' := [vI 12, vI x1]) B229_46_49 rfl ?_
      refine r_icmp (tgt := 56) (pc' := 52) D229_49 rfl rfl (by unfold inR; omega) (fun (c161 : x1 ≠ 12) => ?_) (fun (c161 : ¬ (x1 ≠ 12)) => ?_)
      · refine s_blx (lv' := [(0, vR 77), (1, vI x1)]) (st' := [vR 77]) B229_56_57 rfl ?_
        have g162 : gi M64 77 39 = gi N 77 39 := (f66.g rfl).trans (rfl)
        refine r_vIp (c := 77) (args := []) (rest := []) (pc' := 60) D229_57 rfl ck_11_virtual_321 TE216 rfl (Nat.le_of_ble_eq_true rfl) ⟨Nat.le_of_ble_eq_true rfl, Nat.le_of_ble_eq_true rfl⟩ sc_77 ⟨rfl, by decide⟩ H65.1 (dp_0 hd rfl) (k216x E (dp_n hd rfl) H65 ) ?_
        intro v163 q168
        obtain ⟨q165, q166, q167⟩ := q168
        refine r_ifc (tgt := 67) (pc' := 63) D229_60 rfl rfl (by unfold inR; omega) (fun (c169 : v163 = 0) => ?_) (fun (c169 : ¬ (v163 = 0)) => ?_)
        · refine s_blx (lv' := [(1, vI (x1 + 1)), (0, vR 77)]) (st' := []) B229_67_70 rfl ?_
          refine r_goto (tgt := 34) D229_70 rfl ?_
          refine r_loc (lv' := [(0, vR 77), (1, vI (x1 + 1))]) ⟨rfl, rfl, trivial⟩ rfl rfl ?_
          have g170 : gi M64 77 36 = tk := (f66.g rfl).trans (i2)
          have g171 : gi M64 77 37 = t74 := ht75.symm
          have g172 : gi M64 77 39 = gi N 77 39 := (f66.g rfl).trans (rfl)
          have g173 : gi M64 77 31 = gi N 77 31 := (f66.g rfl).trans (rfl)
          exact ih (x1 + 1) tk t74 F C M64 H65 f72 (hp73) (i1) (by omega) (by omega) (by omega) (by omega) (by omega) (by omega) (by omega) (by omega) (by omega) (by omega) (by omega) (by omega)
        · refine s_blx (lv' := [(0, vR 77), (1, vI x1)]) (st' := [vR 77]) B229_63_64 rfl ?_
          have g174 : gi M64 77 36 = tk := (f66.g rfl).trans (i2)
          have g175 : gi M64 77 37 = t74 := ht75.symm
          have g176 : gi M64 77 39 = gi N 77 39 := (f66.g rfl).trans (rfl)
          refine r_vV (c := 77) (args := []) (rest := []) (pc' := 67) D229_64 rfl ck_11_virtual_369 TE222 rfl (Nat.le_of_ble_eq_true rfl) ⟨Nat.le_of_ble_eq_true rfl, Nat.le_of_ble_eq_true rfl⟩ sc_77 ⟨rfl, by decide⟩ H65.1 (dp_0 hd rfl) (k222x E (dp_n hd rfl) H65 tk t74 F C (hp73) (i1) (by omega) (by omega) (by omega) (by omega) (by omega) (by omega)) ?_
          intro M178 q183
          obtain ⟨H179, f180, q181, q182⟩ := q183
          have f184 := f72.tr (f180.up rfl)
          have hp185 := hp73.fr f180 (by decide)
          obtain ⟨t186, ht187⟩ : ∃ q, q = gi M178 77 37 := ⟨_, rfl⟩
          obtain ⟨t188, ht189⟩ : ∃ q, q = gi M178 77 39 := ⟨_, rfl⟩
          rw [← ht187] at q181
          rw [← ht187, ← ht189] at q182
          refine s_blx (lv' := [(1, vI (x1 + 1)), (0, vR 77)]) (st' := []) B229_67_70 rfl ?_
          refine r_goto (tgt := 34) D229_70 rfl ?_
          refine r_loc (lv' := [(0, vR 77), (1, vI (x1 + 1))]) ⟨rfl, rfl, trivial⟩ rfl rfl ?_
          have g190 : gi M178 77 36 = tk := (f180.g rfl).trans ((f66.g rfl).trans (i2))
          have g191 : gi M178 77 37 = t186 := ht187.symm
          have g192 : gi M178 77 39 = t188 := ht189.symm
          have g193 : gi M178 77 31 = gi N 77 31 := (f180.g rfl).trans ((f66.g rfl).trans (rfl))
          exact ih (x1 + 1) tk t186 F C M178 H179 f184 (hp185) (i1) (by omega) (by omega) (by omega) (by omega) (by omega) (by omega) (by omega) (by omega) (by omega) (by omega) (by omega) (by omega)
      · refine s_blx (lv' := [(0, vR 77), (1, vI x1)]) (st' := [vR 77]) B229_52_53 rfl ?_
        refine r_vV (c := 77) (args := []) (rest := []) (pc' := 56) D229_53 rfl ck_11_virtual_331 TE217 rfl (Nat.le_of_ble_eq_true rfl) ⟨Nat.le_of_ble_eq_true rfl, Nat.le_of_ble_eq_true rfl⟩ sc_77 ⟨rfl, by decide⟩ H65.1 (dp_0 hd rfl) (k217x E (dp_n hd rfl) H65 ) ?_
        intro M195 q199
        obtain ⟨H196, f197, q198⟩ := q199
        have f200 := f72.tr (f197.up rfl)
        have hp201 := hp73.fr f197 (by decide)
        obtain ⟨t202, ht203⟩ : ∃ q, q = gi M195 77 39 := ⟨_, rfl⟩
        rw [← ht203] at q198
        refine s_blx (lv' := [(0, vR 77), (1, vI x1)]) (st' := [vR 77]) B229_56_57 rfl ?_
        have g204 : gi M195 77 39 = t202 := ht203.symm
        refine r_vIp (c := 77) (args := []) (rest := []) (pc' := 60) D229_57 rfl ck_11_virtual_321 TE216 rfl (Nat.le_of_ble_eq_true rfl) ⟨Nat.le_of_ble_eq_true rfl, Nat.le_of_ble_eq_true rfl⟩ sc_77 ⟨rfl, by decide⟩ H196.1 (dp_0 hd rfl) (k216x E (dp_n hd rfl) H196 ) ?_
        intro v205 q210
        obtain ⟨q207, q208, q209⟩ := q210
        refine r_ifc (tgt := 67) (pc' := 63) D229_60 rfl rfl (by unfold inR; omega) (fun (c211 : v205 = 0) => ?_) (fun (c211 : ¬ (v205 = 0)) => ?_)
        · refine s_blx (lv' := [(1, vI (x1 + 1)), (0, vR 77)]) (st' := []) B229_67_70 rfl ?_
          refine r_goto (tgt := 34) D229_70 rfl ?_
          refine r_loc (lv' := [(0, vR 77), (1, vI (x1 + 1))]) ⟨rfl, rfl, trivial⟩ rfl rfl ?_
          have g212 : gi M195 77 36 = tk := (f197.g rfl).trans ((f66.g rfl).trans (i2))
          have g213 : gi M195 77 37 = t74 := (f197.g rfl).trans (ht75.symm)
          have g214 : gi M195 77 39 = t202 := ht203.symm
          have g215 : gi M195 77 31 = gi N 77 31 := (f197.g rfl).trans ((f66.g rfl).trans (rfl))
          exact ih (x1 + 1) tk t74 F C M195 H196 f200 (hp201) (i1) (by omega) (by omega) (by omega) (by omega) (by omega) (by omega) (by omega) (by omega) (by omega) (by omega) (by omega) (by omega)
        · refine s_blx (lv' := [(0, vR 77), (1, vI x1)]) (st' := [vR 77]) B229_63_64 rfl ?_
          have g216 : gi M195 77 36 = tk := (f197.g rfl).trans ((f66.g rfl).trans (i2))
          have g217 : gi M195 77 37 = t74 := (f197.g rfl).trans (ht75.symm)
          have g218 : gi M195 77 39 = t202 := ht203.symm
          refine r_vV (c := 77) (args := []) (rest := []) (pc' := 67) D229_64 rfl ck_11_virtual_369 TE222 rfl (Nat.le_of_ble_eq_true rfl) ⟨Nat.le_of_ble_eq_true rfl, Nat.le_of_ble_eq_true rfl⟩ sc_77 ⟨rfl, by decide⟩ H196.1 (dp_0 hd rfl) (k222x E (dp_n hd rfl) H196 tk t74 F C (hp201) (i1) (by omega) (by omega) (by omega) (by omega) (by omega) (by omega)) ?_
          intro M220 q225
          obtain ⟨H221, f222, q223, q224⟩ := q225
          have f226 := f200.tr (f222.up rfl)
          have hp227 := hp201.fr f222 (by decide)
          obtain ⟨t228, ht229⟩ : ∃ q, q = gi M220 77 37 := ⟨_, rfl⟩
          obtain ⟨t230, ht231⟩ : ∃ q, q = gi M220 77 39 := ⟨_, rfl⟩
          rw [← ht229] at q223
          rw [← ht229, ← ht231] at q224
          refine s_blx (lv' := [(1, vI (x1 + 1)), (0, vR 77)]) (st' := []) B229_67_70 rfl ?_
          refine r_goto (tgt := 34) D229_70 rfl ?_
          refine r_loc (lv' := [(0, vR 77), (1, vI (x1 + 1))]) ⟨rfl, rfl, trivial⟩ rfl rfl ?_
          have g232 : gi M220 77 36 = tk := (f222.g rfl).trans ((f197.g rfl).trans ((f66.g rfl).trans (i2)))
          have g233 : gi M220 77 37 = t228 := ht229.symm
          have g234 : gi M220 77 39 = t230 := ht231.symm
          have g235 : gi M220 77 31 = gi N 77 31 := (f222.g rfl).trans ((f197.g rfl).trans ((f66.g rfl).trans (rfl)))
          exact ih (x1 + 1) tk t228 F C M220 H221 f226 (hp227) (i1) (by omega) (by omega) (by omega) (by omega) (by omega) (by omega) (by omega) (by omega) (by omega) (by omega) (by omega) (by omega)
set_option maxRecDepth 4000 in
theorem k229e {base : Nat} {X : Nat → Option mC} {G : Nat → Value} (E : EnvOK base X G) {d : Nat} (hd : 59 ≤ d) {M : mH} (H : HI base M) (h0 : WD M) : sOk base X G d T229 [vR 77] M (pI (fun v M' => HI base M' ∧ Fr [(77, 32), (77, 33), (77, 37), (77, 38), (77, 39), (77, 40), (97, 0), (98, 0), (99, 0)] M M' ∧ (v = 0 ∨ v = 1) ∧ (v = 1 → AC 97 0 (gi M' 77 36) M') ∧ (gi M' 77 36 ≤ 400 ∧ 0 ≤ gi M' 77 36) ∧ (gi M' 77 31 = 0))) := by
  have f0 : Fr [(77, 32), (77, 33), (77, 37), (77, 38), (77, 39), (77, 40), (97, 0), (98, 0), (99, 0)] M M := Fr.rf
  refine sOk.of (show sRn base X G d T229 0 [(0, vR 77)] [] M _ from ?_)
  refine s_blx (lv' := [(0, vR 77)]) (st' := [vR 77, vR 77]) B229_0_2 rfl ?_
  refine r_gint (ki := 31) (pc' := 5) D229_2 rfl gf_11_151_77 rfl H.1 ?_
  intro w1 e2 r3
  have b_w1 := H.2 77 (31) 0 400 rfl
  rw [← e2] at b_w1; clear r3
  refine r_vV (c := 77) (args := [vI w1]) (rest := []) (pc' := 8) D229_5 rfl ck_11_virtual_366 TE215 rfl (Nat.le_of_ble_eq_true rfl) ⟨Nat.le_of_ble_eq_true rfl, Nat.le_of_ble_eq_true rfl⟩ sc_77 ⟨rfl, by decide⟩ H.1 (dp_0 hd rfl) (k215x E (dp_n hd rfl) H w1 (h0) (by omega)) ?_
  intro M5 q10
  obtain ⟨H6, f7, q8, q9⟩ := q10
  have f11 := f0.tr (f7.up rfl)
  obtain ⟨tk, htk⟩ : ∃ q, q = gi M5 77 36 := ⟨_, rfl⟩
  have kz := q9
  have kl := q8
  rw [← htk] at kz kl
  obtain ⟨C, hC⟩ : ∃ C : Int → Int, ∀ j, gi M5 97 j = C j := ⟨_, fun _ => rfl⟩
  rw [hC] at kz
  have hPC : PC C M5 := hC
  obtain ⟨F, hF0, hF⟩ := dl_seq C
  have kq := H6.2 77 36 0 400 rfl
  refine s_blx (lv' := [(0, vR 77)]) (st' := [vI 0, vR 77]) B229_8_10 rfl ?_
  refine r_pint (ki := 31) (pc' := 13) D229_10 rfl pf_11_151_77 rfl H6 (by unfold inR; omega) (show 0 ≤ 0 ∧ 0 ≤ 400 by omega) ?_
  intro M12 u13 H14 p15
  have f16 := f11.wr u13 rfl
  have hp17 := hPC.wr u13 (by decide)
  refine s_blx (lv' := [(0, vR 77)]) (st' := [vI 0, vR 77]) B229_13_15 rfl ?_
  refine r_pint (ki := 37) (pc' := 18) D229_15 rfl pf_11_325_77 rfl H14 (by unfold inR; omega) (show 0 ≤ 0 ∧ 0 ≤ 400 by omega) ?_
  intro M18 u19 H20 p21
  have f22 := f16.wr u19 rfl
  have hp23 := hp17.wr u19 (by decide)
  refine s_blx (lv' := [(0, vR 77)]) (st' := [vI 0, vR 77]) B229_18_20 rfl ?_
  refine r_pint (ki := 38) (pc' := 23) D229_20 rfl pf_11_334_77 rfl H20 (by unfold inR; omega) trivial ?_
  intro M24 u25 H26 p27
  have f28 := f22.wr u25 rfl
  have hp29 := hp23.wr u25 (by decide)
  refine s_blx (lv' := [(0, vR 77)]) (st' := [vI (-1), vR 77]) B229_23_25 rfl ?_
  refine r_pint (ki := 39) (pc' := 28) D229_25 rfl pf_11_318_77 rfl H26 (by unfold inR; omega) trivial ?_
  intro M30 u31 H32 p33
  have f34 := f28.wr u31 rfl
  have hp35 := hp29.wr u31 (by decide)
  refine s_blx (lv' := [(0, vR 77)]) (st' := [vR 77]) B229_28_29 rfl ?_
  have g36 : gi M30 77 36 = tk := (u31.gi_ne (by decide) (Or.inr (by decide))).trans ((u25.gi_ne (by decide) (Or.inr (by decide))).trans ((u19.gi_ne (by decide) (Or.inr (by decide))).trans ((u13.gi_ne (by decide) (Or.inr (by decide))).trans (htk.symm))))
  have g37 : gi M30 77 37 = 0 := (u31.gi_ne (by decide) (Or.inr (by decide))).trans ((u25.gi_ne (by decide) (Or.inr (by decide))).trans (p21))
  have g38 : gi M30 77 39 = -1 := p33
  refine r_vV (c := 77) (args := []) (rest := []) (pc' := 32) D229_29 rfl ck_11_virtual_369 TE222 rfl (Nat.le_of_ble_eq_true rfl) ⟨Nat.le_of_ble_eq_true rfl, Nat.le_of_ble_eq_true rfl⟩ sc_77 ⟨rfl, by decide⟩ H32.1 (dp_0 hd rfl) (k222x E (dp_n hd rfl) H32 tk 0 F C (hp35) (hF) (by omega) (by omega) (by omega) (by omega) (by omega) (by omega)) ?_
  intro M40 q45
  obtain ⟨H41, f42, q43, q44⟩ := q45
  have f46 := f34.tr (f42.up rfl)
  have hp47 := hp35.fr f42 (by decide)
  obtain ⟨t48, ht49⟩ : ∃ q, q = gi M40 77 37 := ⟨_, rfl⟩
  obtain ⟨t50, ht51⟩ : ∃ q, q = gi M40 77 39 := ⟨_, rfl⟩
  rw [← ht49] at q43
  rw [← ht49, ← ht51] at q44
  refine s_blx (lv' := [(1, vI 1), (0, vR 77)]) (st' := []) B229_32_34 rfl ?_
  refine r_loc (lv' := [(0, vR 77), (1, vI 1)]) ⟨rfl, rfl, trivial⟩ rfl rfl ?_
  have g52 : gi M40 77 36 = tk := (f42.g rfl).trans ((u31.gi_ne (by decide) (Or.inr (by decide))).trans ((u25.gi_ne (by decide) (Or.inr (by decide))).trans ((u19.gi_ne (by decide) (Or.inr (by decide))).trans ((u13.gi_ne (by decide) (Or.inr (by decide))).trans (htk.symm)))))
  have g53 : gi M40 77 37 = t48 := ht49.symm
  have g54 : gi M40 77 39 = t50 := ht51.symm
  have g55 : gi M40 77 31 = 0 := (f42.g rfl).trans ((u31.gi_ne (by decide) (Or.inr (by decide))).trans ((u25.gi_ne (by decide) (Or.inr (by decide))).trans ((u19.gi_ne (by decide) (Or.inr (by decide))).trans (p15))))
  exact (L_k229e E hd H h0 (((400 - t48) * 1 + 0 : Int) + 1).toNat) 1 tk t48 F C M40 H41 f46 (hp47) (hF) (by omega) (by omega) (by omega) (by omega) (by omega) (by omega) (by omega) (by omega) (by omega) (by omega) (by omega) (by omega)
set_option maxRecDepth 4000 in
set_option maxHeartbeats 4000000 in
theorem L_k230e {base : Nat} {X : Nat → Option mC} {G : Nat → Value} (E : EnvOK base X G) {d : Nat} (hd : 60 ≤ d) {M : mH} (H : HI base M) (h0 : WD M) (h1 : LN M) (h2 : GK M) : ∀ mz : Nat, (∀ (x1 x2 tk : Int) (N : mH), HI base N → Fr [(77, 1), (77, 32), (77, 33), (77, 37), (77, 38), (77, 39), (77, 40), (78, 0), (97, 0), (98, 0), (99, 0)] M N → (AC 97 0 tk N) → (gi N 77 36 = tk) → (GM x1 N) → (LN N) → (gi N 78 (475 + x1) = tk) → (gi N 78 471 = x1) → (∀ j : Int, 0 ≤ j → j < x2 → gi N 78 (483 + 400 * x1 + j) = gi N 97 j) → (0 ≤ x1 ∧ x1 ≤ 7) → (0 ≤ x2 ∧ x2 ≤ 400) → (0 ≤ tk ∧ tk ≤ 400) → (x2 ≤ tk) → (gi N 77 31 = 0) → (0 ≤ x1) → (x1 ≤ 7) → (0 ≤ x2) → (x2 ≤ 400) → (400 - x2) * 1 + 0 < (mz : Int) → sRn base X G d T230 64 [(0, vR 77), (1, vI x1), (2, vI x2)] [] N (s_Q base (pI (fun v M' => HI base M' ∧ Fr [(77, 1), (77, 32), (77, 33), (77, 37), (77, 38), (77, 39), (77, 40), (78, 0), (97, 0), (98, 0), (99, 0)] M M' ∧ (LN M') ∧ (GK M') ∧ (gi M' 77 31 = 0))))) := by
  have f0 : Fr [(77, 1), (77, 32), (77, 33), (77, 37), (77, 38), (77, 39), (77, 40), (78, 0), (97, 0), (98, 0), (99, 0)] M M := Fr.rf
  intro mz
  induction mz with
  | zero => exact fun x1 x2 tk N _ _ z0 z1 z2 z3 z4 z5 z6 z7 z8 z9 z10 z11 z12 z13 z14 z15 z16 => by omega
  | succ mz ih =>
    intro x1 x2 tk N HN fN i0 i1 i2 i3 i4 i5 i6 i7 i8 i9 i10 i11 i12 i13 i14 i15 hmu
    refine s_blx (lv' := [(0, vR 77), (1, vI x1), (2, vI x2)]) (st' := [vR 77, vI x2]) B230_64_66 rfl ?_
    refine r_gint (ki := 36) (pc' := 69) D230_66 rfl gf_11_305_77 rfl HN.1 ?_
    intro w67 e68 r69
    have e70 : tk = w67 := (e68.trans (i1)).symm
    subst e70
    refine r_icmp (tgt := 122) (pc' := 72) D230_69 rfl rfl (by unfold inR; omega) (fun (c71 : tk ≤ x2) => ?_) (fun (c71 : ¬ (tk ≤ x2)) => ?_)
    · refine s_blx (lv' := [(0, vR 77), (1, vI x1), (2, vI x2)]) (st' := [vR 77]) B230_122_123 rfl ?_
      refine r_gfix (r := 78) (pc' := 126) D230_123 rfl gf_11_13_77 HN.1 ?_
      refine s_blx (lv' := [(0, vR 77), (1, vI x1), (2, vI x2)]) (st' := [vI 471, vR 78, vI 471, vR 78]) B230_126_130 rfl ?_
      refine r_iald (pc' := 131) D230_130 rfl sc_78 HN.1 (by omega) ?_
      intro w72 e73 r74
      have e75 : x1 = w72 := (e73.trans (i5)).symm
      subst e75
      refine s_blx (lv' := [(0, vR 77), (1, vI x1), (2, vI x2)]) (st' := [vI (x1 + 1), vI 471, vR 78]) B230_131_133 rfl ?_
      refine r_iast (pc' := 134) D230_133 rfl sc_78 HN (by omega) (by unfold inR; omega) (by show s_in (rgK _) _; rw [rk_told (by omega)]; show 0 ≤ (x1 + 1) ∧ (x1 + 1) ≤ 8; omega) ?_
      intro M76 u77 H78 p79
      have f80 := fN.wr u77 rfl
      have hp81 := i0.wr u77 (by decide)
      have hp82 := i3.w u77 (by omega) HN
      have kgd := ((i2.done i4 i0 (fun j a b => i6 j a (by omega))).w u77 (by omega) HN).gk p79
      refine s_blx (lv' := [(0, vR 77), (1, vI x1), (2, vI x2)]) (st' := [vI x1, vR 77]) B230_134_136 rfl ?_
      refine r_vI (c := 77) (args := [vI x1]) (rest := []) (pc' := 139) D230_136 rfl ck_11_virtual_131 TE149 rfl (Nat.le_of_ble_eq_true rfl) ⟨Nat.le_of_ble_eq_true rfl, Nat.le_of_ble_eq_true rfl⟩ sc_77 ⟨rfl, by decide⟩ H78.1 (dp_0 hd rfl) (k149 E (dp_n hd rfl) H78 x1 (by omega)) ?_
      intro v83 M84 q88
      obtain ⟨H85, f86, q87⟩ := q88
      have f89 := f80.tr (f86.up rfl)
      have hp90 := hp81.fr f86 (by decide)
      have hp91 := hp82.fr f86 (by decide)
      have hp92 := kgd.fr f86 (by decide)
      have g93 : gi M84 77 31 = gi N 77 31 := (f86.g rfl).trans ((u77.gi_ne (by decide) (Or.inl (by decide))).trans (rfl))
      exact r_iretI D230_139 rfl (⟨H85, f89, hp91, hp92, by first | (rw [g93]; omega) | rw [g93]⟩)
    · refine s_blx (lv' := [(0, vR 77), (1, vI x1), (2, vI x2)]) (st' := [vR 77]) B230_72_73 rfl ?_
      refine r_gfix (r := 78) (pc' := 76) D230_73 rfl gf_11_13_77 HN.1 ?_
      refine s_blx (lv' := [(0, vR 77), (1, vI x1), (2, vI x2)]) (st' := [vR 77, vI ((483 + (400 * x1)) + x2), vR 78]) B230_76_88 rfl ?_
      refine r_gfix (r := 97) (pc' := 91) D230_88 rfl gf_11_78_77 HN.1 ?_
      refine s_blx (lv' := [(0, vR 77), (1, vI x1), (2, vI x2)]) (st' := [vI x2, vR 97, vI ((483 + (400 * x1)) + x2), vR 78]) B230_91_92 rfl ?_
      refine r_iald (pc' := 93) D230_92 rfl sc_97 HN.1 (by omega) ?_
      intro w94 e95 r96
      unfold inR at r96
      have ke := e95
      refine r_iast (pc' := 94) D230_93 rfl sc_78 HN (by omega) (by unfold inR; omega) (by show s_in (rgK _) _; rw [rk_no (by omega)]; trivial) ?_
      intro M97 u98 H99 p100
      have f101 := fN.wr u98 rfl
      have hp102 := i0.wr u98 (by decide)
      have hp103 := i2.w u98 (by omega) HN
      have hp104 := i3.w u98 (by omega) HN
      have ku1 := u98
      have kp1 := p100
      refine s_blx (lv' := [(0, vR 77), (1, vI x1), (2, vI x2)]) (st' := [vR 77]) B230_94_95 rfl ?_
      refine r_gfix (r := 78) (pc' := 98) D230_95 rfl gf_11_13_77 H99.1 ?_
      refine s_blx (lv' := [(0, vR 77), (1, vI x1), (2, vI x2)]) (st' := [vR 77, vI ((3683 + (400 * x1)) + x2), vR 78]) B230_98_110 rfl ?_
      refine r_gfix (r := 98) (pc' := 113) D230_110 rfl gf_11_81_77 H99.1 ?_
      refine s_blx (lv' := [(0, vR 77), (1, vI x1), (2, vI x2)]) (st' := [vI x2, vR 98, vI ((3683 + (400 * x1)) + x2), vR 78]) B230_113_114 rfl ?_
      refine r_iald (pc' := 115) D230_114 rfl sc_98 H99.1 (by omega) ?_
      intro w105 e106 r107
      unfold inR at r107
      refine r_iast (pc' := 116) D230_115 rfl sc_78 H99 (by omega) (by unfold inR; omega) (by show s_in (rgK _) _; rw [rk_no (by omega)]; trivial) ?_
      intro M108 u109 H110 p111
      have f112 := f101.wr u109 rfl
      have hp113 := hp102.wr u109 (by decide)
      have hp114 := hp103.w u109 (by omega) H99
      have hp115 := hp104.w u109 (by omega) H99
      have ku2 := u109
      have k475 : gi M108 78 (475 + x1) = tk := by rw [ku2.gi_ne (by omega) (Or.inr (by omega)), ku1.gi_ne (by omega) (Or.inr (by omega))]; exact i4
      have kA : gi M108 78 (483 + 400 * x1 + x2) = gi M108 97 x2 := by rw [ku2.gi_ne (by omega) (Or.inr (by omega)), kp1, ke, ku2.gi_ne (by omega) (Or.inl (by decide)), ku1.gi_ne (by omega) (Or.inl (by decide))]
      have kR : ∀ j : Int, 0 ≤ j → j < x2 → gi M108 78 (483 + 400 * x1 + j) = gi M108 97 j := fun j h1 h2 => by rw [ku2.gi_ne (by omega) (Or.inr (by omega)), ku1.gi_ne (by omega) (Or.inr (by omega)), i6 j h1 h2, ku2.gi_ne (by omega) (Or.inl (by decide)), ku1.gi_ne (by omega) (Or.inl (by decide))]
      refine s_blx (lv' := [(2, vI (x2 + 1)), (0, vR 77), (1, vI x1)]) (st' := []) B230_116_119 rfl ?_
      refine r_goto (tgt := 64) D230_119 rfl ?_
      refine r_loc (lv' := [(0, vR 77), (1, vI x1), (2, vI (x2 + 1))]) ⟨rfl, rfl, rfl, trivial⟩ rfl rfl ?_
      have g116 : gi M108 77 36 = tk := (u109.gi_ne (by omega) (Or.inl (by decide))).trans ((u98.gi_ne (by omega) (Or.inl (by decide))).trans (i1))
      have g117 : gi M108 78 471 = x1 := (u109.gi_ne (by omega) (Or.inr (by omega))).trans ((u98.gi_ne (by omega) (Or.inr (by omega))).trans (i5))
      have g118 : gi M108 77 31 = gi N 77 31 := (u109.gi_ne (by omega) (Or.inl (by decide))).trans ((u98.gi_ne (by omega) (Or.inl (by decide))).trans (rfl))
      exact ih x1 (x2 + 1) tk M108 H110 f112 (hp113) (by omega) (hp114) (hp115) (by omega) (by omega) (fun j h1 h2 => if e : j = x2 then (by rw [e]; exact kA) else (kR j h1 (by omega))) (by omega) (by omega) (by omega) (by omega) (by omega) (by omega) (by omega) (by omega) (by omega) (by omega)
set_option maxRecDepth 4000 in
set_option maxHeartbeats 4000000 in
theorem k230e {base : Nat} {X : Nat → Option mC} {G : Nat → Value} (E : EnvOK base X G) {d : Nat} (hd : 60 ≤ d) {M : mH} (H : HI base M) (h0 : WD M) (h1 : LN M) (h2 : GK M) : sOk base X G d T230 [vR 77] M (pI (fun v M' => HI base M' ∧ Fr [(77, 1), (77, 32), (77, 33), (77, 37), (77, 38), (77, 39), (77, 40), (78, 0), (97, 0), (98, 0), (99, 0)] M M' ∧ (LN M') ∧ (GK M') ∧ (gi M' 77 31 = 0))) := by
  have f0 : Fr [(77, 1), (77, 32), (77, 33), (77, 37), (77, 38), (77, 39), (77, 40), (78, 0), (97, 0), (98, 0), (99, 0)] M M := Fr.rf
  refine sOk.of (show sRn base X G d T230 0 [(0, vR 77)] [] M _ from ?_)
  refine s_blx (lv' := [(0, vR 77)]) (st' := [vR 77]) B230_0_1 rfl ?_
  refine r_gfix (r := 78) (pc' := 4) D230_1 rfl gf_11_13_77 H.1 ?_
  refine s_blx (lv' := [(0, vR 77)]) (st' := [vI 471, vR 78]) B230_4_7 rfl ?_
  refine r_iald (pc' := 8) D230_7 rfl sc_78 H.1 (by omega) ?_
  intro w1 e2 r3
  have b_w1 := H.2 78 (471) 0 8 (rk_told (by omega))
  rw [← e2] at b_w1; clear r3
  refine s_blx (lv' := [(0, vR 77)]) (st' := [vI 8, vI w1]) B230_8_10 rfl ?_
  refine r_icmp (tgt := 25) (pc' := 13) D230_10 rfl rfl (by unfold inR; omega) (fun (c4 : w1 ≠ 8) => ?_) (fun (c4 : ¬ (w1 ≠ 8)) => ?_)
  · refine s_blx (lv' := [(0, vR 77)]) (st' := [vR 77]) B230_25_26 rfl ?_
    refine r_vI (c := 77) (args := []) (rest := []) (pc' := 29) D230_26 rfl ck_11_virtual_372 TE229 rfl (Nat.le_of_ble_eq_true rfl) ⟨Nat.le_of_ble_eq_true rfl, Nat.le_of_ble_eq_true rfl⟩ sc_77 ⟨rfl, by decide⟩ H.1 (dp_0 hd rfl) (k229e E (dp_n hd rfl) H (h0)) ?_
    intro v5 M6 q13
    obtain ⟨H7, f8, q9, q10, q11, q12⟩ := q13
    have f14 := f0.tr (f8.up rfl)
    have hp15 := h1.fr f8 (by decide)
    have hp16 := h2.fr f8 (by decide)
    obtain ⟨t17, ht18⟩ : ∃ q, q = gi M6 77 36 := ⟨_, rfl⟩
    have b_t17 := H7.2 77 36 0 400 rfl
    rw [← ht18] at b_t17
    obtain ⟨t19, ht20⟩ : ∃ q, q = gi M6 77 31 := ⟨_, rfl⟩
    have b_t19 := H7.2 77 31 0 400 rfl
    rw [← ht20] at b_t19
    rw [← ht18] at q10
    rw [← ht18] at q11
    rw [← ht20] at q12
    have kac := q10; clear q10
    refine r_ifc (tgt := 39) (pc' := 32) D230_29 rfl rfl (by unfold inR; omega) (fun (c21 : v5 ≠ 0) => ?_) (fun (c21 : ¬ (v5 ≠ 0)) => ?_)
    · refine s_blx (lv' := [(0, vR 77)]) (st' := [vR 77]) B230_39_40 rfl ?_
      refine r_gfix (r := 78) (pc' := 43) D230_40 rfl gf_11_13_77 H7.1 ?_
      refine s_blx (lv' := [(0, vR 77)]) (st' := [vI 471, vR 78]) B230_43_46 rfl ?_
      refine r_iald (pc' := 47) D230_46 rfl sc_78 H7.1 (by omega) ?_
      intro w22 e23 r24
      have e25 : w1 = w22 := (e23.trans ((f8.g rfl).trans (e2.symm))).symm
      subst e25
      have kac2 := kac (by omega)
      have k471 := e23.symm
      refine s_blx (lv' := [(1, vI w1), (0, vR 77)]) (st' := [vR 77]) B230_47_49 rfl ?_
      refine r_gfix (r := 78) (pc' := 52) D230_49 rfl gf_11_13_77 H7.1 ?_
      refine s_blx (lv' := [(1, vI w1), (0, vR 77)]) (st' := [vR 77, vI (475 + w1), vR 78]) B230_52_58 rfl ?_
      refine r_gint (ki := 36) (pc' := 61) D230_58 rfl gf_11_305_77 rfl H7.1 ?_
      intro w26 e27 r28
      have e29 : t17 = w26 := (e27.trans (ht18.symm)).symm
      subst e29
      refine r_iast (pc' := 62) D230_61 rfl sc_78 H7 (by omega) (by unfold inR; omega) (by show s_in (rgK _) _; rw [rk_sizes (by omega)]; show 0 ≤ t17 ∧ t17 ≤ 400; omega) ?_
      intro M30 u31 H32 p33
      have f34 := f14.wr u31 rfl
      have hp35 := hp15.w u31 (by omega) H7
      have hp36 := kac2.wr u31 (by decide)
      have kgm := (hp16.gm k471).w u31 (by omega) H7
      refine s_blx (lv' := [(2, vI 0), (1, vI w1), (0, vR 77)]) (st' := []) B230_62_64 rfl ?_
      refine r_loc (lv' := [(0, vR 77), (1, vI w1), (2, vI 0)]) ⟨rfl, rfl, rfl, trivial⟩ rfl rfl ?_
      have g37 : gi M30 77 36 = t17 := (u31.gi_ne (by omega) (Or.inl (by decide))).trans (ht18.symm)
      have g38 : gi M30 78 471 = w1 := (u31.gi_ne (by omega) (Or.inr (by omega))).trans ((f8.g rfl).trans (e2.symm))
      have g39 : gi M30 77 31 = t19 := (u31.gi_ne (by omega) (Or.inl (by decide))).trans (ht20.symm)
      exact (L_k230e E hd H h0 h1 h2 (((400 - 0) * 1 + 0 : Int) + 1).toNat) w1 0 t17 M30 H32 f34 (hp36) (by omega) (kgm) (hp35) (by omega) (by omega) (fun j h1 h2 => by omega) (by omega) (by omega) (by omega) (by omega) (by omega) (by omega) (by omega) (by omega) (by omega) (by omega)
    · refine s_blx (lv' := [(0, vR 77)]) (st' := [vI (-6), vR 77]) B230_32_35 rfl ?_
      refine r_vI (c := 77) (args := [vI (-6)]) (rest := []) (pc' := 38) D230_35 rfl ck_11_virtual_127 TE148 rfl (Nat.le_of_ble_eq_true rfl) ⟨Nat.le_of_ble_eq_true rfl, Nat.le_of_ble_eq_true rfl⟩ sc_77 ⟨rfl, by decide⟩ H7.1 (dp_0 hd rfl) (k148 E (dp_n hd rfl) H7 (-6) (by omega)) ?_
      intro v40 M41 q45
      obtain ⟨H42, f43, q44⟩ := q45
      have f46 := f14.tr (f43.up rfl)
      have hp47 := hp15.fr f43 (by decide)
      have hp48 := hp16.fr f43 (by decide)
      have g49 : gi M41 77 31 = t19 := (f43.g rfl).trans (ht20.symm)
      exact r_iretI D230_38 rfl (⟨H42, f46, hp47, hp48, by first | (rw [g49]; omega) | rw [g49]⟩)
  · refine s_blx (lv' := [(0, vR 77)]) (st' := [vI 0, vR 77]) B230_13_15 rfl ?_
    refine r_pint (ki := 31) (pc' := 18) D230_15 rfl pf_11_151_77 rfl H (by unfold inR; omega) (show 0 ≤ 0 ∧ 0 ≤ 400 by omega) ?_
    intro M50 u51 H52 p53
    have f54 := f0.wr u51 rfl
    have hp55 := h1.wr u51 (by decide)
    have hp56 := h2.wr u51 (by decide)
    refine s_blx (lv' := [(0, vR 77)]) (st' := [vI (-5), vR 77]) B230_18_21 rfl ?_
    refine r_vI (c := 77) (args := [vI (-5)]) (rest := []) (pc' := 24) D230_21 rfl ck_11_virtual_127 TE148 rfl (Nat.le_of_ble_eq_true rfl) ⟨Nat.le_of_ble_eq_true rfl, Nat.le_of_ble_eq_true rfl⟩ sc_77 ⟨rfl, by decide⟩ H52.1 (dp_0 hd rfl) (k148 E (dp_n hd rfl) H52 (-5) (by omega)) ?_
    intro v57 M58 q62
    obtain ⟨H59, f60, q61⟩ := q62
    have f63 := f54.tr (f60.up rfl)
    have hp64 := hp55.fr f60 (by decide)
    have hp65 := hp56.fr f60 (by decide)
    have g66 : gi M58 77 31 = 0 := (f60.g rfl).trans (p53)
    exact r_iretI D230_24 rfl (⟨H59, f63, hp64, hp65, by first | (rw [g66]; omega) | rw [g66]⟩)
set_option maxRecDepth 4000 in
set_option maxHeartbeats 4000000 in
theorem L_k262e {base : Nat} {X : Nat → Option mC} {G : Nat → Value} (E : EnvOK base X G) {d : Nat} (hd : 70 ≤ d) {M : mH} (H : HI base M) (s : Int) (K : Int → Int) (h0 : TB M) (h1 : KK K M) (h2 : GK M) (h3 : -2147483648 ≤ s ∧ s ≤ 2147483647) : ∀ mz : Nat, (∀ (x2 x3 x4 : Int) (N : mH), HI base N → Fr [(77, 7), (77, 8), (77, 9), (77, 10), (77, 14), (77, 15), (77, 16), (77, 32), (77, 41), (77, 42), (77, 43), (77, 46), (77, 47), (83, 0), (84, 0), (85, 0), (100, 0), (101, 0)] M N → (0 ≤ s ∧ s ≤ 15) → (s < K 469) → (1 ≤ K (135 + 16 * s + 12 + K 474)) → (gi N 77 31 = 0) → (0 ≤ x2) → (x2 ≤ 400) → ((-2147483648) ≤ x3) → (x3 ≤ 2147483647) → (0 ≤ x4) → (x4 ≤ 8) → (0 ≤ s) → (s ≤ 15) → (8 - x4) * 402 + 401 < (mz : Int) → sRn base X G d T262 25 [(0, vR 77), (1, vI s), (2, vI x2), (3, vI x3), (4, vI x4)] [] N (s_Q base (pI (fun v M' => HI base M' ∧ Fr [(77, 7), (77, 8), (77, 9), (77, 10), (77, 14), (77, 15), (77, 16), (77, 32), (77, 41), (77, 42), (77, 43), (77, 46), (77, 47), (83, 0), (84, 0), (85, 0), (100, 0), (101, 0)] M M' ∧ (-2147483648 ≤ v ∧ v ≤ 2147483647) ∧ (gi M' 77 31 = 0))))) ∧ (∀ (x2 x3 x4 x5 x6 : Int) (N : mH), HI base N → Fr [(77, 7), (77, 8), (77, 9), (77, 10), (77, 14), (77, 15), (77, 16), (77, 32), (77, 41), (77, 42), (77, 43), (77, 46), (77, 47), (83, 0), (84, 0), (85, 0), (100, 0), (101, 0)] M N → (x5 = 1 → x2 ≤ 24) → (0 ≤ s ∧ s ≤ 15) → (s < K 469) → (1 ≤ K (135 + 16 * s + 12 + K 474)) → (gi N 77 31 = 0) → (0 ≤ x2) → (x2 ≤ 400) → ((-2147483648) ≤ x3) → (x3 ≤ 2147483647) → (0 ≤ x4) → (x4 ≤ 7) → (0 ≤ x5) → (x5 ≤ 1) → (0 ≤ x6) → (x6 ≤ 400) → (0 ≤ s) → (s ≤ 15) → (8 - x4) * 402 + 0 + (400 - x6) * 1 + 0 < (mz : Int) → sRn base X G d T262 64 [(0, vR 77), (1, vI s), (2, vI x2), (3, vI x3), (4, vI x4), (5, vI x5), (6, vI x6)] [] N (s_Q base (pI (fun v M' => HI base M' ∧ Fr [(77, 7), (77, 8), (77, 9), (77, 10), (77, 14), (77, 15), (77, 16), (77, 32), (77, 41), (77, 42), (77, 43), (77, 46), (77, 47), (83, 0), (84, 0), (85, 0), (100, 0), (101, 0)] M M' ∧ (-2147483648 ≤ v ∧ v ≤ 2147483647) ∧ (gi M' 77 31 = 0))))) := by
  have f0 : Fr [(77, 7), (77, 8), (77, 9), (77, 10), (77, 14), (77, 15), (77, 16), (77, 32), (77, 41), (77, 42), (77, 43), (77, 46), (77, 47), (83, 0), (84, 0), (85, 0), (100, 0), (101, 0)] M M := Fr.rf
  intro mz
  induction mz with
  | zero => exact ⟨fun x2 x3 x4 N _ _ z0 z1 z2 z3 z4 z5 z6 z7 z8 z9 z10 z11 z12 => by omega, fun x2 x3 x4 x5 x6 N _ _ z0 z1 z2 z3 z4 z5 z6 z7 z8 z9 z10 z11 z12 z13 z14 z15 z16 z17 => by omega⟩
  | succ mz ih =>
    refine ⟨?_, ?_⟩
    · intro x2 x3 x4 N HN fN i0 i1 i2 i3 i4 i5 i6 i7 i8 i9 i10 i11 hmu
      refine s_blx (lv' := [(0, vR 77), (1, vI s), (2, vI x2), (3, vI x3), (4, vI x4)]) (st' := [vR 77, vI x4]) B262_25_28 rfl ?_
      refine r_gfix (r := 78) (pc' := 31) D262_28 rfl gf_11_13_77 HN.1 ?_
      refine s_blx (lv' := [(0, vR 77), (1, vI s), (2, vI x2), (3, vI x3), (4, vI x4)]) (st' := [vI 471, vR 78, vI x4]) B262_31_34 rfl ?_
      refine r_iald (pc' := 35) D262_34 rfl sc_78 HN.1 (by omega) ?_
      intro w17 e18 r19
      have kk_w17 := ((h1.fr fN rfl)) (471)
      have b_w17 := HN.2 78 (471) 0 8 (rk_told (by omega))
      rw [← e18] at b_w17; clear r19
      refine r_icmp (tgt := 140) (pc' := 38) D262_35 rfl rfl (by unfold inR; omega) (fun (c20 : w17 ≤ x4) => ?_) (fun (c20 : ¬ (w17 ≤ x4)) => ?_)
      · refine s_blx (lv' := [(0, vR 77), (1, vI s), (2, vI x2), (3, vI x3), (4, vI x4)]) (st' := [vI x3]) B262_140_141 rfl ?_
        exact r_iretI D262_141 rfl (⟨HN, fN, by omega, by omega⟩)
      · refine s_blx (lv' := [(0, vR 77), (1, vI s), (2, vI x2), (3, vI x3), (4, vI x4)]) (st' := [vI s, vI x4, vR 77]) B262_38_42 rfl ?_
        refine r_vL (c := 77) (args := [vI x4, vI s]) (rest := []) (pc' := 45) D262_42 rfl ck_11_virtual_446 TE247 rfl (Nat.le_of_ble_eq_true rfl) ⟨Nat.le_of_ble_eq_true rfl, Nat.le_of_ble_eq_true rfl⟩ sc_77 ⟨rfl, by decide⟩ HN.1 (dp_0 hd rfl) (k247k E (dp_n hd rfl) HN x4 s K ((h0.fr fN rfl)) ((h1.fr fN rfl)) ((h2.fr fN rfl)) (by omega) (by omega) (by omega) (by omega) (by omega)) ?_
        intro v21 M22 q25
        obtain ⟨H23, f24⟩ := q25
        have f26 := fN.tr (f24.up rfl)
        refine s_blx (lv' := [(0, vR 77), (1, vI s), (2, vI x2), (3, vI x3), (4, vI x4)]) (st' := [vR 77]) B262_45_47 rfl ?_
        refine r_gint (ki := 45) (pc' := 50) D262_47 rfl gf_11_437_77 rfl H23.1 ?_
        intro w27 e28 r29
        have b_w27 := H23.2 77 (45) 0 24 rfl
        rw [← e28] at b_w27; clear r29
        refine s_blx (lv' := [(0, vR 77), (1, vI s), (2, vI x2), (3, vI x3), (4, vI x4)]) (st' := [vI x2, vI w27]) B262_50_51 rfl ?_
        refine r_icmp (tgt := 58) (pc' := 54) D262_51 rfl rfl (by unfold inR; omega) (fun (c30 : w27 ≠ x2) => ?_) (fun (c30 : ¬ (w27 ≠ x2)) => ?_)
        · refine s_blx (lv' := [(6, vI 0), (5, vI 0), (0, vR 77), (1, vI s), (2, vI x2), (3, vI x3), (4, vI x4)]) (st' := []) B262_58_64 rfl ?_
          refine r_loc (lv' := [(0, vR 77), (1, vI s), (2, vI x2), (3, vI x3), (4, vI x4), (5, vI 0), (6, vI 0)]) ⟨rfl, rfl, rfl, rfl, rfl, rfl, rfl, trivial⟩ rfl rfl ?_
          have g31 : gi M22 77 31 = gi N 77 31 := (f24.g rfl).trans (rfl)
          exact ih.2 x2 x3 x4 0 0 M22 H23 f26 (by omega) (by omega) (by omega) (by omega) (by omega) (by omega) (by omega) (by omega) (by omega) (by omega) (by omega) (by omega) (by omega) (by omega) (by omega) (by omega) (by omega) (by omega)
        · refine s_blx (lv' := [(0, vR 77), (1, vI s), (2, vI x2), (3, vI x3), (4, vI x4)]) (st' := [vI 1]) B262_54_55 rfl ?_
          refine r_goto (tgt := 59) D262_55 rfl ?_
          refine s_blx (lv' := [(6, vI 0), (5, vI 1), (0, vR 77), (1, vI s), (2, vI x2), (3, vI x3), (4, vI x4)]) (st' := []) B262_59_64 rfl ?_
          refine r_loc (lv' := [(0, vR 77), (1, vI s), (2, vI x2), (3, vI x3), (4, vI x4), (5, vI 1), (6, vI 0)]) ⟨rfl, rfl, rfl, rfl, rfl, rfl, rfl, trivial⟩ rfl rfl ?_
          have g32 : gi M22 77 31 = gi N 77 31 := (f24.g rfl).trans (rfl)
          exact ih.2 x2 x3 x4 1 0 M22 H23 f26 (by omega) (by omega) (by omega) (by omega) (by omega) (by omega) (by omega) (by omega) (by omega) (by omega) (by omega) (by omega) (by omega) (by omega) (by omega) (by omega) (by omega) (by omega)
    · intro x2 x3 x4 x5 x6 N HN fN i0 i1 i2 i3 i4 i5 i6 i7 i8 i9 i10 i11 i12 i13 i14 i15 i16 hmu
      refine s_blx (lv' := [(0, vR 77), (1, vI s), (2, vI x2), (3, vI x3), (4, vI x4), (5, vI x5), (6, vI x6)]) (st' := [vI x2, vI x6]) B262_64_67 rfl ?_
      refine r_icmp (tgt := 122) (pc' := 70) D262_67 rfl rfl (by unfold inR; omega) (fun (c33 : x2 ≤ x6) => ?_) (fun (c33 : ¬ (x2 ≤ x6)) => ?_)
      · refine s_blx (lv' := [(0, vR 77), (1, vI s), (2, vI x2), (3, vI x3), (4, vI x4), (5, vI x5), (6, vI x6)]) (st' := [vI x5]) B262_122_124 rfl ?_
        refine r_ifc (tgt := 134) (pc' := 127) D262_124 rfl rfl (by unfold inR; omega) (fun (c34 : x5 = 0) => ?_) (fun (c34 : ¬ (x5 = 0)) => ?_)
        · refine s_blx (lv' := [(4, vI (x4 + 1)), (0, vR 77), (1, vI s), (2, vI x2), (3, vI x3), (5, vI x5), (6, vI x6)]) (st' := []) B262_134_137 rfl ?_
          refine r_goto (tgt := 25) D262_137 rfl ?_
          refine r_loc (lv' := [(0, vR 77), (1, vI s), (2, vI x2), (3, vI x3), (4, vI (x4 + 1))]) ⟨rfl, rfl, rfl, rfl, rfl, trivial⟩ rfl rfl ?_
          exact ih.1 x2 x3 (x4 + 1) N HN fN (by omega) (by omega) (by omega) (by omega) (by omega) (by omega) (by omega) (by omega) (by omega) (by omega) (by omega) (by omega) (by omega)
        · refine s_blx (lv' := [(0, vR 77), (1, vI s), (2, vI x2), (3, vI x3), (4, vI x4), (5, vI x5), (6, vI x6)]) (st' := [vI x4, vI 1, vI x3]) B262_127_131 rfl ?_
          refine r_bin (pc' := 132) D262_131 rfl rfl ?_
          intro z35 r36 _; unfold inR at r36
          refine r_bin (pc' := 133) D262_132 rfl rfl ?_
          intro z37 r38 _; unfold inR at r38
          refine s_blx (lv' := [(4, vI (x4 + 1)), (3, vI z37), (0, vR 77), (1, vI s), (2, vI x2), (5, vI x5), (6, vI x6)]) (st' := []) B262_133_137 rfl ?_
          refine r_goto (tgt := 25) D262_137 rfl ?_
          refine r_loc (lv' := [(0, vR 77), (1, vI s), (2, vI x2), (3, vI z37), (4, vI (x4 + 1))]) ⟨rfl, rfl, rfl, rfl, rfl, trivial⟩ rfl rfl ?_
          exact ih.1 x2 z37 (x4 + 1) N HN fN (by omega) (by omega) (by omega) (by omega) (by omega) (by omega) (by omega) (by omega) (by omega) (by omega) (by omega) (by omega) (by omega)
      · refine s_blx (lv' := [(0, vR 77), (1, vI s), (2, vI x2), (3, vI x3), (4, vI x4), (5, vI x5), (6, vI x6)]) (st' := [vI x5]) B262_70_72 rfl ?_
        refine r_ifc (tgt := 122) (pc' := 75) D262_72 rfl rfl (by unfold inR; omega) (fun (c39 : x5 = 0) => ?_) (fun (c39 : ¬ (x5 = 0)) => ?_)
        · refine s_blx (lv' := [(0, vR 77), (1, vI s), (2, vI x2), (3, vI x3), (4, vI x4), (5, vI x5), (6, vI x6)]) (st' := [vI x5]) B262_122_124 rfl ?_
          refine r_ifc (tgt := 134) (pc' := 127) D262_124 rfl rfl (by unfold inR; omega) (fun (c40 : x5 = 0) => ?_) (fun (c40 : ¬ (x5 = 0)) => ?_)
          · refine s_blx (lv' := [(4, vI (x4 + 1)), (0, vR 77), (1, vI s), (2, vI x2), (3, vI x3), (5, vI x5), (6, vI x6)]) (st' := []) B262_134_137 rfl ?_
            refine r_goto (tgt := 25) D262_137 rfl ?_
            refine r_loc (lv' := [(0, vR 77), (1, vI s), (2, vI x2), (3, vI x3), (4, vI (x4 + 1))]) ⟨rfl, rfl, rfl, rfl, rfl, trivial⟩ rfl rfl ?_
            exact ih.1 x2 x3 (x4 + 1) N HN fN (by omega) (by omega) (by omega) (by omega) (by omega) (by omega) (by omega) (by omega) (by omega) (by omega) (by omega) (by omega) (by omega)
          · exfalso; omega
        · refine s_blx (lv' := [(0, vR 77), (1, vI s), (2, vI x2), (3, vI x3), (4, vI x4), (5, vI x5), (6, vI x6)]) (st' := [vR 77]) B262_75_76 rfl ?_
          refine r_gfix (r := 95) (pc' := 79) D262_76 rfl gf_11_69_77 HN.1 ?_
          refine s_blx (lv' := [(0, vR 77), (1, vI s), (2, vI x2), (3, vI x3), (4, vI x4), (5, vI x5), (6, vI x6)]) (st' := [vI x6, vR 95]) B262_79_81 rfl ?_
          refine r_bald (pc' := 82) D262_81 rfl sc_95 (by decide) HN.1 (by omega) ?_
          intro w41 e42 r43
          have b_w41 := HN.2 95 (x6) (-128) 127 rfl
          rw [← e42] at b_w41; clear r43
          refine s_blx (lv' := [(0, vR 77), (1, vI s), (2, vI x2), (3, vI x3), (4, vI x4), (5, vI x5), (6, vI x6)]) (st' := [vI 255, vI w41]) B262_82_85 rfl ?_
          refine r_and255 (pc' := 86) D262_85 rfl ?_
          refine s_blx (lv' := [(0, vR 77), (1, vI s), (2, vI x2), (3, vI x3), (4, vI x4), (5, vI x5), (6, vI x6)]) (st' := [vI 255, vI (w41 % 256)]) B262_86_89 rfl ?_
          refine r_icmp (tgt := 109) (pc' := 92) D262_89 rfl rfl (by unfold inR; omega) (fun (c44 : (w41 % 256) = 255) => ?_) (fun (c44 : ¬ ((w41 % 256) = 255)) => ?_)
          · refine s_blx (lv' := [(0, vR 77), (1, vI s), (2, vI x2), (3, vI x3), (4, vI x4), (5, vI x5), (6, vI x6)]) (st' := [vI 1]) B262_109_110 rfl ?_
            refine r_goto (tgt := 114) D262_110 rfl ?_
            refine s_blx (lv' := [(6, vI (x6 + 1)), (5, vI 1), (0, vR 77), (1, vI s), (2, vI x2), (3, vI x3), (4, vI x4)]) (st' := []) B262_114_119 rfl ?_
            refine r_goto (tgt := 64) D262_119 rfl ?_
            refine r_loc (lv' := [(0, vR 77), (1, vI s), (2, vI x2), (3, vI x3), (4, vI x4), (5, vI 1), (6, vI (x6 + 1))]) ⟨rfl, rfl, rfl, rfl, rfl, rfl, rfl, trivial⟩ rfl rfl ?_
            exact ih.2 x2 x3 x4 1 (x6 + 1) N HN fN (by omega) (by omega) (by omega) (by omega) (by omega) (by omega) (by omega) (by omega) (by omega) (by omega) (by omega) (by omega) (by omega) (by omega) (by omega) (by omega) (by omega) (by omega)
          · refine s_blx (lv' := [(0, vR 77), (1, vI s), (2, vI x2), (3, vI x3), (4, vI x4), (5, vI x5), (6, vI x6)]) (st' := [vR 77]) B262_92_93 rfl ?_
            refine r_gfix (r := 95) (pc' := 96) D262_93 rfl gf_11_69_77 HN.1 ?_
            refine s_blx (lv' := [(0, vR 77), (1, vI s), (2, vI x2), (3, vI x3), (4, vI x4), (5, vI x5), (6, vI x6)]) (st' := [vI x6, vR 95]) B262_96_98 rfl ?_
            refine r_bald (pc' := 99) D262_98 rfl sc_95 (by decide) HN.1 (by omega) ?_
            intro w45 e46 r47
            have e48 : w41 = w45 := (e46.trans (e42.symm)).symm
            subst e48
            refine s_blx (lv' := [(0, vR 77), (1, vI s), (2, vI x2), (3, vI x3), (4, vI x4), (5, vI x5), (6, vI x6)]) (st' := [vR 77, vI w41]) B262_99_100 rfl ?_
            refine r_gfix (r := 101) (pc' := 103) D262_100 rfl gf_11_90_77 HN.1 ?_
            refine s_blx (lv' := [(0, vR 77), (1, vI s), (2, vI x2), (3, vI x3), (4, vI x4), (5, vI x5), (6, vI x6)]) (st' := [vI x6, vR 101, vI w41]) B262_103_105 rfl ?_
            refine r_iald (pc' := 106) D262_105 rfl sc_101 HN.1 (by omega) ?_
            intro w49 e50 r51
            unfold inR at r51
            refine r_icmp (tgt := 113) (pc' := 109) D262_106 rfl rfl (by unfold inR; omega) (fun (c52 : w41 ≠ w49) => ?_) (fun (c52 : ¬ (w41 ≠ w49)) => ?_)
            · refine s_blx (lv' := [(6, vI (x6 + 1)), (5, vI 0), (0, vR 77), (1, vI s), (2, vI x2), (3, vI x3), (4, vI x4)]) (st' := []) B262_113_119 rfl ?_
              refine r_goto (tgt := 64) D262_119 rfl ?_
              refine r_loc (lv' := [(0, vR 77), (1, vI s), (2, vI x2), (3, vI x3), (4, vI x4), (5, vI 0), (6, vI (x6 + 1))]) ⟨rfl, rfl, rfl, rfl, rfl, rfl, rfl, trivial⟩ rfl rfl ?_
              exact ih.2 x2 x3 x4 0 (x6 + 1) N HN fN (by omega) (by omega) (by omega) (by omega) (by omega) (by omega) (by omega) (by omega) (by omega) (by omega) (by omega) (by omega) (by omega) (by omega) (by omega) (by omega) (by omega) (by omega)
            · refine s_blx (lv' := [(0, vR 77), (1, vI s), (2, vI x2), (3, vI x3), (4, vI x4), (5, vI x5), (6, vI x6)]) (st' := [vI 1]) B262_109_110 rfl ?_
              refine r_goto (tgt := 114) D262_110 rfl ?_
              refine s_blx (lv' := [(6, vI (x6 + 1)), (5, vI 1), (0, vR 77), (1, vI s), (2, vI x2), (3, vI x3), (4, vI x4)]) (st' := []) B262_114_119 rfl ?_
              refine r_goto (tgt := 64) D262_119 rfl ?_
              refine r_loc (lv' := [(0, vR 77), (1, vI s), (2, vI x2), (3, vI x3), (4, vI x4), (5, vI 1), (6, vI (x6 + 1))]) ⟨rfl, rfl, rfl, rfl, rfl, rfl, rfl, trivial⟩ rfl rfl ?_
              exact ih.2 x2 x3 x4 1 (x6 + 1) N HN fN (by omega) (by omega) (by omega) (by omega) (by omega) (by omega) (by omega) (by omega) (by omega) (by omega) (by omega) (by omega) (by omega) (by omega) (by omega) (by omega) (by omega) (by omega)
set_option maxRecDepth 4000 in
set_option maxHeartbeats 4000000 in
theorem k262e {base : Nat} {X : Nat → Option mC} {G : Nat → Value} (E : EnvOK base X G) {d : Nat} (hd : 70 ≤ d) {M : mH} (H : HI base M) (s : Int) (K : Int → Int) (h0 : TB M) (h1 : KK K M) (h2 : GK M) (h3 : -2147483648 ≤ s ∧ s ≤ 2147483647) : sOk base X G d T262 [vR 77, vI s] M (pI (fun v M' => HI base M' ∧ Fr [(77, 7), (77, 8), (77, 9), (77, 10), (77, 14), (77, 15), (77, 16), (77, 32), (77, 41), (77, 42), (77, 43), (77, 46), (77, 47), (83, 0), (84, 0), (85, 0), (100, 0), (101, 0)] M M' ∧ (-2147483648 ≤ v ∧ v ≤ 2147483647) ∧ (gi M' 77 31 = 0))) := by
  have f0 : Fr [(77, 7), (77, 8), (77, 9), (77, 10), (77, 14), (77, 15), (77, 16), (77, 32), (77, 41), (77, 42), (77, 43), (77, 46), (77, 47), (83, 0), (84, 0), (85, 0), (100, 0), (101, 0)] M M := Fr.rf
  refine sOk.of (show sRn base X G d T262 0 [(0, vR 77), (1, vI s)] [] M _ from ?_)
  refine s_blx (lv' := [(0, vR 77), (1, vI s)]) (st' := [vR 77]) B262_0_1 rfl ?_
  refine r_gint (ki := 31) (pc' := 4) D262_1 rfl gf_11_151_77 rfl H.1 ?_
  intro w1 e2 r3
  have b_w1 := H.2 77 (31) 0 400 rfl
  rw [← e2] at b_w1; clear r3
  refine s_blx (lv' := [(2, vI w1), (0, vR 77), (1, vI s)]) (st' := [vI 0, vR 77]) B262_4_7 rfl ?_
  refine r_pint (ki := 31) (pc' := 10) D262_7 rfl pf_11_151_77 rfl H (by unfold inR; omega) (show 0 ≤ 0 ∧ 0 ≤ 400 by omega) ?_
  intro M4 u5 H6 p7
  have f8 := f0.wr u5 rfl
  refine s_blx (lv' := [(2, vI w1), (0, vR 77), (1, vI s)]) (st' := [vI s, vR 77]) B262_10_12 rfl ?_
  refine r_vIp (c := 77) (args := [vI s]) (rest := []) (pc' := 15) D262_12 rfl ck_11_virtual_164 TE160 rfl (Nat.le_of_ble_eq_true rfl) ⟨Nat.le_of_ble_eq_true rfl, Nat.le_of_ble_eq_true rfl⟩ sc_77 ⟨rfl, by decide⟩ H6.1 (dp_0 hd rfl) (k160k E (dp_n hd rfl) H6 s K ((h1.fr f8 rfl)) (by omega)) ?_
  intro v9 q13
  obtain ⟨q11, q12⟩ := q13
  refine r_ifc (tgt := 20) (pc' := 18) D262_15 rfl rfl (by unfold inR; omega) (fun (c14 : v9 ≠ 0) => ?_) (fun (c14 : ¬ (v9 ≠ 0)) => ?_)
  · refine s_blx (lv' := [(4, vI 0), (3, vI 0), (2, vI w1), (0, vR 77), (1, vI s)]) (st' := []) B262_20_25 rfl ?_
    refine r_loc (lv' := [(0, vR 77), (1, vI s), (2, vI w1), (3, vI 0), (4, vI 0)]) ⟨rfl, rfl, rfl, rfl, rfl, trivial⟩ rfl rfl ?_
    have g15 : gi M4 77 31 = 0 := p7
    exact (L_k262e E hd H s K h0 h1 h2 h3 (((8 - 0) * 402 + 401 : Int) + 1).toNat).1 w1 0 0 M4 H6 f8 (by omega) (by omega) (by omega) (by omega) (by omega) (by omega) (by omega) (by omega) (by omega) (by omega) (by omega) (by omega) (by omega)
  · refine s_blx (lv' := [(2, vI w1), (0, vR 77), (1, vI s)]) (st' := [vI (-1)]) B262_18_19 rfl ?_
    have g16 : gi M4 77 31 = 0 := p7
    exact r_iretI D262_19 rfl (⟨H6, f8, by omega, by first | (rw [g16]; omega) | rw [g16]⟩)
set_option maxRecDepth 4000 in
theorem L_k151e {base : Nat} {X : Nat → Option mC} {G : Nat → Value} (E : EnvOK base X G) {d : Nat} (hd : 1 ≤ d) {M : mH} (H : HI base M) (k : Int) (h0 : -2147483648 ≤ k ∧ k ≤ 2147483647) (h1 : LN M) (h2 : GK M) (h3 : IM M) : ∀ mz : Nat, (∀ (x2 : Int) (N : mH), HI base N → Fr [(77, 1), (79, 0), (80, 0)] M N → (∀ j : Int, 0 ≤ j → j < x2 → gi N 79 (6883 * k + j) = gi N 78 j) → (∀ j : Int, 0 ≤ j → (j < 6883 * k ∨ 6883 * k + 6883 ≤ j) → gi N 79 j = gi M 79 j) → (∀ i : Int, gi N 80 i = gi M 80 i) → (0 ≤ k ∧ k ≤ 1) → (0 ≤ x2 ∧ x2 ≤ 6883) → (0 ≤ x2) → (x2 ≤ 6883) → (0 ≤ k) → (k ≤ 1) → (6883 - x2) * 1 + 0 < (mz : Int) → sRn base X G d T151 17 [(0, vR 77), (1, vI k), (2, vI x2)] [] N (s_Q base (pI (fun v M' => HI base M' ∧ Fr [(77, 1), (79, 0), (80, 0)] M M' ∧ (LN M') ∧ (GK M') ∧ (IM M') ∧ (0 ≤ k ∧ k ≤ 1 → v = 0) ∧ (k < 0 ∨ 1 < k → v = -1) ∧ (0 ≤ k ∧ k ≤ 1 → gi M' 80 k = 1) ∧ (∀ i : Int, i ≠ k → gi M' 80 i = gi M 80 i) ∧ (k < 0 ∨ 1 < k → ∀ i : Int, gi M' 80 i = gi M 80 i))))) := by
  have f0 : Fr [(77, 1), (79, 0), (80, 0)] M M := Fr.rf
  intro mz
  induction mz with
  | zero => exact fun x2 N _ _ z0 z1 z2 z3 z4 z5 z6 z7 z8 z9 => by omega
  | succ mz ih =>
    intro x2 N HN fN i0 i1 i2 i3 i4 i5 i6 i7 i8 hmu
    refine s_blx (lv' := [(0, vR 77), (1, vI k), (2, vI x2)]) (st' := [vI 6883, vI x2]) B151_17_21 rfl ?_
    refine r_icmp (tgt := 48) (pc' := 24) D151_21 rfl rfl (by unfold inR; omega) (fun (c17 : 6883 ≤ x2) => ?_) (fun (c17 : ¬ (6883 ≤ x2)) => ?_)
    · refine s_blx (lv' := [(0, vR 77), (1, vI k), (2, vI x2)]) (st' := [vR 77]) B151_48_49 rfl ?_
      refine r_gfix (r := 80) (pc' := 52) D151_49 rfl gf_11_20_77 HN.1 ?_
      refine s_blx (lv' := [(0, vR 77), (1, vI k), (2, vI x2)]) (st' := [vI 1, vI k, vR 80]) B151_52_54 rfl ?_
      refine r_zast (pc' := 55) D151_54 rfl sc_80 HN (by omega) (by omega) (show 0 ≤ 1 ∧ 1 ≤ 1 by omega) ?_
      intro M18 u19 H20 p21
      have f22 := fN.wr u19 rfl
      have k8 := u19
      have kim : IM M18 := IM.make (k := k) h3 (by omega) H20 ((h1.fr f22 rfl)) ((h2.fr f22 rfl)) (fun j a b => by rw [k8.gi_ne (by omega) (Or.inl (by decide)), k8.gi_ne (by omega) (Or.inl (by decide))]; exact i0 j a (by omega)) (fun j a b => by rw [k8.gi_ne (by omega) (Or.inl (by decide))]; exact i1 j a b) (fun i hi => by rw [k8.gi_ne (by omega) (Or.inr hi)]; exact i2 i)
      refine s_blx (lv' := [(0, vR 77), (1, vI k), (2, vI x2)]) (st' := [vI 0, vR 77]) B151_55_57 rfl ?_
      refine r_vI (c := 77) (args := [vI 0]) (rest := []) (pc' := 60) D151_57 rfl ck_11_virtual_131 TE149 rfl (Nat.le_of_ble_eq_true rfl) ⟨Nat.le_of_ble_eq_true rfl, Nat.le_of_ble_eq_true rfl⟩ sc_77 ⟨rfl, by decide⟩ H20.1 (dp_0 hd rfl) (k149 E (dp_n hd rfl) H20 0 (by omega)) ?_
      intro v23 M24 q28
      obtain ⟨H25, f26, q27⟩ := q28
      have f29 := f22.tr (f26.up rfl)
      have hp30 := kim.fr f26 (by decide)
      have kf := f26
      have g31 : gi M24 80 k = 1 := (f26.g rfl).trans (p21)
      exact r_iretI D151_60 rfl (⟨H25, f29, (h1.fr f29 rfl), (h2.fr f29 rfl), hp30, by omega, by omega, by omega, fun i hi => by rw [kf.g rfl, k8.gi_ne (by omega) (Or.inr hi)]; exact i2 i, fun h => by exfalso; omega⟩)
    · refine s_blx (lv' := [(0, vR 77), (1, vI k), (2, vI x2)]) (st' := [vR 77]) B151_24_25 rfl ?_
      refine r_gfix (r := 79) (pc' := 28) D151_25 rfl gf_11_17_77 HN.1 ?_
      refine s_blx (lv' := [(0, vR 77), (1, vI k), (2, vI x2)]) (st' := [vR 77, vI ((6883 * k) + x2), vR 79]) B151_28_36 rfl ?_
      refine r_gfix (r := 78) (pc' := 39) D151_36 rfl gf_11_13_77 HN.1 ?_
      refine s_blx (lv' := [(0, vR 77), (1, vI k), (2, vI x2)]) (st' := [vI x2, vR 78, vI ((6883 * k) + x2), vR 79]) B151_39_40 rfl ?_
      refine r_iald (pc' := 41) D151_40 rfl sc_78 HN.1 (by omega) ?_
      intro w32 e33 r34
      unfold inR at r34
      have ke := e33
      refine r_iast (pc' := 42) D151_41 rfl sc_79 HN (by omega) (by unfold inR; omega) (by rw [rg79 (by omega) (by omega), e33]; exact HN.2.sin 78 _) ?_
      intro M35 u36 H37 p38
      have f39 := fN.wr u36 rfl
      have ku := u36
      have kA : gi M35 79 (6883 * k + x2) = gi M35 78 x2 := by rw [p38, ke]; exact (ku.gi_ne (by omega) (Or.inl (by decide))).symm
      refine s_blx (lv' := [(2, vI (x2 + 1)), (0, vR 77), (1, vI k)]) (st' := []) B151_42_45 rfl ?_
      refine r_goto (tgt := 17) D151_45 rfl ?_
      refine r_loc (lv' := [(0, vR 77), (1, vI k), (2, vI (x2 + 1))]) ⟨rfl, rfl, rfl, trivial⟩ rfl rfl ?_
      exact ih (x2 + 1) M35 H37 f39 (fun j h1 h2 => if e : j = x2 then (by rw [e]; exact kA) else (by rw [ku.gi_ne (by omega) (Or.inr (by omega)), ku.gi_ne (by omega) (Or.inl (by decide))]; exact i0 j h1 (by omega))) (fun j h1 h2 => by rw [ku.gi_ne (by omega) (Or.inr (by omega))]; exact i1 j h1 h2) (fun i => by rw [ku.gi_ne (by omega) (Or.inl (by decide))]; exact i2 i) (by omega) (by omega) (by omega) (by omega) (by omega) (by omega) (by omega)
set_option maxRecDepth 4000 in
theorem k151e {base : Nat} {X : Nat → Option mC} {G : Nat → Value} (E : EnvOK base X G) {d : Nat} (hd : 1 ≤ d) {M : mH} (H : HI base M) (k : Int) (h0 : -2147483648 ≤ k ∧ k ≤ 2147483647) (h1 : LN M) (h2 : GK M) (h3 : IM M) : sOk base X G d T151 [vR 77, vI k] M (pI (fun v M' => HI base M' ∧ Fr [(77, 1), (79, 0), (80, 0)] M M' ∧ (LN M') ∧ (GK M') ∧ (IM M') ∧ (0 ≤ k ∧ k ≤ 1 → v = 0) ∧ (k < 0 ∨ 1 < k → v = -1) ∧ (0 ≤ k ∧ k ≤ 1 → gi M' 80 k = 1) ∧ (∀ i : Int, i ≠ k → gi M' 80 i = gi M 80 i) ∧ (k < 0 ∨ 1 < k → ∀ i : Int, gi M' 80 i = gi M 80 i))) := by
  have f0 : Fr [(77, 1), (79, 0), (80, 0)] M M := Fr.rf
  refine sOk.of (show sRn base X G d T151 0 [(0, vR 77), (1, vI k)] [] M _ from ?_)
  refine s_blx (lv' := [(0, vR 77), (1, vI k)]) (st' := [vI 1, vI 0, vI k]) B151_0_3 rfl ?_
  refine r_sIp (args := [vI k, vI 0, vI 1]) (rest := []) (pc' := 6) D151_3 rfl ck_11_static_123 TE147 rfl (Nat.le_of_ble_eq_true rfl) ⟨Nat.le_of_ble_eq_true rfl, Nat.le_of_ble_eq_true rfl⟩ (by decide) (dp_0 hd rfl) (k147 E (dp_n hd rfl) H k 0 1 (by omega) (by omega) (by omega)) ?_
  intro v1 q6
  obtain ⟨q3, q4, q5⟩ := q6
  refine r_ifc (tgt := 15) (pc' := 9) D151_6 rfl rfl (by unfold inR; omega) (fun (c7 : v1 ≠ 0) => ?_) (fun (c7 : ¬ (v1 ≠ 0)) => ?_)
  · refine s_blx (lv' := [(2, vI 0), (0, vR 77), (1, vI k)]) (st' := []) B151_15_17 rfl ?_
    refine r_loc (lv' := [(0, vR 77), (1, vI k), (2, vI 0)]) ⟨rfl, rfl, rfl, trivial⟩ rfl rfl ?_
    exact (L_k151e E hd H k h0 h1 h2 h3 (((6883 - 0) * 1 + 0 : Int) + 1).toNat) 0 M H f0 (fun j h1 h2 => by omega) (fun j _ _ => rfl) (fun _ => rfl) (by omega) (by omega) (by omega) (by omega) (by omega) (by omega) (by omega)
  · refine s_blx (lv' := [(0, vR 77), (1, vI k)]) (st' := [vI (-1), vR 77]) B151_9_11 rfl ?_
    refine r_vI (c := 77) (args := [vI (-1)]) (rest := []) (pc' := 14) D151_11 rfl ck_11_virtual_127 TE148 rfl (Nat.le_of_ble_eq_true rfl) ⟨Nat.le_of_ble_eq_true rfl, Nat.le_of_ble_eq_true rfl⟩ sc_77 ⟨rfl, by decide⟩ H.1 (dp_0 hd rfl) (k148 E (dp_n hd rfl) H (-1) (by omega)) ?_
    intro v8 M9 q13
    obtain ⟨H10, f11, q12⟩ := q13
    have f14 := f0.tr (f11.up rfl)
    have hp15 := h3.fr f11 (by decide)
    have kf := f11
    have g16 : gi M9 80 k = gi M 80 k := (f11.g rfl).trans (rfl)
    exact r_iretI D151_14 rfl (⟨H10, f14, (h1.fr f14 rfl), (h2.fr f14 rfl), hp15, by omega, by omega, by omega, fun i _ => kf.g rfl, fun _ i => kf.g rfl⟩)
set_option maxRecDepth 4000 in
theorem L_k152e {base : Nat} {X : Nat → Option mC} {G : Nat → Value} (E : EnvOK base X G) {d : Nat} (hd : 1 ≤ d) {M : mH} (H : HI base M) (k : Int) (h0 : -2147483648 ≤ k ∧ k ≤ 2147483647) (h1 : LN M) (h2 : GK M) (h3 : IM M) : ∀ mz : Nat, (∀ (x2 : Int) (N : mH), HI base N → Fr [(77, 1), (78, 0)] M N → (∀ j : Int, 0 ≤ j → j < x2 → gi N 78 j = gi N 79 (6883 * k + j)) → (gi N 80 k = 1) → (0 ≤ k ∧ k ≤ 1) → (0 ≤ x2 ∧ x2 ≤ 6883) → (gi N 80 k = gi M 80 k) → (0 ≤ x2) → (x2 ≤ 6883) → (0 ≤ k) → (k ≤ 1) → (6883 - x2) * 1 + 0 < (mz : Int) → sRn base X G d T152 33 [(0, vR 77), (1, vI k), (2, vI x2)] [] N (s_Q base (pI (fun v M' => HI base M' ∧ Fr [(77, 1), (78, 0)] M M' ∧ (LN M') ∧ (GK M') ∧ (-2147483648 ≤ v ∧ v ≤ 2147483647) ∧ (k < 0 ∨ 1 < k → v = -1) ∧ (0 ≤ k ∧ k ≤ 1 → gi M 80 k = 0 → v = -2) ∧ (0 ≤ k ∧ k ≤ 1 → gi M 80 k = 1 → v = 0))))) := by
  have f0 : Fr [(77, 1), (78, 0)] M M := Fr.rf
  intro mz
  induction mz with
  | zero => exact fun x2 N _ _ z0 z1 z2 z3 z4 z5 z6 z7 z8 z9 => by omega
  | succ mz ih =>
    intro x2 N HN fN i0 i1 i2 i3 i4 i5 i6 i7 i8 hmu
    refine s_blx (lv' := [(0, vR 77), (1, vI k), (2, vI x2)]) (st' := [vI 6883, vI x2]) B152_33_37 rfl ?_
    refine r_icmp (tgt := 64) (pc' := 40) D152_37 rfl rfl (by unfold inR; omega) (fun (c31 : 6883 ≤ x2) => ?_) (fun (c31 : ¬ (6883 ≤ x2)) => ?_)
    · refine s_blx (lv' := [(0, vR 77), (1, vI k), (2, vI x2)]) (st' := [vI 0, vR 77]) B152_64_66 rfl ?_
      have kb := IM.back (((h3.fr fN rfl)) k (by omega) (by omega)) (by omega) HN (fun j a b => i0 j a (by omega))
      refine r_vI (c := 77) (args := [vI 0]) (rest := []) (pc' := 69) D152_66 rfl ck_11_virtual_131 TE149 rfl (Nat.le_of_ble_eq_true rfl) ⟨Nat.le_of_ble_eq_true rfl, Nat.le_of_ble_eq_true rfl⟩ sc_77 ⟨rfl, by decide⟩ HN.1 (dp_0 hd rfl) (k149 E (dp_n hd rfl) HN 0 (by omega)) ?_
      intro v32 M33 q37
      obtain ⟨H34, f35, q36⟩ := q37
      have f38 := fN.tr (f35.up rfl)
      have kl := kb.1.fr f35 (by decide)
      have kg := kb.2.fr f35 (by decide)
      exact r_iretI D152_69 rfl (⟨H34, f38, kl, kg, by omega, by omega, by omega, by omega⟩)
    · refine s_blx (lv' := [(0, vR 77), (1, vI k), (2, vI x2)]) (st' := [vR 77]) B152_40_41 rfl ?_
      refine r_gfix (r := 78) (pc' := 44) D152_41 rfl gf_11_13_77 HN.1 ?_
      refine s_blx (lv' := [(0, vR 77), (1, vI k), (2, vI x2)]) (st' := [vR 77, vI x2, vR 78]) B152_44_46 rfl ?_
      refine r_gfix (r := 79) (pc' := 49) D152_46 rfl gf_11_17_77 HN.1 ?_
      refine s_blx (lv' := [(0, vR 77), (1, vI k), (2, vI x2)]) (st' := [vI ((6883 * k) + x2), vR 79, vI x2, vR 78]) B152_49_56 rfl ?_
      refine r_iald (pc' := 57) D152_56 rfl sc_79 HN.1 (by omega) ?_
      intro w39 e40 r41
      unfold inR at r41
      have ke := e40
      refine r_iast (pc' := 58) D152_57 rfl sc_78 HN (by omega) (by unfold inR; omega) (by show s_in (rg 78 _) _; rw [e40]; have q := HN.2.sin 79 (6883 * k + x2); rw [rg79 (by omega) (by omega)] at q; exact q) ?_
      intro M42 u43 H44 p45
      have f46 := fN.wr u43 rfl
      have ku := u43
      have kA : gi M42 78 x2 = gi M42 79 (6883 * k + x2) := by rw [p45, ke]; exact (ku.gi_ne (by omega) (Or.inl (by decide))).symm
      refine s_blx (lv' := [(2, vI (x2 + 1)), (0, vR 77), (1, vI k)]) (st' := []) B152_58_61 rfl ?_
      refine r_goto (tgt := 33) D152_61 rfl ?_
      refine r_loc (lv' := [(0, vR 77), (1, vI k), (2, vI (x2 + 1))]) ⟨rfl, rfl, rfl, trivial⟩ rfl rfl ?_
      have g47 : gi M42 80 k = gi N 80 k := (u43.gi_ne (by omega) (Or.inl (by decide))).trans (rfl)
      exact ih (x2 + 1) M42 H44 f46 (fun j h1 h2 => if e : j = x2 then (by rw [e]; exact kA) else (by rw [ku.gi_ne (by omega) (Or.inr (by omega)), ku.gi_ne (by omega) (Or.inl (by decide))]; exact i0 j h1 (by omega))) (by omega) (by omega) (by omega) (by omega) (by omega) (by omega) (by omega) (by omega) (by omega)
set_option maxRecDepth 4000 in
theorem k152e {base : Nat} {X : Nat → Option mC} {G : Nat → Value} (E : EnvOK base X G) {d : Nat} (hd : 1 ≤ d) {M : mH} (H : HI base M) (k : Int) (h0 : -2147483648 ≤ k ∧ k ≤ 2147483647) (h1 : LN M) (h2 : GK M) (h3 : IM M) : sOk base X G d T152 [vR 77, vI k] M (pI (fun v M' => HI base M' ∧ Fr [(77, 1), (78, 0)] M M' ∧ (LN M') ∧ (GK M') ∧ (-2147483648 ≤ v ∧ v ≤ 2147483647) ∧ (k < 0 ∨ 1 < k → v = -1) ∧ (0 ≤ k ∧ k ≤ 1 → gi M 80 k = 0 → v = -2) ∧ (0 ≤ k ∧ k ≤ 1 → gi M 80 k = 1 → v = 0))) := by
  have f0 : Fr [(77, 1), (78, 0)] M M := Fr.rf
  refine sOk.of (show sRn base X G d T152 0 [(0, vR 77), (1, vI k)] [] M _ from ?_)
  refine s_blx (lv' := [(0, vR 77), (1, vI k)]) (st' := [vI 1, vI 0, vI k]) B152_0_3 rfl ?_
  refine r_sIp (args := [vI k, vI 0, vI 1]) (rest := []) (pc' := 6) D152_3 rfl ck_11_static_123 TE147 rfl (Nat.le_of_ble_eq_true rfl) ⟨Nat.le_of_ble_eq_true rfl, Nat.le_of_ble_eq_true rfl⟩ (by decide) (dp_0 hd rfl) (k147 E (dp_n hd rfl) H k 0 1 (by omega) (by omega) (by omega)) ?_
  intro v1 q6
  obtain ⟨q3, q4, q5⟩ := q6
  refine r_ifc (tgt := 15) (pc' := 9) D152_6 rfl rfl (by unfold inR; omega) (fun (c7 : v1 ≠ 0) => ?_) (fun (c7 : ¬ (v1 ≠ 0)) => ?_)
  · refine s_blx (lv' := [(0, vR 77), (1, vI k)]) (st' := [vR 77]) B152_15_16 rfl ?_
    refine r_gfix (r := 80) (pc' := 19) D152_16 rfl gf_11_20_77 H.1 ?_
    refine s_blx (lv' := [(0, vR 77), (1, vI k)]) (st' := [vI k, vR 80]) B152_19_20 rfl ?_
    refine r_bald (pc' := 21) D152_20 rfl sc_80 (by decide) H.1 (by omega) ?_
    intro w8 e9 r10
    have b_w8 := H.2 80 (k) 0 1 rfl
    rw [← e9] at b_w8; clear r10
    refine r_ifc (tgt := 31) (pc' := 24) D152_21 rfl rfl (by unfold inR; omega) (fun (c11 : w8 ≠ 0) => ?_) (fun (c11 : ¬ (w8 ≠ 0)) => ?_)
    · refine s_blx (lv' := [(2, vI 0), (0, vR 77), (1, vI k)]) (st' := []) B152_31_33 rfl ?_
      refine r_loc (lv' := [(0, vR 77), (1, vI k), (2, vI 0)]) ⟨rfl, rfl, rfl, trivial⟩ rfl rfl ?_
      have g12 : gi M 80 k = w8 := e9.symm
      exact (L_k152e E hd H k h0 h1 h2 h3 (((6883 - 0) * 1 + 0 : Int) + 1).toNat) 0 M H f0 (fun j h1 h2 => by omega) (by omega) (by omega) (by omega) (by omega) (by omega) (by omega) (by omega) (by omega) (by omega)
    · refine s_blx (lv' := [(0, vR 77), (1, vI k)]) (st' := [vI (-2), vR 77]) B152_24_27 rfl ?_
      refine r_vI (c := 77) (args := [vI (-2)]) (rest := []) (pc' := 30) D152_27 rfl ck_11_virtual_127 TE148 rfl (Nat.le_of_ble_eq_true rfl) ⟨Nat.le_of_ble_eq_true rfl, Nat.le_of_ble_eq_true rfl⟩ sc_77 ⟨rfl, by decide⟩ H.1 (dp_0 hd rfl) (k148 E (dp_n hd rfl) H (-2) (by omega)) ?_
      intro v13 M14 q18
      obtain ⟨H15, f16, q17⟩ := q18
      have f19 := f0.tr (f16.up rfl)
      have hp20 := h1.fr f16 (by decide)
      have hp21 := h2.fr f16 (by decide)
      exact r_iretI D152_30 rfl (⟨H15, f19, hp20, hp21, by omega, by omega, by omega, by omega⟩)
  · refine s_blx (lv' := [(0, vR 77), (1, vI k)]) (st' := [vI (-1), vR 77]) B152_9_11 rfl ?_
    refine r_vI (c := 77) (args := [vI (-1)]) (rest := []) (pc' := 14) D152_11 rfl ck_11_virtual_127 TE148 rfl (Nat.le_of_ble_eq_true rfl) ⟨Nat.le_of_ble_eq_true rfl, Nat.le_of_ble_eq_true rfl⟩ sc_77 ⟨rfl, by decide⟩ H.1 (dp_0 hd rfl) (k148 E (dp_n hd rfl) H (-1) (by omega)) ?_
    intro v22 M23 q27
    obtain ⟨H24, f25, q26⟩ := q27
    have f28 := f0.tr (f25.up rfl)
    have hp29 := h1.fr f25 (by decide)
    have hp30 := h2.fr f25 (by decide)
    exact r_iretI D152_14 rfl (⟨H24, f28, hp29, hp30, by omega, by omega, by omega, by omega⟩)
