
set_option maxRecDepth 4000 in
theorem L_k210e {base : Nat} {X : Nat → Option mC} {G : Nat → Value} (E : EnvOK base X G) {d : Nat} (hd : 0 ≤ d) {M : mH} (H : HI base M) (a : Int) (b : Int) (c : Int) (d_ : Int) (e : Int) (h0 : -2147483648 ≤ a ∧ a ≤ 2147483647) (h1 : -2147483648 ≤ b ∧ b ≤ 2147483647) (h2 : -2147483648 ≤ c ∧ c ≤ 2147483647) (h3 : -2147483648 ≤ d_ ∧ d_ ≤ 2147483647) (h4 : -2147483648 ≤ e ∧ e ≤ 2147483647) : ∀ mz : Nat, (∀ (x6 : Int) (N : mH), HI base N → Fr [(77, 32), (95, 0), (96, 0)] M N → (gi N 77 31 ≤ 380) → (gi N 77 31 = gi M 77 31) → (0 ≤ x6) → (x6 ≤ 20) → (20 - x6) * 1 + 0 < (mz : Int) → sRn base X G d T210 55 [(0, vR 77), (6, vI x6)] [] N (s_Q base (pI (fun v M' => HI base M' ∧ Fr [(77, 32), (95, 0), (96, 0)] M M' ∧ (-2147483648 ≤ v ∧ v ≤ 2147483647) ∧ (gi M 77 31 ≤ 380 → v = gi M 77 31 + 20 ∧ gi M' 77 31 = gi M 77 31 + 20) ∧ (380 < gi M 77 31 → v = -1 ∧ gi M' 77 31 = gi M 77 31))))) := by
  have f0 : Fr [(77, 32), (95, 0), (96, 0)] M M := Fr.rf
  intro mz
  induction mz with
  | zero => exact fun x6 N _ _ z0 z1 z2 z3 z4 => by omega
  | succ mz ih =>
    intro x6 N HN fN i0 i1 i2 i3 hmu
    refine s_blx (lv' := [(0, vR 77), (6, vI x6)]) (st' := [vI 20, vI x6]) B210_55_59 rfl ?_
    refine r_icmp (tgt := 101) (pc' := 62) D210_59 rfl rfl (by unfold inR; omega) (fun (c32 : 20 ≤ x6) => ?_) (fun (c32 : ¬ (20 ≤ x6)) => ?_)
    · refine s_blx (lv' := [(0, vR 77), (6, vI x6)]) (st' := [vR 77, vR 77]) B210_101_103 rfl ?_
      refine r_gint (ki := 31) (pc' := 106) D210_103 rfl gf_11_151_77 rfl HN.1 ?_
      intro w33 e34 r35
      have b_w33 := HN.2 77 (31) 0 400 rfl
      rw [← e34] at b_w33; clear r35
      refine s_blx (lv' := [(0, vR 77), (6, vI x6)]) (st' := [vI (w33 + 20), vR 77]) B210_106_109 rfl ?_
      refine r_pint (ki := 31) (pc' := 112) D210_109 rfl pf_11_151_77 rfl HN (by unfold inR; omega) (show 0 ≤ (w33 + 20) ∧ (w33 + 20) ≤ 400 by omega) ?_
      intro M36 u37 H38 p39
      have f40 := fN.wr u37 rfl
      refine s_blx (lv' := [(0, vR 77), (6, vI x6)]) (st' := [vR 77]) B210_112_113 rfl ?_
      refine r_gint (ki := 31) (pc' := 116) D210_113 rfl gf_11_151_77 rfl H38.1 ?_
      intro w41 e42 r43
      have e44 : w33 + 20 = w41 := (e42.trans (p39)).symm
      subst e44
      have g45 : gi M36 77 31 = w33 + 20 := p39
      exact r_iretI D210_116 rfl (⟨H38, f40, by omega, by omega, by omega⟩)
    · refine s_blx (lv' := [(0, vR 77), (6, vI x6)]) (st' := [vR 77]) B210_62_63 rfl ?_
      refine r_gfix (r := 95) (pc' := 66) D210_63 rfl gf_11_69_77 HN.1 ?_
      refine s_blx (lv' := [(0, vR 77), (6, vI x6)]) (st' := [vR 77, vR 95]) B210_66_67 rfl ?_
      refine r_gint (ki := 31) (pc' := 70) D210_67 rfl gf_11_151_77 rfl HN.1 ?_
      intro w46 e47 r48
      have b_w46 := HN.2 77 (31) 0 400 rfl
      rw [← e47] at b_w46; clear r48
      refine s_blx (lv' := [(0, vR 77), (6, vI x6)]) (st' := [vR 77, vI (w46 + x6), vR 95]) B210_70_74 rfl ?_
      refine r_gfix (r := 96) (pc' := 77) D210_74 rfl gf_11_72_77 HN.1 ?_
      refine s_blx (lv' := [(0, vR 77), (6, vI x6)]) (st' := [vI 4, vI x6, vR 96, vI (w46 + x6), vR 95]) B210_77_80 rfl ?_
      refine r_idiv (pc' := 81) D210_80 rfl (by omega) ?_
      refine r_iald (pc' := 82) D210_81 rfl sc_96 HN.1 (by omega) ?_
      intro w49 e50 r51
      unfold inR at r51
      refine s_blx (lv' := [(0, vR 77), (6, vI x6)]) (st' := [vI 4, vI x6, vI 8, vI 24, vI w49, vI (w46 + x6), vR 95]) B210_82_89 rfl ?_
      refine r_irem (pc' := 90) D210_89 rfl (by omega) ?_
      refine s_blx (lv' := [(0, vR 77), (6, vI x6)]) (st' := [vI (24 - (8 * (x6 % 4))), vI w49, vI (w46 + x6), vR 95]) B210_90_92 rfl ?_
      refine r_bin (pc' := 93) D210_92 rfl rfl ?_
      intro z52 r53 _; unfold inR at r53
      refine r_i2b (pc' := 94) D210_93 rfl ?_
      intro z54 r55 r56
      refine r_byast (pc' := 95) D210_94 rfl sc_95 HN (by omega) (by omega) (show (-128) ≤ z54 ∧ z54 ≤ 127 by omega) ?_
      intro M57 u58 H59 p60
      have f61 := fN.wr u58 rfl
      refine s_blx (lv' := [(6, vI (x6 + 1)), (0, vR 77)]) (st' := []) B210_95_98 rfl ?_
      refine r_goto (tgt := 55) D210_98 rfl ?_
      refine r_loc (lv' := [(0, vR 77), (6, vI (x6 + 1))]) ⟨rfl, rfl, trivial⟩ rfl rfl ?_
      have g62 : gi M57 77 31 = w46 := (u58.gi_ne (by omega) (Or.inl (by decide))).trans (e47.symm)
      exact ih (x6 + 1) M57 H59 f61 (by omega) (by omega) (by omega) (by omega) (by omega)
set_option maxRecDepth 4000 in
theorem k210e {base : Nat} {X : Nat → Option mC} {G : Nat → Value} (E : EnvOK base X G) {d : Nat} (hd : 0 ≤ d) {M : mH} (H : HI base M) (a : Int) (b : Int) (c : Int) (d_ : Int) (e : Int) (h0 : -2147483648 ≤ a ∧ a ≤ 2147483647) (h1 : -2147483648 ≤ b ∧ b ≤ 2147483647) (h2 : -2147483648 ≤ c ∧ c ≤ 2147483647) (h3 : -2147483648 ≤ d_ ∧ d_ ≤ 2147483647) (h4 : -2147483648 ≤ e ∧ e ≤ 2147483647) : sOk base X G d T210 [vR 77, vI a, vI b, vI c, vI d_, vI e] M (pI (fun v M' => HI base M' ∧ Fr [(77, 32), (95, 0), (96, 0)] M M' ∧ (-2147483648 ≤ v ∧ v ≤ 2147483647) ∧ (gi M 77 31 ≤ 380 → v = gi M 77 31 + 20 ∧ gi M' 77 31 = gi M 77 31 + 20) ∧ (380 < gi M 77 31 → v = -1 ∧ gi M' 77 31 = gi M 77 31))) := by
  have f0 : Fr [(77, 32), (95, 0), (96, 0)] M M := Fr.rf
  refine sOk.of (show sRn base X G d T210 0 [(0, vR 77), (1, vI a), (2, vI b), (3, vI c), (4, vI d_), (5, vI e)] [] M _ from ?_)
  refine s_blx (lv' := [(0, vR 77), (1, vI a), (2, vI b), (3, vI c), (4, vI d_), (5, vI e)]) (st' := [vR 77]) B210_0_1 rfl ?_
  refine r_gint (ki := 31) (pc' := 4) D210_1 rfl gf_11_151_77 rfl H.1 ?_
  intro w1 e2 r3
  have b_w1 := H.2 77 (31) 0 400 rfl
  rw [← e2] at b_w1; clear r3
  refine s_blx (lv' := [(0, vR 77), (1, vI a), (2, vI b), (3, vI c), (4, vI d_), (5, vI e)]) (st' := [vI 400, vI (w1 + 20)]) B210_4_10 rfl ?_
  refine r_icmp (tgt := 15) (pc' := 13) D210_10 rfl rfl (by unfold inR; omega) (fun (c4 : (w1 + 20) ≤ 400) => ?_) (fun (c4 : ¬ ((w1 + 20) ≤ 400)) => ?_)
  · refine s_blx (lv' := [(0, vR 77), (1, vI a), (2, vI b), (3, vI c), (4, vI d_), (5, vI e)]) (st' := [vR 77]) B210_15_16 rfl ?_
    refine r_gfix (r := 96) (pc' := 19) D210_16 rfl gf_11_72_77 H.1 ?_
    refine s_blx (lv' := [(0, vR 77), (1, vI a), (2, vI b), (3, vI c), (4, vI d_), (5, vI e)]) (st' := [vI a, vI 0, vR 96]) B210_19_21 rfl ?_
    refine r_iast (pc' := 22) D210_21 rfl sc_96 H (by omega) (by unfold inR; omega) trivial ?_
    intro M5 u6 H7 p8
    have f9 := f0.wr u6 rfl
    refine s_blx (lv' := [(0, vR 77), (1, vI a), (2, vI b), (3, vI c), (4, vI d_), (5, vI e)]) (st' := [vR 77]) B210_22_23 rfl ?_
    refine r_gfix (r := 96) (pc' := 26) D210_23 rfl gf_11_72_77 H7.1 ?_
    refine s_blx (lv' := [(0, vR 77), (1, vI a), (2, vI b), (3, vI c), (4, vI d_), (5, vI e)]) (st' := [vI b, vI 1, vR 96]) B210_26_28 rfl ?_
    refine r_iast (pc' := 29) D210_28 rfl sc_96 H7 (by omega) (by unfold inR; omega) trivial ?_
    intro M10 u11 H12 p13
    have f14 := f9.wr u11 rfl
    refine s_blx (lv' := [(0, vR 77), (1, vI a), (2, vI b), (3, vI c), (4, vI d_), (5, vI e)]) (st' := [vR 77]) B210_29_30 rfl ?_
    refine r_gfix (r := 96) (pc' := 33) D210_30 rfl gf_11_72_77 H12.1 ?_
    refine s_blx (lv' := [(0, vR 77), (1, vI a), (2, vI b), (3, vI c), (4, vI d_), (5, vI e)]) (st' := [vI c, vI 2, vR 96]) B210_33_35 rfl ?_
    refine r_iast (pc' := 36) D210_35 rfl sc_96 H12 (by omega) (by unfold inR; omega) trivial ?_
    intro M15 u16 H17 p18
    have f19 := f14.wr u16 rfl
    refine s_blx (lv' := [(0, vR 77), (1, vI a), (2, vI b), (3, vI c), (4, vI d_), (5, vI e)]) (st' := [vR 77]) B210_36_37 rfl ?_
    refine r_gfix (r := 96) (pc' := 40) D210_37 rfl gf_11_72_77 H17.1 ?_
    refine s_blx (lv' := [(0, vR 77), (1, vI a), (2, vI b), (3, vI c), (4, vI d_), (5, vI e)]) (st' := [vI d_, vI 3, vR 96]) B210_40_43 rfl ?_
    refine r_iast (pc' := 44) D210_43 rfl sc_96 H17 (by omega) (by unfold inR; omega) trivial ?_
    intro M20 u21 H22 p23
    have f24 := f19.wr u21 rfl
    refine s_blx (lv' := [(0, vR 77), (1, vI a), (2, vI b), (3, vI c), (4, vI d_), (5, vI e)]) (st' := [vR 77]) B210_44_45 rfl ?_
    refine r_gfix (r := 96) (pc' := 48) D210_45 rfl gf_11_72_77 H22.1 ?_
    refine s_blx (lv' := [(0, vR 77), (1, vI a), (2, vI b), (3, vI c), (4, vI d_), (5, vI e)]) (st' := [vI e, vI 4, vR 96]) B210_48_51 rfl ?_
    refine r_iast (pc' := 52) D210_51 rfl sc_96 H22 (by omega) (by unfold inR; omega) trivial ?_
    intro M25 u26 H27 p28
    have f29 := f24.wr u26 rfl
    refine s_blx (lv' := [(6, vI 0), (0, vR 77), (1, vI a), (2, vI b), (3, vI c), (4, vI d_), (5, vI e)]) (st' := []) B210_52_55 rfl ?_
    refine r_loc (lv' := [(0, vR 77), (6, vI 0)]) ⟨rfl, rfl, trivial⟩ rfl rfl ?_
    have g30 : gi M25 77 31 = w1 := (u26.gi_ne (by decide) (Or.inl (by decide))).trans ((u21.gi_ne (by decide) (Or.inl (by decide))).trans ((u16.gi_ne (by decide) (Or.inl (by decide))).trans ((u11.gi_ne (by decide) (Or.inl (by decide))).trans ((u6.gi_ne (by decide) (Or.inl (by decide))).trans (e2.symm)))))
    exact (L_k210e E hd H a b c d_ e h0 h1 h2 h3 h4 (((20 - 0) * 1 + 0 : Int) + 1).toNat) 0 M25 H27 f29 (by omega) (by omega) (by omega) (by omega) (by omega)
  · refine s_blx (lv' := [(0, vR 77), (1, vI a), (2, vI b), (3, vI c), (4, vI d_), (5, vI e)]) (st' := [vI (-1)]) B210_13_14 rfl ?_
    have g31 : gi M 77 31 = w1 := e2.symm
    exact r_iretI D210_14 rfl (⟨H, f0, by omega, by omega, by omega⟩)
set_option maxRecDepth 4000 in
theorem k211e {base : Nat} {X : Nat → Option mC} {G : Nat → Value} (E : EnvOK base X G) {d : Nat} (hd : 1 ≤ d) {M : mH} (H : HI base M) (n : Int) (h0 : -2147483648 ≤ n ∧ n ≤ 2147483647) : sOk base X G d T211 [vR 77, vI n] M (pI (fun v M' => HI base M' ∧ Fr [(77, 32)] M M' ∧ (-2147483648 ≤ v ∧ v ≤ 2147483647) ∧ (0 ≤ n ∧ n ≤ gi M 77 31 → v = n ∧ gi M' 77 31 = n) ∧ (n < 0 ∨ gi M 77 31 < n → v = -1 ∧ gi M' 77 31 = gi M 77 31))) := by
  have f0 : Fr [(77, 32)] M M := Fr.rf
  refine sOk.of (show sRn base X G d T211 0 [(0, vR 77), (1, vI n)] [] M _ from ?_)
  refine s_blx (lv' := [(0, vR 77), (1, vI n)]) (st' := [vR 77, vI 0, vI n]) B211_0_3 rfl ?_
  refine r_gint (ki := 31) (pc' := 6) D211_3 rfl gf_11_151_77 rfl H.1 ?_
  intro w1 e2 r3
  have b_w1 := H.2 77 (31) 0 400 rfl
  rw [← e2] at b_w1; clear r3
  refine r_sIp (args := [vI n, vI 0, vI w1]) (rest := []) (pc' := 9) D211_6 rfl ck_11_static_123 TE147 rfl (Nat.le_of_ble_eq_true rfl) ⟨Nat.le_of_ble_eq_true rfl, Nat.le_of_ble_eq_true rfl⟩ (by decide) (dp_0 hd rfl) (k147 E (dp_n hd rfl) H n 0 w1 (by omega) (by omega) (by omega)) ?_
  intro v4 q9
  obtain ⟨q6, q7, q8⟩ := q9
  refine r_ifc (tgt := 14) (pc' := 12) D211_9 rfl rfl (by unfold inR; omega) (fun (c10 : v4 ≠ 0) => ?_) (fun (c10 : ¬ (v4 ≠ 0)) => ?_)
  · refine s_blx (lv' := [(0, vR 77), (1, vI n)]) (st' := [vI n, vR 77]) B211_14_16 rfl ?_
    refine r_pint (ki := 31) (pc' := 19) D211_16 rfl pf_11_151_77 rfl H (by unfold inR; omega) (show 0 ≤ n ∧ n ≤ 400 by omega) ?_
    intro M11 u12 H13 p14
    have f15 := f0.wr u12 rfl
    refine s_blx (lv' := [(0, vR 77), (1, vI n)]) (st' := [vI n]) B211_19_20 rfl ?_
    have g16 : gi M11 77 31 = n := p14
    exact r_iretI D211_20 rfl (⟨H13, f15, by omega, by omega, by omega⟩)
  · refine s_blx (lv' := [(0, vR 77), (1, vI n)]) (st' := [vI (-1)]) B211_12_13 rfl ?_
    have g17 : gi M 77 31 = w1 := e2.symm
    exact r_iretI D211_13 rfl (⟨H, f0, by omega, by omega, by omega⟩)
