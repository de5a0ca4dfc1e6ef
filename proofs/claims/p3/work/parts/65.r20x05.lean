set_option maxRecDepth 4000 in
set_option maxHeartbeats 4000000 in
theorem k246k {base : Nat} {X : Nat → Option mC} {G : Nat → Value} (E : EnvOK base X G) {d : Nat} (hd : 68 ≤ d) {M : mH} (H : HI base M) (text : Int) (said : Int) (second : Int) (K : Int → Int) (mk : Int) (zz : Int) (wh : Int) (ov : Int) (U : Int → Int) (A : Int → Int) (O : Int → Int) (h0 : TB M) (h1 : KK K M) (h2 : GK M) (h3 : C3 84 U M) (h4 : C3 83 A M) (h5 : C3 85 O M) (h6 : gi M 77 9 = ov) (h7 : 0 ≤ ov ∧ ov ≤ 1) (h8 : gi M 77 6 = zz) (h9 : gi M 77 8 = wh) (h10 : 1 ≤ wh ∧ wh ≤ 2147483647) (h11 : -2147483648 ≤ zz ∧ zz ≤ 2147483647) (h12 : bt zz mk) (h13 : 0 ≤ mk ∧ mk ≤ 15) (h14 : mk < K 469) (h15 : 1 ≤ K (135 + 16 * mk + 12 + K 474)) (h16 : 0 ≤ text ∧ text < K 471) (h17 : text ≤ 7) (h18 : 0 ≤ said ∧ said ≤ 1110) (h19 : -2147483648 ≤ second ∧ second ≤ 2147483647) : sOk base X G d T246 [vR 77, vI text, vI said, vI second] M (pI (fun v M' => HI base M' ∧ Fr [(77, 14), (77, 15), (77, 16), (77, 41), (77, 42), (77, 43), (100, 0)] M M' ∧ (LG (K 473) ov U A O said v) ∧ ((0 ≤ v ∧ v ≤ 4) ∨ (10 ≤ v ∧ v ≤ 17) ∨ (20 ≤ v ∧ v ≤ 22)))) := by
  have f0 : Fr [(77, 14), (77, 15), (77, 16), (77, 41), (77, 42), (77, 43), (100, 0)] M M := Fr.rf
  refine sOk.of (show sRn base X G d T246 0 [(0, vR 77), (1, vI text), (2, vI said), (3, vI second)] [] M _ from ?_)
  refine s_blx (lv' := [(0, vR 77), (1, vI text), (2, vI said), (3, vI second)]) (st' := [vI second, vI said, vR 77]) B246_0_3 rfl ?_
  have g1 : gi M 77 6 = zz := h8
  have g2 : gi M 77 8 = wh := h9
  refine r_vV (c := 77) (args := [vI said, vI second]) (rest := []) (pc' := 6) D246_3 rfl ck_11_virtual_428 TE244 rfl (Nat.le_of_ble_eq_true rfl) ⟨Nat.le_of_ble_eq_true rfl, Nat.le_of_ble_eq_true rfl⟩ sc_77 ⟨rfl, by decide⟩ H.1 (dp_0 hd rfl) (k244k E (dp_n hd rfl) H said second K mk zz wh (h0) (h1) (by omega) (by omega) (by omega) (by omega) (by omega) (by omega) (h12) (by omega) (by omega) (by omega)) ?_
  intro M4 q7
  obtain ⟨H5, f6⟩ := q7
  have f8 := f0.tr (f6.up rfl)
  refine s_blx (lv' := [(0, vR 77), (1, vI text), (2, vI said), (3, vI second)]) (st' := [vI (400 * text), vR 77]) B246_6_12 rfl ?_
  refine r_pint (ki := 40) (pc' := 15) D246_12 rfl pf_11_378_77 rfl H5 (by unfold inR; omega) trivial ?_
  intro M9 u10 H11 p12
  have f13 := f8.wr u10 rfl
  refine s_blx (lv' := [(0, vR 77), (1, vI text), (2, vI said), (3, vI second)]) (st' := [vR 77, vR 77]) B246_15_17 rfl ?_
  refine r_gint (ki := 40) (pc' := 20) D246_17 rfl gf_11_378_77 rfl H11.1 ?_
  intro w14 e15 r16
  have e17 : 400 * text = w14 := (e15.trans (p12)).symm
  subst e17
  refine s_blx (lv' := [(0, vR 77), (1, vI text), (2, vI said), (3, vI second)]) (st' := [vR 77, vI (400 * text), vR 77]) B246_20_21 rfl ?_
  refine r_gfix (r := 78) (pc' := 24) D246_21 rfl gf_11_13_77 H11.1 ?_
  refine s_blx (lv' := [(0, vR 77), (1, vI text), (2, vI said), (3, vI second)]) (st' := [vI (475 + text), vR 78, vI (400 * text), vR 77]) B246_24_29 rfl ?_
  refine r_iald (pc' := 30) D246_29 rfl sc_78 H11.1 (by omega) ?_
  intro w18 e19 r20
  have kk_w18 := ((h1.fr f13 rfl)) (475 + text)
  have b_w18 := H11.2 78 (475 + text) 0 400 (rk_sizes (by omega))
  rw [← e19] at b_w18; clear r20
  have kac := ((h2.fr f13 rfl)) text (by omega) (by rw [((h1.fr f13 rfl)) 471]; omega)
  rw [← e19] at kac
  obtain ⟨F, C, hC, hF0, hGE, hEE⟩ := ac_fun kac
  obtain ⟨e, he⟩ : ∃ q : Int, q = 400 * text + w18 := ⟨_, rfl⟩
  rw [← he] at hGE hEE
  obtain ⟨a, ha⟩ : ∃ q : Int, q = 400 * text := ⟨_, rfl⟩
  rw [← ha] at hGE hF0
  clear kac
  refine s_blx (lv' := [(0, vR 77), (1, vI text), (2, vI said), (3, vI second)]) (st' := [vI ((400 * text) + w18), vR 77]) B246_30_31 rfl ?_
  refine r_pint (ki := 41) (pc' := 34) D246_31 rfl pf_11_375_77 rfl H11 (by unfold inR; omega) trivial ?_
  intro M21 u22 H23 p24
  have f25 := f13.wr u22 rfl
  have hp26 := hC.wr u22 (by decide)
  have kge : gi M21 77 41 = e := by rw [p24]; exact he.symm
  have kgo : gi M21 77 40 = a := (((u22.gi_ne (by decide) (Or.inr (by decide))).trans (p12))).trans ha.symm
  refine r_loc (lv' := [(0, vR 77), (2, vI said)]) ⟨rfl, rfl, trivial⟩ rfl rfl ?_
  have g27 : gi M21 77 41 = e := kge
  have g28 : gi M21 77 40 = a := kgo
  have g29 : gi M21 77 9 = ov := (u22.gi_ne (by decide) (Or.inr (by decide))).trans ((u10.gi_ne (by decide) (Or.inr (by decide))).trans ((f6.g rfl).trans (h6)))
  have g30 : gi M21 77 6 = zz := (u22.gi_ne (by decide) (Or.inr (by decide))).trans ((u10.gi_ne (by decide) (Or.inr (by decide))).trans ((f6.g rfl).trans (h8)))
  exact (L_k246k E hd H text said second K mk zz wh ov U A O h0 h1 h2 h3 h4 h5 h6 h7 h8 h9 h10 h11 h12 h13 h14 h15 h16 h17 h18 h19 (((3201 - a) * 1 + 0 : Int) + 1).toNat) a e a F C M21 H23 f25 (hp26) (hGE) (by omega) (by omega) (by omega) (by omega) (by omega) (by omega) (by omega) (by omega) (by omega)
