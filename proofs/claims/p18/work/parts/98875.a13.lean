
set_option maxRecDepth 4000 in
theorem L_k230p {base : Nat} {X : Nat → Option mC} {G : Nat → Value} (E : EnvOK base X G) {d : Nat} (hd : 60 ≤ d) {M : mH} (H : HI base M) (sz : Int) (T : Int → Int) (n0 : Int) (h0 : WX M) (h1 : gi M 77 31 = sz) (h2 : 0 ≤ sz ∧ sz ≤ 400) (h3 : ∀ i : Int, 0 ≤ i → i < sz → gi M 95 i % 256 = T i) (h4 : gi M 78 471 = n0) (h5 : 0 ≤ n0 ∧ n0 ≤ 8) : ∀ mz : Nat, (∀ (x2 tk y0 : Int) (N : mH), HI base N → Fr [(77, 1), (77, 32), (77, 33), (77, 37), (77, 38), (77, 39), (77, 40), (78, 0), (97, 0), (98, 0), (99, 0)] M N → (gi N 77 36 = tk) → (gi N 77 32 = y0) → (gi N 78 471 = n0) → (0 ≤ n0 ∧ n0 ≤ 7) → (0 ≤ x2 ∧ x2 ≤ 400) → (0 ≤ tk ∧ tk ≤ 400) → (DRx T sz 1 y0) → (0 ≤ x2) → (x2 ≤ 400) → (400 - x2) * 1 + 0 < (mz : Int) → sRn base X G d T230 64 [(0, vR 77), (1, vI n0), (2, vI x2)] [] N (s_Q base (pI (fun v M' => HI base M' ∧ Fr [(77, 1), (77, 32), (77, 33), (77, 37), (77, 38), (77, 39), (77, 40), (78, 0), (97, 0), (98, 0), (99, 0)] M M' ∧ (-2147483648 ≤ v ∧ v ≤ 2147483647) ∧ (8 ≤ n0 → v = -5 ∧ gi M' 77 32 = gi M 77 32 ∧ gi M' 78 471 = n0) ∧ (n0 < 8 → HAx T sz n0 v (gi M' 77 32) (gi M' 78 471)))))) := by
  have f0 : Fr [(77, 1), (77, 32), (77, 33), (77, 37), (77, 38), (77, 39), (77, 40), (78, 0), (97, 0), (98, 0), (99, 0)] M M := Fr.rf
  intro mz
  induction mz with
  | zero => exact fun x2 tk y0 N _ _ z0 z1 z2 z3 z4 z5 z6 z7 z8 z9 => by omega
  | succ mz ih =>
    intro x2 tk y0 N HN fN i0 i1 i2 i3 i4 i5 i6 i7 i8 hmu
    refine s_blx (lv' := [(0, vR 77), (1, vI n0), (2, vI x2)]) (st' := [vR 77, vI x2]) B230_64_66 rfl ?_
    refine r_gint (ki := 36) (pc' := 69) D230_66 rfl gf_11_305_77 rfl HN.1 ?_
    intro w59 e60 r61
    have e62 : tk = w59 := (e60.trans (i0)).symm
    subst e62
    refine r_icmp (tgt := 122) (pc' := 72) D230_69 rfl rfl (by unfold inR; omega) (fun (c63 : tk ≤ x2) => ?_) (fun (c63 : ¬ (tk ≤ x2)) => ?_)
    · refine s_blx (lv' := [(0, vR 77), (1, vI n0), (2, vI x2)]) (st' := [vR 77]) B230_122_123 rfl ?_
      refine r_gfix (r := 78) (pc' := 126) D230_123 rfl gf_11_13_77 HN.1 ?_
      refine s_blx (lv' := [(0, vR 77), (1, vI n0), (2, vI x2)]) (st' := [vI 471, vR 78, vI 471, vR 78]) B230_126_130 rfl ?_
      refine r_iald (pc' := 131) D230_130 rfl sc_78 HN.1 (by omega) ?_
      intro w64 e65 r66
      have e67 : n0 = w64 := (e65.trans (i2)).symm
      subst e67
      refine s_blx (lv' := [(0, vR 77), (1, vI n0), (2, vI x2)]) (st' := [vI (n0 + 1), vI 471, vR 78]) B230_131_133 rfl ?_
      refine r_iast (pc' := 134) D230_133 rfl sc_78 HN (by omega) (by unfold inR; omega) (by show s_in (rgK _) _; rw [rk_told (by omega)]; show 0 ≤ (n0 + 1) ∧ (n0 + 1) ≤ 8; omega) ?_
      intro M68 u69 H70 p71
      have f72 := fN.wr u69 rfl
      refine s_blx (lv' := [(0, vR 77), (1, vI n0), (2, vI x2)]) (st' := [vI n0, vR 77]) B230_134_136 rfl ?_
      refine r_vI (c := 77) (args := [vI n0]) (rest := []) (pc' := 139) D230_136 rfl ck_11_virtual_131 TE149 rfl (Nat.le_of_ble_eq_true rfl) ⟨Nat.le_of_ble_eq_true rfl, Nat.le_of_ble_eq_true rfl⟩ sc_77 ⟨rfl, by decide⟩ H70.1 (dp_0 hd rfl) (k149 E (dp_n hd rfl) H70 n0 (by omega)) ?_
      intro v73 M74 q78
      obtain ⟨H75, f76, q77⟩ := q78
      have f79 := f72.tr (f76.up rfl)
      have g80 : gi M74 77 32 = y0 := (f76.g rfl).trans ((u69.gi_ne (by decide) (Or.inl (by decide))).trans (i1))
      have g81 : gi M74 78 471 = n0 + 1 := (f76.g rfl).trans (p71)
      exact r_iretI D230_139 rfl (⟨H75, f79, by omega, fun c => absurd c (by omega), fun _ => Or.inr ⟨(i6.resolve_right (fun w_ => absurd w_.1 (by decide))).2.2, by omega, by rw [((f76.g rfl).trans ((u69.gi_ne (by decide) (Or.inl (by decide))).trans (i1)))]; exact (i6.resolve_right (fun w_ => absurd w_.1 (by decide))).2.1, ((f76.g rfl).trans (p71))⟩⟩)
    · refine s_blx (lv' := [(0, vR 77), (1, vI n0), (2, vI x2)]) (st' := [vR 77]) B230_72_73 rfl ?_
      refine r_gfix (r := 78) (pc' := 76) D230_73 rfl gf_11_13_77 HN.1 ?_
      refine s_blx (lv' := [(0, vR 77), (1, vI n0), (2, vI x2)]) (st' := [vR 77, vI ((483 + (400 * n0)) + x2), vR 78]) B230_76_88 rfl ?_
      refine r_gfix (r := 97) (pc' := 91) D230_88 rfl gf_11_78_77 HN.1 ?_
      refine s_blx (lv' := [(0, vR 77), (1, vI n0), (2, vI x2)]) (st' := [vI x2, vR 97, vI ((483 + (400 * n0)) + x2), vR 78]) B230_91_92 rfl ?_
      refine r_iald (pc' := 93) D230_92 rfl sc_97 HN.1 (by omega) ?_
      intro w82 e83 r84
      unfold inR at r84
      refine r_iast (pc' := 94) D230_93 rfl sc_78 HN (by omega) (by unfold inR; omega) (by show s_in (rgK _) _; rw [rk_no (by omega)]; trivial) ?_
      intro M85 u86 H87 p88
      have f89 := fN.wr u86 rfl
      refine s_blx (lv' := [(0, vR 77), (1, vI n0), (2, vI x2)]) (st' := [vR 77]) B230_94_95 rfl ?_
      refine r_gfix (r := 78) (pc' := 98) D230_95 rfl gf_11_13_77 H87.1 ?_
      refine s_blx (lv' := [(0, vR 77), (1, vI n0), (2, vI x2)]) (st' := [vR 77, vI ((3683 + (400 * n0)) + x2), vR 78]) B230_98_110 rfl ?_
      refine r_gfix (r := 98) (pc' := 113) D230_110 rfl gf_11_81_77 H87.1 ?_
      refine s_blx (lv' := [(0, vR 77), (1, vI n0), (2, vI x2)]) (st' := [vI x2, vR 98, vI ((3683 + (400 * n0)) + x2), vR 78]) B230_113_114 rfl ?_
      refine r_iald (pc' := 115) D230_114 rfl sc_98 H87.1 (by omega) ?_
      intro w90 e91 r92
      unfold inR at r92
      refine r_iast (pc' := 116) D230_115 rfl sc_78 H87 (by omega) (by unfold inR; omega) (by show s_in (rgK _) _; rw [rk_no (by omega)]; trivial) ?_
      intro M93 u94 H95 p96
      have f97 := f89.wr u94 rfl
      refine s_blx (lv' := [(2, vI (x2 + 1)), (0, vR 77), (1, vI n0)]) (st' := []) B230_116_119 rfl ?_
      refine r_goto (tgt := 64) D230_119 rfl ?_
      refine r_loc (lv' := [(0, vR 77), (1, vI n0), (2, vI (x2 + 1))]) ⟨rfl, rfl, rfl, trivial⟩ rfl rfl ?_
      have g98 : gi M93 77 36 = tk := (u94.gi_ne (by omega) (Or.inl (by decide))).trans ((u86.gi_ne (by omega) (Or.inl (by decide))).trans (i0))
      have g99 : gi M93 77 32 = y0 := (u94.gi_ne (by omega) (Or.inl (by decide))).trans ((u86.gi_ne (by omega) (Or.inl (by decide))).trans (i1))
      have g100 : gi M93 78 471 = n0 := (u94.gi_ne (by omega) (Or.inr (by omega))).trans ((u86.gi_ne (by omega) (Or.inr (by omega))).trans (i2))
      exact ih (x2 + 1) tk y0 M93 H95 f97 (by omega) (by omega) (by omega) (by omega) (by omega) (by omega) (i6) (by omega) (by omega) (by omega)
set_option maxRecDepth 4000 in
theorem k230p {base : Nat} {X : Nat → Option mC} {G : Nat → Value} (E : EnvOK base X G) {d : Nat} (hd : 60 ≤ d) {M : mH} (H : HI base M) (sz : Int) (T : Int → Int) (n0 : Int) (h0 : WX M) (h1 : gi M 77 31 = sz) (h2 : 0 ≤ sz ∧ sz ≤ 400) (h3 : ∀ i : Int, 0 ≤ i → i < sz → gi M 95 i % 256 = T i) (h4 : gi M 78 471 = n0) (h5 : 0 ≤ n0 ∧ n0 ≤ 8) : sOk base X G d T230 [vR 77] M (pI (fun v M' => HI base M' ∧ Fr [(77, 1), (77, 32), (77, 33), (77, 37), (77, 38), (77, 39), (77, 40), (78, 0), (97, 0), (98, 0), (99, 0)] M M' ∧ (-2147483648 ≤ v ∧ v ≤ 2147483647) ∧ (8 ≤ n0 → v = -5 ∧ gi M' 77 32 = gi M 77 32 ∧ gi M' 78 471 = n0) ∧ (n0 < 8 → HAx T sz n0 v (gi M' 77 32) (gi M' 78 471)))) := by
  have f0 : Fr [(77, 1), (77, 32), (77, 33), (77, 37), (77, 38), (77, 39), (77, 40), (78, 0), (97, 0), (98, 0), (99, 0)] M M := Fr.rf
  refine sOk.of (show sRn base X G d T230 0 [(0, vR 77)] [] M _ from ?_)
  refine s_blx (lv' := [(0, vR 77)]) (st' := [vR 77]) B230_0_1 rfl ?_
  refine r_gfix (r := 78) (pc' := 4) D230_1 rfl gf_11_13_77 H.1 ?_
  refine s_blx (lv' := [(0, vR 77)]) (st' := [vI 471, vR 78]) B230_4_7 rfl ?_
  refine r_iald (pc' := 8) D230_7 rfl sc_78 H.1 (by omega) ?_
  intro w1 e2 r3
  have e4 : n0 = w1 := (e2.trans (h4)).symm
  subst e4
  refine s_blx (lv' := [(0, vR 77)]) (st' := [vI 8, vI n0]) B230_8_10 rfl ?_
  refine r_icmp (tgt := 25) (pc' := 13) D230_10 rfl rfl (by unfold inR; omega) (fun (c5 : n0 ≠ 8) => ?_) (fun (c5 : ¬ (n0 ≠ 8)) => ?_)
  · refine s_blx (lv' := [(0, vR 77)]) (st' := [vR 77]) B230_25_26 rfl ?_
    have g6 : gi M 77 31 = sz := h1
    refine r_vI (c := 77) (args := []) (rest := []) (pc' := 29) D230_26 rfl ck_11_virtual_372 TE229 rfl (Nat.le_of_ble_eq_true rfl) ⟨Nat.le_of_ble_eq_true rfl, Nat.le_of_ble_eq_true rfl⟩ sc_77 ⟨rfl, by decide⟩ H.1 (dp_0 hd rfl) (k229p E (dp_n hd rfl) H sz T (h0) (by omega) (by omega) (by omega)) ?_
    intro v7 M8 q14
    obtain ⟨H9, f10, q11, q12, q13⟩ := q14
    have f15 := f0.tr (f10.up rfl)
    obtain ⟨t16, ht17⟩ : ∃ q, q = gi M8 77 32 := ⟨_, rfl⟩
    have b_t16 := (H9.1.int sc_77 (i := 32) (by decide) (by decide) rfl).2
    unfold inR at b_t16; rw [← ht17] at b_t16
    obtain ⟨t18, ht19⟩ : ∃ q, q = gi M8 77 31 := ⟨_, rfl⟩
    have b_t18 := H9.2 77 31 0 400 rfl
    rw [← ht19] at b_t18
    rw [← ht17] at q12
    rw [← ht19] at q13
    have kD0 := q12; clear q12
    refine r_ifc (tgt := 39) (pc' := 32) D230_29 rfl rfl (by unfold inR; omega) (fun (c20 : v7 ≠ 0) => ?_) (fun (c20 : ¬ (v7 ≠ 0)) => ?_)
    · refine s_blx (lv' := [(0, vR 77)]) (st' := [vR 77]) B230_39_40 rfl ?_
      refine r_gfix (r := 78) (pc' := 43) D230_40 rfl gf_11_13_77 H9.1 ?_
      refine s_blx (lv' := [(0, vR 77)]) (st' := [vI 471, vR 78]) B230_43_46 rfl ?_
      refine r_iald (pc' := 47) D230_46 rfl sc_78 H9.1 (by omega) ?_
      intro w21 e22 r23
      have e24 : n0 = w21 := (e22.trans ((f10.g rfl).trans (h4))).symm
      subst e24
      have kD : DRx T sz 1 t16 := by rw [← show v7 = 1 by omega]; exact kD0
      refine s_blx (lv' := [(1, vI n0), (0, vR 77)]) (st' := [vR 77]) B230_47_49 rfl ?_
      refine r_gfix (r := 78) (pc' := 52) D230_49 rfl gf_11_13_77 H9.1 ?_
      refine s_blx (lv' := [(1, vI n0), (0, vR 77)]) (st' := [vR 77, vI (475 + n0), vR 78]) B230_52_58 rfl ?_
      refine r_gint (ki := 36) (pc' := 61) D230_58 rfl gf_11_305_77 rfl H9.1 ?_
      intro w25 e26 r27
      have b_w25 := H9.2 77 (36) 0 400 rfl
      rw [← e26] at b_w25; clear r27
      refine r_iast (pc' := 62) D230_61 rfl sc_78 H9 (by omega) (by unfold inR; omega) (by show s_in (rgK _) _; rw [rk_sizes (by omega)]; show 0 ≤ w25 ∧ w25 ≤ 400; omega) ?_
      intro M28 u29 H30 p31
      have f32 := f15.wr u29 rfl
      refine s_blx (lv' := [(2, vI 0), (1, vI n0), (0, vR 77)]) (st' := []) B230_62_64 rfl ?_
      refine r_loc (lv' := [(0, vR 77), (1, vI n0), (2, vI 0)]) ⟨rfl, rfl, rfl, trivial⟩ rfl rfl ?_
      have g33 : gi M28 77 36 = w25 := (u29.gi_ne (by omega) (Or.inl (by decide))).trans (e26.symm)
      have g34 : gi M28 77 32 = t16 := (u29.gi_ne (by omega) (Or.inl (by decide))).trans (ht17.symm)
      have g35 : gi M28 78 471 = n0 := (u29.gi_ne (by omega) (Or.inr (by omega))).trans ((f10.g rfl).trans (h4))
      exact (L_k230p E hd H sz T n0 h0 h1 h2 h3 h4 h5 (((400 - 0) * 1 + 0 : Int) + 1).toNat) 0 w25 t16 M28 H30 f32 (by omega) (by omega) (by omega) (by omega) (by omega) (by omega) (kD) (by omega) (by omega) (by omega)
    · refine s_blx (lv' := [(0, vR 77)]) (st' := [vI (-6), vR 77]) B230_32_35 rfl ?_
      refine r_vI (c := 77) (args := [vI (-6)]) (rest := []) (pc' := 38) D230_35 rfl ck_11_virtual_127 TE148 rfl (Nat.le_of_ble_eq_true rfl) ⟨Nat.le_of_ble_eq_true rfl, Nat.le_of_ble_eq_true rfl⟩ sc_77 ⟨rfl, by decide⟩ H9.1 (dp_0 hd rfl) (k148 E (dp_n hd rfl) H9 (-6) (by omega)) ?_
      intro v36 M37 q41
      obtain ⟨H38, f39, q40⟩ := q41
      have f42 := f15.tr (f39.up rfl)
      have g43 : gi M37 77 32 = t16 := (f39.g rfl).trans (ht17.symm)
      have g44 : gi M37 78 471 = n0 := (f39.g rfl).trans ((f10.g rfl).trans (h4))
      exact r_iretI D230_38 rfl (⟨H38, f42, by omega, fun c => absurd c (by omega), fun _ => Or.inl ⟨by rw [((f39.g rfl).trans (ht17.symm))]; exact (kD0.resolve_left (fun w_ => by omega)).2, by omega, ((f39.g rfl).trans ((f10.g rfl).trans (h4)))⟩⟩)
  · refine s_blx (lv' := [(0, vR 77)]) (st' := [vI 0, vR 77]) B230_13_15 rfl ?_
    refine r_pint (ki := 31) (pc' := 18) D230_15 rfl pf_11_151_77 rfl H (by unfold inR; omega) (show 0 ≤ 0 ∧ 0 ≤ 400 by omega) ?_
    intro M45 u46 H47 p48
    have f49 := f0.wr u46 rfl
    refine s_blx (lv' := [(0, vR 77)]) (st' := [vI (-5), vR 77]) B230_18_21 rfl ?_
    refine r_vI (c := 77) (args := [vI (-5)]) (rest := []) (pc' := 24) D230_21 rfl ck_11_virtual_127 TE148 rfl (Nat.le_of_ble_eq_true rfl) ⟨Nat.le_of_ble_eq_true rfl, Nat.le_of_ble_eq_true rfl⟩ sc_77 ⟨rfl, by decide⟩ H47.1 (dp_0 hd rfl) (k148 E (dp_n hd rfl) H47 (-5) (by omega)) ?_
    intro v50 M51 q55
    obtain ⟨H52, f53, q54⟩ := q55
    have f56 := f49.tr (f53.up rfl)
    have g57 : gi M51 77 32 = gi M 77 32 := (f53.g rfl).trans ((u46.gi_ne (by decide) (Or.inr (by decide))).trans (rfl))
    have g58 : gi M51 78 471 = n0 := (f53.g rfl).trans ((u46.gi_ne (by decide) (Or.inl (by decide))).trans (h4))
    exact r_iretI D230_24 rfl (⟨H52, f56, by omega, by first | (rw [g57, g58]; omega) | rw [g57, g58], fun c => absurd c (by omega)⟩)
