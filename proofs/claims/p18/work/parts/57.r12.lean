noncomputable def T222 : mT := (11, yX11_readClause, cX11_readClause, 1, none)
set_option maxRecDepth 10000 in
theorem TE222 : sy_m[222]? = some T222 := rfl
theorem B222_0_1 : s_dk T222.2.2.1 0 [.aload_n 0] 1 = true := by decide +kernel
theorem D222_1 : decode T222.2.2.1 1 = .ok (.invokevirtual 321, 3) := by decide +kernel
theorem D222_4 : decode T222.2.2.1 4 = .ok (.ifCond .eq 34, 3) := by decide +kernel
theorem B222_38_39 : s_dk T222.2.2.1 38 [.aload_n 0] 39 = true := by decide +kernel
theorem D222_39 : decode T222.2.2.1 39 = .ok (.invokevirtual 321, 3) := by decide +kernel
theorem D222_42 : decode T222.2.2.1 42 = .ok (.ifCond .eq 13, 3) := by decide +kernel
theorem B222_55_58 : s_dk T222.2.2.1 55 [.aload_n 0, .bipush 7] 58 = true := by decide +kernel
theorem D222_58 : decode T222.2.2.1 58 = .ok (.invokevirtual 328, 3) := by decide +kernel
theorem D222_61 : decode T222.2.2.1 61 = .ok (.ifCond .eq 8, 3) := by decide +kernel
theorem D222_69 : decode T222.2.2.1 69 = .ok (.return_, 1) := by decide +kernel
theorem B222_64_66 : s_dk T222.2.2.1 64 [.aload_n 0, .iconst 0] 66 = true := by decide +kernel
theorem D222_66 : decode T222.2.2.1 66 = .ok (.invokevirtual 337, 3) := by decide +kernel
theorem B222_45_47 : s_dk T222.2.2.1 45 [.aload_n 0, .dup] 47 = true := by decide +kernel
theorem D222_47 : decode T222.2.2.1 47 = .ok (.getfield 325, 3) := by decide +kernel
theorem B222_50_52 : s_dk T222.2.2.1 50 [.iconst 1, .iadd] 52 = true := by decide +kernel
theorem D222_52 : decode T222.2.2.1 52 = .ok (.putfield 325, 3) := by decide +kernel
theorem B222_7_8 : s_dk T222.2.2.1 7 [.aload_n 0] 8 = true := by decide +kernel
theorem D222_8 : decode T222.2.2.1 8 = .ok (.getfield 78, 3) := by decide +kernel
theorem B222_11_12 : s_dk T222.2.2.1 11 [.aload_n 0] 12 = true := by decide +kernel
theorem D222_12 : decode T222.2.2.1 12 = .ok (.getfield 325, 3) := by decide +kernel
theorem D222_15 : decode T222.2.2.1 15 = .ok (.iaload, 1) := by decide +kernel
theorem B222_16_17 : s_dk T222.2.2.1 16 [.iconst 1] 17 = true := by decide +kernel
theorem D222_17 : decode T222.2.2.1 17 = .ok (.if_icmp .lt 17, 3) := by decide +kernel
theorem B222_34_35 : s_dk T222.2.2.1 34 [.aload_n 0] 35 = true := by decide +kernel
theorem D222_35 : decode T222.2.2.1 35 = .ok (.invokevirtual 331, 3) := by decide +kernel
theorem B222_20_21 : s_dk T222.2.2.1 20 [.aload_n 0] 21 = true := by decide +kernel
theorem D222_21 : decode T222.2.2.1 21 = .ok (.getfield 78, 3) := by decide +kernel
theorem B222_24_25 : s_dk T222.2.2.1 24 [.aload_n 0] 25 = true := by decide +kernel
theorem D222_25 : decode T222.2.2.1 25 = .ok (.getfield 325, 3) := by decide +kernel
theorem D222_28 : decode T222.2.2.1 28 = .ok (.iaload, 1) := by decide +kernel
theorem B222_29_31 : s_dk T222.2.2.1 29 [.bipush 6] 31 = true := by decide +kernel
theorem D222_31 : decode T222.2.2.1 31 = .ok (.if_icmp .le 7, 3) := by decide +kernel
noncomputable def T229 : mT := (11, yX11_reads, cX11_reads, 2, (some .boolean))
set_option maxRecDepth 10000 in
theorem TE229 : sy_m[229]? = some T229 := rfl
theorem B229_0_2 : s_dk T229.2.2.1 0 [.aload_n 0, .aload_n 0] 2 = true := by decide +kernel
theorem D229_2 : decode T229.2.2.1 2 = .ok (.getfield 151, 3) := by decide +kernel
theorem D229_5 : decode T229.2.2.1 5 = .ok (.invokevirtual 366, 3) := by decide +kernel
theorem ck_11_virtual_366 : m_call 11 (.invokevirtual 366) = some (0, 215, 1) := by decide +kernel
theorem B229_8_10 : s_dk T229.2.2.1 8 [.aload_n 0, .iconst 0] 10 = true := by decide +kernel
theorem D229_10 : decode T229.2.2.1 10 = .ok (.putfield 151, 3) := by decide +kernel
theorem B229_13_15 : s_dk T229.2.2.1 13 [.aload_n 0, .iconst 0] 15 = true := by decide +kernel
theorem D229_15 : decode T229.2.2.1 15 = .ok (.putfield 325, 3) := by decide +kernel
theorem B229_18_20 : s_dk T229.2.2.1 18 [.aload_n 0, .iconst 0] 20 = true := by decide +kernel
theorem D229_20 : decode T229.2.2.1 20 = .ok (.putfield 334, 3) := by decide +kernel
theorem B229_23_25 : s_dk T229.2.2.1 23 [.aload_n 0, .iconst (-1)] 25 = true := by decide +kernel
theorem D229_25 : decode T229.2.2.1 25 = .ok (.putfield 318, 3) := by decide +kernel
theorem B229_28_29 : s_dk T229.2.2.1 28 [.aload_n 0] 29 = true := by decide +kernel
theorem D229_29 : decode T229.2.2.1 29 = .ok (.invokevirtual 369, 3) := by decide +kernel
theorem ck_11_virtual_369 : m_call 11 (.invokevirtual 369) = some (0, 222, 0) := by decide +kernel
theorem B229_32_34 : s_dk T229.2.2.1 32 [.iconst 1, .istore_n 1] 34 = true := by decide +kernel
theorem B229_34_37 : s_dk T229.2.2.1 34 [.aload_n 0, .bipush 59] 37 = true := by decide +kernel
theorem D229_37 : decode T229.2.2.1 37 = .ok (.invokestatic 346, 3) := by decide +kernel
theorem D229_40 : decode T229.2.2.1 40 = .ok (.invokevirtual 328, 3) := by decide +kernel
theorem D229_43 : decode T229.2.2.1 43 = .ok (.ifCond .eq 30, 3) := by decide +kernel
theorem B229_73_74 : s_dk T229.2.2.1 73 [.aload_n 0] 74 = true := by decide +kernel
theorem D229_74 : decode T229.2.2.1 74 = .ok (.invokevirtual 321, 3) := by decide +kernel
theorem D229_77 : decode T229.2.2.1 77 = .ok (.ifCond .eq 18, 3) := by decide +kernel
theorem B229_95_97 : s_dk T229.2.2.1 95 [.aload_n 0, .aload_n 0] 97 = true := by decide +kernel
theorem D229_97 : decode T229.2.2.1 97 = .ok (.getfield 318, 3) := by decide +kernel
theorem pf_11_75_77 : s_pf 11 75 77 = some (32, 1) := by decide +kernel
theorem D229_100 : decode T229.2.2.1 100 = .ok (.putfield 75, 3) := by decide +kernel
theorem B229_103_104 : s_dk T229.2.2.1 103 [.aload_n 0] 104 = true := by decide +kernel
theorem D229_104 : decode T229.2.2.1 104 = .ok (.invokevirtual 321, 3) := by decide +kernel
theorem D229_107 : decode T229.2.2.1 107 = .ok (.ireturn, 1) := by decide +kernel
theorem B229_80_81 : s_dk T229.2.2.1 80 [.aload_n 0] 81 = true := by decide +kernel
theorem D229_81 : decode T229.2.2.1 81 = .ok (.getfield 325, 3) := by decide +kernel
theorem B229_84_85 : s_dk T229.2.2.1 84 [.aload_n 0] 85 = true := by decide +kernel
theorem D229_85 : decode T229.2.2.1 85 = .ok (.getfield 305, 3) := by decide +kernel
theorem D229_88 : decode T229.2.2.1 88 = .ok (.if_icmp .ge 7, 3) := by decide +kernel
theorem B229_91_92 : s_dk T229.2.2.1 91 [.aload_n 0] 92 = true := by decide +kernel
theorem D229_92 : decode T229.2.2.1 92 = .ok (.invokevirtual 331, 3) := by decide +kernel
theorem B229_46_49 : s_dk T229.2.2.1 46 [.iload_n 1, .bipush 12] 49 = true := by decide +kernel
theorem D229_49 : decode T229.2.2.1 49 = .ok (.if_icmp .ne 7, 3) := by decide +kernel
theorem B229_56_57 : s_dk T229.2.2.1 56 [.aload_n 0] 57 = true := by decide +kernel
theorem D229_57 : decode T229.2.2.1 57 = .ok (.invokevirtual 321, 3) := by decide +kernel
theorem D229_60 : decode T229.2.2.1 60 = .ok (.ifCond .eq 7, 3) := by decide +kernel
theorem B229_67_70 : s_dk T229.2.2.1 67 [.iinc 1 1] 70 = true := by decide +kernel
theorem D229_70 : decode T229.2.2.1 70 = .ok (.goto (-36), 3) := by decide +kernel
theorem B229_63_64 : s_dk T229.2.2.1 63 [.aload_n 0] 64 = true := by decide +kernel
theorem D229_64 : decode T229.2.2.1 64 = .ok (.invokevirtual 369, 3) := by decide +kernel
theorem B229_52_53 : s_dk T229.2.2.1 52 [.aload_n 0] 53 = true := by decide +kernel
theorem D229_53 : decode T229.2.2.1 53 = .ok (.invokevirtual 331, 3) := by decide +kernel
set_option maxRecDepth 4000 in
theorem k222x {base : Nat} {X : Nat → Option mC} {G : Nat → Value} (E : EnvOK base X G) {d : Nat} (hd : 58 ≤ d) {M : mH} (H : HI base M) (tk : Int) (tok : Int) (F : Int → Int) (C : Int → Int) (h0 : PC C M) (h1 : ∀ j : Int, 0 ≤ j → F (j + 1) = dl (F j) (C j)) (h2 : gi M 77 36 = tk) (h3 : C tk = 0) (h4 : 0 ≤ tk ∧ tk ≤ 400) (h5 : gi M 77 37 = tok) (h6 : 0 ≤ tok ∧ tok ≤ tk) (h7 : gi M 77 39 = -1 → F tok = 1) : sOk base X G d T222 [vR 77] M (pV (fun M' => HI base M' ∧ Fr [(77, 38), (77, 39), (77, 40)] M M' ∧ (tok ≤ gi M' 77 37 ∧ gi M' 77 37 ≤ tk) ∧ (gi M' 77 39 = -1 → gi M 77 39 = -1 ∧ (F (gi M' 77 37) = 2 ∨ F (gi M' 77 37) = 20 ∨ F (gi M' 77 37) = 2001)))) := by
  have f0 : Fr [(77, 38), (77, 39), (77, 40)] M M := Fr.rf
  refine sOk.of (show sRn base X G d T222 0 [(0, vR 77)] [] M _ from ?_)
  refine s_blx (lv' := [(0, vR 77)]) (st' := [vR 77]) B222_0_1 rfl ?_
  refine r_vIp (c := 77) (args := []) (rest := []) (pc' := 4) D222_1 rfl ck_11_virtual_321 TE216 rfl (Nat.le_of_ble_eq_true rfl) ⟨Nat.le_of_ble_eq_true rfl, Nat.le_of_ble_eq_true rfl⟩ sc_77 ⟨rfl, by decide⟩ H.1 (dp_0 hd rfl) (k216x E (dp_n hd rfl) H ) ?_
  intro v1 q6
  obtain ⟨q3, q4, q5⟩ := q6
  refine r_ifc (tgt := 38) (pc' := 7) D222_4 rfl rfl (by unfold inR; omega) (fun (c7 : v1 = 0) => ?_) (fun (c7 : ¬ (v1 = 0)) => ?_)
  · refine s_blx (lv' := [(0, vR 77)]) (st' := [vR 77]) B222_38_39 rfl ?_
    refine r_vIp (c := 77) (args := []) (rest := []) (pc' := 42) D222_39 rfl ck_11_virtual_321 TE216 rfl (Nat.le_of_ble_eq_true rfl) ⟨Nat.le_of_ble_eq_true rfl, Nat.le_of_ble_eq_true rfl⟩ sc_77 ⟨rfl, by decide⟩ H.1 (dp_0 hd rfl) (k216x E (dp_n hd rfl) H ) ?_
    intro v8 q13
    obtain ⟨q10, q11, q12⟩ := q13
    refine r_ifc (tgt := 55) (pc' := 45) D222_42 rfl rfl (by unfold inR; omega) (fun (c14 : v8 = 0) => ?_) (fun (c14 : ¬ (v8 = 0)) => ?_)
    · refine s_blx (lv' := [(0, vR 77)]) (st' := [vI 7, vR 77]) B222_55_58 rfl ?_
      have k2 := d_if (x := F tok)
      have g15 : gi M 77 36 = tk := h2
      have g16 : gi M 77 37 = tok := h5
      refine r_vI (c := 77) (args := [vI 7]) (rest := []) (pc' := 61) D222_58 rfl ck_11_virtual_328 TE218 rfl (Nat.le_of_ble_eq_true rfl) ⟨Nat.le_of_ble_eq_true rfl, Nat.le_of_ble_eq_true rfl⟩ sc_77 ⟨rfl, by decide⟩ H.1 (dp_0 hd rfl) (k218x E (dp_n hd rfl) H 7 tk tok F C (h0) (h1) (by omega) (by omega) (by omega) (by omega) (by omega) (by omega) (by omega)) ?_
      intro v17 M18 q25
      obtain ⟨H19, f20, q21, q22, q23, q24⟩ := q25
      have f26 := f0.tr (f20.up rfl)
      obtain ⟨t27, ht28⟩ : ∃ q, q = gi M18 77 37 := ⟨_, rfl⟩
      rw [← ht28] at q22
      rw [← ht28] at q23
      rw [← ht28] at q24
      refine r_ifc (tgt := 69) (pc' := 64) D222_61 rfl rfl (by unfold inR; omega) (fun (c29 : v17 = 0) => ?_) (fun (c29 : ¬ (v17 = 0)) => ?_)
      · have g30 : gi M18 77 37 = t27 := ht28.symm
        have g31 : gi M18 77 39 = gi M 77 39 := (f20.g rfl).trans (rfl)
        exact r_retV D222_69 rfl (⟨H19, f26, by rw [g30]; omega, by rw [g30, g31]; omega⟩)
      · refine s_blx (lv' := [(0, vR 77)]) (st' := [vI 0, vR 77]) B222_64_66 rfl ?_
        have g32 : gi M18 77 36 = tk := (f20.g rfl).trans (h2)
        have g33 : gi M18 77 37 = t27 := ht28.symm
        have g34 : gi M18 77 39 = gi M 77 39 := (f20.g rfl).trans (rfl)
        refine r_vV (c := 77) (args := [vI 0]) (rest := []) (pc' := 69) D222_66 rfl ck_11_virtual_337 TE223 rfl (Nat.le_of_ble_eq_true rfl) ⟨Nat.le_of_ble_eq_true rfl, Nat.le_of_ble_eq_true rfl⟩ sc_77 ⟨rfl, by decide⟩ H19.1 (dp_0 hd rfl) (k223x E (dp_n hd rfl) H19 0 tk t27 F C ((h0.fr f26 rfl)) (h1) (by omega) (by omega) (by omega) (by omega) (by omega) (by omega) (by omega)) ?_
        intro M36 q41
        obtain ⟨H37, f38, q39, q40⟩ := q41
        have f42 := f26.tr (f38.up rfl)
        obtain ⟨t43, ht44⟩ : ∃ q, q = gi M36 77 37 := ⟨_, rfl⟩
        obtain ⟨t45, ht46⟩ : ∃ q, q = gi M36 77 39 := ⟨_, rfl⟩
        rw [← ht44] at q39
        rw [← ht44, ← ht46] at q40
        have g47 : gi M36 77 37 = t43 := ht44.symm
        have g48 : gi M36 77 39 = t45 := ht46.symm
        exact r_retV D222_69 rfl (⟨H37, f42, by rw [g47]; omega, by rw [g47, g48]; omega⟩)
    · refine s_blx (lv' := [(0, vR 77)]) (st' := [vR 77, vR 77]) B222_45_47 rfl ?_
      refine r_gint (ki := 37) (pc' := 50) D222_47 rfl gf_11_325_77 rfl H.1 ?_
      intro w49 e50 r51
      have e52 : tok = w49 := (e50.trans (h5)).symm
      subst e52
      refine s_blx (lv' := [(0, vR 77)]) (st' := [vI (tok + 1), vR 77]) B222_50_52 rfl ?_
      refine r_pint (ki := 37) (pc' := 55) D222_52 rfl pf_11_325_77 rfl H (by unfold inR; omega) (show 0 ≤ (tok + 1) ∧ (tok + 1) ≤ 400 by omega) ?_
      intro M53 u54 H55 p56
      have f57 := f0.wr u54 rfl
      have kd := h1 tok (by omega)
      have k1 := d_h (x := F tok) (c := C tok)
      refine s_blx (lv' := [(0, vR 77)]) (st' := [vI 7, vR 77]) B222_55_58 rfl ?_
      have k2 := d_if (x := F (tok + 1))
      have g58 : gi M53 77 36 = tk := (u54.gi_ne (by decide) (Or.inr (by decide))).trans (h2)
      have g59 : gi M53 77 37 = tok + 1 := p56
      have g60 : gi M53 77 39 = gi M 77 39 := (u54.gi_ne (by decide) (Or.inr (by decide))).trans (rfl)
      refine r_vI (c := 77) (args := [vI 7]) (rest := []) (pc' := 61) D222_58 rfl ck_11_virtual_328 TE218 rfl (Nat.le_of_ble_eq_true rfl) ⟨Nat.le_of_ble_eq_true rfl, Nat.le_of_ble_eq_true rfl⟩ sc_77 ⟨rfl, by decide⟩ H55.1 (dp_0 hd rfl) (k218x E (dp_n hd rfl) H55 7 tk (tok + 1) F C ((h0.fr f57 rfl)) (h1) (by omega) (by omega) (by omega) (by omega) (by omega) (by omega) (by omega)) ?_
      intro v61 M62 q69
      obtain ⟨H63, f64, q65, q66, q67, q68⟩ := q69
      have f70 := f57.tr (f64.up rfl)
      obtain ⟨t71, ht72⟩ : ∃ q, q = gi M62 77 37 := ⟨_, rfl⟩
      rw [← ht72] at q66
      rw [← ht72] at q67
      rw [← ht72] at q68
      refine r_ifc (tgt := 69) (pc' := 64) D222_61 rfl rfl (by unfold inR; omega) (fun (c73 : v61 = 0) => ?_) (fun (c73 : ¬ (v61 = 0)) => ?_)
      · have g74 : gi M62 77 37 = t71 := ht72.symm
        have g75 : gi M62 77 39 = gi M 77 39 := (f64.g rfl).trans ((u54.gi_ne (by decide) (Or.inr (by decide))).trans (rfl))
        exact r_retV D222_69 rfl (⟨H63, f70, by rw [g74]; omega, by rw [g74, g75]; omega⟩)
      · refine s_blx (lv' := [(0, vR 77)]) (st' := [vI 0, vR 77]) B222_64_66 rfl ?_
        have g76 : gi M62 77 36 = tk := (f64.g rfl).trans ((u54.gi_ne (by decide) (Or.inr (by decide))).trans (h2))
        have g77 : gi M62 77 37 = t71 := ht72.symm
        have g78 : gi M62 77 39 = gi M 77 39 := (f64.g rfl).trans ((u54.gi_ne (by decide) (Or.inr (by decide))).trans (rfl))
        refine r_vV (c := 77) (args := [vI 0]) (rest := []) (pc' := 69) D222_66 rfl ck_11_virtual_337 TE223 rfl (Nat.le_of_ble_eq_true rfl) ⟨Nat.le_of_ble_eq_true rfl, Nat.le_of_ble_eq_true rfl⟩ sc_77 ⟨rfl, by decide⟩ H63.1 (dp_0 hd rfl) (k223x E (dp_n hd rfl) H63 0 tk t71 F C ((h0.fr f70 rfl)) (h1) (by omega) (by omega) (by omega) (by omega) (by omega) (by omega) (by omega)) ?_
        intro M80 q85
        obtain ⟨H81, f82, q83, q84⟩ := q85
        have f86 := f70.tr (f82.up rfl)
        obtain ⟨t87, ht88⟩ : ∃ q, q = gi M80 77 37 := ⟨_, rfl⟩
        obtain ⟨t89, ht90⟩ : ∃ q, q = gi M80 77 39 := ⟨_, rfl⟩
        rw [← ht88] at q83
        rw [← ht88, ← ht90] at q84
        have g91 : gi M80 77 37 = t87 := ht88.symm
        have g92 : gi M80 77 39 = t89 := ht90.symm
        exact r_retV D222_69 rfl (⟨H81, f86, by rw [g91]; omega, by rw [g91, g92]; omega⟩)
  · refine s_blx (lv' := [(0, vR 77)]) (st' := [vR 77]) B222_7_8 rfl ?_
    refine r_gfix (r := 97) (pc' := 11) D222_8 rfl gf_11_78_77 H.1 ?_
    refine s_blx (lv' := [(0, vR 77)]) (st' := [vR 77, vR 97]) B222_11_12 rfl ?_
    refine r_gint (ki := 37) (pc' := 15) D222_12 rfl gf_11_325_77 rfl H.1 ?_
    intro w93 e94 r95
    have e96 : tok = w93 := (e94.trans (h5)).symm
    subst e96
    refine r_iald (pc' := 16) D222_15 rfl sc_97 H.1 (by omega) ?_
    intro w97 e98 r99
    unfold inR at r99
    have kc := h0 tok
    have kn := tk_lt (t := tok) h3 (by omega)
    refine s_blx (lv' := [(0, vR 77)]) (st' := [vI 1, vI w97]) B222_16_17 rfl ?_
    refine r_icmp (tgt := 34) (pc' := 20) D222_17 rfl rfl (by unfold inR; omega) (fun (c100 : w97 < 1) => ?_) (fun (c100 : ¬ (w97 < 1)) => ?_)
    · refine s_blx (lv' := [(0, vR 77)]) (st' := [vR 77]) B222_34_35 rfl ?_
      refine r_vV (c := 77) (args := []) (rest := []) (pc' := 38) D222_35 rfl ck_11_virtual_331 TE217 rfl (Nat.le_of_ble_eq_true rfl) ⟨Nat.le_of_ble_eq_true rfl, Nat.le_of_ble_eq_true rfl⟩ sc_77 ⟨rfl, by decide⟩ H.1 (dp_0 hd rfl) (k217x E (dp_n hd rfl) H ) ?_
      intro M102 q106
      obtain ⟨H103, f104, q105⟩ := q106
      have f107 := f0.tr (f104.up rfl)
      obtain ⟨t108, ht109⟩ : ∃ q, q = gi M102 77 39 := ⟨_, rfl⟩
      rw [← ht109] at q105
      refine s_blx (lv' := [(0, vR 77)]) (st' := [vR 77]) B222_38_39 rfl ?_
      have g110 : gi M102 77 39 = t108 := ht109.symm
      refine r_vIp (c := 77) (args := []) (rest := []) (pc' := 42) D222_39 rfl ck_11_virtual_321 TE216 rfl (Nat.le_of_ble_eq_true rfl) ⟨Nat.le_of_ble_eq_true rfl, Nat.le_of_ble_eq_true rfl⟩ sc_77 ⟨rfl, by decide⟩ H103.1 (dp_0 hd rfl) (k216x E (dp_n hd rfl) H103 ) ?_
      intro v111 q116
      obtain ⟨q113, q114, q115⟩ := q116
      refine r_ifc (tgt := 55) (pc' := 45) D222_42 rfl rfl (by unfold inR; omega) (fun (c117 : v111 = 0) => ?_) (fun (c117 : ¬ (v111 = 0)) => ?_)
      · refine s_blx (lv' := [(0, vR 77)]) (st' := [vI 7, vR 77]) B222_55_58 rfl ?_
        have k2 := d_if (x := F tok)
        have g118 : gi M102 77 36 = tk := (f104.g rfl).trans (h2)
        have g119 : gi M102 77 37 = tok := (f104.g rfl).trans (h5)
        have g120 : gi M102 77 39 = t108 := ht109.symm
        refine r_vI (c := 77) (args := [vI 7]) (rest := []) (pc' := 61) D222_58 rfl ck_11_virtual_328 TE218 rfl (Nat.le_of_ble_eq_true rfl) ⟨Nat.le_of_ble_eq_true rfl, Nat.le_of_ble_eq_true rfl⟩ sc_77 ⟨rfl, by decide⟩ H103.1 (dp_0 hd rfl) (k218x E (dp_n hd rfl) H103 7 tk tok F C ((h0.fr f107 rfl)) (h1) (by omega) (by omega) (by omega) (by omega) (by omega) (by omega) (by omega)) ?_
        intro v121 M122 q129
        obtain ⟨H123, f124, q125, q126, q127, q128⟩ := q129
        have f130 := f107.tr (f124.up rfl)
        obtain ⟨t131, ht132⟩ : ∃ q, q = gi M122 77 37 := ⟨_, rfl⟩
        rw [← ht132] at q126
        rw [← ht132] at q127
        rw [← ht132] at q128
        refine r_ifc (tgt := 69) (pc' := 64) D222_61 rfl rfl (by unfold inR; omega) (fun (c133 : v121 = 0) => ?_) (fun (c133 : ¬ (v121 = 0)) => ?_)
        · have g134 : gi M122 77 37 = t131 := ht132.symm
          have g135 : gi M122 77 39 = t108 := (f124.g rfl).trans (ht109.symm)
          exact r_retV D222_69 rfl (⟨H123, f130, by rw [g134]; omega, by rw [g134, g135]; omega⟩)
        · refine s_blx (lv' := [(0, vR 77)]) (st' := [vI 0, vR 77]) B222_64_66 rfl ?_
          have g136 : gi M122 77 36 = tk := (f124.g rfl).trans ((f104.g rfl).trans (h2))
          have g137 : gi M122 77 37 = t131 := ht132.symm
          have g138 : gi M122 77 39 = t108 := (f124.g rfl).trans (ht109.symm)
          refine r_vV (c := 77) (args := [vI 0]) (rest := []) (pc' := 69) D222_66 rfl ck_11_virtual_337 TE223 rfl (Nat.le_of_ble_eq_true rfl) ⟨Nat.le_of_ble_eq_true rfl, Nat.le_of_ble_eq_true rfl⟩ sc_77 ⟨rfl, by decide⟩ H123.1 (dp_0 hd rfl) (k223x E (dp_n hd rfl) H123 0 tk t131 F C ((h0.fr f130 rfl)) (h1) (by omega) (by omega) (by omega) (by omega) (by omega) (by omega) (by omega)) ?_
          intro M140 q145
          obtain ⟨H141, f142, q143, q144⟩ := q145
          have f146 := f130.tr (f142.up rfl)
          obtain ⟨t147, ht148⟩ : ∃ q, q = gi M140 77 37 := ⟨_, rfl⟩
          obtain ⟨t149, ht150⟩ : ∃ q, q = gi M140 77 39 := ⟨_, rfl⟩
          rw [← ht148] at q143
          rw [← ht148, ← ht150] at q144
          have g151 : gi M140 77 37 = t147 := ht148.symm
          have g152 : gi M140 77 39 = t149 := ht150.symm
          exact r_retV D222_69 rfl (⟨H141, f146, by rw [g151]; omega, by rw [g151, g152]; omega⟩)
      · refine s_blx (lv' := [(0, vR 77)]) (st' := [vR 77, vR 77]) B222_45_47 rfl ?_
        refine r_gint (ki := 37) (pc' := 50) D222_47 rfl gf_11_325_77 rfl H103.1 ?_
        intro w153 e154 r155
        have e156 : tok = w153 := (e154.trans ((f104.g rfl).trans (h5))).symm
        subst e156
        refine s_blx (lv' := [(0, vR 77)]) (st' := [vI (tok + 1), vR 77]) B222_50_52 rfl ?_
        refine r_pint (ki := 37) (pc' := 55) D222_52 rfl pf_11_325_77 rfl H103 (by unfold inR; omega) (show 0 ≤ (tok + 1) ∧ (tok + 1) ≤ 400 by omega) ?_
        intro M157 u158 H159 p160
        have f161 := f107.wr u158 rfl
        have kd := h1 tok (by omega)
        have k1 := d_h (x := F tok) (c := C tok)
        refine s_blx (lv' := [(0, vR 77)]) (st' := [vI 7, vR 77]) B222_55_58 rfl ?_
        have k2 := d_if (x := F (tok + 1))
        have g162 : gi M157 77 36 = tk := (u158.gi_ne (by decide) (Or.inr (by decide))).trans ((f104.g rfl).trans (h2))
        have g163 : gi M157 77 37 = tok + 1 := p160
        have g164 : gi M157 77 39 = t108 := (u158.gi_ne (by decide) (Or.inr (by decide))).trans (ht109.symm)
        refine r_vI (c := 77) (args := [vI 7]) (rest := []) (pc' := 61) D222_58 rfl ck_11_virtual_328 TE218 rfl (Nat.le_of_ble_eq_true rfl) ⟨Nat.le_of_ble_eq_true rfl, Nat.le_of_ble_eq_true rfl⟩ sc_77 ⟨rfl, by decide⟩ H159.1 (dp_0 hd rfl) (k218x E (dp_n hd rfl) H159 7 tk (tok + 1) F C ((h0.fr f161 rfl)) (h1) (by omega) (by omega) (by omega) (by omega) (by omega) (by omega) (by omega)) ?_
        intro v165 M166 q173
        obtain ⟨H167, f168, q169, q170, q171, q172⟩ := q173
        have f174 := f161.tr (f168.up rfl)
        obtain ⟨t175, ht176⟩ : ∃ q, q = gi M166 77 37 := ⟨_, rfl⟩
        rw [← ht176] at q170
        rw [← ht176] at q171
        rw [← ht176] at q172
        refine r_ifc (tgt := 69) (pc' := 64) D222_61 rfl rfl (by unfold inR; omega) (fun (c177 : v165 = 0) => ?_) (fun (c177 : ¬ (v165 = 0)) => ?_)
        · have g178 : gi M166 77 37 = t175 := ht176.symm
          have g179 : gi M166 77 39 = t108 := (f168.g rfl).trans ((u158.gi_ne (by decide) (Or.inr (by decide))).trans (ht109.symm))
          exact r_retV D222_69 rfl (⟨H167, f174, by rw [g178]; omega, by rw [g178, g179]; omega⟩)
        · refine s_blx (lv' := [(0, vR 77)]) (st' := [vI 0, vR 77]) B222_64_66 rfl ?_
          have g180 : gi M166 77 36 = tk := (f168.g rfl).trans ((u158.gi_ne (by decide) (Or.inr (by decide))).trans ((f104.g rfl).trans (h2)))
          have g181 : gi M166 77 37 = t175 := ht176.symm
          have g182 : gi M166 77 39 = t108 := (f168.g rfl).trans ((u158.gi_ne (by decide) (Or.inr (by decide))).trans (ht109.symm))
          refine r_vV (c := 77) (args := [vI 0]) (rest := []) (pc' := 69) D222_66 rfl ck_11_virtual_337 TE223 rfl (Nat.le_of_ble_eq_true rfl) ⟨Nat.le_of_ble_eq_true rfl, Nat.le_of_ble_eq_true rfl⟩ sc_77 ⟨rfl, by decide⟩ H167.1 (dp_0 hd rfl) (k223x E (dp_n hd rfl) H167 0 tk t175 F C ((h0.fr f174 rfl)) (h1) (by omega) (by omega) (by omega) (by omega) (by omega) (by omega) (by omega)) ?_
          intro M184 q189
          obtain ⟨H185, f186, q187, q188⟩ := q189
          have f190 := f174.tr (f186.up rfl)
          obtain ⟨t191, ht192⟩ : ∃ q, q = gi M184 77 37 := ⟨_, rfl⟩
          obtain ⟨t193, ht194⟩ : ∃ q, q = gi M184 77 39 := ⟨_, rfl⟩
          rw [← ht192] at q187
          rw [← ht192, ← ht194] at q188
          have g195 : gi M184 77 37 = t191 := ht192.symm
          have g196 : gi M184 77 39 = t193 := ht194.symm
          exact r_retV D222_69 rfl (⟨H185, f190, by rw [g195]; omega, by rw [g195, g196]; omega⟩)
    · refine s_blx (lv' := [(0, vR 77)]) (st' := [vR 77]) B222_20_21 rfl ?_
      refine r_gfix (r := 97) (pc' := 24) D222_21 rfl gf_11_78_77 H.1 ?_
      refine s_blx (lv' := [(0, vR 77)]) (st' := [vR 77, vR 97]) B222_24_25 rfl ?_
      refine r_gint (ki := 37) (pc' := 28) D222_25 rfl gf_11_325_77 rfl H.1 ?_
      intro w197 e198 r199
      have e200 : tok = w197 := (e198.trans (h5)).symm
      subst e200
      refine r_iald (pc' := 29) D222_28 rfl sc_97 H.1 (by omega) ?_
      intro w201 e202 r203
      have e204 : w97 = w201 := (e202.trans (e98.symm)).symm
      subst e204
      refine s_blx (lv' := [(0, vR 77)]) (st' := [vI 6, vI w97]) B222_29_31 rfl ?_
      refine r_icmp (tgt := 38) (pc' := 34) D222_31 rfl rfl (by unfold inR; omega) (fun (c205 : w97 ≤ 6) => ?_) (fun (c205 : ¬ (w97 ≤ 6)) => ?_)
      · refine s_blx (lv' := [(0, vR 77)]) (st' := [vR 77]) B222_38_39 rfl ?_
        refine r_vIp (c := 77) (args := []) (rest := []) (pc' := 42) D222_39 rfl ck_11_virtual_321 TE216 rfl (Nat.le_of_ble_eq_true rfl) ⟨Nat.le_of_ble_eq_true rfl, Nat.le_of_ble_eq_true rfl⟩ sc_77 ⟨rfl, by decide⟩ H.1 (dp_0 hd rfl) (k216x E (dp_n hd rfl) H ) ?_
        intro v206 q211
        obtain ⟨q208, q209, q210⟩ := q211
        refine r_ifc (tgt := 55) (pc' := 45) D222_42 rfl rfl (by unfold inR; omega) (fun (c212 : v206 = 0) => ?_) (fun (c212 : ¬ (v206 = 0)) => ?_)
        · refine s_blx (lv' := [(0, vR 77)]) (st' := [vI 7, vR 77]) B222_55_58 rfl ?_
          have k2 := d_if (x := F tok)
          have g213 : gi M 77 36 = tk := h2
          have g214 : gi M 77 37 = tok := h5
          refine r_vI (c := 77) (args := [vI 7]) (rest := []) (pc' := 61) D222_58 rfl ck_11_virtual_328 TE218 rfl (Nat.le_of_ble_eq_true rfl) ⟨Nat.le_of_ble_eq_true rfl, Nat.le_of_ble_eq_true rfl⟩ sc_77 ⟨rfl, by decide⟩ H.1 (dp_0 hd rfl) (k218x E (dp_n hd rfl) H 7 tk tok F C (h0) (h1) (by omega) (by omega) (by omega) (by omega) (by omega) (by omega) (by omega)) ?_
          intro v215 M216 q223
          obtain ⟨H217, f218, q219, q220, q221, q222⟩ := q223
          have f224 := f0.tr (f218.up rfl)
          obtain ⟨t225, ht226⟩ : ∃ q, q = gi M216 77 37 := ⟨_, rfl⟩
          rw [← ht226] at q220
          rw [← ht226] at q221
          rw [← ht226] at q222
          refine r_ifc (tgt := 69) (pc' := 64) D222_61 rfl rfl (by unfold inR; omega) (fun (c227 : v215 = 0) => ?_) (fun (c227 : ¬ (v215 = 0)) => ?_)
          · have g228 : gi M216 77 37 = t225 := ht226.symm
            have g229 : gi M216 77 39 = gi M 77 39 := (f218.g rfl).trans (rfl)
            exact r_retV D222_69 rfl (⟨H217, f224, by rw [g228]; omega, by rw [g228, g229]; omega⟩)
          · refine s_blx (lv' := [(0, vR 77)]) (st' := [vI 0, vR 77]) B222_64_66 rfl ?_
            have g230 : gi M216 77 36 = tk := (f218.g rfl).trans (h2)
            have g231 : gi M216 77 37 = t225 := ht226.symm
            have g232 : gi M216 77 39 = gi M 77 39 := (f218.g rfl).trans (rfl)
            refine r_vV (c := 77) (args := [vI 0]) (rest := []) (pc' := 69) D222_66 rfl ck_11_virtual_337 TE223 rfl (Nat.le_of_ble_eq_true rfl) ⟨Nat.le_of_ble_eq_true rfl, Nat.le_of_ble_eq_true rfl⟩ sc_77 ⟨rfl, by decide⟩ H217.1 (dp_0 hd rfl) (k223x E (dp_n hd rfl) H217 0 tk t225 F C ((h0.fr f224 rfl)) (h1) (by omega) (by omega) (by omega) (by omega) (by omega) (by omega) (by omega)) ?_
            intro M234 q239
            obtain ⟨H235, f236, q237, q238⟩ := q239
            have f240 := f224.tr (f236.up rfl)
            obtain ⟨t241, ht242⟩ : ∃ q, q = gi M234 77 37 := ⟨_, rfl⟩
            obtain ⟨t243, ht244⟩ : ∃ q, q = gi M234 77 39 := ⟨_, rfl⟩
            rw [← ht242] at q237
            rw [← ht242, ← ht244] at q238
            have g245 : gi M234 77 37 = t241 := ht242.symm
            have g246 : gi M234 77 39 = t243 := ht244.symm
            exact r_retV D222_69 rfl (⟨H235, f240, by rw [g245]; omega, by rw [g245, g246]; omega⟩)
        · refine s_blx (lv' := [(0, vR 77)]) (st' := [vR 77, vR 77]) B222_45_47 rfl ?_
          refine r_gint (ki := 37) (pc' := 50) D222_47 rfl gf_11_325_77 rfl H.1 ?_
          intro w247 e248 r249
          have e250 : tok = w247 := (e248.trans (h5)).symm
          subst e250
          refine s_blx (lv' := [(0, vR 77)]) (st' := [vI (tok + 1), vR 77]) B222_50_52 rfl ?_
          refine r_pint (ki := 37) (pc' := 55) D222_52 rfl pf_11_325_77 rfl H (by unfold inR; omega) (show 0 ≤ (tok + 1) ∧ (tok + 1) ≤ 400 by omega) ?_
          intro M251 u252 H253 p254
          have f255 := f0.wr u252 rfl
          have kd := h1 tok (by omega)
          have k1 := d_h (x := F tok) (c := C tok)
          refine s_blx (lv' := [(0, vR 77)]) (st' := [vI 7, vR 77]) B222_55_58 rfl ?_
          have k2 := d_if (x := F (tok + 1))
          have g256 : gi M251 77 36 = tk := (u252.gi_ne (by decide) (Or.inr (by decide))).trans (h2)
          have g257 : gi M251 77 37 = tok + 1 := p254
          have g258 : gi M251 77 39 = gi M 77 39 := (u252.gi_ne (by decide) (Or.inr (by decide))).trans (rfl)
          refine r_vI (c := 77) (args := [vI 7]) (rest := []) (pc' := 61) D222_58 rfl ck_11_virtual_328 TE218 rfl (Nat.le_of_ble_eq_true rfl) ⟨Nat.le_of_ble_eq_true rfl, Nat.le_of_ble_eq_true rfl⟩ sc_77 ⟨rfl, by decide⟩ H253.1 (dp_0 hd rfl) (k218x E (dp_n hd rfl) H253 7 tk (tok + 1) F C ((h0.fr f255 rfl)) (h1) (by omega) (by omega) (by omega) (by omega) (by omega) (by omega) (by omega)) ?_
          intro v259 M260 q267
          obtain ⟨H261, f262, q263, q264, q265, q266⟩ := q267
          have f268 := f255.tr (f262.up rfl)
          obtain ⟨t269, ht270⟩ : ∃ q, q = gi M260 77 37 := ⟨_, rfl⟩
          rw [← ht270] at q264
          rw [← ht270] at q265
          rw [← ht270] at q266
          refine r_ifc (tgt := 69) (pc' := 64) D222_61 rfl rfl (by unfold inR; omega) (fun (c271 : v259 = 0) => ?_) (fun (c271 : ¬ (v259 = 0)) => ?_)
          · have g272 : gi M260 77 37 = t269 := ht270.symm
            have g273 : gi M260 77 39 = gi M 77 39 := (f262.g rfl).trans ((u252.gi_ne (by decide) (Or.inr (by decide))).trans (rfl))
            exact r_retV D222_69 rfl (⟨H261, f268, by rw [g272]; omega, by rw [g272, g273]; omega⟩)
          · refine s_blx (lv' := [(0, vR 77)]) (st' := [vI 0, vR 77]) B222_64_66 rfl ?_
            have g274 : gi M260 77 36 = tk := (f262.g rfl).trans ((u252.gi_ne (by decide) (Or.inr (by decide))).trans (h2))
            have g275 : gi M260 77 37 = t269 := ht270.symm
            have g276 : gi M260 77 39 = gi M 77 39 := (f262.g rfl).trans ((u252.gi_ne (by decide) (Or.inr (by decide))).trans (rfl))
            refine r_vV (c := 77) (args := [vI 0]) (rest := []) (pc' := 69) D222_66 rfl ck_11_virtual_337 TE223 rfl (Nat.le_of_ble_eq_true rfl) ⟨Nat.le_of_ble_eq_true rfl, Nat.le_of_ble_eq_true rfl⟩ sc_77 ⟨rfl, by decide⟩ H261.1 (dp_0 hd rfl) (k223x E (dp_n hd rfl) H261 0 tk t269 F C ((h0.fr f268 rfl)) (h1) (by omega) (by omega) (by omega) (by omega) (by omega) (by omega) (by omega)) ?_
            intro M278 q283
            obtain ⟨H279, f280, q281, q282⟩ := q283
            have f284 := f268.tr (f280.up rfl)
            obtain ⟨t285, ht286⟩ : ∃ q, q = gi M278 77 37 := ⟨_, rfl⟩
            obtain ⟨t287, ht288⟩ : ∃ q, q = gi M278 77 39 := ⟨_, rfl⟩
            rw [← ht286] at q281
            rw [← ht286, ← ht288] at q282
            have g289 : gi M278 77 37 = t285 := ht286.symm
            have g290 : gi M278 77 39 = t287 := ht288.symm
            exact r_retV D222_69 rfl (⟨H279, f284, by rw [g289]; omega, by rw [g289, g290]; omega⟩)
      · refine s_blx (lv' := [(0, vR 77)]) (st' := [vR 77]) B222_34_35 rfl ?_
        refine r_vV (c := 77) (args := []) (rest := []) (pc' := 38) D222_35 rfl ck_11_virtual_331 TE217 rfl (Nat.le_of_ble_eq_true rfl) ⟨Nat.le_of_ble_eq_true rfl, Nat.le_of_ble_eq_true rfl⟩ sc_77 ⟨rfl, by decide⟩ H.1 (dp_0 hd rfl) (k217x E (dp_n hd rfl) H ) ?_
        intro M292 q296
        obtain ⟨H293, f294, q295⟩ := q296
        have f297 := f0.tr (f294.up rfl)
        obtain ⟨t298, ht299⟩ : ∃ q, q = gi M292 77 39 := ⟨_, rfl⟩
        rw [← ht299] at q295
        refine s_blx (lv' := [(0, vR 77)]) (st' := [vR 77]) B222_38_39 rfl ?_
        have g300 : gi M292 77 39 = t298 := ht299.symm
        refine r_vIp (c := 77) (args := []) (rest := []) (pc' := 42) D222_39 rfl ck_11_virtual_321 TE216 rfl (Nat.le_of_ble_eq_true rfl) ⟨Nat.le_of_ble_eq_true rfl, Nat.le_of_ble_eq_true rfl⟩ sc_77 ⟨rfl, by decide⟩ H293.1 (dp_0 hd rfl) (k216x E (dp_n hd rfl) H293 ) ?_
        intro v301 q306
        obtain ⟨q303, q304, q305⟩ := q306
        refine r_ifc (tgt := 55) (pc' := 45) D222_42 rfl rfl (by unfold inR; omega) (fun (c307 : v301 = 0) => ?_) (fun (c307 : ¬ (v301 = 0)) => ?_)
        · refine s_blx (lv' := [(0, vR 77)]) (st' := [vI 7, vR 77]) B222_55_58 rfl ?_
          have k2 := d_if (x := F tok)
          have g308 : gi M292 77 36 = tk := (f294.g rfl).trans (h2)
          have g309 : gi M292 77 37 = tok := (f294.g rfl).trans (h5)
          have g310 : gi M292 77 39 = t298 := ht299.symm
          refine r_vI (c := 77) (args := [vI 7]) (rest := []) (pc' := 61) D222_58 rfl ck_11_virtual_328 TE218 rfl (Nat.le_of_ble_eq_true rfl) ⟨Nat.le_of_ble_eq_true rfl, Nat.le_of_ble_eq_true rfl⟩ sc_77 ⟨rfl, by decide⟩ H293.1 (dp_0 hd rfl) (k218x E (dp_n hd rfl) H293 7 tk tok F C ((h0.fr f297 rfl)) (h1) (by omega) (by omega) (by omega) (by omega) (by omega) (by omega) (by omega)) ?_
          intro v311 M312 q319
          obtain ⟨H313, f314, q315, q316, q317, q318⟩ := q319
          have f320 := f297.tr (f314.up rfl)
          obtain ⟨t321, ht322⟩ : ∃ q, q = gi M312 77 37 := ⟨_, rfl⟩
          rw [← ht322] at q316
          rw [← ht322] at q317
          rw [← ht322] at q318
          refine r_ifc (tgt := 69) (pc' := 64) D222_61 rfl rfl (by unfold inR; omega) (fun (c323 : v311 = 0) => ?_) (fun (c323 : ¬ (v311 = 0)) => ?_)
          · have g324 : gi M312 77 37 = t321 := ht322.symm
            have g325 : gi M312 77 39 = t298 := (f314.g rfl).trans (ht299.symm)
            exact r_retV D222_69 rfl (⟨H313, f320, by rw [g324]; omega, by rw [g324, g325]; omega⟩)
          · refine s_blx (lv' := [(0, vR 77)]) (st' := [vI 0, vR 77]) B222_64_66 rfl ?_
            have g326 : gi M312 77 36 = tk := (f314.g rfl).trans ((f294.g rfl).trans (h2))
            have g327 : gi M312 77 37 = t321 := ht322.symm
            have g328 : gi M312 77 39 = t298 := (f314.g rfl).trans (ht299.symm)
            refine r_vV (c := 77) (args := [vI 0]) (rest := []) (pc' := 69) D222_66 rfl ck_11_virtual_337 TE223 rfl (Nat.le_of_ble_eq_true rfl) ⟨Nat.le_of_ble_eq_true rfl, Nat.le_of_ble_eq_true rfl⟩ sc_77 ⟨rfl, by decide⟩ H313.1 (dp_0 hd rfl) (k223x E (dp_n hd rfl) H313 0 tk t321 F C ((h0.fr f320 rfl)) (h1) (by omega) (by omega) (by omega) (by omega) (by omega) (by omega) (by omega)) ?_
            intro M330 q335
            obtain ⟨H331, f332, q333, q334⟩ := q335
            have f336 := f320.tr (f332.up rfl)
            obtain ⟨t337, ht338⟩ : ∃ q, q = gi M330 77 37 := ⟨_, rfl⟩
            obtain ⟨t339, ht340⟩ : ∃ q, q = gi M330 77 39 := ⟨_, rfl⟩
            rw [← ht338] at q333
            rw [← ht338, ← ht340] at q334
            have g341 : gi M330 77 37 = t337 := ht338.symm
            have g342 : gi M330 77 39 = t339 := ht340.symm
            exact r_retV D222_69 rfl (⟨H331, f336, by rw [g341]; omega, by rw [g341, g342]; omega⟩)
        · refine s_blx (lv' := [(0, vR 77)]) (st' := [vR 77, vR 77]) B222_45_47 rfl ?_
          refine r_gint (ki := 37) (pc' := 50) D222_47 rfl gf_11_325_77 rfl H293.1 ?_
          intro w343 e344 r345
          have e346 : tok = w343 := (e344.trans ((f294.g rfl).trans (h5))).symm
          subst e346
          refine s_blx (lv' := [(0, vR 77)]) (st' := [vI (tok + 1), vR 77]) B222_50_52 rfl ?_
          refine r_pint (ki := 37) (pc' := 55) D222_52 rfl pf_11_325_77 rfl H293 (by unfold inR; omega) (show 0 ≤ (tok + 1) ∧ (tok + 1) ≤ 400 by omega) ?_
          intro M347 u348 H349 p350
          have f351 := f297.wr u348 rfl
          have kd := h1 tok (by omega)
          have k1 := d_h (x := F tok) (c := C tok)
          refine s_blx (lv' := [(0, vR 77)]) (st' := [vI 7, vR 77]) B222_55_58 rfl ?_
          have k2 := d_if (x := F (tok + 1))
          have g352 : gi M347 77 36 = tk := (u348.gi_ne (by decide) (Or.inr (by decide))).trans ((f294.g rfl).trans (h2))
          have g353 : gi M347 77 37 = tok + 1 := p350
          have g354 : gi M347 77 39 = t298 := (u348.gi_ne (by decide) (Or.inr (by decide))).trans (ht299.symm)
          refine r_vI (c := 77) (args := [vI 7]) (rest := []) (pc' := 61) D222_58 rfl ck_11_virtual_328 TE218 rfl (Nat.le_of_ble_eq_true rfl) ⟨Nat.le_of_ble_eq_true rfl, Nat.le_of_ble_eq_true rfl⟩ sc_77 ⟨rfl, by decide⟩ H349.1 (dp_0 hd rfl) (k218x E (dp_n hd rfl) H349 7 tk (tok + 1) F C ((h0.fr f351 rfl)) (h1) (by omega) (by omega) (by omega) (by omega) (by omega) (by omega) (by omega)) ?_
          intro v355 M356 q363
          obtain ⟨H357, f358, q359, q360, q361, q362⟩ := q363
          have f364 := f351.tr (f358.up rfl)
          obtain ⟨t365, ht366⟩ : ∃ q, q = gi M356 77 37 := ⟨_, rfl⟩
          rw [← ht366] at q360
          rw [← ht366] at q361
          rw [← ht366] at q362
          refine r_ifc (tgt := 69) (pc' := 64) D222_61 rfl rfl (by unfold inR; omega) (fun (c367 : v355 = 0) => ?_) (fun (c367 : ¬ (v355 = 0)) => ?_)
          · have g368 : gi M356 77 37 = t365 := ht366.symm
            have g369 : gi M356 77 39 = t298 := (f358.g rfl).trans ((u348.gi_ne (by decide) (Or.inr (by decide))).trans (ht299.symm))
            exact r_retV D222_69 rfl (⟨H357, f364, by rw [g368]; omega, by rw [g368, g369]; omega⟩)
          · refine s_blx (lv' := [(0, vR 77)]) (st' := [vI 0, vR 77]) B222_64_66 rfl ?_
            have g370 : gi M356 77 36 = tk := (f358.g rfl).trans ((u348.gi_ne (by decide) (Or.inr (by decide))).trans ((f294.g rfl).trans (h2)))
            have g371 : gi M356 77 37 = t365 := ht366.symm
            have g372 : gi M356 77 39 = t298 := (f358.g rfl).trans ((u348.gi_ne (by decide) (Or.inr (by decide))).trans (ht299.symm))
            refine r_vV (c := 77) (args := [vI 0]) (rest := []) (pc' := 69) D222_66 rfl ck_11_virtual_337 TE223 rfl (Nat.le_of_ble_eq_true rfl) ⟨Nat.le_of_ble_eq_true rfl, Nat.le_of_ble_eq_true rfl⟩ sc_77 ⟨rfl, by decide⟩ H357.1 (dp_0 hd rfl) (k223x E (dp_n hd rfl) H357 0 tk t365 F C ((h0.fr f364 rfl)) (h1) (by omega) (by omega) (by omega) (by omega) (by omega) (by omega) (by omega)) ?_
            intro M374 q379
            obtain ⟨H375, f376, q377, q378⟩ := q379
            have f380 := f364.tr (f376.up rfl)
            obtain ⟨t381, ht382⟩ : ∃ q, q = gi M374 77 37 := ⟨_, rfl⟩
            obtain ⟨t383, ht384⟩ : ∃ q, q = gi M374 77 39 := ⟨_, rfl⟩
            rw [← ht382] at q377
            rw [← ht382, ← ht384] at q378
            have g385 : gi M374 77 37 = t381 := ht382.symm
            have g386 : gi M374 77 39 = t383 := ht384.symm
            exact r_retV D222_69 rfl (⟨H375, f380, by rw [g385]; omega, by rw [g385, g386]; omega⟩)
set_option maxRecDepth 4000 in
theorem L_k229x {base : Nat} {X : Nat → Option mC} {G : Nat → Value} (E : EnvOK base X G) {d : Nat} (hd : 59 ≤ d) {M : mH} (H : HI base M) (h0 : WD M) : ∀ mz : Nat, (∀ (x1 tk t0 : Int) (F C : Int → Int) (N : mH), HI base N → Fr [(77, 32), (77, 33), (77, 37), (77, 38), (77, 39), (77, 40), (97, 0), (98, 0), (99, 0)] M N → (PC C N) → (∀ j : Int, 0 ≤ j → F (j + 1) = dl (F j) (C j)) → (gi N 77 36 = tk) → (C tk = 0) → (0 ≤ tk ∧ tk ≤ 400) → (gi N 77 37 = t0) → (0 ≤ t0 ∧ t0 ≤ tk) → (F 0 = 1) → (gi N 77 39 = -1 → F t0 = 2 ∨ F t0 = 20 ∨ F t0 = 2001) → (1 ≤ x1 ∧ x1 ≤ 1 + t0) → (1 ≤ x1) → (x1 ≤ 402) → (400 - t0) * 1 + 0 < (mz : Int) → sRn base X G d T229 34 [(0, vR 77), (1, vI x1)] [] N (s_Q base (pI (fun v M' => HI base M' ∧ Fr [(77, 32), (77, 33), (77, 37), (77, 38), (77, 39), (77, 40), (97, 0), (98, 0), (99, 0)] M M' ∧ (v = 0 ∨ v = 1) ∧ (v = 1 → AC 97 0 (gi M' 77 36) M') ∧ (gi M' 77 36 ≤ 400 ∧ 0 ≤ gi M' 77 36))))) := by
  have f0 : Fr [(77, 32), (77, 33), (77, 37), (77, 38), (77, 39), (77, 40), (97, 0), (98, 0), (99, 0)] M M := Fr.rf
  intro mz
  induction mz with
  | zero => exact fun x1 tk t0 F C N _ _ z0 z1 z2 z3 z4 z5 z6 z7 z8 z9 z10 z11 z12 => by omega
  | succ mz ih =>
    intro x1 tk t0 F C N HN fN i0 i1 i2 i3 i4 i5 i6 i7 i8 i9 i10 i11 hmu
    refine s_blx (lv' := [(0, vR 77), (1, vI x1)]) (st' := [vI 59, vR 77]) B229_34_37 rfl ?_
    refine r_sIp (args := [vI 59]) (rest := [vR 77]) (pc' := 40) D229_37 rfl ck_11_static_346 TE221 rfl (Nat.le_of_ble_eq_true rfl) ⟨Nat.le_of_ble_eq_true rfl, Nat.le_of_ble_eq_true rfl⟩ (by decide) (dp_0 hd rfl) (k221 E (dp_n hd rfl) HN 59 (by omega)) ?_
    intro v55 q58
    have q57 := q58; clear q58
    have e59 : v55 = 159 := by omega
    subst e59
    have k1 := d_sc (x := F t0)
    have g60 : gi N 77 36 = tk := i2
    have g61 : gi N 77 37 = t0 := i5
    refine r_vI (c := 77) (args := [vI 159]) (rest := []) (pc' := 43) D229_40 rfl ck_11_virtual_328 TE218 rfl (Nat.le_of_ble_eq_true rfl) ⟨Nat.le_of_ble_eq_true rfl, Nat.le_of_ble_eq_true rfl⟩ sc_77 ⟨rfl, by decide⟩ HN.1 (dp_0 hd rfl) (k218x E (dp_n hd rfl) HN 159 tk t0 F C (i0) (i1) (by omega) (by omega) (by omega) (by omega) (by omega) (by omega) (by omega)) ?_
    intro v62 M63 q70
    obtain ⟨H64, f65, q66, q67, q68, q69⟩ := q70
    have f71 := fN.tr (f65.up rfl)
    have hp72 := i0.fr f65 (by decide)
    obtain ⟨t73, ht74⟩ : ∃ q, q = gi M63 77 37 := ⟨_, rfl⟩
    rw [← ht74] at q67
    rw [← ht74] at q68
    rw [← ht74] at q69
    refine r_ifc (tgt := 73) (pc' := 46) D229_43 rfl rfl (by unfold inR; omega) (fun (c75 : v62 = 0) => ?_) (fun (c75 : ¬ (v62 = 0)) => ?_)
    · refine s_blx (lv' := [(0, vR 77), (1, vI x1)]) (st' := [vR 77]) B229_73_74 rfl ?_
      have g76 : gi M63 77 39 = gi N 77 39 := (f65.g rfl).trans (rfl)
      refine r_vIp (c := 77) (args := []) (rest := []) (pc' := 77) D229_74 rfl ck_11_virtual_321 TE216 rfl (Nat.le_of_ble_eq_true rfl) ⟨Nat.le_of_ble_eq_true rfl, Nat.le_of_ble_eq_true rfl⟩ sc_77 ⟨rfl, by decide⟩ H64.1 (dp_0 hd rfl) (k216x E (dp_n hd rfl) H64 ) ?_
      intro v77 q82
      obtain ⟨q79, q80, q81⟩ := q82
      refine r_ifc (tgt := 95) (pc' := 80) D229_77 rfl rfl (by unfold inR; omega) (fun (c83 : v77 = 0) => ?_) (fun (c83 : ¬ (v77 = 0)) => ?_)
      · refine s_blx (lv' := [(0, vR 77), (1, vI x1)]) (st' := [vR 77, vR 77]) B229_95_97 rfl ?_
        refine r_gint (ki := 39) (pc' := 100) D229_97 rfl gf_11_318_77 rfl H64.1 ?_
        intro w84 e85 r86
        unfold inR at r86
        refine r_pint (ki := 32) (pc' := 103) D229_100 rfl pf_11_75_77 rfl H64 (by unfold inR; omega) trivial ?_
        intro M87 u88 H89 p90
        have f91 := f71.wr u88 rfl
        have hp92 := hp72.wr u88 (by decide)
        refine s_blx (lv' := [(0, vR 77), (1, vI x1)]) (st' := [vR 77]) B229_103_104 rfl ?_
        have g93 : gi M87 77 39 = w84 := (u88.gi_ne (by decide) (Or.inr (by decide))).trans (e85.symm)
        refine r_vIp (c := 77) (args := []) (rest := []) (pc' := 107) D229_104 rfl ck_11_virtual_321 TE216 rfl (Nat.le_of_ble_eq_true rfl) ⟨Nat.le_of_ble_eq_true rfl, Nat.le_of_ble_eq_true rfl⟩ sc_77 ⟨rfl, by decide⟩ H89.1 (dp_0 hd rfl) (k216x E (dp_n hd rfl) H89 ) ?_
        intro v94 q99
        obtain ⟨q96, q97, q98⟩ := q99
        have g100 : gi M87 77 36 = tk := (u88.gi_ne (by decide) (Or.inr (by decide))).trans ((f65.g rfl).trans (i2))
        exact r_zretI D229_107 rfl (by omega) (⟨H89, f91, by omega, fun hv => ⟨F, i7, fun j h1 h2 => by rw [i1 j h1, Int.zero_add, (hp92) j], by rw [((u88.gi_ne (by decide) (Or.inr (by decide))).trans ((f65.g rfl).trans (i2))), show tk = t73 by omega]; omega⟩, by rw [g100]; omega⟩)
      · refine s_blx (lv' := [(0, vR 77), (1, vI x1)]) (st' := [vR 77]) B229_80_81 rfl ?_
        refine r_gint (ki := 37) (pc' := 84) D229_81 rfl gf_11_325_77 rfl H64.1 ?_
        intro w101 e102 r103
        have e104 : t73 = w101 := (e102.trans (ht74.symm)).symm
        subst e104
        refine s_blx (lv' := [(0, vR 77), (1, vI x1)]) (st' := [vR 77, vI t73]) B229_84_85 rfl ?_
        refine r_gint (ki := 36) (pc' := 88) D229_85 rfl gf_11_305_77 rfl H64.1 ?_
        intro w105 e106 r107
        have e108 : tk = w105 := (e106.trans ((f65.g rfl).trans (i2))).symm
        subst e108
        refine r_icmp (tgt := 95) (pc' := 91) D229_88 rfl rfl (by unfold inR; omega) (fun (c109 : tk ≤ t73) => ?_) (fun (c109 : ¬ (tk ≤ t73)) => ?_)
        · refine s_blx (lv' := [(0, vR 77), (1, vI x1)]) (st' := [vR 77, vR 77]) B229_95_97 rfl ?_
          refine r_gint (ki := 39) (pc' := 100) D229_97 rfl gf_11_318_77 rfl H64.1 ?_
          intro w110 e111 r112
          unfold inR at r112
          refine r_pint (ki := 32) (pc' := 103) D229_100 rfl pf_11_75_77 rfl H64 (by unfold inR; omega) trivial ?_
          intro M113 u114 H115 p116
          have f117 := f71.wr u114 rfl
          have hp118 := hp72.wr u114 (by decide)
          refine s_blx (lv' := [(0, vR 77), (1, vI x1)]) (st' := [vR 77]) B229_103_104 rfl ?_
          have g119 : gi M113 77 39 = w110 := (u114.gi_ne (by decide) (Or.inr (by decide))).trans (e111.symm)
          refine r_vIp (c := 77) (args := []) (rest := []) (pc' := 107) D229_104 rfl ck_11_virtual_321 TE216 rfl (Nat.le_of_ble_eq_true rfl) ⟨Nat.le_of_ble_eq_true rfl, Nat.le_of_ble_eq_true rfl⟩ sc_77 ⟨rfl, by decide⟩ H115.1 (dp_0 hd rfl) (k216x E (dp_n hd rfl) H115 ) ?_
          intro v120 q125
          obtain ⟨q122, q123, q124⟩ := q125
          have g126 : gi M113 77 36 = tk := (u114.gi_ne (by decide) (Or.inr (by decide))).trans ((f65.g rfl).trans (i2))
          exact r_zretI D229_107 rfl (by omega) (⟨H115, f117, by omega, fun hv => ⟨F, i7, fun j h1 h2 => by rw [i1 j h1, Int.zero_add, (hp118) j], by rw [((u114.gi_ne (by decide) (Or.inr (by decide))).trans ((f65.g rfl).trans (i2))), show tk = t73 by omega]; omega⟩, by rw [g126]; omega⟩)
        · refine s_blx (lv' := [(0, vR 77), (1, vI x1)]) (st' := [vR 77]) B229_91_92 rfl ?_
          refine r_vV (c := 77) (args := []) (rest := []) (pc' := 95) D229_92 rfl ck_11_virtual_331 TE217 rfl (Nat.le_of_ble_eq_true rfl) ⟨Nat.le_of_ble_eq_true rfl, Nat.le_of_ble_eq_true rfl⟩ sc_77 ⟨rfl, by decide⟩ H64.1 (dp_0 hd rfl) (k217x E (dp_n hd rfl) H64 ) ?_
          intro M128 q132
          obtain ⟨H129, f130, q131⟩ := q132
          have f133 := f71.tr (f130.up rfl)
          have hp134 := hp72.fr f130 (by decide)
          obtain ⟨t135, ht136⟩ : ∃ q, q = gi M128 77 39 := ⟨_, rfl⟩
          rw [← ht136] at q131
          refine s_blx (lv' := [(0, vR 77), (1, vI x1)]) (st' := [vR 77, vR 77]) B229_95_97 rfl ?_
          refine r_gint (ki := 39) (pc' := 100) D229_97 rfl gf_11_318_77 rfl H129.1 ?_
          intro w137 e138 r139
          have e140 : t135 = w137 := (e138.trans (ht136.symm)).symm
          subst e140
          refine r_norm ?_
          intro z141 r142 _; unfold inR at r142
          refine r_pint (ki := 32) (pc' := 103) D229_100 rfl pf_11_75_77 rfl H129 (by unfold inR; omega) trivial ?_
          intro M143 u144 H145 p146
          have f147 := f133.wr u144 rfl
          have hp148 := hp134.wr u144 (by decide)
          refine s_blx (lv' := [(0, vR 77), (1, vI x1)]) (st' := [vR 77]) B229_103_104 rfl ?_
          have g149 : gi M143 77 39 = t135 := (u144.gi_ne (by decide) (Or.inr (by decide))).trans (ht136.symm)
          refine r_vIp (c := 77) (args := []) (rest := []) (pc' := 107) D229_104 rfl ck_11_virtual_321 TE216 rfl (Nat.le_of_ble_eq_true rfl) ⟨Nat.le_of_ble_eq_true rfl, Nat.le_of_ble_eq_true rfl⟩ sc_77 ⟨rfl, by decide⟩ H145.1 (dp_0 hd rfl) (k216x E (dp_n hd rfl) H145 ) ?_
          intro v150 q155
          obtain ⟨q152, q153, q154⟩ := q155
          have g156 : gi M143 77 36 = tk := (u144.gi_ne (by decide) (Or.inr (by decide))).trans ((f130.g rfl).trans ((f65.g rfl).trans (i2)))
          exact r_zretI D229_107 rfl (by omega) (⟨H145, f147, by omega, fun hv => ⟨F, i7, fun j h1 h2 => by rw [i1 j h1, Int.zero_add, (hp148) j], by rw [((u144.gi_ne (by decide) (Or.inr (by decide))).trans ((f130.g rfl).trans ((f65.g rfl).trans (i2)))), show tk = t73 by omega]; omega⟩, by rw [g156]; omega⟩)
    · refine s_blx (lv' := [(0, vR 77), (1, vI x1)]) (st' := [vI 12, vI x1]) B229_46_49 rfl ?_
      refine r_icmp (tgt := 56) (pc' := 52) D229_49 rfl rfl (by unfold inR; omega) (fun (c157 : x1 ≠ 12) => ?_) (fun (c157 : ¬ (x1 ≠ 12)) => ?_)
      · refine s_blx (lv' := [(0, vR 77), (1, vI x1)]) (st' := [vR 77]) B229_56_57 rfl ?_
        have g158 : gi M63 77 39 = gi N 77 39 := (f65.g rfl).trans (rfl)
        refine r_vIp (c := 77) (args := []) (rest := []) (pc' := 60) D229_57 rfl ck_11_virtual_321 TE216 rfl (Nat.le_of_ble_eq_true rfl) ⟨Nat.le_of_ble_eq_true rfl, Nat.le_of_ble_eq_true rfl⟩ sc_77 ⟨rfl, by decide⟩ H64.1 (dp_0 hd rfl) (k216x E (dp_n hd rfl) H64 ) ?_
        intro v159 q164
        obtain ⟨q161, q162, q163⟩ := q164
        refine r_ifc (tgt := 67) (pc' := 63) D229_60 rfl rfl (by unfold inR; omega) (fun (c165 : v159 = 0) => ?_) (fun (c165 : ¬ (v159 = 0)) => ?_)
        · refine s_blx (lv' := [(1, vI (x1 + 1)), (0, vR 77)]) (st' := []) B229_67_70 rfl ?_
          refine r_goto (tgt := 34) D229_70 rfl ?_
          refine r_loc (lv' := [(0, vR 77), (1, vI (x1 + 1))]) ⟨rfl, rfl, trivial⟩ rfl rfl ?_
          have g166 : gi M63 77 36 = tk := (f65.g rfl).trans (i2)
          have g167 : gi M63 77 37 = t73 := ht74.symm
          have g168 : gi M63 77 39 = gi N 77 39 := (f65.g rfl).trans (rfl)
          exact ih (x1 + 1) tk t73 F C M63 H64 f71 (hp72) (i1) (by omega) (by omega) (by omega) (by omega) (by omega) (by omega) (by omega) (by omega) (by omega) (by omega) (by omega)
        · refine s_blx (lv' := [(0, vR 77), (1, vI x1)]) (st' := [vR 77]) B229_63_64 rfl ?_
          have g169 : gi M63 77 36 = tk := (f65.g rfl).trans (i2)
          have g170 : gi M63 77 37 = t73 := ht74.symm
          have g171 : gi M63 77 39 = gi N 77 39 := (f65.g rfl).trans (rfl)
          refine r_vV (c := 77) (args := []) (rest := []) (pc' := 67) D229_64 rfl ck_11_virtual_369 TE222 rfl (Nat.le_of_ble_eq_true rfl) ⟨Nat.le_of_ble_eq_true rfl, Nat.le_of_ble_eq_true rfl⟩ sc_77 ⟨rfl, by decide⟩ H64.1 (dp_0 hd rfl) (k222x E (dp_n hd rfl) H64 tk t73 F C (hp72) (i1) (by omega) (by omega) (by omega) (by omega) (by omega) (by omega)) ?_
          intro M173 q178
          obtain ⟨H174, f175, q176, q177⟩ := q178
          have f179 := f71.tr (f175.up rfl)
          have hp180 := hp72.fr f175 (by decide)
          obtain ⟨t181, ht182⟩ : ∃ q, q = gi M173 77 37 := ⟨_, rfl⟩
          obtain ⟨t183, ht184⟩ : ∃ q, q = gi M173 77 39 := ⟨_, rfl⟩
          rw [← ht182] at q176
          rw [← ht182, ← ht184] at q177
          refine s_blx (lv' := [(1, vI (x1 + 1)), (0, vR 77)]) (st' := []) B229_67_70 rfl ?_
          refine r_goto (tgt := 34) D229_70 rfl ?_
          refine r_loc (lv' := [(0, vR 77), (1, vI (x1 + 1))]) ⟨rfl, rfl, trivial⟩ rfl rfl ?_
          have g185 : gi M173 77 36 = tk := (f175.g rfl).trans ((f65.g rfl).trans (i2))
          have g186 : gi M173 77 37 = t181 := ht182.symm
          have g187 : gi M173 77 39 = t183 := ht184.symm
          exact ih (x1 + 1) tk t181 F C M173 H174 f179 (hp180) (i1) (by omega) (by omega) (by omega) (by omega) (by omega) (by omega) (by omega) (by omega) (by omega) (by omega) (by omega)
      · refine s_blx (lv' := [(0, vR 77), (1, vI x1)]) (st' := [vR 77]) B229_52_53 rfl ?_
        refine r_vV (c := 77) (args := []) (rest := []) (pc' := 56) D229_53 rfl ck_11_virtual_331 TE217 rfl (Nat.le_of_ble_eq_true rfl) ⟨Nat.le_of_ble_eq_true rfl, Nat.le_of_ble_eq_true rfl⟩ sc_77 ⟨rfl, by decide⟩ H64.1 (dp_0 hd rfl) (k217x E (dp_n hd rfl) H64 ) ?_
        intro M189 q193
        obtain ⟨H190, f191, q192⟩ := q193
        have f194 := f71.tr (f191.up rfl)
        have hp195 := hp72.fr f191 (by decide)
        obtain ⟨t196, ht197⟩ : ∃ q, q = gi M189 77 39 := ⟨_, rfl⟩
        rw [← ht197] at q192
        refine s_blx (lv' := [(0, vR 77), (1, vI x1)]) (st' := [vR 77]) B229_56_57 rfl ?_
        have g198 : gi M189 77 39 = t196 := ht197.symm
        refine r_vIp (c := 77) (args := []) (rest := []) (pc' := 60) D229_57 rfl ck_11_virtual_321 TE216 rfl (Nat.le_of_ble_eq_true rfl) ⟨Nat.le_of_ble_eq_true rfl, Nat.le_of_ble_eq_true rfl⟩ sc_77 ⟨rfl, by decide⟩ H190.1 (dp_0 hd rfl) (k216x E (dp_n hd rfl) H190 ) ?_
        intro v199 q204
        obtain ⟨q201, q202, q203⟩ := q204
        refine r_ifc (tgt := 67) (pc' := 63) D229_60 rfl rfl (by unfold inR; omega) (fun (c205 : v199 = 0) => ?_) (fun (c205 : ¬ (v199 = 0)) => ?_)
        · refine s_blx (lv' := [(1, vI (x1 + 1)), (0, vR 77)]) (st' := []) B229_67_70 rfl ?_
          refine r_goto (tgt := 34) D229_70 rfl ?_
          refine r_loc (lv' := [(0, vR 77), (1, vI (x1 + 1))]) ⟨rfl, rfl, trivial⟩ rfl rfl ?_
          have g206 : gi M189 77 36 = tk := (f191.g rfl).trans ((f65.g rfl).trans (i2))
          have g207 : gi M189 77 37 = t73 := (f191.g rfl).trans (ht74.symm)
          have g208 : gi M189 77 39 = t196 := ht197.symm
          exact ih (x1 + 1) tk t73 F C M189 H190 f194 (hp195) (i1) (by omega) (by omega) (by omega) (by omega) (by omega) (by omega) (by omega) (by omega) (by omega) (by omega) (by omega)
        · refine s_blx (lv' := [(0, vR 77), (1, vI x1)]) (st' := [vR 77]) B229_63_64 rfl ?_
          have g209 : gi M189 77 36 = tk := (f191.g rfl).trans ((f65.g rfl).trans (i2))
          have g210 : gi M189 77 37 = t73 := (f191.g rfl).trans (ht74.symm)
          have g211 : gi M189 77 39 = t196 := ht197.symm
          refine r_vV (c := 77) (args := []) (rest := []) (pc' := 67) D229_64 rfl ck_11_virtual_369 TE222 rfl (Nat.le_of_ble_eq_true rfl) ⟨Nat.le_of_ble_eq_true rfl, Nat.le_of_ble_eq_true rfl⟩ sc_77 ⟨rfl, by decide⟩ H190.1 (dp_0 hd rfl) (k222x E (dp_n hd rfl) H190 tk t73 F C (hp195) (i1) (by omega) (by omega) (by omega) (by omega) (by omega) (by omega)) ?_
          intro M213 q218
          obtain ⟨H214, f215, q216, q217⟩ := q218
          have f219 := f194.tr (f215.up rfl)
          have hp220 := hp195.fr f215 (by decide)
          obtain ⟨t221, ht222⟩ : ∃ q, q = gi M213 77 37 := ⟨_, rfl⟩
          obtain ⟨t223, ht224⟩ : ∃ q, q = gi M213 77 39 := ⟨_, rfl⟩
          rw [← ht222] at q216
          rw [← ht222, ← ht224] at q217
          refine s_blx (lv' := [(1, vI (x1 + 1)), (0, vR 77)]) (st' := []) B229_67_70 rfl ?_
          refine r_goto (tgt := 34) D229_70 rfl ?_
          refine r_loc (lv' := [(0, vR 77), (1, vI (x1 + 1))]) ⟨rfl, rfl, trivial⟩ rfl rfl ?_
          have g225 : gi M213 77 36 = tk := (f215.g rfl).trans ((f191.g rfl).trans ((f65.g rfl).trans (i2)))
          have g226 : gi M213 77 37 = t221 := ht222.symm
          have g227 : gi M213 77 39 = t223 := ht224.symm
          exact ih (x1 + 1) tk t221 F C M213 H214 f219 (hp220) (i1) (by omega) (by omega) (by omega) (by omega) (by omega) (by omega) (by omega) (by omega) (by omega) (by omega) (by omega)
set_option maxRecDepth 4000 in
theorem k229x {base : Nat} {X : Nat → Option mC} {G : Nat → Value} (E : EnvOK base X G) {d : Nat} (hd : 59 ≤ d) {M : mH} (H : HI base M) (h0 : WD M) : sOk base X G d T229 [vR 77] M (pI (fun v M' => HI base M' ∧ Fr [(77, 32), (77, 33), (77, 37), (77, 38), (77, 39), (77, 40), (97, 0), (98, 0), (99, 0)] M M' ∧ (v = 0 ∨ v = 1) ∧ (v = 1 → AC 97 0 (gi M' 77 36) M') ∧ (gi M' 77 36 ≤ 400 ∧ 0 ≤ gi M' 77 36))) := by
  have f0 : Fr [(77, 32), (77, 33), (77, 37), (77, 38), (77, 39), (77, 40), (97, 0), (98, 0), (99, 0)] M M := Fr.rf
  refine sOk.of (show sRn base X G d T229 0 [(0, vR 77)] [] M _ from ?_)
  refine s_blx (lv' := [(0, vR 77)]) (st' := [vR 77, vR 77]) B229_0_2 rfl ?_
  refine r_gint (ki := 31) (pc' := 5) D229_2 rfl gf_11_151_77 rfl H.1 ?_
  intro w1 e2 r3
  have b_w1 := H.2 77 (31) 0 400 rfl
  rw [← e2] at b_w1; clear r3
  refine r_vV (c := 77) (args := [vI w1]) (rest := []) (pc' := 8) D229_5 rfl ck_11_virtual_366 TE215 rfl (Nat.le_of_ble_eq_true rfl) ⟨Nat.le_of_ble_eq_true rfl, Nat.le_of_ble_eq_true rfl⟩ sc_77 ⟨rfl, by decide⟩ H.1 (dp_0 hd rfl) (k215x E (dp_n hd rfl) H w1 (h0) (by omega)) ?_
  intro M5 q10
  obtain ⟨H6, f7, q8, q9⟩ := q10
  have f11 := f0.tr (f7.up rfl)
  obtain ⟨tk, htk⟩ : ∃ q, q = gi M5 77 36 := ⟨_, rfl⟩
  have kz := q9; clear q9
  have kl := q8; clear q8
  rw [← htk] at kz kl
  obtain ⟨C, hC⟩ : ∃ C : Int → Int, ∀ j, gi M5 97 j = C j := ⟨_, fun _ => rfl⟩
  rw [hC] at kz
  have hPC : PC C M5 := hC
  obtain ⟨F, hF0, hF⟩ := dl_seq C
  have kq := H6.2 77 36 0 400 rfl
  refine s_blx (lv' := [(0, vR 77)]) (st' := [vI 0, vR 77]) B229_8_10 rfl ?_
  refine r_pint (ki := 31) (pc' := 13) D229_10 rfl pf_11_151_77 rfl H6 (by unfold inR; omega) (show 0 ≤ 0 ∧ 0 ≤ 400 by omega) ?_
  intro M12 u13 H14 p15
  have f16 := f11.wr u13 rfl
  have hp17 := hPC.wr u13 (by decide)
  refine s_blx (lv' := [(0, vR 77)]) (st' := [vI 0, vR 77]) B229_13_15 rfl ?_
  refine r_pint (ki := 37) (pc' := 18) D229_15 rfl pf_11_325_77 rfl H14 (by unfold inR; omega) (show 0 ≤ 0 ∧ 0 ≤ 400 by omega) ?_
  intro M18 u19 H20 p21
  have f22 := f16.wr u19 rfl
  have hp23 := hp17.wr u19 (by decide)
  refine s_blx (lv' := [(0, vR 77)]) (st' := [vI 0, vR 77]) B229_18_20 rfl ?_
  refine r_pint (ki := 38) (pc' := 23) D229_20 rfl pf_11_334_77 rfl H20 (by unfold inR; omega) trivial ?_
  intro M24 u25 H26 p27
  have f28 := f22.wr u25 rfl
  have hp29 := hp23.wr u25 (by decide)
  refine s_blx (lv' := [(0, vR 77)]) (st' := [vI (-1), vR 77]) B229_23_25 rfl ?_
  refine r_pint (ki := 39) (pc' := 28) D229_25 rfl pf_11_318_77 rfl H26 (by unfold inR; omega) trivial ?_
  intro M30 u31 H32 p33
  have f34 := f28.wr u31 rfl
  have hp35 := hp29.wr u31 (by decide)
  refine s_blx (lv' := [(0, vR 77)]) (st' := [vR 77]) B229_28_29 rfl ?_
  have g36 : gi M30 77 36 = tk := (u31.gi_ne (by decide) (Or.inr (by decide))).trans ((u25.gi_ne (by decide) (Or.inr (by decide))).trans ((u19.gi_ne (by decide) (Or.inr (by decide))).trans ((u13.gi_ne (by decide) (Or.inr (by decide))).trans (htk.symm))))
  have g37 : gi M30 77 37 = 0 := (u31.gi_ne (by decide) (Or.inr (by decide))).trans ((u25.gi_ne (by decide) (Or.inr (by decide))).trans (p21))
  have g38 : gi M30 77 39 = -1 := p33
  refine r_vV (c := 77) (args := []) (rest := []) (pc' := 32) D229_29 rfl ck_11_virtual_369 TE222 rfl (Nat.le_of_ble_eq_true rfl) ⟨Nat.le_of_ble_eq_true rfl, Nat.le_of_ble_eq_true rfl⟩ sc_77 ⟨rfl, by decide⟩ H32.1 (dp_0 hd rfl) (k222x E (dp_n hd rfl) H32 tk 0 F C (hp35) (hF) (by omega) (by omega) (by omega) (by omega) (by omega) (by omega)) ?_
  intro M40 q45
  obtain ⟨H41, f42, q43, q44⟩ := q45
  have f46 := f34.tr (f42.up rfl)
  have hp47 := hp35.fr f42 (by decide)
  obtain ⟨t48, ht49⟩ : ∃ q, q = gi M40 77 37 := ⟨_, rfl⟩
  obtain ⟨t50, ht51⟩ : ∃ q, q = gi M40 77 39 := ⟨_, rfl⟩
  rw [← ht49] at q43
  rw [← ht49, ← ht51] at q44
  refine s_blx (lv' := [(1, vI 1), (0, vR 77)]) (st' := []) B229_32_34 rfl ?_
  refine r_loc (lv' := [(0, vR 77), (1, vI 1)]) ⟨rfl, rfl, trivial⟩ rfl rfl ?_
  have g52 : gi M40 77 36 = tk := (f42.g rfl).trans ((u31.gi_ne (by decide) (Or.inr (by decide))).trans ((u25.gi_ne (by decide) (Or.inr (by decide))).trans ((u19.gi_ne (by decide) (Or.inr (by decide))).trans ((u13.gi_ne (by decide) (Or.inr (by decide))).trans (htk.symm)))))
  have g53 : gi M40 77 37 = t48 := ht49.symm
  have g54 : gi M40 77 39 = t50 := ht51.symm
  exact (L_k229x E hd H h0 (((400 - t48) * 1 + 0 : Int) + 1).toNat) 1 tk t48 F C M40 H41 f46 (hp47) (hF) (by omega) (by omega) (by omega) (by omega) (by omega) (by omega) (by omega) (by omega) (by omega) (by omega) (by omega)
