noncomputable def T225 : mT := (11, yX11_readPlain, cX11_readPlain, 4, none)
set_option maxRecDepth 10000 in
theorem TE225 : sy_m[225]? = some T225 := rfl
theorem B225_0_2 : s_dk T225.2.2.1 0 [.iconst 1, .istore_n 2] 2 = true := by decide +kernel
theorem B225_2_3 : s_dk T225.2.2.1 2 [.iload_n 2] 3 = true := by decide +kernel
theorem D225_3 : decode T225.2.2.1 3 = .ok (.ifCond .eq 13, 3) := by decide +kernel
theorem B225_6_9 : s_dk T225.2.2.1 6 [.aload_n 0, .bipush 10] 9 = true := by decide +kernel
theorem D225_9 : decode T225.2.2.1 9 = .ok (.invokevirtual 328, 3) := by decide +kernel
theorem B225_12_13 : s_dk T225.2.2.1 12 [.istore_n 2] 13 = true := by decide +kernel
theorem D225_13 : decode T225.2.2.1 13 = .ok (.goto (-11), 3) := by decide +kernel
theorem B225_16_17 : s_dk T225.2.2.1 16 [.aload_n 0] 17 = true := by decide +kernel
theorem D225_17 : decode T225.2.2.1 17 = .ok (.invokevirtual 321, 3) := by decide +kernel
theorem D225_20 : decode T225.2.2.1 20 = .ok (.ifCond .ne 4, 3) := by decide +kernel
theorem B225_24_25 : s_dk T225.2.2.1 24 [.aload_n 0] 25 = true := by decide +kernel
theorem D225_25 : decode T225.2.2.1 25 = .ok (.getfield 78, 3) := by decide +kernel
theorem B225_28_29 : s_dk T225.2.2.1 28 [.aload_n 0] 29 = true := by decide +kernel
theorem D225_29 : decode T225.2.2.1 29 = .ok (.getfield 325, 3) := by decide +kernel
theorem D225_32 : decode T225.2.2.1 32 = .ok (.iaload, 1) := by decide +kernel
theorem B225_33_37 : s_dk T225.2.2.1 33 [.istore_n 3, .iload_n 3, .bipush 40] 37 = true := by decide +kernel
theorem D225_37 : decode T225.2.2.1 37 = .ok (.invokestatic 346, 3) := by decide +kernel
theorem D225_40 : decode T225.2.2.1 40 = .ok (.if_icmp .ne 50, 3) := by decide +kernel
theorem B225_90_93 : s_dk T225.2.2.1 90 [.iload_n 3, .bipush 11] 93 = true := by decide +kernel
theorem D225_93 : decode T225.2.2.1 93 = .ok (.if_icmp .eq 9, 3) := by decide +kernel
theorem B225_102_103 : s_dk T225.2.2.1 102 [.aload_n 0] 103 = true := by decide +kernel
theorem D225_103 : decode T225.2.2.1 103 = .ok (.invokevirtual 353, 3) := by decide +kernel
theorem D225_106 : decode T225.2.2.1 106 = .ok (.goto 46, 3) := by decide +kernel
theorem D225_152 : decode T225.2.2.1 152 = .ok (.return_, 1) := by decide +kernel
theorem B225_96_99 : s_dk T225.2.2.1 96 [.iload_n 3, .bipush 12] 99 = true := by decide +kernel
theorem D225_99 : decode T225.2.2.1 99 = .ok (.if_icmp .ne 10, 3) := by decide +kernel
theorem B225_109_111 : s_dk T225.2.2.1 109 [.aload_n 0, .iload_n 1] 111 = true := by decide +kernel
theorem D225_111 : decode T225.2.2.1 111 = .ok (.invokevirtual 356, 3) := by decide +kernel
theorem B225_114_117 : s_dk T225.2.2.1 114 [.aload_n 0, .bipush 60] 117 = true := by decide +kernel
theorem D225_117 : decode T225.2.2.1 117 = .ok (.invokestatic 346, 3) := by decide +kernel
theorem D225_120 : decode T225.2.2.1 120 = .ok (.invokevirtual 328, 3) := by decide +kernel
theorem D225_123 : decode T225.2.2.1 123 = .ok (.ifCond .ne 24, 3) := by decide +kernel
theorem B225_147_149 : s_dk T225.2.2.1 147 [.aload_n 0, .iload_n 1] 149 = true := by decide +kernel
theorem D225_149 : decode T225.2.2.1 149 = .ok (.invokevirtual 356, 3) := by decide +kernel
theorem B225_126_129 : s_dk T225.2.2.1 126 [.aload_n 0, .bipush 62] 129 = true := by decide +kernel
theorem D225_129 : decode T225.2.2.1 129 = .ok (.invokestatic 346, 3) := by decide +kernel
theorem D225_132 : decode T225.2.2.1 132 = .ok (.invokevirtual 328, 3) := by decide +kernel
theorem D225_135 : decode T225.2.2.1 135 = .ok (.ifCond .ne 12, 3) := by decide +kernel
theorem B225_138_141 : s_dk T225.2.2.1 138 [.aload_n 0, .bipush 61] 141 = true := by decide +kernel
theorem D225_141 : decode T225.2.2.1 141 = .ok (.invokestatic 346, 3) := by decide +kernel
theorem D225_144 : decode T225.2.2.1 144 = .ok (.invokevirtual 350, 3) := by decide +kernel
theorem B225_43_46 : s_dk T225.2.2.1 43 [.iload_n 1, .bipush 8] 46 = true := by decide +kernel
theorem D225_46 : decode T225.2.2.1 46 = .ok (.if_icmp .ne 7, 3) := by decide +kernel
theorem B225_53_54 : s_dk T225.2.2.1 53 [.aload_n 0] 54 = true := by decide +kernel
theorem D225_54 : decode T225.2.2.1 54 = .ok (.invokevirtual 321, 3) := by decide +kernel
theorem D225_57 : decode T225.2.2.1 57 = .ok (.ifCond .ne 4, 3) := by decide +kernel
theorem B225_61_63 : s_dk T225.2.2.1 61 [.aload_n 0, .dup] 63 = true := by decide +kernel
theorem D225_63 : decode T225.2.2.1 63 = .ok (.getfield 325, 3) := by decide +kernel
theorem B225_66_68 : s_dk T225.2.2.1 66 [.iconst 1, .iadd] 68 = true := by decide +kernel
theorem D225_68 : decode T225.2.2.1 68 = .ok (.putfield 325, 3) := by decide +kernel
theorem B225_71_75 : s_dk T225.2.2.1 71 [.aload_n 0, .iload_n 1, .iconst 1, .iadd] 75 = true := by decide +kernel
theorem D225_75 : decode T225.2.2.1 75 = .ok (.invokevirtual 337, 3) := by decide +kernel
theorem ck_11_virtual_337 : m_call 11 (.invokevirtual 337) = some (0, 223, 1) := by decide +kernel
noncomputable def T223 : mT := (11, yX11_readTest, cX11_readTest, 2, none)
set_option maxRecDepth 10000 in
theorem TE223 : sy_m[223]? = some T223 := rfl
theorem B225_78_81 : s_dk T225.2.2.1 78 [.aload_n 0, .bipush 41] 81 = true := by decide +kernel
theorem D225_81 : decode T225.2.2.1 81 = .ok (.invokestatic 346, 3) := by decide +kernel
theorem D225_84 : decode T225.2.2.1 84 = .ok (.invokevirtual 350, 3) := by decide +kernel
theorem D225_87 : decode T225.2.2.1 87 = .ok (.goto 65, 3) := by decide +kernel
theorem D225_60 : decode T225.2.2.1 60 = .ok (.return_, 1) := by decide +kernel
theorem B225_49_50 : s_dk T225.2.2.1 49 [.aload_n 0] 50 = true := by decide +kernel
theorem D225_50 : decode T225.2.2.1 50 = .ok (.invokevirtual 331, 3) := by decide +kernel
theorem D225_23 : decode T225.2.2.1 23 = .ok (.return_, 1) := by decide +kernel
noncomputable def T224 : mT := (11, yX11_readBoth, cX11_readBoth, 2, none)
set_option maxRecDepth 10000 in
theorem TE224 : sy_m[224]? = some T224 := rfl
theorem B224_0_2 : s_dk T224.2.2.1 0 [.aload_n 0, .iload_n 1] 2 = true := by decide +kernel
theorem D224_2 : decode T224.2.2.1 2 = .ok (.invokevirtual 343, 3) := by decide +kernel
theorem ck_11_virtual_343 : m_call 11 (.invokevirtual 343) = some (0, 225, 1) := by decide +kernel
theorem B224_5_8 : s_dk T224.2.2.1 5 [.aload_n 0, .bipush 9] 8 = true := by decide +kernel
theorem D224_8 : decode T224.2.2.1 8 = .ok (.invokevirtual 328, 3) := by decide +kernel
theorem D224_11 : decode T224.2.2.1 11 = .ok (.ifCond .eq 11, 3) := by decide +kernel
theorem D224_22 : decode T224.2.2.1 22 = .ok (.return_, 1) := by decide +kernel
theorem B224_14_16 : s_dk T224.2.2.1 14 [.aload_n 0, .iload_n 1] 16 = true := by decide +kernel
theorem D224_16 : decode T224.2.2.1 16 = .ok (.invokevirtual 343, 3) := by decide +kernel
theorem D224_19 : decode T224.2.2.1 19 = .ok (.goto (-14), 3) := by decide +kernel
theorem B223_0_2 : s_dk T223.2.2.1 0 [.aload_n 0, .iload_n 1] 2 = true := by decide +kernel
theorem D223_2 : decode T223.2.2.1 2 = .ok (.invokevirtual 340, 3) := by decide +kernel
theorem ck_11_virtual_340 : m_call 11 (.invokevirtual 340) = some (0, 224, 1) := by decide +kernel
theorem B223_5_8 : s_dk T223.2.2.1 5 [.aload_n 0, .bipush 8] 8 = true := by decide +kernel
theorem D223_8 : decode T223.2.2.1 8 = .ok (.invokevirtual 328, 3) := by decide +kernel
theorem D223_11 : decode T223.2.2.1 11 = .ok (.ifCond .eq 11, 3) := by decide +kernel
theorem D223_22 : decode T223.2.2.1 22 = .ok (.return_, 1) := by decide +kernel
theorem B223_14_16 : s_dk T223.2.2.1 14 [.aload_n 0, .iload_n 1] 16 = true := by decide +kernel
theorem D223_16 : decode T223.2.2.1 16 = .ok (.invokevirtual 340, 3) := by decide +kernel
theorem D223_19 : decode T223.2.2.1 19 = .ok (.goto (-14), 3) := by decide +kernel
set_option maxRecDepth 4000 in
theorem L_k225x {base : Nat} {X : Nat → Option mC} {G : Nat → Value} (E : EnvOK base X G) {rr : Nat} (ihr : ∀ {d : Nat} (_ : 30 + 3 * rr ≤ d) {M : mH} (_ : HI base M) (deep : Int) (tk : Int) (tok : Int) (F : Int → Int) (C : Int → Int), (PC C M) → (∀ j : Int, 0 ≤ j → F (j + 1) = dl (F j) (C j)) → (gi M 77 36 = tk) → (C tk = 0) → (0 ≤ tk ∧ tk ≤ 400) → (gi M 77 37 = tok) → (0 ≤ tok ∧ tok ≤ tk) → (gi M 77 39 = -1 → F tok = 10 + deep) → (0 ≤ deep ∧ deep ≤ 8) → 8 - deep < ((rr : Nat) : Int) → sOk base X G d T223 [vR 77, vI deep] M (pV (fun M' => HI base M' ∧ Fr [(77, 38), (77, 39), (77, 40)] M M' ∧ (tok ≤ gi M' 77 37 ∧ gi M' 77 37 ≤ tk) ∧ (gi M' 77 39 = -1 → gi M 77 39 = -1 ∧ (F (gi M' 77 37) = 20 + deep ∨ F (gi M' 77 37) = 2001 + 100 * deep))))) {d : Nat} (hd : 31 + 3 * rr ≤ d) {M : mH} (H : HI base M) (deep : Int) (tk : Int) (tok : Int) (F : Int → Int) (C : Int → Int) (h0 : PC C M) (h1 : ∀ j : Int, 0 ≤ j → F (j + 1) = dl (F j) (C j)) (h2 : gi M 77 36 = tk) (h3 : C tk = 0) (h4 : 0 ≤ tk ∧ tk ≤ 400) (h5 : gi M 77 37 = tok) (h6 : 0 ≤ tok ∧ tok ≤ tk) (h7 : gi M 77 39 = -1 → F tok = 10 + deep) (h8 : 0 ≤ deep ∧ deep ≤ 8) (h9 : 8 - deep < (rr : Int) + 1) : ∀ mz : Nat, (∀ (x2 t0 : Int) (N : mH), HI base N → Fr [(77, 38), (77, 39), (77, 40)] M N → (gi N 77 37 = t0) → (tok ≤ t0 ∧ t0 ≤ tk) → (gi N 77 36 = tk) → (gi N 77 39 = -1 → gi M 77 39 = -1 ∧ F t0 = 10 + deep) → (0 ≤ x2 ∧ x2 ≤ 1) → (0 ≤ x2) → (x2 ≤ 1) → ((400 - t0) * 2 + x2) * 1 + 0 < (mz : Int) → sRn base X G d T225 2 [(0, vR 77), (1, vI deep), (2, vI x2)] [] N (s_Q base (pV (fun M' => HI base M' ∧ Fr [(77, 38), (77, 39), (77, 40)] M M' ∧ (tok ≤ gi M' 77 37 ∧ gi M' 77 37 ≤ tk) ∧ (gi M' 77 39 = -1 → gi M 77 39 = -1 ∧ (F (gi M' 77 37) = 20 + deep ∨ F (gi M' 77 37) = 2001 + 100 * deep)))))) := by
  have f0 : Fr [(77, 38), (77, 39), (77, 40)] M M := Fr.rf
  intro mz
  induction mz with
  | zero => exact fun x2 t0 N _ _ z0 z1 z2 z3 z4 z5 z6 z7 => by omega
  | succ mz ih =>
    intro x2 t0 N HN fN i0 i1 i2 i3 i4 i5 i6 hmu
    refine s_blx (lv' := [(0, vR 77), (1, vI deep), (2, vI x2)]) (st' := [vI x2]) B225_2_3 rfl ?_
    refine r_ifc (tgt := 16) (pc' := 6) D225_3 rfl rfl (by unfold inR; omega) (fun (c4 : x2 = 0) => ?_) (fun (c4 : ¬ (x2 = 0)) => ?_)
    · refine s_blx (lv' := [(0, vR 77), (1, vI deep), (2, vI x2)]) (st' := [vR 77]) B225_16_17 rfl ?_
      refine r_vIp (c := 77) (args := []) (rest := []) (pc' := 20) D225_17 rfl ck_11_virtual_321 TE216 rfl (Nat.le_of_ble_eq_true rfl) ⟨Nat.le_of_ble_eq_true rfl, Nat.le_of_ble_eq_true rfl⟩ sc_77 ⟨rfl, by decide⟩ HN.1 (by omega) (k216x E (by omega) HN ) ?_
      intro v5 q10
      obtain ⟨q7, q8, q9⟩ := q10
      refine r_ifc (tgt := 24) (pc' := 23) D225_20 rfl rfl (by unfold inR; omega) (fun (c11 : v5 ≠ 0) => ?_) (fun (c11 : ¬ (v5 ≠ 0)) => ?_)
      · refine s_blx (lv' := [(0, vR 77), (1, vI deep), (2, vI x2)]) (st' := [vR 77]) B225_24_25 rfl ?_
        refine r_gfix (r := 97) (pc' := 28) D225_25 rfl gf_11_78_77 HN.1 ?_
        refine s_blx (lv' := [(0, vR 77), (1, vI deep), (2, vI x2)]) (st' := [vR 77, vR 97]) B225_28_29 rfl ?_
        refine r_gint (ki := 37) (pc' := 32) D225_29 rfl gf_11_325_77 rfl HN.1 ?_
        intro w12 e13 r14
        have e15 : t0 = w12 := (e13.trans (i0)).symm
        subst e15
        refine r_iald (pc' := 33) D225_32 rfl sc_97 HN.1 (by omega) ?_
        intro w16 e17 r18
        unfold inR at r18
        have kc := (h0.fr fN rfl) t0
        have kn := tk_lt (t := t0) h3 (by omega)
        refine s_blx (lv' := [(3, vI w16), (0, vR 77), (1, vI deep), (2, vI x2)]) (st' := [vI 40, vI w16]) B225_33_37 rfl ?_
        refine r_sIp (args := [vI 40]) (rest := [vI w16]) (pc' := 40) D225_37 rfl ck_11_static_346 TE221 rfl (Nat.le_of_ble_eq_true rfl) ⟨Nat.le_of_ble_eq_true rfl, Nat.le_of_ble_eq_true rfl⟩ (by decide) (by omega) (k221 E (by omega) HN 40 (by omega)) ?_
        intro v19 q22
        have q21 := q22; clear q22
        have e23 : v19 = 140 := by omega
        subst e23
        refine r_icmp (tgt := 90) (pc' := 43) D225_40 rfl rfl (by unfold inR; omega) (fun (c24 : w16 ≠ 140) => ?_) (fun (c24 : ¬ (w16 ≠ 140)) => ?_)
        · refine s_blx (lv' := [(3, vI w16), (0, vR 77), (1, vI deep), (2, vI x2)]) (st' := [vI 11, vI w16]) B225_90_93 rfl ?_
          refine r_icmp (tgt := 102) (pc' := 96) D225_93 rfl rfl (by unfold inR; omega) (fun (c25 : w16 = 11) => ?_) (fun (c25 : ¬ (w16 = 11)) => ?_)
          · refine s_blx (lv' := [(3, vI w16), (0, vR 77), (1, vI deep), (2, vI x2)]) (st' := [vR 77]) B225_102_103 rfl ?_
            have k4 := d_kn (x := F t0) (c := C t0)
            have g26 : gi N 77 36 = tk := i2
            have g27 : gi N 77 37 = t0 := i0
            refine r_vV (c := 77) (args := []) (rest := []) (pc' := 106) D225_103 rfl ck_11_virtual_353 TE220 rfl (Nat.le_of_ble_eq_true rfl) ⟨Nat.le_of_ble_eq_true rfl, Nat.le_of_ble_eq_true rfl⟩ sc_77 ⟨rfl, by decide⟩ HN.1 (by omega) (k220x E (by omega) HN tk t0 F C ((h0.fr fN rfl)) (h1) (by omega) (by omega) (by omega) (by omega) (by omega) (by omega) (by omega)) ?_
            intro M29 q34
            obtain ⟨H30, f31, q32, q33⟩ := q34
            have f35 := fN.tr (f31.up rfl)
            obtain ⟨t36, ht37⟩ : ∃ q, q = gi M29 77 37 := ⟨_, rfl⟩
            obtain ⟨t38, ht39⟩ : ∃ q, q = gi M29 77 39 := ⟨_, rfl⟩
            rw [← ht37] at q32
            rw [← ht37, ← ht39] at q33
            refine r_goto (tgt := 152) D225_106 rfl ?_
            have g40 : gi M29 77 37 = t36 := ht37.symm
            have g41 : gi M29 77 39 = t38 := ht39.symm
            exact r_retV D225_152 rfl (⟨H30, f35, by rw [g40]; omega, by rw [g40, g41]; omega⟩)
          · refine s_blx (lv' := [(3, vI w16), (0, vR 77), (1, vI deep), (2, vI x2)]) (st' := [vI 12, vI w16]) B225_96_99 rfl ?_
            refine r_icmp (tgt := 109) (pc' := 102) D225_99 rfl rfl (by unfold inR; omega) (fun (c42 : w16 ≠ 12) => ?_) (fun (c42 : ¬ (w16 ≠ 12)) => ?_)
            · refine s_blx (lv' := [(3, vI w16), (0, vR 77), (1, vI deep), (2, vI x2)]) (st' := [vI deep, vR 77]) B225_109_111 rfl ?_
              have g43 : gi N 77 36 = tk := i2
              have g44 : gi N 77 37 = t0 := i0
              refine r_vV (c := 77) (args := [vI deep]) (rest := []) (pc' := 114) D225_111 rfl ck_11_virtual_356 TE226 rfl (Nat.le_of_ble_eq_true rfl) ⟨Nat.le_of_ble_eq_true rfl, Nat.le_of_ble_eq_true rfl⟩ sc_77 ⟨rfl, by decide⟩ HN.1 (by omega) (k226x E (by omega) HN deep deep 0 0 tk t0 F C ((h0.fr fN rfl)) (h1) (by omega) (by omega) (by omega) (by omega) (by omega) (by omega) (by omega) (by omega) (by omega)) ?_
              intro M46 q51
              obtain ⟨H47, f48, q49, q50⟩ := q51
              have f52 := fN.tr (f48.up rfl)
              obtain ⟨t53, ht54⟩ : ∃ q, q = gi M46 77 37 := ⟨_, rfl⟩
              obtain ⟨t55, ht56⟩ : ∃ q, q = gi M46 77 39 := ⟨_, rfl⟩
              rw [← ht54] at q49
              rw [← ht54, ← ht56] at q50
              refine s_blx (lv' := [(3, vI w16), (0, vR 77), (1, vI deep), (2, vI x2)]) (st' := [vI 60, vR 77]) B225_114_117 rfl ?_
              refine r_sIp (args := [vI 60]) (rest := [vR 77]) (pc' := 120) D225_117 rfl ck_11_static_346 TE221 rfl (Nat.le_of_ble_eq_true rfl) ⟨Nat.le_of_ble_eq_true rfl, Nat.le_of_ble_eq_true rfl⟩ (by decide) (by omega) (k221 E (by omega) H47 60 (by omega)) ?_
              intro v57 q60
              have q59 := q60; clear q60
              have e61 : v57 = 160 := by omega
              subst e61
              have k5 := d_cm (x := F t53) 160 (by decide)
              have g62 : gi M46 77 36 = tk := (f48.g rfl).trans (i2)
              have g63 : gi M46 77 37 = t53 := ht54.symm
              have g64 : gi M46 77 39 = t55 := ht56.symm
              refine r_vI (c := 77) (args := [vI 160]) (rest := []) (pc' := 123) D225_120 rfl ck_11_virtual_328 TE218 rfl (Nat.le_of_ble_eq_true rfl) ⟨Nat.le_of_ble_eq_true rfl, Nat.le_of_ble_eq_true rfl⟩ sc_77 ⟨rfl, by decide⟩ H47.1 (by omega) (k218x E (by omega) H47 160 tk t53 F C ((h0.fr f52 rfl)) (h1) (by omega) (by omega) (by omega) (by omega) (by omega) (by omega) (by omega)) ?_
              intro v65 M66 q73
              obtain ⟨H67, f68, q69, q70, q71, q72⟩ := q73
              have f74 := f52.tr (f68.up rfl)
              obtain ⟨t75, ht76⟩ : ∃ q, q = gi M66 77 37 := ⟨_, rfl⟩
              rw [← ht76] at q70
              rw [← ht76] at q71
              rw [← ht76] at q72
              refine r_ifc (tgt := 147) (pc' := 126) D225_123 rfl rfl (by unfold inR; omega) (fun (c77 : v65 ≠ 0) => ?_) (fun (c77 : ¬ (v65 ≠ 0)) => ?_)
              · refine s_blx (lv' := [(3, vI w16), (0, vR 77), (1, vI deep), (2, vI x2)]) (st' := [vI deep, vR 77]) B225_147_149 rfl ?_
                have g78 : gi M66 77 36 = tk := (f68.g rfl).trans ((f48.g rfl).trans (i2))
                have g79 : gi M66 77 37 = t75 := ht76.symm
                have g80 : gi M66 77 39 = t55 := (f68.g rfl).trans (ht56.symm)
                refine r_vV (c := 77) (args := [vI deep]) (rest := []) (pc' := 152) D225_149 rfl ck_11_virtual_356 TE226 rfl (Nat.le_of_ble_eq_true rfl) ⟨Nat.le_of_ble_eq_true rfl, Nat.le_of_ble_eq_true rfl⟩ sc_77 ⟨rfl, by decide⟩ H67.1 (by omega) (k226x E (by omega) H67 deep deep 0 1 tk t75 F C ((h0.fr f74 rfl)) (h1) (by omega) (by omega) (by omega) (by omega) (by omega) (by omega) (by omega) (by omega) (by omega)) ?_
                intro M82 q87
                obtain ⟨H83, f84, q85, q86⟩ := q87
                have f88 := f74.tr (f84.up rfl)
                obtain ⟨t89, ht90⟩ : ∃ q, q = gi M82 77 37 := ⟨_, rfl⟩
                obtain ⟨t91, ht92⟩ : ∃ q, q = gi M82 77 39 := ⟨_, rfl⟩
                rw [← ht90] at q85
                rw [← ht90, ← ht92] at q86
                have g93 : gi M82 77 37 = t89 := ht90.symm
                have g94 : gi M82 77 39 = t91 := ht92.symm
                exact r_retV D225_152 rfl (⟨H83, f88, by rw [g93]; omega, by rw [g93, g94]; omega⟩)
              · refine s_blx (lv' := [(3, vI w16), (0, vR 77), (1, vI deep), (2, vI x2)]) (st' := [vI 62, vR 77]) B225_126_129 rfl ?_
                refine r_sIp (args := [vI 62]) (rest := [vR 77]) (pc' := 132) D225_129 rfl ck_11_static_346 TE221 rfl (Nat.le_of_ble_eq_true rfl) ⟨Nat.le_of_ble_eq_true rfl, Nat.le_of_ble_eq_true rfl⟩ (by decide) (by omega) (k221 E (by omega) H67 62 (by omega)) ?_
                intro v95 q98
                have q97 := q98; clear q98
                have e99 : v95 = 162 := by omega
                subst e99
                have k6 := d_cm (x := F t75) 162 (by decide)
                have g100 : gi M66 77 36 = tk := (f68.g rfl).trans ((f48.g rfl).trans (i2))
                have g101 : gi M66 77 37 = t75 := ht76.symm
                have g102 : gi M66 77 39 = t55 := (f68.g rfl).trans (ht56.symm)
                refine r_vI (c := 77) (args := [vI 162]) (rest := []) (pc' := 135) D225_132 rfl ck_11_virtual_328 TE218 rfl (Nat.le_of_ble_eq_true rfl) ⟨Nat.le_of_ble_eq_true rfl, Nat.le_of_ble_eq_true rfl⟩ sc_77 ⟨rfl, by decide⟩ H67.1 (by omega) (k218x E (by omega) H67 162 tk t75 F C ((h0.fr f74 rfl)) (h1) (by omega) (by omega) (by omega) (by omega) (by omega) (by omega) (by omega)) ?_
                intro v103 M104 q111
                obtain ⟨H105, f106, q107, q108, q109, q110⟩ := q111
                have f112 := f74.tr (f106.up rfl)
                obtain ⟨t113, ht114⟩ : ∃ q, q = gi M104 77 37 := ⟨_, rfl⟩
                rw [← ht114] at q108
                rw [← ht114] at q109
                rw [← ht114] at q110
                refine r_ifc (tgt := 147) (pc' := 138) D225_135 rfl rfl (by unfold inR; omega) (fun (c115 : v103 ≠ 0) => ?_) (fun (c115 : ¬ (v103 ≠ 0)) => ?_)
                · refine s_blx (lv' := [(3, vI w16), (0, vR 77), (1, vI deep), (2, vI x2)]) (st' := [vI deep, vR 77]) B225_147_149 rfl ?_
                  have g116 : gi M104 77 36 = tk := (f106.g rfl).trans ((f68.g rfl).trans ((f48.g rfl).trans (i2)))
                  have g117 : gi M104 77 37 = t113 := ht114.symm
                  have g118 : gi M104 77 39 = t55 := (f106.g rfl).trans ((f68.g rfl).trans (ht56.symm))
                  refine r_vV (c := 77) (args := [vI deep]) (rest := []) (pc' := 152) D225_149 rfl ck_11_virtual_356 TE226 rfl (Nat.le_of_ble_eq_true rfl) ⟨Nat.le_of_ble_eq_true rfl, Nat.le_of_ble_eq_true rfl⟩ sc_77 ⟨rfl, by decide⟩ H105.1 (by omega) (k226x E (by omega) H105 deep deep 0 1 tk t113 F C ((h0.fr f112 rfl)) (h1) (by omega) (by omega) (by omega) (by omega) (by omega) (by omega) (by omega) (by omega) (by omega)) ?_
                  intro M120 q125
                  obtain ⟨H121, f122, q123, q124⟩ := q125
                  have f126 := f112.tr (f122.up rfl)
                  obtain ⟨t127, ht128⟩ : ∃ q, q = gi M120 77 37 := ⟨_, rfl⟩
                  obtain ⟨t129, ht130⟩ : ∃ q, q = gi M120 77 39 := ⟨_, rfl⟩
                  rw [← ht128] at q123
                  rw [← ht128, ← ht130] at q124
                  have g131 : gi M120 77 37 = t127 := ht128.symm
                  have g132 : gi M120 77 39 = t129 := ht130.symm
                  exact r_retV D225_152 rfl (⟨H121, f126, by rw [g131]; omega, by rw [g131, g132]; omega⟩)
                · refine s_blx (lv' := [(3, vI w16), (0, vR 77), (1, vI deep), (2, vI x2)]) (st' := [vI 61, vR 77]) B225_138_141 rfl ?_
                  refine r_sIp (args := [vI 61]) (rest := [vR 77]) (pc' := 144) D225_141 rfl ck_11_static_346 TE221 rfl (Nat.le_of_ble_eq_true rfl) ⟨Nat.le_of_ble_eq_true rfl, Nat.le_of_ble_eq_true rfl⟩ (by decide) (by omega) (k221 E (by omega) H105 61 (by omega)) ?_
                  intro v133 q136
                  have q135 := q136; clear q136
                  have e137 : v133 = 161 := by omega
                  subst e137
                  have k7 := d_cm (x := F t113) 161 (by decide)
                  have g138 : gi M104 77 36 = tk := (f106.g rfl).trans ((f68.g rfl).trans ((f48.g rfl).trans (i2)))
                  have g139 : gi M104 77 37 = t113 := ht114.symm
                  have g140 : gi M104 77 39 = t55 := (f106.g rfl).trans ((f68.g rfl).trans (ht56.symm))
                  refine r_vV (c := 77) (args := [vI 161]) (rest := []) (pc' := 147) D225_144 rfl ck_11_virtual_350 TE219 rfl (Nat.le_of_ble_eq_true rfl) ⟨Nat.le_of_ble_eq_true rfl, Nat.le_of_ble_eq_true rfl⟩ sc_77 ⟨rfl, by decide⟩ H105.1 (by omega) (k219x E (by omega) H105 161 tk t113 F C ((h0.fr f112 rfl)) (h1) (by omega) (by omega) (by omega) (by omega) (by omega) (by omega) (by omega)) ?_
                  intro M142 q147
                  obtain ⟨H143, f144, q145, q146⟩ := q147
                  have f148 := f112.tr (f144.up rfl)
                  obtain ⟨t149, ht150⟩ : ∃ q, q = gi M142 77 37 := ⟨_, rfl⟩
                  obtain ⟨t151, ht152⟩ : ∃ q, q = gi M142 77 39 := ⟨_, rfl⟩
                  rw [← ht150] at q145
                  rw [← ht150, ← ht152] at q146
                  refine s_blx (lv' := [(3, vI w16), (0, vR 77), (1, vI deep), (2, vI x2)]) (st' := [vI deep, vR 77]) B225_147_149 rfl ?_
                  have g153 : gi M142 77 36 = tk := (f144.g rfl).trans ((f106.g rfl).trans ((f68.g rfl).trans ((f48.g rfl).trans (i2))))
                  have g154 : gi M142 77 37 = t149 := ht150.symm
                  have g155 : gi M142 77 39 = t151 := ht152.symm
                  refine r_vV (c := 77) (args := [vI deep]) (rest := []) (pc' := 152) D225_149 rfl ck_11_virtual_356 TE226 rfl (Nat.le_of_ble_eq_true rfl) ⟨Nat.le_of_ble_eq_true rfl, Nat.le_of_ble_eq_true rfl⟩ sc_77 ⟨rfl, by decide⟩ H143.1 (by omega) (k226x E (by omega) H143 deep deep 0 1 tk t149 F C ((h0.fr f148 rfl)) (h1) (by omega) (by omega) (by omega) (by omega) (by omega) (by omega) (by omega) (by omega) (by omega)) ?_
                  intro M157 q162
                  obtain ⟨H158, f159, q160, q161⟩ := q162
                  have f163 := f148.tr (f159.up rfl)
                  obtain ⟨t164, ht165⟩ : ∃ q, q = gi M157 77 37 := ⟨_, rfl⟩
                  obtain ⟨t166, ht167⟩ : ∃ q, q = gi M157 77 39 := ⟨_, rfl⟩
                  rw [← ht165] at q160
                  rw [← ht165, ← ht167] at q161
                  have g168 : gi M157 77 37 = t164 := ht165.symm
                  have g169 : gi M157 77 39 = t166 := ht167.symm
                  exact r_retV D225_152 rfl (⟨H158, f163, by rw [g168]; omega, by rw [g168, g169]; omega⟩)
            · refine s_blx (lv' := [(3, vI w16), (0, vR 77), (1, vI deep), (2, vI x2)]) (st' := [vR 77]) B225_102_103 rfl ?_
              have k4 := d_kn (x := F t0) (c := C t0)
              have g170 : gi N 77 36 = tk := i2
              have g171 : gi N 77 37 = t0 := i0
              refine r_vV (c := 77) (args := []) (rest := []) (pc' := 106) D225_103 rfl ck_11_virtual_353 TE220 rfl (Nat.le_of_ble_eq_true rfl) ⟨Nat.le_of_ble_eq_true rfl, Nat.le_of_ble_eq_true rfl⟩ sc_77 ⟨rfl, by decide⟩ HN.1 (by omega) (k220x E (by omega) HN tk t0 F C ((h0.fr fN rfl)) (h1) (by omega) (by omega) (by omega) (by omega) (by omega) (by omega) (by omega)) ?_
              intro M173 q178
              obtain ⟨H174, f175, q176, q177⟩ := q178
              have f179 := fN.tr (f175.up rfl)
              obtain ⟨t180, ht181⟩ : ∃ q, q = gi M173 77 37 := ⟨_, rfl⟩
              obtain ⟨t182, ht183⟩ : ∃ q, q = gi M173 77 39 := ⟨_, rfl⟩
              rw [← ht181] at q176
              rw [← ht181, ← ht183] at q177
              refine r_goto (tgt := 152) D225_106 rfl ?_
              have g184 : gi M173 77 37 = t180 := ht181.symm
              have g185 : gi M173 77 39 = t182 := ht183.symm
              exact r_retV D225_152 rfl (⟨H174, f179, by rw [g184]; omega, by rw [g184, g185]; omega⟩)
        · refine s_blx (lv' := [(3, vI w16), (0, vR 77), (1, vI deep), (2, vI x2)]) (st' := [vI 8, vI deep]) B225_43_46 rfl ?_
          refine r_icmp (tgt := 53) (pc' := 49) D225_46 rfl rfl (by unfold inR; omega) (fun (c186 : deep ≠ 8) => ?_) (fun (c186 : ¬ (deep ≠ 8)) => ?_)
          · refine s_blx (lv' := [(3, vI w16), (0, vR 77), (1, vI deep), (2, vI x2)]) (st' := [vR 77]) B225_53_54 rfl ?_
            refine r_vIp (c := 77) (args := []) (rest := []) (pc' := 57) D225_54 rfl ck_11_virtual_321 TE216 rfl (Nat.le_of_ble_eq_true rfl) ⟨Nat.le_of_ble_eq_true rfl, Nat.le_of_ble_eq_true rfl⟩ sc_77 ⟨rfl, by decide⟩ HN.1 (by omega) (k216x E (by omega) HN ) ?_
            intro v187 q192
            obtain ⟨q189, q190, q191⟩ := q192
            refine r_ifc (tgt := 61) (pc' := 60) D225_57 rfl rfl (by unfold inR; omega) (fun (c193 : v187 ≠ 0) => ?_) (fun (c193 : ¬ (v187 ≠ 0)) => ?_)
            · refine s_blx (lv' := [(3, vI w16), (0, vR 77), (1, vI deep), (2, vI x2)]) (st' := [vR 77, vR 77]) B225_61_63 rfl ?_
              refine r_gint (ki := 37) (pc' := 66) D225_63 rfl gf_11_325_77 rfl HN.1 ?_
              intro w194 e195 r196
              have e197 : t0 = w194 := (e195.trans (i0)).symm
              subst e197
              refine s_blx (lv' := [(3, vI w16), (0, vR 77), (1, vI deep), (2, vI x2)]) (st' := [vI (t0 + 1), vR 77]) B225_66_68 rfl ?_
              refine r_pint (ki := 37) (pc' := 71) D225_68 rfl pf_11_325_77 rfl HN (by unfold inR; omega) (show 0 ≤ (t0 + 1) ∧ (t0 + 1) ≤ 400 by omega) ?_
              intro M198 u199 H200 p201
              have f202 := fN.wr u199 rfl
              have kd := h1 t0 (by omega)
              have ke : C t0 = 140 := by omega
              rw [ke] at kd
              have k2 := d_po (x := F t0)
              refine s_blx (lv' := [(3, vI w16), (0, vR 77), (1, vI deep), (2, vI x2)]) (st' := [vI (deep + 1), vR 77]) B225_71_75 rfl ?_
              have g203 : gi M198 77 36 = tk := (u199.gi_ne (by decide) (Or.inr (by decide))).trans (i2)
              have g204 : gi M198 77 37 = t0 + 1 := p201
              have g205 : gi M198 77 39 = gi N 77 39 := (u199.gi_ne (by decide) (Or.inr (by decide))).trans (rfl)
              refine r_vV (c := 77) (args := [vI (deep + 1)]) (rest := []) (pc' := 78) D225_75 rfl ck_11_virtual_337 TE223 rfl (Nat.le_of_ble_eq_true rfl) ⟨Nat.le_of_ble_eq_true rfl, Nat.le_of_ble_eq_true rfl⟩ sc_77 ⟨rfl, by decide⟩ H200.1 (by omega) (ihr (by omega) H200 (deep + 1) tk (t0 + 1) F C ((h0.fr f202 rfl)) (h1) (by omega) (by omega) (by omega) (by omega) (by omega) (by omega) (by omega) (by omega)) ?_
              intro M207 q212
              obtain ⟨H208, f209, q210, q211⟩ := q212
              have f213 := f202.tr (f209.up rfl)
              obtain ⟨t214, ht215⟩ : ∃ q, q = gi M207 77 37 := ⟨_, rfl⟩
              obtain ⟨t216, ht217⟩ : ∃ q, q = gi M207 77 39 := ⟨_, rfl⟩
              rw [← ht215] at q210
              rw [← ht215, ← ht217] at q211
              refine s_blx (lv' := [(3, vI w16), (0, vR 77), (1, vI deep), (2, vI x2)]) (st' := [vI 41, vR 77]) B225_78_81 rfl ?_
              refine r_sIp (args := [vI 41]) (rest := [vR 77]) (pc' := 84) D225_81 rfl ck_11_static_346 TE221 rfl (Nat.le_of_ble_eq_true rfl) ⟨Nat.le_of_ble_eq_true rfl, Nat.le_of_ble_eq_true rfl⟩ (by decide) (by omega) (k221 E (by omega) H208 41 (by omega)) ?_
              intro v218 q221
              have q220 := q221; clear q221
              have e222 : v218 = 141 := by omega
              subst e222
              have k3 := d_cp (x := F t214) (p := deep + 1)
              have g223 : gi M207 77 36 = tk := (f209.g rfl).trans ((u199.gi_ne (by decide) (Or.inr (by decide))).trans (i2))
              have g224 : gi M207 77 37 = t214 := ht215.symm
              have g225 : gi M207 77 39 = t216 := ht217.symm
              refine r_vV (c := 77) (args := [vI 141]) (rest := []) (pc' := 87) D225_84 rfl ck_11_virtual_350 TE219 rfl (Nat.le_of_ble_eq_true rfl) ⟨Nat.le_of_ble_eq_true rfl, Nat.le_of_ble_eq_true rfl⟩ sc_77 ⟨rfl, by decide⟩ H208.1 (by omega) (k219x E (by omega) H208 141 tk t214 F C ((h0.fr f213 rfl)) (h1) (by omega) (by omega) (by omega) (by omega) (by omega) (by omega) (by omega)) ?_
              intro M227 q232
              obtain ⟨H228, f229, q230, q231⟩ := q232
              have f233 := f213.tr (f229.up rfl)
              obtain ⟨t234, ht235⟩ : ∃ q, q = gi M227 77 37 := ⟨_, rfl⟩
              obtain ⟨t236, ht237⟩ : ∃ q, q = gi M227 77 39 := ⟨_, rfl⟩
              rw [← ht235] at q230
              rw [← ht235, ← ht237] at q231
              refine r_goto (tgt := 152) D225_87 rfl ?_
              have g238 : gi M227 77 37 = t234 := ht235.symm
              have g239 : gi M227 77 39 = t236 := ht237.symm
              exact r_retV D225_152 rfl (⟨H228, f233, by rw [g238]; omega, by rw [g238, g239]; omega⟩)
            · have g240 : gi N 77 37 = t0 := i0
              exact r_retV D225_60 rfl (⟨HN, fN, by rw [g240]; omega, by rw [g240]; omega⟩)
          · refine s_blx (lv' := [(3, vI w16), (0, vR 77), (1, vI deep), (2, vI x2)]) (st' := [vR 77]) B225_49_50 rfl ?_
            refine r_vV (c := 77) (args := []) (rest := []) (pc' := 53) D225_50 rfl ck_11_virtual_331 TE217 rfl (Nat.le_of_ble_eq_true rfl) ⟨Nat.le_of_ble_eq_true rfl, Nat.le_of_ble_eq_true rfl⟩ sc_77 ⟨rfl, by decide⟩ HN.1 (by omega) (k217x E (by omega) HN ) ?_
            intro M242 q246
            obtain ⟨H243, f244, q245⟩ := q246
            have f247 := fN.tr (f244.up rfl)
            obtain ⟨t248, ht249⟩ : ∃ q, q = gi M242 77 39 := ⟨_, rfl⟩
            rw [← ht249] at q245
            refine s_blx (lv' := [(3, vI w16), (0, vR 77), (1, vI deep), (2, vI x2)]) (st' := [vR 77]) B225_53_54 rfl ?_
            have g250 : gi M242 77 39 = t248 := ht249.symm
            refine r_vIp (c := 77) (args := []) (rest := []) (pc' := 57) D225_54 rfl ck_11_virtual_321 TE216 rfl (Nat.le_of_ble_eq_true rfl) ⟨Nat.le_of_ble_eq_true rfl, Nat.le_of_ble_eq_true rfl⟩ sc_77 ⟨rfl, by decide⟩ H243.1 (by omega) (k216x E (by omega) H243 ) ?_
            intro v251 q256
            obtain ⟨q253, q254, q255⟩ := q256
            refine r_ifc (tgt := 61) (pc' := 60) D225_57 rfl rfl (by unfold inR; omega) (fun (c257 : v251 ≠ 0) => ?_) (fun (c257 : ¬ (v251 ≠ 0)) => ?_)
            · refine s_blx (lv' := [(3, vI w16), (0, vR 77), (1, vI deep), (2, vI x2)]) (st' := [vR 77, vR 77]) B225_61_63 rfl ?_
              refine r_gint (ki := 37) (pc' := 66) D225_63 rfl gf_11_325_77 rfl H243.1 ?_
              intro w258 e259 r260
              have e261 : t0 = w258 := (e259.trans ((f244.g rfl).trans (i0))).symm
              subst e261
              refine s_blx (lv' := [(3, vI w16), (0, vR 77), (1, vI deep), (2, vI x2)]) (st' := [vI (t0 + 1), vR 77]) B225_66_68 rfl ?_
              refine r_pint (ki := 37) (pc' := 71) D225_68 rfl pf_11_325_77 rfl H243 (by unfold inR; omega) (show 0 ≤ (t0 + 1) ∧ (t0 + 1) ≤ 400 by omega) ?_
              intro M262 u263 H264 p265
              have f266 := f247.wr u263 rfl
              have kd := h1 t0 (by omega)
              have ke : C t0 = 140 := by omega
              rw [ke] at kd
              have k2 := d_po (x := F t0)
              refine s_blx (lv' := [(3, vI w16), (0, vR 77), (1, vI deep), (2, vI x2)]) (st' := [vI (deep + 1), vR 77]) B225_71_75 rfl ?_
              have g267 : gi M262 77 36 = tk := (u263.gi_ne (by decide) (Or.inr (by decide))).trans ((f244.g rfl).trans (i2))
              have g268 : gi M262 77 37 = t0 + 1 := p265
              have g269 : gi M262 77 39 = t248 := (u263.gi_ne (by decide) (Or.inr (by decide))).trans (ht249.symm)
              refine r_vV (c := 77) (args := [vI (deep + 1)]) (rest := []) (pc' := 78) D225_75 rfl ck_11_virtual_337 TE223 rfl (Nat.le_of_ble_eq_true rfl) ⟨Nat.le_of_ble_eq_true rfl, Nat.le_of_ble_eq_true rfl⟩ sc_77 ⟨rfl, by decide⟩ H264.1 (by omega) (ihr (by omega) H264 (deep + 1) tk (t0 + 1) F C ((h0.fr f266 rfl)) (h1) (by omega) (by omega) (by omega) (by omega) (by omega) (by omega) (by omega) (by omega)) ?_
              intro M271 q276
              obtain ⟨H272, f273, q274, q275⟩ := q276
              have f277 := f266.tr (f273.up rfl)
              obtain ⟨t278, ht279⟩ : ∃ q, q = gi M271 77 37 := ⟨_, rfl⟩
              obtain ⟨t280, ht281⟩ : ∃ q, q = gi M271 77 39 := ⟨_, rfl⟩
              rw [← ht279] at q274
              rw [← ht279, ← ht281] at q275
              refine s_blx (lv' := [(3, vI w16), (0, vR 77), (1, vI deep), (2, vI x2)]) (st' := [vI 41, vR 77]) B225_78_81 rfl ?_
              refine r_sIp (args := [vI 41]) (rest := [vR 77]) (pc' := 84) D225_81 rfl ck_11_static_346 TE221 rfl (Nat.le_of_ble_eq_true rfl) ⟨Nat.le_of_ble_eq_true rfl, Nat.le_of_ble_eq_true rfl⟩ (by decide) (by omega) (k221 E (by omega) H272 41 (by omega)) ?_
              intro v282 q285
              have q284 := q285; clear q285
              have e286 : v282 = 141 := by omega
              subst e286
              have k3 := d_cp (x := F t278) (p := deep + 1)
              have g287 : gi M271 77 36 = tk := (f273.g rfl).trans ((u263.gi_ne (by decide) (Or.inr (by decide))).trans ((f244.g rfl).trans (i2)))
              have g288 : gi M271 77 37 = t278 := ht279.symm
              have g289 : gi M271 77 39 = t280 := ht281.symm
              refine r_vV (c := 77) (args := [vI 141]) (rest := []) (pc' := 87) D225_84 rfl ck_11_virtual_350 TE219 rfl (Nat.le_of_ble_eq_true rfl) ⟨Nat.le_of_ble_eq_true rfl, Nat.le_of_ble_eq_true rfl⟩ sc_77 ⟨rfl, by decide⟩ H272.1 (by omega) (k219x E (by omega) H272 141 tk t278 F C ((h0.fr f277 rfl)) (h1) (by omega) (by omega) (by omega) (by omega) (by omega) (by omega) (by omega)) ?_
              intro M291 q296
              obtain ⟨H292, f293, q294, q295⟩ := q296
              have f297 := f277.tr (f293.up rfl)
              obtain ⟨t298, ht299⟩ : ∃ q, q = gi M291 77 37 := ⟨_, rfl⟩
              obtain ⟨t300, ht301⟩ : ∃ q, q = gi M291 77 39 := ⟨_, rfl⟩
              rw [← ht299] at q294
              rw [← ht299, ← ht301] at q295
              refine r_goto (tgt := 152) D225_87 rfl ?_
              have g302 : gi M291 77 37 = t298 := ht299.symm
              have g303 : gi M291 77 39 = t300 := ht301.symm
              exact r_retV D225_152 rfl (⟨H292, f297, by rw [g302]; omega, by rw [g302, g303]; omega⟩)
            · have g304 : gi M242 77 37 = t0 := (f244.g rfl).trans (i0)
              have g305 : gi M242 77 39 = t248 := ht249.symm
              exact r_retV D225_60 rfl (⟨H243, f247, by rw [g304]; omega, by rw [g304, g305]; omega⟩)
      · have g306 : gi N 77 37 = t0 := i0
        exact r_retV D225_23 rfl (⟨HN, fN, by rw [g306]; omega, by rw [g306]; omega⟩)
    · refine s_blx (lv' := [(0, vR 77), (1, vI deep), (2, vI x2)]) (st' := [vI 10, vR 77]) B225_6_9 rfl ?_
      have k1 := d_not (x := F t0)
      have g307 : gi N 77 36 = tk := i2
      have g308 : gi N 77 37 = t0 := i0
      refine r_vI (c := 77) (args := [vI 10]) (rest := []) (pc' := 12) D225_9 rfl ck_11_virtual_328 TE218 rfl (Nat.le_of_ble_eq_true rfl) ⟨Nat.le_of_ble_eq_true rfl, Nat.le_of_ble_eq_true rfl⟩ sc_77 ⟨rfl, by decide⟩ HN.1 (by omega) (k218x E (by omega) HN 10 tk t0 F C ((h0.fr fN rfl)) (h1) (by omega) (by omega) (by omega) (by omega) (by omega) (by omega) (by omega)) ?_
      intro v309 M310 q317
      obtain ⟨H311, f312, q313, q314, q315, q316⟩ := q317
      have f318 := fN.tr (f312.up rfl)
      obtain ⟨t319, ht320⟩ : ∃ q, q = gi M310 77 37 := ⟨_, rfl⟩
      rw [← ht320] at q314
      rw [← ht320] at q315
      rw [← ht320] at q316
      refine s_blx (lv' := [(2, vI v309), (0, vR 77), (1, vI deep)]) (st' := []) B225_12_13 rfl ?_
      refine r_goto (tgt := 2) D225_13 rfl ?_
      refine r_loc (lv' := [(0, vR 77), (1, vI deep), (2, vI v309)]) ⟨rfl, rfl, rfl, trivial⟩ rfl rfl ?_
      have g321 : gi M310 77 37 = t319 := ht320.symm
      have g322 : gi M310 77 36 = tk := (f312.g rfl).trans (i2)
      have g323 : gi M310 77 39 = gi N 77 39 := (f312.g rfl).trans (rfl)
      exact ih v309 t319 M310 H311 f318 (by omega) (by omega) (by omega) (by omega) (by omega) (by omega) (by omega) (by omega)
set_option maxRecDepth 4000 in
theorem k225x {base : Nat} {X : Nat → Option mC} {G : Nat → Value} (E : EnvOK base X G) {rr : Nat} (ihr : ∀ {d : Nat} (_ : 30 + 3 * rr ≤ d) {M : mH} (_ : HI base M) (deep : Int) (tk : Int) (tok : Int) (F : Int → Int) (C : Int → Int), (PC C M) → (∀ j : Int, 0 ≤ j → F (j + 1) = dl (F j) (C j)) → (gi M 77 36 = tk) → (C tk = 0) → (0 ≤ tk ∧ tk ≤ 400) → (gi M 77 37 = tok) → (0 ≤ tok ∧ tok ≤ tk) → (gi M 77 39 = -1 → F tok = 10 + deep) → (0 ≤ deep ∧ deep ≤ 8) → 8 - deep < ((rr : Nat) : Int) → sOk base X G d T223 [vR 77, vI deep] M (pV (fun M' => HI base M' ∧ Fr [(77, 38), (77, 39), (77, 40)] M M' ∧ (tok ≤ gi M' 77 37 ∧ gi M' 77 37 ≤ tk) ∧ (gi M' 77 39 = -1 → gi M 77 39 = -1 ∧ (F (gi M' 77 37) = 20 + deep ∨ F (gi M' 77 37) = 2001 + 100 * deep))))) {d : Nat} (hd : 31 + 3 * rr ≤ d) {M : mH} (H : HI base M) (deep : Int) (tk : Int) (tok : Int) (F : Int → Int) (C : Int → Int) (h0 : PC C M) (h1 : ∀ j : Int, 0 ≤ j → F (j + 1) = dl (F j) (C j)) (h2 : gi M 77 36 = tk) (h3 : C tk = 0) (h4 : 0 ≤ tk ∧ tk ≤ 400) (h5 : gi M 77 37 = tok) (h6 : 0 ≤ tok ∧ tok ≤ tk) (h7 : gi M 77 39 = -1 → F tok = 10 + deep) (h8 : 0 ≤ deep ∧ deep ≤ 8) (h9 : 8 - deep < (rr : Int) + 1) : sOk base X G d T225 [vR 77, vI deep] M (pV (fun M' => HI base M' ∧ Fr [(77, 38), (77, 39), (77, 40)] M M' ∧ (tok ≤ gi M' 77 37 ∧ gi M' 77 37 ≤ tk) ∧ (gi M' 77 39 = -1 → gi M 77 39 = -1 ∧ (F (gi M' 77 37) = 20 + deep ∨ F (gi M' 77 37) = 2001 + 100 * deep)))) := by
  have f0 : Fr [(77, 38), (77, 39), (77, 40)] M M := Fr.rf
  refine sOk.of (show sRn base X G d T225 0 [(0, vR 77), (1, vI deep)] [] M _ from ?_)
  refine s_blx (lv' := [(2, vI 1), (0, vR 77), (1, vI deep)]) (st' := []) B225_0_2 rfl ?_
  refine r_loc (lv' := [(0, vR 77), (1, vI deep), (2, vI 1)]) ⟨rfl, rfl, rfl, trivial⟩ rfl rfl ?_
  have g1 : gi M 77 37 = tok := h5
  have g2 : gi M 77 36 = tk := h2
  have g3 : gi M 77 39 = gi M 77 39 := rfl
  exact (L_k225x E ihr hd H deep tk tok F C h0 h1 h2 h3 h4 h5 h6 h7 h8 h9 ((((400 - tok) * 2 + 1) * 1 + 0 : Int) + 1).toNat) 1 tok M H f0 (by omega) (by omega) (by omega) (by omega) (by omega) (by omega) (by omega) (by omega)
set_option maxRecDepth 4000 in
theorem L_k224x {base : Nat} {X : Nat → Option mC} {G : Nat → Value} (E : EnvOK base X G) {rr : Nat} (ihr : ∀ {d : Nat} (_ : 30 + 3 * rr ≤ d) {M : mH} (_ : HI base M) (deep : Int) (tk : Int) (tok : Int) (F : Int → Int) (C : Int → Int), (PC C M) → (∀ j : Int, 0 ≤ j → F (j + 1) = dl (F j) (C j)) → (gi M 77 36 = tk) → (C tk = 0) → (0 ≤ tk ∧ tk ≤ 400) → (gi M 77 37 = tok) → (0 ≤ tok ∧ tok ≤ tk) → (gi M 77 39 = -1 → F tok = 10 + deep) → (0 ≤ deep ∧ deep ≤ 8) → 8 - deep < ((rr : Nat) : Int) → sOk base X G d T223 [vR 77, vI deep] M (pV (fun M' => HI base M' ∧ Fr [(77, 38), (77, 39), (77, 40)] M M' ∧ (tok ≤ gi M' 77 37 ∧ gi M' 77 37 ≤ tk) ∧ (gi M' 77 39 = -1 → gi M 77 39 = -1 ∧ (F (gi M' 77 37) = 20 + deep ∨ F (gi M' 77 37) = 2001 + 100 * deep))))) {d : Nat} (hd : 32 + 3 * rr ≤ d) {M : mH} (H : HI base M) (deep : Int) (tk : Int) (tok : Int) (F : Int → Int) (C : Int → Int) (h0 : PC C M) (h1 : ∀ j : Int, 0 ≤ j → F (j + 1) = dl (F j) (C j)) (h2 : gi M 77 36 = tk) (h3 : C tk = 0) (h4 : 0 ≤ tk ∧ tk ≤ 400) (h5 : gi M 77 37 = tok) (h6 : 0 ≤ tok ∧ tok ≤ tk) (h7 : gi M 77 39 = -1 → F tok = 10 + deep) (h8 : 0 ≤ deep ∧ deep ≤ 8) (h9 : 8 - deep < (rr : Int) + 1) : ∀ mz : Nat, (∀ (t0 : Int) (N : mH), HI base N → Fr [(77, 38), (77, 39), (77, 40)] M N → (gi N 77 37 = t0) → (tok ≤ t0 ∧ t0 ≤ tk) → (gi N 77 36 = tk) → (gi N 77 39 = -1 → gi M 77 39 = -1 ∧ (F t0 = 20 + deep ∨ F t0 = 2001 + 100 * deep)) → (400 - t0) * 1 + 0 < (mz : Int) → sRn base X G d T224 5 [(0, vR 77), (1, vI deep)] [] N (s_Q base (pV (fun M' => HI base M' ∧ Fr [(77, 38), (77, 39), (77, 40)] M M' ∧ (tok ≤ gi M' 77 37 ∧ gi M' 77 37 ≤ tk) ∧ (gi M' 77 39 = -1 → gi M 77 39 = -1 ∧ (F (gi M' 77 37) = 20 + deep ∨ F (gi M' 77 37) = 2001 + 100 * deep)))))) := by
  have f0 : Fr [(77, 38), (77, 39), (77, 40)] M M := Fr.rf
  intro mz
  induction mz with
  | zero => exact fun t0 N _ _ z0 z1 z2 z3 z4 => by omega
  | succ mz ih =>
    intro t0 N HN fN i0 i1 i2 i3 hmu
    refine s_blx (lv' := [(0, vR 77), (1, vI deep)]) (st' := [vI 9, vR 77]) B224_5_8 rfl ?_
    have k1 := d_or (x := F t0) (p := deep) 9 (by decide)
    have g18 : gi N 77 36 = tk := i2
    have g19 : gi N 77 37 = t0 := i0
    refine r_vI (c := 77) (args := [vI 9]) (rest := []) (pc' := 11) D224_8 rfl ck_11_virtual_328 TE218 rfl (Nat.le_of_ble_eq_true rfl) ⟨Nat.le_of_ble_eq_true rfl, Nat.le_of_ble_eq_true rfl⟩ sc_77 ⟨rfl, by decide⟩ HN.1 (by omega) (k218x E (by omega) HN 9 tk t0 F C ((h0.fr fN rfl)) (h1) (by omega) (by omega) (by omega) (by omega) (by omega) (by omega) (by omega)) ?_
    intro v20 M21 q28
    obtain ⟨H22, f23, q24, q25, q26, q27⟩ := q28
    have f29 := fN.tr (f23.up rfl)
    obtain ⟨t30, ht31⟩ : ∃ q, q = gi M21 77 37 := ⟨_, rfl⟩
    rw [← ht31] at q25
    rw [← ht31] at q26
    rw [← ht31] at q27
    refine r_ifc (tgt := 22) (pc' := 14) D224_11 rfl rfl (by unfold inR; omega) (fun (c32 : v20 = 0) => ?_) (fun (c32 : ¬ (v20 = 0)) => ?_)
    · have g33 : gi M21 77 37 = t30 := ht31.symm
      have g34 : gi M21 77 39 = gi N 77 39 := (f23.g rfl).trans (rfl)
      exact r_retV D224_22 rfl (⟨H22, f29, by rw [g33]; omega, by rw [g33, g34]; omega⟩)
    · refine s_blx (lv' := [(0, vR 77), (1, vI deep)]) (st' := [vI deep, vR 77]) B224_14_16 rfl ?_
      have g35 : gi M21 77 36 = tk := (f23.g rfl).trans (i2)
      have g36 : gi M21 77 37 = t30 := ht31.symm
      have g37 : gi M21 77 39 = gi N 77 39 := (f23.g rfl).trans (rfl)
      refine r_vV (c := 77) (args := [vI deep]) (rest := []) (pc' := 19) D224_16 rfl ck_11_virtual_343 TE225 rfl (Nat.le_of_ble_eq_true rfl) ⟨Nat.le_of_ble_eq_true rfl, Nat.le_of_ble_eq_true rfl⟩ sc_77 ⟨rfl, by decide⟩ H22.1 (by omega) (k225x E ihr (by omega) H22 deep tk t30 F C ((h0.fr f29 rfl)) (h1) (by omega) (by omega) (by omega) (by omega) (by omega) (by omega) (by omega) (by omega)) ?_
      intro M39 q44
      obtain ⟨H40, f41, q42, q43⟩ := q44
      have f45 := f29.tr (f41.up rfl)
      obtain ⟨t46, ht47⟩ : ∃ q, q = gi M39 77 37 := ⟨_, rfl⟩
      obtain ⟨t48, ht49⟩ : ∃ q, q = gi M39 77 39 := ⟨_, rfl⟩
      rw [← ht47] at q42
      rw [← ht47, ← ht49] at q43
      refine r_goto (tgt := 5) D224_19 rfl ?_
      refine r_loc (lv' := [(0, vR 77), (1, vI deep)]) ⟨rfl, rfl, trivial⟩ rfl rfl ?_
      have g50 : gi M39 77 37 = t46 := ht47.symm
      have g51 : gi M39 77 36 = tk := (f41.g rfl).trans ((f23.g rfl).trans (i2))
      have g52 : gi M39 77 39 = t48 := ht49.symm
      exact ih t46 M39 H40 f45 (by omega) (by omega) (by omega) (by omega) (by omega)
set_option maxRecDepth 4000 in
theorem k224x {base : Nat} {X : Nat → Option mC} {G : Nat → Value} (E : EnvOK base X G) {rr : Nat} (ihr : ∀ {d : Nat} (_ : 30 + 3 * rr ≤ d) {M : mH} (_ : HI base M) (deep : Int) (tk : Int) (tok : Int) (F : Int → Int) (C : Int → Int), (PC C M) → (∀ j : Int, 0 ≤ j → F (j + 1) = dl (F j) (C j)) → (gi M 77 36 = tk) → (C tk = 0) → (0 ≤ tk ∧ tk ≤ 400) → (gi M 77 37 = tok) → (0 ≤ tok ∧ tok ≤ tk) → (gi M 77 39 = -1 → F tok = 10 + deep) → (0 ≤ deep ∧ deep ≤ 8) → 8 - deep < ((rr : Nat) : Int) → sOk base X G d T223 [vR 77, vI deep] M (pV (fun M' => HI base M' ∧ Fr [(77, 38), (77, 39), (77, 40)] M M' ∧ (tok ≤ gi M' 77 37 ∧ gi M' 77 37 ≤ tk) ∧ (gi M' 77 39 = -1 → gi M 77 39 = -1 ∧ (F (gi M' 77 37) = 20 + deep ∨ F (gi M' 77 37) = 2001 + 100 * deep))))) {d : Nat} (hd : 32 + 3 * rr ≤ d) {M : mH} (H : HI base M) (deep : Int) (tk : Int) (tok : Int) (F : Int → Int) (C : Int → Int) (h0 : PC C M) (h1 : ∀ j : Int, 0 ≤ j → F (j + 1) = dl (F j) (C j)) (h2 : gi M 77 36 = tk) (h3 : C tk = 0) (h4 : 0 ≤ tk ∧ tk ≤ 400) (h5 : gi M 77 37 = tok) (h6 : 0 ≤ tok ∧ tok ≤ tk) (h7 : gi M 77 39 = -1 → F tok = 10 + deep) (h8 : 0 ≤ deep ∧ deep ≤ 8) (h9 : 8 - deep < (rr : Int) + 1) : sOk base X G d T224 [vR 77, vI deep] M (pV (fun M' => HI base M' ∧ Fr [(77, 38), (77, 39), (77, 40)] M M' ∧ (tok ≤ gi M' 77 37 ∧ gi M' 77 37 ≤ tk) ∧ (gi M' 77 39 = -1 → gi M 77 39 = -1 ∧ (F (gi M' 77 37) = 20 + deep ∨ F (gi M' 77 37) = 2001 + 100 * deep)))) := by
  have f0 : Fr [(77, 38), (77, 39), (77, 40)] M M := Fr.rf
  refine sOk.of (show sRn base X G d T224 0 [(0, vR 77), (1, vI deep)] [] M _ from ?_)
  refine s_blx (lv' := [(0, vR 77), (1, vI deep)]) (st' := [vI deep, vR 77]) B224_0_2 rfl ?_
  have g1 : gi M 77 36 = tk := h2
  have g2 : gi M 77 37 = tok := h5
  refine r_vV (c := 77) (args := [vI deep]) (rest := []) (pc' := 5) D224_2 rfl ck_11_virtual_343 TE225 rfl (Nat.le_of_ble_eq_true rfl) ⟨Nat.le_of_ble_eq_true rfl, Nat.le_of_ble_eq_true rfl⟩ sc_77 ⟨rfl, by decide⟩ H.1 (by omega) (k225x E ihr (by omega) H deep tk tok F C (h0) (h1) (by omega) (by omega) (by omega) (by omega) (by omega) (by omega) (by omega) (by omega)) ?_
  intro M4 q9
  obtain ⟨H5, f6, q7, q8⟩ := q9
  have f10 := f0.tr (f6.up rfl)
  obtain ⟨t11, ht12⟩ : ∃ q, q = gi M4 77 37 := ⟨_, rfl⟩
  obtain ⟨t13, ht14⟩ : ∃ q, q = gi M4 77 39 := ⟨_, rfl⟩
  rw [← ht12] at q7
  rw [← ht12, ← ht14] at q8
  refine r_loc (lv' := [(0, vR 77), (1, vI deep)]) ⟨rfl, rfl, trivial⟩ rfl rfl ?_
  have g15 : gi M4 77 37 = t11 := ht12.symm
  have g16 : gi M4 77 36 = tk := (f6.g rfl).trans (h2)
  have g17 : gi M4 77 39 = t13 := ht14.symm
  exact (L_k224x E ihr hd H deep tk tok F C h0 h1 h2 h3 h4 h5 h6 h7 h8 h9 (((400 - t11) * 1 + 0 : Int) + 1).toNat) t11 M4 H5 f10 (by omega) (by omega) (by omega) (by omega) (by omega)
set_option maxRecDepth 4000 in
theorem L_k223x {base : Nat} {X : Nat → Option mC} {G : Nat → Value} (E : EnvOK base X G) {rr : Nat} (ihr : ∀ {d : Nat} (_ : 30 + 3 * rr ≤ d) {M : mH} (_ : HI base M) (deep : Int) (tk : Int) (tok : Int) (F : Int → Int) (C : Int → Int), (PC C M) → (∀ j : Int, 0 ≤ j → F (j + 1) = dl (F j) (C j)) → (gi M 77 36 = tk) → (C tk = 0) → (0 ≤ tk ∧ tk ≤ 400) → (gi M 77 37 = tok) → (0 ≤ tok ∧ tok ≤ tk) → (gi M 77 39 = -1 → F tok = 10 + deep) → (0 ≤ deep ∧ deep ≤ 8) → 8 - deep < ((rr : Nat) : Int) → sOk base X G d T223 [vR 77, vI deep] M (pV (fun M' => HI base M' ∧ Fr [(77, 38), (77, 39), (77, 40)] M M' ∧ (tok ≤ gi M' 77 37 ∧ gi M' 77 37 ≤ tk) ∧ (gi M' 77 39 = -1 → gi M 77 39 = -1 ∧ (F (gi M' 77 37) = 20 + deep ∨ F (gi M' 77 37) = 2001 + 100 * deep))))) {d : Nat} (hd : 30 + 3 * (rr + 1) ≤ d) {M : mH} (H : HI base M) (deep : Int) (tk : Int) (tok : Int) (F : Int → Int) (C : Int → Int) (h0 : PC C M) (h1 : ∀ j : Int, 0 ≤ j → F (j + 1) = dl (F j) (C j)) (h2 : gi M 77 36 = tk) (h3 : C tk = 0) (h4 : 0 ≤ tk ∧ tk ≤ 400) (h5 : gi M 77 37 = tok) (h6 : 0 ≤ tok ∧ tok ≤ tk) (h7 : gi M 77 39 = -1 → F tok = 10 + deep) (h8 : 0 ≤ deep ∧ deep ≤ 8) (hrr : 8 - deep < ((rr + 1 : Nat) : Int)) : ∀ mz : Nat, (∀ (t0 : Int) (N : mH), HI base N → Fr [(77, 38), (77, 39), (77, 40)] M N → (gi N 77 37 = t0) → (tok ≤ t0 ∧ t0 ≤ tk) → (gi N 77 36 = tk) → (gi N 77 39 = -1 → gi M 77 39 = -1 ∧ (F t0 = 20 + deep ∨ F t0 = 2001 + 100 * deep)) → (400 - t0) * 1 + 0 < (mz : Int) → sRn base X G d T223 5 [(0, vR 77), (1, vI deep)] [] N (s_Q base (pV (fun M' => HI base M' ∧ Fr [(77, 38), (77, 39), (77, 40)] M M' ∧ (tok ≤ gi M' 77 37 ∧ gi M' 77 37 ≤ tk) ∧ (gi M' 77 39 = -1 → gi M 77 39 = -1 ∧ (F (gi M' 77 37) = 20 + deep ∨ F (gi M' 77 37) = 2001 + 100 * deep)))))) := by
  have f0 : Fr [(77, 38), (77, 39), (77, 40)] M M := Fr.rf
  intro mz
  induction mz with
  | zero => exact fun t0 N _ _ z0 z1 z2 z3 z4 => by omega
  | succ mz ih =>
    intro t0 N HN fN i0 i1 i2 i3 hmu
    refine s_blx (lv' := [(0, vR 77), (1, vI deep)]) (st' := [vI 8, vR 77]) B223_5_8 rfl ?_
    have k1 := d_or (x := F t0) (p := deep) 8 (by decide)
    have g18 : gi N 77 36 = tk := i2
    have g19 : gi N 77 37 = t0 := i0
    refine r_vI (c := 77) (args := [vI 8]) (rest := []) (pc' := 11) D223_8 rfl ck_11_virtual_328 TE218 rfl (Nat.le_of_ble_eq_true rfl) ⟨Nat.le_of_ble_eq_true rfl, Nat.le_of_ble_eq_true rfl⟩ sc_77 ⟨rfl, by decide⟩ HN.1 (by omega) (k218x E (by omega) HN 8 tk t0 F C ((h0.fr fN rfl)) (h1) (by omega) (by omega) (by omega) (by omega) (by omega) (by omega) (by omega)) ?_
    intro v20 M21 q28
    obtain ⟨H22, f23, q24, q25, q26, q27⟩ := q28
    have f29 := fN.tr (f23.up rfl)
    obtain ⟨t30, ht31⟩ : ∃ q, q = gi M21 77 37 := ⟨_, rfl⟩
    rw [← ht31] at q25
    rw [← ht31] at q26
    rw [← ht31] at q27
    refine r_ifc (tgt := 22) (pc' := 14) D223_11 rfl rfl (by unfold inR; omega) (fun (c32 : v20 = 0) => ?_) (fun (c32 : ¬ (v20 = 0)) => ?_)
    · have g33 : gi M21 77 37 = t30 := ht31.symm
      have g34 : gi M21 77 39 = gi N 77 39 := (f23.g rfl).trans (rfl)
      exact r_retV D223_22 rfl (⟨H22, f29, by rw [g33]; omega, by rw [g33, g34]; omega⟩)
    · refine s_blx (lv' := [(0, vR 77), (1, vI deep)]) (st' := [vI deep, vR 77]) B223_14_16 rfl ?_
      have g35 : gi M21 77 36 = tk := (f23.g rfl).trans (i2)
      have g36 : gi M21 77 37 = t30 := ht31.symm
      have g37 : gi M21 77 39 = gi N 77 39 := (f23.g rfl).trans (rfl)
      refine r_vV (c := 77) (args := [vI deep]) (rest := []) (pc' := 19) D223_16 rfl ck_11_virtual_340 TE224 rfl (Nat.le_of_ble_eq_true rfl) ⟨Nat.le_of_ble_eq_true rfl, Nat.le_of_ble_eq_true rfl⟩ sc_77 ⟨rfl, by decide⟩ H22.1 (by omega) (k224x E ihr (by omega) H22 deep tk t30 F C ((h0.fr f29 rfl)) (h1) (by omega) (by omega) (by omega) (by omega) (by omega) (by omega) (by omega) (by omega)) ?_
      intro M39 q44
      obtain ⟨H40, f41, q42, q43⟩ := q44
      have f45 := f29.tr (f41.up rfl)
      obtain ⟨t46, ht47⟩ : ∃ q, q = gi M39 77 37 := ⟨_, rfl⟩
      obtain ⟨t48, ht49⟩ : ∃ q, q = gi M39 77 39 := ⟨_, rfl⟩
      rw [← ht47] at q42
      rw [← ht47, ← ht49] at q43
      refine r_goto (tgt := 5) D223_19 rfl ?_
      refine r_loc (lv' := [(0, vR 77), (1, vI deep)]) ⟨rfl, rfl, trivial⟩ rfl rfl ?_
      have g50 : gi M39 77 37 = t46 := ht47.symm
      have g51 : gi M39 77 36 = tk := (f41.g rfl).trans ((f23.g rfl).trans (i2))
      have g52 : gi M39 77 39 = t48 := ht49.symm
      exact ih t46 M39 H40 f45 (by omega) (by omega) (by omega) (by omega) (by omega)
set_option maxRecDepth 4000 in
theorem k223xr {base : Nat} {X : Nat → Option mC} {G : Nat → Value} (E : EnvOK base X G) : ∀ rr : Nat, ∀ {d : Nat} (_ : 30 + 3 * rr ≤ d) {M : mH} (_ : HI base M) (deep : Int) (tk : Int) (tok : Int) (F : Int → Int) (C : Int → Int), (PC C M) → (∀ j : Int, 0 ≤ j → F (j + 1) = dl (F j) (C j)) → (gi M 77 36 = tk) → (C tk = 0) → (0 ≤ tk ∧ tk ≤ 400) → (gi M 77 37 = tok) → (0 ≤ tok ∧ tok ≤ tk) → (gi M 77 39 = -1 → F tok = 10 + deep) → (0 ≤ deep ∧ deep ≤ 8) → 8 - deep < ((rr : Nat) : Int) → sOk base X G d T223 [vR 77, vI deep] M (pV (fun M' => HI base M' ∧ Fr [(77, 38), (77, 39), (77, 40)] M M' ∧ (tok ≤ gi M' 77 37 ∧ gi M' 77 37 ≤ tk) ∧ (gi M' 77 39 = -1 → gi M 77 39 = -1 ∧ (F (gi M' 77 37) = 20 + deep ∨ F (gi M' 77 37) = 2001 + 100 * deep)))) := by
  intro rr
  induction rr with
  | zero => intro d hd M H deep tk tok F C h0 h1 h2 h3 h4 h5 h6 h7 h8 hrr; exfalso; omega
  | succ rr ihr =>
  intro d hd M H deep tk tok F C h0 h1 h2 h3 h4 h5 h6 h7 h8 hrr
  have f0 : Fr [(77, 38), (77, 39), (77, 40)] M M := Fr.rf
  refine sOk.of (show sRn base X G d T223 0 [(0, vR 77), (1, vI deep)] [] M _ from ?_)
  refine s_blx (lv' := [(0, vR 77), (1, vI deep)]) (st' := [vI deep, vR 77]) B223_0_2 rfl ?_
  have g1 : gi M 77 36 = tk := h2
  have g2 : gi M 77 37 = tok := h5
  refine r_vV (c := 77) (args := [vI deep]) (rest := []) (pc' := 5) D223_2 rfl ck_11_virtual_340 TE224 rfl (Nat.le_of_ble_eq_true rfl) ⟨Nat.le_of_ble_eq_true rfl, Nat.le_of_ble_eq_true rfl⟩ sc_77 ⟨rfl, by decide⟩ H.1 (by omega) (k224x E ihr (by omega) H deep tk tok F C (h0) (h1) (by omega) (by omega) (by omega) (by omega) (by omega) (by omega) (by omega) (by omega)) ?_
  intro M4 q9
  obtain ⟨H5, f6, q7, q8⟩ := q9
  have f10 := f0.tr (f6.up rfl)
  obtain ⟨t11, ht12⟩ : ∃ q, q = gi M4 77 37 := ⟨_, rfl⟩
  obtain ⟨t13, ht14⟩ : ∃ q, q = gi M4 77 39 := ⟨_, rfl⟩
  rw [← ht12] at q7
  rw [← ht12, ← ht14] at q8
  refine r_loc (lv' := [(0, vR 77), (1, vI deep)]) ⟨rfl, rfl, trivial⟩ rfl rfl ?_
  have g15 : gi M4 77 37 = t11 := ht12.symm
  have g16 : gi M4 77 36 = tk := (f6.g rfl).trans (h2)
  have g17 : gi M4 77 39 = t13 := ht14.symm
  exact (L_k223x E ihr hd H deep tk tok F C h0 h1 h2 h3 h4 h5 h6 h7 h8 hrr (((400 - t11) * 1 + 0 : Int) + 1).toNat) t11 M4 H5 f10 (by omega) (by omega) (by omega) (by omega) (by omega)
theorem k223x {base : Nat} {X : Nat → Option mC} {G : Nat → Value} (E : EnvOK base X G) {d : Nat} (hd : 57 ≤ d) {M : mH} (H : HI base M) (deep : Int) (tk : Int) (tok : Int) (F : Int → Int) (C : Int → Int) (h0 : PC C M) (h1 : ∀ j : Int, 0 ≤ j → F (j + 1) = dl (F j) (C j)) (h2 : gi M 77 36 = tk) (h3 : C tk = 0) (h4 : 0 ≤ tk ∧ tk ≤ 400) (h5 : gi M 77 37 = tok) (h6 : 0 ≤ tok ∧ tok ≤ tk) (h7 : gi M 77 39 = -1 → F tok = 10 + deep) (h8 : 0 ≤ deep ∧ deep ≤ 8) : sOk base X G d T223 [vR 77, vI deep] M (pV (fun M' => HI base M' ∧ Fr [(77, 38), (77, 39), (77, 40)] M M' ∧ (tok ≤ gi M' 77 37 ∧ gi M' 77 37 ≤ tk) ∧ (gi M' 77 39 = -1 → gi M 77 39 = -1 ∧ (F (gi M' 77 37) = 20 + deep ∨ F (gi M' 77 37) = 2001 + 100 * deep)))) := k223xr E 9 (by omega) H deep tk tok F C h0 h1 h2 h3 h4 h5 h6 h7 h8 (by omega)
