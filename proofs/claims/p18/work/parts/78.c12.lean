theorem B17_0_2 : s_dk T17.2.2.1 0 [.aload_n 0, .iconst (-1)] 2 = true := by decide +kernel
theorem D17_2 : decode T17.2.2.1 2 = .ok (.putfield 43, 3) := by decide +kernel
theorem B17_5_7 : s_dk T17.2.2.1 5 [.aload_n 0, .iconst 0] 7 = true := by decide +kernel
theorem D17_7 : decode T17.2.2.1 7 = .ok (.putfield 25, 3) := by decide +kernel
theorem B17_10_12 : s_dk T17.2.2.1 10 [.aload_n 0, .iconst 0] 12 = true := by decide +kernel
theorem D17_12 : decode T17.2.2.1 12 = .ok (.putfield 34, 3) := by decide +kernel
theorem B17_15_17 : s_dk T17.2.2.1 15 [.aload_n 0, .iconst 0] 17 = true := by decide +kernel
theorem D17_17 : decode T17.2.2.1 17 = .ok (.putfield 40, 3) := by decide +kernel
theorem B17_20_24 : s_dk T17.2.2.1 20 [.aload_n 0, .aload_n 1, .iload_n 2, .aload_n 1] 24 = true := by decide +kernel
theorem D17_24 : decode T17.2.2.1 24 = .ok (.arraylength, 1) := by decide +kernel
theorem B17_25_28 : s_dk T17.2.2.1 25 [.sipush 400] 28 = true := by decide +kernel
theorem D17_28 : decode T17.2.2.1 28 = .ok (.invokestatic 46, 3) := by decide +kernel
theorem D17_31 : decode T17.2.2.1 31 = .ok (.invokestatic 46, 3) := by decide +kernel
theorem D17_34 : decode T17.2.2.1 34 = .ok (.invokevirtual 52, 3) := by decide +kernel
theorem ck_4_virtual_52 : m_call 4 (.invokevirtual 52) = some (0, 18, 2) := by decide +kernel
theorem B17_37_39 : s_dk T17.2.2.1 37 [.aload_n 0, .iconst 0] 39 = true := by decide +kernel
theorem D17_39 : decode T17.2.2.1 39 = .ok (.putfield 18, 3) := by decide +kernel
theorem B17_42_44 : s_dk T17.2.2.1 42 [.aload_n 0, .aload_n 0] 44 = true := by decide +kernel
theorem D17_44 : decode T17.2.2.1 44 = .ok (.getfield 9, 3) := by decide +kernel
theorem B17_47_48 : s_dk T17.2.2.1 47 [.iconst 0] 48 = true := by decide +kernel
theorem D17_48 : decode T17.2.2.1 48 = .ok (.iaload, 1) := by decide +kernel
theorem B17_49_52 : s_dk T17.2.2.1 49 [.sipush 511] 52 = true := by decide +kernel
theorem D17_52 : decode T17.2.2.1 52 = .ok (.iand, 1) := by decide +kernel
theorem D17_53 : decode T17.2.2.1 53 = .ok (.putfield 22, 3) := by decide +kernel
theorem B17_56_57 : s_dk T17.2.2.1 56 [.aload_n 0] 57 = true := by decide +kernel
theorem D17_57 : decode T17.2.2.1 57 = .ok (.invokevirtual 56, 3) := by decide +kernel
theorem ck_4_virtual_56 : m_call 4 (.invokevirtual 56) = some (0, 24, 0) := by decide +kernel
theorem D17_60 : decode T17.2.2.1 60 = .ok (.ifCond .ne 5, 3) := by decide +kernel
theorem B17_63_64 : s_dk T17.2.2.1 63 [.aconst_null] 64 = true := by decide +kernel
theorem D17_64 : decode T17.2.2.1 64 = .ok (.areturn, 1) := by decide +kernel
set_option maxRecDepth 4000 in
theorem k17_14_13x {base : Nat} {X : Nat → Option mC} {G : Nat → Value} (E : EnvOK base X G) {d : Nat} (hd : 59 ≤ d) {M : mH} (H : HI base M) (length : Int) (h0 : 0 ≤ length ∧ length ≤ 400) : sOk base X G d T17 [vR 14, vR 13, vI length] M (pA (fun v M' => (v = none ∧ HI base M' ∧ Fr [(14, 3), (14, 4), (14, 5), (14, 8), (14, 10), (14, 11), (15, 0), (16, 0), (17, 0), (18, 0), (19, 0)] M M') ∨ ∃ M1, Fr [(14, 3), (14, 4), (14, 5), (14, 8), (14, 10), (14, 11), (15, 0), (16, 0), (17, 0), (18, 0), (19, 0)] M M1 ∧ HI base M1 ∧ RH base M1 v M')) := by
  have f0 : Fr [(14, 3), (14, 4), (14, 5), (14, 8), (14, 10), (14, 11), (15, 0), (16, 0), (17, 0), (18, 0), (19, 0)] M M := Fr.rf
  refine sOk.of (show sRn base X G d T17 0 [(0, vR 14), (1, vR 13), (2, vI length)] [] M _ from ?_)
  refine s_blx (lv' := [(0, vR 14), (1, vR 13), (2, vI length)]) (st' := [vI (-1), vR 14]) B17_0_2 rfl ?_
  refine r_pint (ki := 10) (pc' := 5) D17_2 rfl pf_4_43_14 rfl H (by unfold inR; omega) trivial ?_
  intro M1 u2 H3 p4
  have f5 := f0.wr u2 rfl
  have hp6 := (CD.zero (M := M)).wr u2 (by decide)
  refine s_blx (lv' := [(0, vR 14), (1, vR 13), (2, vI length)]) (st' := [vI 0, vR 14]) B17_5_7 rfl ?_
  refine r_pint (ki := 4) (pc' := 10) D17_7 rfl pf_4_25_14 rfl H3 (by unfold inR; omega) (show 0 ≤ 0 ∧ 0 ≤ 50 by omega) ?_
  intro M7 u8 H9 p10
  have f11 := f5.wr u8 rfl
  have hp12 := hp6.wr u8 (by decide)
  refine s_blx (lv' := [(0, vR 14), (1, vR 13), (2, vI length)]) (st' := [vI 0, vR 14]) B17_10_12 rfl ?_
  refine r_pint (ki := 7) (pc' := 15) D17_12 rfl pf_4_34_14 rfl H9 (by unfold inR; omega) (show 0 ≤ 0 ∧ 0 ≤ 12 by omega) ?_
  intro M13 u14 H15 p16
  have f17 := f11.wr u14 rfl
  have hp18 := hp12.wr u14 (by decide)
  refine s_blx (lv' := [(0, vR 14), (1, vR 13), (2, vI length)]) (st' := [vI 0, vR 14]) B17_15_17 rfl ?_
  refine r_pint (ki := 9) (pc' := 20) D17_17 rfl pf_4_40_14 rfl H15 (by unfold inR; omega) (show 0 ≤ 0 ∧ 0 ≤ 400 by omega) ?_
  intro M19 u20 H21 p22
  have f23 := f17.wr u20 rfl
  have hp24 := hp18.wr u20 (by decide)
  refine s_blx (lv' := [(0, vR 14), (1, vR 13), (2, vI length)]) (st' := [vR 13, vI length, vR 13, vR 14]) B17_20_24 rfl ?_
  refine r_len (ni := 400) (pc' := 25) D17_24 rfl sc_13 (by decide) rfl H21.1 ?_
  refine s_blx (lv' := [(0, vR 14), (1, vR 13), (2, vI length)]) (st' := [vI 400, vI 400, vI length, vR 13, vR 14]) B17_25_28 rfl ?_
  refine r_min (pc' := 31) D17_28 rfl mc_4_static_46 sp_4_46 (Nat.le_of_ble_eq_true rfl) (by unfold inR; omega) ?_
  intro z25 r26 r27 r28
  refine r_min (pc' := 34) D17_31 rfl mc_4_static_46 sp_4_46 (Nat.le_of_ble_eq_true rfl) (by unfold inR; omega) ?_
  intro z29 r30 r31 r32
  refine r_vV (c := 14) (args := [vR 13, vI z29]) (rest := []) (pc' := 37) D17_34 rfl ck_4_virtual_52 TE18 rfl (Nat.le_of_ble_eq_true rfl) ⟨Nat.le_of_ble_eq_true rfl, Nat.le_of_ble_eq_true rfl⟩ sc_14 ⟨rfl, by decide⟩ H21.1 (dp_0 hd rfl) (k18_14_13 E (dp_n hd rfl) H21 z29 (by omega)) ?_
  intro M34 q38
  obtain ⟨H35, f36, q37⟩ := q38
  have f39 := f23.tr (f36.up rfl)
  have hp40 := hp24.fr f36 (by decide)
  obtain ⟨ct, kc0, kc1, kct⟩ := q37
  refine s_blx (lv' := [(0, vR 14), (1, vR 13), (2, vI length)]) (st' := [vI 0, vR 14]) B17_37_39 rfl ?_
  refine r_pint (ki := 2) (pc' := 42) D17_39 rfl pf_4_18_14 rfl H35 (by unfold inR; omega) (show 0 ≤ 0 ∧ 0 ≤ 400 by omega) ?_
  intro M41 u42 H43 p44
  have f45 := f39.wr u42 rfl
  have hp46 := hp40.wr u42 (by decide)
  refine s_blx (lv' := [(0, vR 14), (1, vR 13), (2, vI length)]) (st' := [vR 14, vR 14]) B17_42_44 rfl ?_
  refine r_gfix (r := 15) (pc' := 47) D17_44 rfl gf_4_9_14 H43.1 ?_
  refine s_blx (lv' := [(0, vR 14), (1, vR 13), (2, vI length)]) (st' := [vI 0, vR 15, vR 14]) B17_47_48 rfl ?_
  refine r_iald (pc' := 49) D17_48 rfl sc_15 H43.1 (by omega) ?_
  intro w47 e48 r49
  have b_w47 := H43.2 15 (0) 0 60000000 rfl
  rw [← e48] at b_w47; clear r49
  have k0 : 0 = ct → w47 = 22 := fun h => by rw [e48, h]; exact (((u42.gi_ne (by decide) (Or.inl (by decide))).trans (rfl))).trans kct
  refine s_blx (lv' := [(0, vR 14), (1, vR 13), (2, vI length)]) (st' := [vI 511, vI w47, vR 14]) B17_49_52 rfl ?_
  refine r_and511 (pc' := 53) D17_52 rfl ?_
  refine r_pint (ki := 3) (pc' := 56) D17_53 rfl pf_4_22_14 rfl H43 (by unfold inR; omega) (show 0 ≤ (w47 % 512) ∧ (w47 % 512) ≤ 511 by omega) ?_
  intro M50 u51 H52 p53
  have f54 := f45.wr u51 rfl
  have hp55 := hp46.wr u51 (by decide)
  refine s_blx (lv' := [(0, vR 14), (1, vR 13), (2, vI length)]) (st' := [vR 14]) B17_56_57 rfl ?_
  have g56 : gi M50 15 ct = gi M34 15 ct := (u51.gi_ne (by decide) (Or.inl (by decide))).trans ((u42.gi_ne (by decide) (Or.inl (by decide))).trans (rfl))
  have g57 : gi M50 14 2 = 0 := (u51.gi_ne (by decide) (Or.inr (by decide))).trans (p44)
  have g58 : gi M50 14 3 = w47 % 512 := p53
  have g59 : gi M50 14 9 = 0 := (u51.gi_ne (by decide) (Or.inr (by decide))).trans ((u42.gi_ne (by decide) (Or.inr (by decide))).trans ((f36.g rfl).trans (p22)))
  refine r_vI (c := 14) (args := []) (rest := []) (pc' := 60) D17_57 rfl ck_4_virtual_56 TE24 rfl (Nat.le_of_ble_eq_true rfl) ⟨Nat.le_of_ble_eq_true rfl, Nat.le_of_ble_eq_true rfl⟩ sc_14 ⟨rfl, by decide⟩ H52.1 (dp_0 hd rfl) (k24_14x E (dp_n hd rfl) H52 ct 0 (w47 % 512) 0 (by omega) (by omega) (by omega) (by omega) (by omega) (by omega) (by omega) (by omega) (by omega) (hp55)) ?_
  intro v60 M61 q72
  obtain ⟨H62, f63, q64, q65, q66, q67, q68, q69, q70, q71⟩ := q72
  have f73 := f54.tr (f63.up rfl)
  obtain ⟨t74, ht75⟩ : ∃ q, q = gi M61 14 2 := ⟨_, rfl⟩
  have b_t74 := H62.2 14 2 0 400 rfl
  rw [← ht75] at b_t74
  obtain ⟨t76, ht77⟩ : ∃ q, q = gi M61 14 3 := ⟨_, rfl⟩
  have b_t76 := H62.2 14 3 0 511 rfl
  rw [← ht77] at b_t76
  obtain ⟨t78, ht79⟩ : ∃ q, q = gi M61 14 9 := ⟨_, rfl⟩
  have b_t78 := H62.2 14 9 0 400 rfl
  rw [← ht79] at b_t78
  obtain ⟨t80, ht81⟩ : ∃ q, q = gi M61 14 7 := ⟨_, rfl⟩
  have b_t80 := H62.2 14 7 0 12 rfl
  rw [← ht81] at b_t80
  rw [← ht75] at q65
  rw [← ht75, ← ht77] at q66
  rw [← ht77] at q67
  rw [← ht75, ← ht79] at q68
  rw [← ht79] at q69
  rw [← ht81, ← ht79] at q71
  have ken := q71; clear q71
  refine r_ifc (tgt := 65) (pc' := 63) D17_60 rfl rfl (by unfold inR; omega) (fun (c82 : v60 ≠ 0) => ?_) (fun (c82 : ¬ (v60 ≠ 0)) => ?_)
  · refine r_loc (lv' := [(0, vR 14)]) ⟨rfl, trivial⟩ rfl rfl ?_
    exact t17 (by omega) H62 ((ht79.symm)) (q69) (by rw [(ht81.symm)]; exact ken (by omega)) (fun v M' h => Or.inr ⟨_, f73, H62, h⟩)
  · refine s_blx (lv' := [(0, vR 14), (1, vR 13), (2, vI length)]) (st' := [vN]) B17_63_64 rfl ?_
    exact r_aret (q := none) D17_64 rfl ⟨_, rfl, Or.inl ⟨rfl, H62, f73⟩⟩
