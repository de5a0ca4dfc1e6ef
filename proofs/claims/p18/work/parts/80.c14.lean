noncomputable def T112 : mT := (10, yX10_habit, cX10_habit, 3, (some .int))
set_option maxRecDepth 10000 in
theorem TE112 : sy_m[112]? = some T112 := rfl
theorem B112_36_39 : s_dk T112.2.2.1 36 [.astore_n 2, .aload_n 0, .aload_n 0] 39 = true := by decide +kernel
theorem gf_10_37_0 : s_gf 10 37 0 = some (6, 17) := by decide +kernel
theorem D112_39 : decode T112.2.2.1 39 = .ok (.getfield 37, 3) := by decide +kernel
theorem gf_10_244_14 : s_gf 10 244 14 = some (10, 1) := by decide +kernel
theorem D112_42 : decode T112.2.2.1 42 = .ok (.getfield 244, 3) := by decide +kernel
theorem pf_10_28_0 : s_pf 10 28 0 = some (4, 1) := by decide +kernel
theorem D112_45 : decode T112.2.2.1 45 = .ok (.putfield 28, 3) := by decide +kernel
theorem B112_48_49 : s_dk T112.2.2.1 48 [.aload_n 2] 49 = true := by decide +kernel
theorem D112_49 : decode T112.2.2.1 49 = .ok (.ifnonnull 10, 3) := by decide +kernel
theorem B112_52_55 : s_dk T112.2.2.1 52 [.aload_n 0, .bipush (-6)] 55 = true := by decide +kernel
theorem D112_55 : decode T112.2.2.1 55 = .ok (.invokevirtual 106, 3) := by decide +kernel
theorem D112_58 : decode T112.2.2.1 58 = .ok (.ireturn, 1) := by decide +kernel
theorem B112_59_61 : s_dk T112.2.2.1 59 [.aload_n 0, .aload_n 0] 61 = true := by decide +kernel
theorem D112_61 : decode T112.2.2.1 61 = .ok (.getfield 10, 3) := by decide +kernel
theorem B112_64_65 : s_dk T112.2.2.1 64 [.aload_n 2] 65 = true := by decide +kernel
theorem D112_65 : decode T112.2.2.1 65 = .ok (.invokevirtual 245, 3) := by decide +kernel
theorem ck_10_virtual_245 : m_call 10 (.invokevirtual 245) = some (0, 62, 1) := by decide +kernel
theorem D112_68 : decode T112.2.2.1 68 = .ok (.invokevirtual 123, 3) := by decide +kernel
theorem D112_71 : decode T112.2.2.1 71 = .ok (.ireturn, 1) := by decide +kernel
set_option maxRecDepth 4000 in
theorem k112tn {base : Nat} {X : Nat → Option mC} {G : Nat → Value} (E : EnvOK base X G) {d : Nat} (hd : 1 ≤ d) {M : mH} (H : HI base M) (len : Int) (h0 : HB base M) (h1 : 0 ≤ len ∧ len ≤ 400) : sRn base X G d T112 36 [(0, vR 0), (1, vI len)] [vN] M (s_Q base (pI (fun v M' => HI base M' ∧ Fr [(0, 5), (0, 6)] M M' ∧ (HB base M')))) := by
  have f0 : Fr [(0, 5), (0, 6)] M M := Fr.rf
  refine s_blx (lv' := [(2, vN), (0, vR 0), (1, vI len)]) (st' := [vR 0, vR 0]) B112_36_39 rfl ?_
  refine r_gfix (r := 14) (pc' := 42) D112_39 rfl gf_10_37_0 H.1 ?_
  refine r_gint (ki := 10) (pc' := 45) D112_42 rfl gf_10_244_14 rfl H.1 ?_
  intro w1 e2 r3
  unfold inR at r3
  refine r_pint (ki := 4) (pc' := 48) D112_45 rfl pf_10_28_0 rfl H (by unfold inR; omega) trivial ?_
  intro M4 u5 H6 p7
  have f8 := f0.wr u5 rfl
  refine s_blx (lv' := [(2, vN), (0, vR 0), (1, vI len)]) (st' := [vN]) B112_48_49 rfl ?_
  refine r_ifnonnull (q := none) (tgt := 59) (pc' := 52) D112_49 rfl rfl (fun hq_ => ?_) (fun hq_ => ?_)
  · exact absurd hq_ (by simp)
  · refine s_blx (lv' := [(2, vN), (0, vR 0), (1, vI len)]) (st' := [vI (-6), vR 0]) B112_52_55 rfl ?_
    refine r_vI (c := 0) (args := [vI (-6)]) (rest := []) (pc' := 58) D112_55 rfl ck_10_virtual_106 TE133 rfl (Nat.le_of_ble_eq_true rfl) ⟨Nat.le_of_ble_eq_true rfl, Nat.le_of_ble_eq_true rfl⟩ sc_0 ⟨rfl, by decide⟩ H6.1 (dp_0 hd rfl) (k133 E (dp_n hd rfl) H6 (-6) (by omega)) ?_
    intro v9 M10 q14
    obtain ⟨H11, f12, q13⟩ := q14
    have f15 := f8.tr (f12.up rfl)
    exact r_iretI D112_58 rfl (⟨H11, f15, (h0.fr f15 rfl)⟩)
set_option maxRecDepth 4000 in
theorem k112tr {base : Nat} {X : Nat → Option mC} {G : Nat → Value} (E : EnvOK base X G) {d : Nat} (hd : 1 ≤ d) {M : mH} (H : HI base M) (len : Int) (habit : Nat) (nh : Int) (nc : Int) (n0 : Int) (h0 : HB base M) (h1 : 0 ≤ len ∧ len ≤ 400) (h2 : IsHab base habit nh nc M) (h3 : gi M 1 12 = n0) (h4 : 0 ≤ n0 ∧ n0 ≤ 7) (h5 : 0 ≤ nh ∧ nh ≤ 12) : sRn base X G d T112 36 [(0, vR 0), (1, vI len)] [vR (habit)] M (s_Q base (pI (fun v M' => HI base M' ∧ Fr [(0, 5), (0, 6), (0, 10), (1, 13), (9, 0)] M M' ∧ (HB base M')))) := by
  have f0 : Fr [(0, 5), (0, 6), (0, 10), (1, 13), (9, 0)] M M := Fr.rf
  refine s_blx (lv' := [(2, vR (habit)), (0, vR 0), (1, vI len)]) (st' := [vR 0, vR 0]) B112_36_39 rfl ?_
  refine r_gfix (r := 14) (pc' := 42) D112_39 rfl gf_10_37_0 H.1 ?_
  refine r_gint (ki := 10) (pc' := 45) D112_42 rfl gf_10_244_14 rfl H.1 ?_
  intro w1 e2 r3
  unfold inR at r3
  refine r_pint (ki := 4) (pc' := 48) D112_45 rfl pf_10_28_0 rfl H (by unfold inR; omega) trivial ?_
  intro M4 u5 H6 p7
  have f8 := f0.wr u5 rfl
  have hp9 := h0.wr u5 (by decide)
  refine s_blx (lv' := [(2, vR (habit)), (0, vR 0), (1, vI len)]) (st' := [vR (habit)]) B112_48_49 rfl ?_
  refine r_ifnonnull (q := some (.inl habit)) (tgt := 59) (pc' := 52) D112_49 rfl rfl (fun hq_ => ?_) (fun hq_ => ?_)
  · refine s_blx (lv' := [(2, vR (habit)), (0, vR 0), (1, vI len)]) (st' := [vR 0, vR 0]) B112_59_61 rfl ?_
    refine r_gfix (r := 1) (pc' := 64) D112_61 rfl gf_10_10_0 H6.1 ?_
    refine s_blx (lv' := [(2, vR (habit)), (0, vR 0), (1, vI len)]) (st' := [vR (habit), vR 1, vR 0]) B112_64_65 rfl ?_
    have g10 : gi M4 1 12 = n0 := (u5.gi_ne (by decide) (Or.inl (by decide))).trans (h3)
    refine r_vI (c := 1) (args := [vR (habit)]) (rest := [vR 0]) (pc' := 68) D112_65 rfl ck_10_virtual_245 TE62 rfl (Nat.le_of_ble_eq_true rfl) ⟨Nat.le_of_ble_eq_true rfl, Nat.le_of_ble_eq_true rfl⟩ sc_1 ⟨rfl, by decide⟩ H6.1 (dp_0 hd rfl) (k62_1x E (dp_n hd rfl) H6 habit nh nc n0 (hp9) ((h2.fr f8 rfl)) (by omega) (by omega) (by omega)) ?_
    intro v11 M12 q17
    obtain ⟨H13, f14, q15, q16⟩ := q17
    have f18 := f8.tr (f14.up rfl)
    refine r_vI (c := 0) (args := [vI v11]) (rest := []) (pc' := 71) D112_68 rfl ck_10_virtual_123 TE134 rfl (Nat.le_of_ble_eq_true rfl) ⟨Nat.le_of_ble_eq_true rfl, Nat.le_of_ble_eq_true rfl⟩ sc_0 ⟨rfl, by decide⟩ H13.1 (dp_0 hd rfl) (k134 E (dp_n hd rfl) H13 v11 (by omega)) ?_
    intro v19 M20 q24
    obtain ⟨H21, f22, q23⟩ := q24
    have f25 := f18.tr (f22.up rfl)
    have hp26 := q16.fr f22 (by decide)
    exact r_iretI D112_71 rfl (⟨H21, f25, hp26⟩)
  · exact absurd hq_ (by simp)
