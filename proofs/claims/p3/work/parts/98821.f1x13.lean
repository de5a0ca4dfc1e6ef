set_option maxRecDepth 4000 in
theorem k98n {base : Nat} {X : Nat → Option mC} {G : Nat → Value} (E : EnvOK base X G) {d : Nat} (hd : 1 ≤ d) {M : mH} (H : HI base M) (order : Int) (h0 : -2147483648 ≤ order ∧ order ≤ 2147483647) : sOk base X G d T98 [vR 0, vI order] M (pI (fun v M' => HI base M' ∧ Fr [(0, 6), (0, 10), (1, 3)] M M' ∧ (gi M' 0 9 = 1 ∨ gi M' 0 9 = gi M 0 9) ∧ ((OV order ∧ v = gi M 1 ((2 : Int)) ∧ ∃ M1, Wr M 1 ((2 : Int)).toNat (.int (Int32.ofInt order)) M1 ∧ Fr [(0, 6), (0, 10)] M1 M') ∨ (¬ OV order ∧ (v = -1) ∧ Fr [(0, 6)] M M')))) := by
  have f0 : Fr [(0, 6), (0, 10), (1, 3)] M M := Fr.rf
  refine sOk.of (show sRn base X G d T98 0 [(0, vR 0), (1, vI order)] [] M _ from ?_)
  refine s_blx (lv' := [(0, vR 0), (1, vI order)]) (st' := [vI 5, vI 0, vI order]) B98_0_3 rfl ?_
  refine r_sIp (args := [vI order, vI 0, vI 5]) (rest := []) (pc' := 6) D98_3 rfl ck_10_static_102 TE142 rfl (Nat.le_of_ble_eq_true rfl) ⟨Nat.le_of_ble_eq_true rfl, Nat.le_of_ble_eq_true rfl⟩ (by decide) (dp_0 hd rfl) (k142 E (dp_n hd rfl) H order 0 5 (by omega) (by omega) (by omega)) ?_
  intro v1 q6
  obtain ⟨q3, q4, q5⟩ := q6
  refine r_ifc (tgt := 15) (pc' := 9) D98_6 rfl rfl (by unfold inR; omega) (fun (c7 : v1 ≠ 0) => ?_) (fun (c7 : ¬ (v1 ≠ 0)) => ?_)
  · refine s_blx (lv' := [(0, vR 0), (1, vI order)]) (st' := [vR 0]) B98_15_16 rfl ?_
    refine r_gfix (r := 1) (pc' := 19) D98_16 rfl gf_10_10_0 H.1 ?_
    refine r_gint (ki := 2) (pc' := 22) D98_19 rfl gf_10_132_1 rfl H.1 ?_
    intro w8 e9 r10
    have b_w8 := H.2 1 (2) 0 5 rfl
    rw [← e9] at b_w8; clear r10
    refine s_blx (lv' := [(2, vI w8), (0, vR 0), (1, vI order)]) (st' := [vR 0]) B98_22_24 rfl ?_
    refine r_gfix (r := 1) (pc' := 27) D98_24 rfl gf_10_10_0 H.1 ?_
    refine s_blx (lv' := [(2, vI w8), (0, vR 0), (1, vI order)]) (st' := [vI order, vR 1]) B98_27_28 rfl ?_
    refine r_pint (ki := 2) (pc' := 31) D98_28 rfl pf_10_132_1 rfl H (by unfold inR; omega) (show 0 ≤ order ∧ order ≤ 5 by omega) ?_
    intro M11 u12 H13 p14
    have f15 := f0.wr u12 rfl
    have kwr := u12
    refine s_blx (lv' := [(2, vI w8), (0, vR 0), (1, vI order)]) (st' := [vI w8, vR 0]) B98_31_33 rfl ?_
    refine r_vI (c := 0) (args := [vI w8]) (rest := []) (pc' := 36) D98_33 rfl ck_10_virtual_123 TE134 rfl (Nat.le_of_ble_eq_true rfl) ⟨Nat.le_of_ble_eq_true rfl, Nat.le_of_ble_eq_true rfl⟩ sc_0 ⟨rfl, by decide⟩ H13.1 (dp_0 hd rfl) (k134s E (dp_n hd rfl) H13 w8 (by omega)) ?_
    intro v16 M17 q22
    obtain ⟨H18, f19, q20, q21⟩ := q22
    have f23 := f15.tr (f19.up rfl)
    have kfa := f19
    have g24 : gi M17 0 9 = 1 := q21
    exact r_iretI D98_36 rfl (⟨H18, f23, by omega, Or.inl ⟨by unfold OV; omega, by omega, ⟨_, kwr, kfa⟩⟩⟩)
  · refine s_blx (lv' := [(0, vR 0), (1, vI order)]) (st' := [vI (-1), vR 0]) B98_9_11 rfl ?_
    refine r_vI (c := 0) (args := [vI (-1)]) (rest := []) (pc' := 14) D98_11 rfl ck_10_virtual_106 TE133 rfl (Nat.le_of_ble_eq_true rfl) ⟨Nat.le_of_ble_eq_true rfl, Nat.le_of_ble_eq_true rfl⟩ sc_0 ⟨rfl, by decide⟩ H.1 (dp_0 hd rfl) (k133 E (dp_n hd rfl) H (-1) (by omega)) ?_
    intro v25 M26 q30
    obtain ⟨H27, f28, q29⟩ := q30
    have f31 := f0.tr (f28.up rfl)
    have kfr := f28
    have g32 : gi M26 0 9 = gi M 0 9 := (f28.g rfl).trans (rfl)
    exact r_iretI D98_14 rfl (⟨H27, f31, by omega, Or.inr ⟨fun h => by unfold OV at h; omega, by omega, kfr⟩⟩)
