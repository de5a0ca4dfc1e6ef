set_option maxRecDepth 4000 in
theorem k100n {base : Nat} {X : Nat → Option mC} {G : Nat → Value} (E : EnvOK base X G) {d : Nat} (hd : 1 ≤ d) {M : mH} (H : HI base M) (speaker : Int) (h0 : -2147483648 ≤ speaker ∧ speaker ≤ 2147483647) : sOk base X G d T100 [vR 0, vI speaker] M (pI (fun v M' => HI base M' ∧ Fr [(0, 6), (0, 10), (1, 6)] M M' ∧ (gi M' 0 9 = 1 ∨ gi M' 0 9 = gi M 0 9) ∧ ((PV speaker ∧ v = gi M 1 ((5 : Int)) ∧ ∃ M1, Wr M 1 ((5 : Int)).toNat (.int (Int32.ofInt speaker)) M1 ∧ Fr [(0, 6), (0, 10)] M1 M') ∨ (¬ PV speaker ∧ (v = -1) ∧ Fr [(0, 6)] M M')))) := by
  have f0 : Fr [(0, 6), (0, 10), (1, 6)] M M := Fr.rf
  refine sOk.of (show sRn base X G d T100 0 [(0, vR 0), (1, vI speaker)] [] M _ from ?_)
  refine s_blx (lv' := [(0, vR 0), (1, vI speaker)]) (st' := [vI 3, vI 0, vI speaker]) B100_0_3 rfl ?_
  refine r_sIp (args := [vI speaker, vI 0, vI 3]) (rest := []) (pc' := 6) D100_3 rfl ck_10_static_102 TE142 rfl (Nat.le_of_ble_eq_true rfl) ⟨Nat.le_of_ble_eq_true rfl, Nat.le_of_ble_eq_true rfl⟩ (by decide) (dp_0 hd rfl) (k142 E (dp_n hd rfl) H speaker 0 3 (by omega) (by omega) (by omega)) ?_
  intro v1 q6
  obtain ⟨q3, q4, q5⟩ := q6
  refine r_ifc (tgt := 15) (pc' := 9) D100_6 rfl rfl (by unfold inR; omega) (fun (c7 : v1 ≠ 0) => ?_) (fun (c7 : ¬ (v1 ≠ 0)) => ?_)
  · refine s_blx (lv' := [(0, vR 0), (1, vI speaker)]) (st' := [vR 0]) B100_15_16 rfl ?_
    refine r_gfix (r := 1) (pc' := 19) D100_16 rfl gf_10_10_0 H.1 ?_
    refine r_gint (ki := 5) (pc' := 22) D100_19 rfl gf_10_146_1 rfl H.1 ?_
    intro w8 e9 r10
    have b_w8 := H.2 1 (5) 0 3 rfl
    rw [← e9] at b_w8; clear r10
    refine s_blx (lv' := [(2, vI w8), (0, vR 0), (1, vI speaker)]) (st' := [vR 0]) B100_22_24 rfl ?_
    refine r_gfix (r := 1) (pc' := 27) D100_24 rfl gf_10_10_0 H.1 ?_
    refine s_blx (lv' := [(2, vI w8), (0, vR 0), (1, vI speaker)]) (st' := [vI speaker, vR 1]) B100_27_28 rfl ?_
    refine r_pint (ki := 5) (pc' := 31) D100_28 rfl pf_10_146_1 rfl H (by unfold inR; omega) (show 0 ≤ speaker ∧ speaker ≤ 3 by omega) ?_
    intro M11 u12 H13 p14
    have f15 := f0.wr u12 rfl
    have kwr := u12
    refine s_blx (lv' := [(2, vI w8), (0, vR 0), (1, vI speaker)]) (st' := [vI w8, vR 0]) B100_31_33 rfl ?_
    refine r_vI (c := 0) (args := [vI w8]) (rest := []) (pc' := 36) D100_33 rfl ck_10_virtual_123 TE134 rfl (Nat.le_of_ble_eq_true rfl) ⟨Nat.le_of_ble_eq_true rfl, Nat.le_of_ble_eq_true rfl⟩ sc_0 ⟨rfl, by decide⟩ H13.1 (dp_0 hd rfl) (k134s E (dp_n hd rfl) H13 w8 (by omega)) ?_
    intro v16 M17 q22
    obtain ⟨H18, f19, q20, q21⟩ := q22
    have f23 := f15.tr (f19.up rfl)
    have kfa := f19
    have g24 : gi M17 0 9 = 1 := q21
    exact r_iretI D100_36 rfl (⟨H18, f23, by omega, Or.inl ⟨by unfold PV; omega, by omega, ⟨_, kwr, kfa⟩⟩⟩)
  · refine s_blx (lv' := [(0, vR 0), (1, vI speaker)]) (st' := [vI (-1), vR 0]) B100_9_11 rfl ?_
    refine r_vI (c := 0) (args := [vI (-1)]) (rest := []) (pc' := 14) D100_11 rfl ck_10_virtual_106 TE133 rfl (Nat.le_of_ble_eq_true rfl) ⟨Nat.le_of_ble_eq_true rfl, Nat.le_of_ble_eq_true rfl⟩ sc_0 ⟨rfl, by decide⟩ H.1 (dp_0 hd rfl) (k133 E (dp_n hd rfl) H (-1) (by omega)) ?_
    intro v25 M26 q30
    obtain ⟨H27, f28, q29⟩ := q30
    have f31 := f0.tr (f28.up rfl)
    have kfr := f28
    have g32 : gi M26 0 9 = gi M 0 9 := (f28.g rfl).trans (rfl)
    exact r_iretI D100_14 rfl (⟨H27, f31, by omega, Or.inr ⟨fun h => by unfold PV at h; omega, by omega, kfr⟩⟩)
