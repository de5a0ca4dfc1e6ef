set_option maxRecDepth 4000 in
theorem k122n {base : Nat} {X : Nat → Option mC} {G : Nat → Value} (E : EnvOK base X G) {d : Nat} (hd : 1 ≤ d) {M : mH} (H : HI base M) (minute : Int) (cost : Int) (h0 : -2147483648 ≤ minute ∧ minute ≤ 2147483647) (h1 : -2147483648 ≤ cost ∧ cost ≤ 2147483647) : sOk base X G d T122 [vR 0, vI minute, vI cost] M (pI (fun v M' => HI base M' ∧ Fr [(0, 6), (0, 10), (11, 0)] M M' ∧ (gi M' 0 9 = 1 ∨ gi M' 0 9 = gi M 0 9) ∧ ((MV minute cost ∧ v = gi M 11 (minute) ∧ ∃ M1, Wr M 11 (minute).toNat (.int (Int32.ofInt cost)) M1 ∧ Fr [(0, 6), (0, 10)] M1 M') ∨ (¬ MV minute cost ∧ (v = -1) ∧ Fr [(0, 6)] M M')))) := by
  have f0 : Fr [(0, 6), (0, 10), (11, 0)] M M := Fr.rf
  refine sOk.of (show sRn base X G d T122 0 [(0, vR 0), (1, vI minute), (2, vI cost)] [] M _ from ?_)
  refine s_blx (lv' := [(0, vR 0), (1, vI minute), (2, vI cost)]) (st' := [vI 59, vI 0, vI minute]) B122_0_4 rfl ?_
  refine r_sIp (args := [vI minute, vI 0, vI 59]) (rest := []) (pc' := 7) D122_4 rfl ck_10_static_102 TE142 rfl (Nat.le_of_ble_eq_true rfl) ⟨Nat.le_of_ble_eq_true rfl, Nat.le_of_ble_eq_true rfl⟩ (by decide) (dp_0 hd rfl) (k142 E (dp_n hd rfl) H minute 0 59 (by omega) (by omega) (by omega)) ?_
  intro v1 q6
  obtain ⟨q3, q4, q5⟩ := q6
  refine r_ifc (tgt := 21) (pc' := 10) D122_7 rfl rfl (by unfold inR; omega) (fun (c7 : v1 = 0) => ?_) (fun (c7 : ¬ (v1 = 0)) => ?_)
  · refine s_blx (lv' := [(0, vR 0), (1, vI minute), (2, vI cost)]) (st' := [vI (-1), vR 0]) B122_21_23 rfl ?_
    refine r_vI (c := 0) (args := [vI (-1)]) (rest := []) (pc' := 26) D122_23 rfl ck_10_virtual_106 TE133 rfl (Nat.le_of_ble_eq_true rfl) ⟨Nat.le_of_ble_eq_true rfl, Nat.le_of_ble_eq_true rfl⟩ sc_0 ⟨rfl, by decide⟩ H.1 (dp_0 hd rfl) (k133 E (dp_n hd rfl) H (-1) (by omega)) ?_
    intro v8 M9 q13
    obtain ⟨H10, f11, q12⟩ := q13
    have f14 := f0.tr (f11.up rfl)
    have kfr := f11
    have g15 : gi M9 0 9 = gi M 0 9 := (f11.g rfl).trans (rfl)
    exact r_iretI D122_26 rfl (⟨H10, f14, by omega, Or.inr ⟨fun h => by unfold MV at h; omega, by omega, kfr⟩⟩)
  · refine s_blx (lv' := [(0, vR 0), (1, vI minute), (2, vI cost)]) (st' := [vI 1000, vI 0, vI cost]) B122_10_15 rfl ?_
    refine r_sIp (args := [vI cost, vI 0, vI 1000]) (rest := []) (pc' := 18) D122_15 rfl ck_10_static_102 TE142 rfl (Nat.le_of_ble_eq_true rfl) ⟨Nat.le_of_ble_eq_true rfl, Nat.le_of_ble_eq_true rfl⟩ (by decide) (dp_0 hd rfl) (k142 E (dp_n hd rfl) H cost 0 1000 (by omega) (by omega) (by omega)) ?_
    intro v16 q21
    obtain ⟨q18, q19, q20⟩ := q21
    refine r_ifc (tgt := 27) (pc' := 21) D122_18 rfl rfl (by unfold inR; omega) (fun (c22 : v16 ≠ 0) => ?_) (fun (c22 : ¬ (v16 ≠ 0)) => ?_)
    · refine s_blx (lv' := [(0, vR 0), (1, vI minute), (2, vI cost)]) (st' := [vR 0, vR 0]) B122_27_29 rfl ?_
      refine r_gfix (r := 1) (pc' := 32) D122_29 rfl gf_10_10_0 H.1 ?_
      refine r_gfix (r := 11) (pc' := 35) D122_32 rfl gf_10_297_1 H.1 ?_
      refine s_blx (lv' := [(0, vR 0), (1, vI minute), (2, vI cost)]) (st' := [vI cost, vI minute, vR 11, vR 0]) B122_35_37 rfl ?_
      refine r_sI (args := [vR 11, vI minute, vI cost]) (rest := [vR 0]) (pc' := 40) D122_37 rfl ck_10_static_119 TE145 rfl (Nat.le_of_ble_eq_true rfl) ⟨Nat.le_of_ble_eq_true rfl, Nat.le_of_ble_eq_true rfl⟩ (by decide) (dp_0 hd rfl) (k145_11n E (dp_n hd rfl) H minute cost (by omega) (by omega)) ?_
      intro v23 M24 q30
      obtain ⟨H25, f26, q27, q28, q29⟩ := q30
      have f31 := f0.tr (f26.up rfl)
      have kwr := q29
      refine r_vI (c := 0) (args := [vI v23]) (rest := []) (pc' := 43) D122_40 rfl ck_10_virtual_123 TE134 rfl (Nat.le_of_ble_eq_true rfl) ⟨Nat.le_of_ble_eq_true rfl, Nat.le_of_ble_eq_true rfl⟩ sc_0 ⟨rfl, by decide⟩ H25.1 (dp_0 hd rfl) (k134s E (dp_n hd rfl) H25 v23 (by omega)) ?_
      intro v32 M33 q38
      obtain ⟨H34, f35, q36, q37⟩ := q38
      have f39 := f31.tr (f35.up rfl)
      have kfa := f35
      have g40 : gi M33 0 9 = 1 := q37
      exact r_iretI D122_43 rfl (⟨H34, f39, by omega, Or.inl ⟨by unfold MV; omega, by omega, ⟨_, kwr, kfa⟩⟩⟩)
    · refine s_blx (lv' := [(0, vR 0), (1, vI minute), (2, vI cost)]) (st' := [vI (-1), vR 0]) B122_21_23 rfl ?_
      refine r_vI (c := 0) (args := [vI (-1)]) (rest := []) (pc' := 26) D122_23 rfl ck_10_virtual_106 TE133 rfl (Nat.le_of_ble_eq_true rfl) ⟨Nat.le_of_ble_eq_true rfl, Nat.le_of_ble_eq_true rfl⟩ sc_0 ⟨rfl, by decide⟩ H.1 (dp_0 hd rfl) (k133 E (dp_n hd rfl) H (-1) (by omega)) ?_
      intro v41 M42 q46
      obtain ⟨H43, f44, q45⟩ := q46
      have f47 := f0.tr (f44.up rfl)
      have kfr := f44
      have g48 : gi M42 0 9 = gi M 0 9 := (f44.g rfl).trans (rfl)
      exact r_iretI D122_26 rfl (⟨H43, f47, by omega, Or.inr ⟨fun h => by unfold MV at h; omega, by omega, kfr⟩⟩)
