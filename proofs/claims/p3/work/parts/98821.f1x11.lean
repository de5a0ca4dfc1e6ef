set_option maxRecDepth 4000 in
theorem k97n {base : Nat} {X : Nat → Option mC} {G : Nat → Value} (E : EnvOK base X G) {d : Nat} (hd : 1 ≤ d) {M : mH} (H : HI base M) (what : Int) (value : Int) (h0 : -2147483648 ≤ what ∧ what ≤ 2147483647) (h1 : -2147483648 ≤ value ∧ value ≤ 2147483647) : sOk base X G d T97 [vR 0, vI what, vI value] M (pI (fun v M' => HI base M' ∧ Fr [(0, 6), (0, 10), (3, 0)] M M' ∧ (gi M' 0 9 = 1 ∨ gi M' 0 9 = gi M 0 9) ∧ ((TV what value ∧ v = gi M 3 (what) ∧ ∃ M1, Wr M 3 (what).toNat (.int (Int32.ofInt value)) M1 ∧ Fr [(0, 6), (0, 10)] M1 M') ∨ (¬ TV what value ∧ (v = -1) ∧ Fr [(0, 6)] M M')))) := by
  have f0 : Fr [(0, 6), (0, 10), (3, 0)] M M := Fr.rf
  refine sOk.of (show sRn base X G d T97 0 [(0, vR 0), (1, vI what), (2, vI value)] [] M _ from ?_)
  refine s_blx (lv' := [(0, vR 0), (1, vI what), (2, vI value)]) (st' := [vI 8, vI 0, vI what]) B97_0_4 rfl ?_
  refine r_sIp (args := [vI what, vI 0, vI 8]) (rest := []) (pc' := 7) D97_4 rfl ck_10_static_102 TE142 rfl (Nat.le_of_ble_eq_true rfl) ⟨Nat.le_of_ble_eq_true rfl, Nat.le_of_ble_eq_true rfl⟩ (by decide) (dp_0 hd rfl) (k142 E (dp_n hd rfl) H what 0 8 (by omega) (by omega) (by omega)) ?_
  intro v1 q6
  obtain ⟨q3, q4, q5⟩ := q6
  refine r_ifc (tgt := 23) (pc' := 10) D97_7 rfl rfl (by unfold inR; omega) (fun (c7 : v1 = 0) => ?_) (fun (c7 : ¬ (v1 = 0)) => ?_)
  · refine s_blx (lv' := [(0, vR 0), (1, vI what), (2, vI value)]) (st' := [vI (-1), vR 0]) B97_23_25 rfl ?_
    refine r_vI (c := 0) (args := [vI (-1)]) (rest := []) (pc' := 28) D97_25 rfl ck_10_virtual_106 TE133 rfl (Nat.le_of_ble_eq_true rfl) ⟨Nat.le_of_ble_eq_true rfl, Nat.le_of_ble_eq_true rfl⟩ sc_0 ⟨rfl, by decide⟩ H.1 (dp_0 hd rfl) (k133 E (dp_n hd rfl) H (-1) (by omega)) ?_
    intro v8 M9 q13
    obtain ⟨H10, f11, q12⟩ := q13
    have f14 := f0.tr (f11.up rfl)
    have kfr := f11
    have g15 : gi M9 0 9 = gi M 0 9 := (f11.g rfl).trans (rfl)
    exact r_iretI D97_28 rfl (⟨H10, f14, by omega, Or.inr ⟨fun h => by unfold TV at h; omega, by omega, kfr⟩⟩)
  · refine s_blx (lv' := [(0, vR 0), (1, vI what), (2, vI value)]) (st' := [vI 0, vI value]) B97_10_12 rfl ?_
    obtain ⟨u16, f17, g18, g19, h20, k21⟩ := E.1 2 _ rfl
    refine r_gst (pc' := 15) D97_12 rfl st_10_126 g18 ?_
    refine s_blx (lv' := [(0, vR 0), (1, vI what), (2, vI value)]) (st' := [vI what, vA u16, vI 0, vI value]) B97_15_16 rfl ?_
    refine r_ialdT (pc' := 17) D97_16 rfl h20 g19 k21 (by first | omega | (show _ ∧ _ ∧ _; simp only [List.length]; omega)) ?_
    intro w22 e23 r24
    have b_w22 := tb_2 (what).toNat (by omega)
    rw [← e23] at b_w22; clear r24
    have kt16 := tm0 (what).toNat (by omega)
    rw [← e23] at kt16
    refine r_sIp (args := [vI value, vI 0, vI w22]) (rest := []) (pc' := 20) D97_17 rfl ck_10_static_102 TE142 rfl (Nat.le_of_ble_eq_true rfl) ⟨Nat.le_of_ble_eq_true rfl, Nat.le_of_ble_eq_true rfl⟩ (by decide) (dp_0 hd rfl) (k142 E (dp_n hd rfl) H value 0 w22 (by omega) (by omega) (by omega)) ?_
    intro v25 q30
    obtain ⟨q27, q28, q29⟩ := q30
    refine r_ifc (tgt := 29) (pc' := 23) D97_20 rfl rfl (by unfold inR; omega) (fun (c31 : v25 ≠ 0) => ?_) (fun (c31 : ¬ (v25 ≠ 0)) => ?_)
    · refine s_blx (lv' := [(0, vR 0), (1, vI what), (2, vI value)]) (st' := [vR 0, vR 0]) B97_29_31 rfl ?_
      refine r_gfix (r := 1) (pc' := 34) D97_31 rfl gf_10_10_0 H.1 ?_
      refine r_gfix (r := 3) (pc' := 37) D97_34 rfl gf_10_129_1 H.1 ?_
      refine s_blx (lv' := [(0, vR 0), (1, vI what), (2, vI value)]) (st' := [vI value, vI what, vR 3, vR 0]) B97_37_39 rfl ?_
      refine r_sI (args := [vR 3, vI what, vI value]) (rest := [vR 0]) (pc' := 42) D97_39 rfl ck_10_static_119 TE145 rfl (Nat.le_of_ble_eq_true rfl) ⟨Nat.le_of_ble_eq_true rfl, Nat.le_of_ble_eq_true rfl⟩ (by decide) (dp_0 hd rfl) (k145_3n E (dp_n hd rfl) H what value (by omega) (by omega)) ?_
      intro v32 M33 q39
      obtain ⟨H34, f35, q36, q37, q38⟩ := q39
      have f40 := f0.tr (f35.up rfl)
      have kwr := q38
      refine r_vI (c := 0) (args := [vI v32]) (rest := []) (pc' := 45) D97_42 rfl ck_10_virtual_123 TE134 rfl (Nat.le_of_ble_eq_true rfl) ⟨Nat.le_of_ble_eq_true rfl, Nat.le_of_ble_eq_true rfl⟩ sc_0 ⟨rfl, by decide⟩ H34.1 (dp_0 hd rfl) (k134s E (dp_n hd rfl) H34 v32 (by omega)) ?_
      intro v41 M42 q47
      obtain ⟨H43, f44, q45, q46⟩ := q47
      have f48 := f40.tr (f44.up rfl)
      have kfa := f44
      have g49 : gi M42 0 9 = 1 := q46
      exact r_iretI D97_45 rfl (⟨H43, f48, by omega, Or.inl ⟨by unfold TV; omega, by omega, ⟨_, kwr, kfa⟩⟩⟩)
    · refine s_blx (lv' := [(0, vR 0), (1, vI what), (2, vI value)]) (st' := [vI (-1), vR 0]) B97_23_25 rfl ?_
      refine r_vI (c := 0) (args := [vI (-1)]) (rest := []) (pc' := 28) D97_25 rfl ck_10_virtual_106 TE133 rfl (Nat.le_of_ble_eq_true rfl) ⟨Nat.le_of_ble_eq_true rfl, Nat.le_of_ble_eq_true rfl⟩ sc_0 ⟨rfl, by decide⟩ H.1 (dp_0 hd rfl) (k133 E (dp_n hd rfl) H (-1) (by omega)) ?_
      intro v50 M51 q55
      obtain ⟨H52, f53, q54⟩ := q55
      have f56 := f0.tr (f53.up rfl)
      have kfr := f53
      have g57 : gi M51 0 9 = gi M 0 9 := (f53.g rfl).trans (rfl)
      exact r_iretI D97_28 rfl (⟨H52, f56, by omega, Or.inr ⟨fun h => by unfold TV at h; omega, by omega, kfr⟩⟩)
