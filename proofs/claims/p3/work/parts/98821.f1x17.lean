set_option maxRecDepth 4000 in
theorem k99n {base : Nat} {X : Nat → Option mC} {G : Nat → Value} (E : EnvOK base X G) {d : Nat} (hd : 2 ≤ d) {M : mH} (H : HI base M) (slot : Int) (values : Int) (length : Int) (h0 : -2147483648 ≤ slot ∧ slot ≤ 2147483647) (h1 : -2147483648 ≤ values ∧ values ≤ 2147483647) (h2 : -2147483648 ≤ length ∧ length ≤ 2147483647) : sOk base X G d T99 [vR 0, vI slot, vI values, vI length] M (pI (fun v M' => HI base M' ∧ Fr [(0, 6), (0, 10), (1, 5), (4, 0)] M M' ∧ (gi M' 0 9 = 1 ∨ gi M' 0 9 = gi M 0 9) ∧ ((NV slot values length ∧ gi M 1 4 ≤ 11 ∧ v = gi M 1 4 ∧ ∃ M1, W4 4 (gi M 1 4 * 3) 1 4 slot values length (gi M 1 4 + 1) M M1 ∧ Fr [(0, 6), (0, 10)] M1 M') ∨ (NV slot values length ∧ 12 ≤ gi M 1 4 ∧ v = -5 ∧ Fr [(0, 6)] M M') ∨ (¬ NV slot values length ∧ v = -1 ∧ Fr [(0, 6)] M M')))) := by
  have f0 : Fr [(0, 6), (0, 10), (1, 5), (4, 0)] M M := Fr.rf
  refine sOk.of (show sRn base X G d T99 0 [(0, vR 0), (1, vI slot), (2, vI values), (3, vI length)] [] M _ from ?_)
  refine s_blx (lv' := [(0, vR 0), (1, vI slot), (2, vI values), (3, vI length)]) (st' := [vI slot]) B99_0_1 rfl ?_
  refine r_sIp (args := [vI slot]) (rest := []) (pc' := 4) D99_1 rfl ck_10_static_135 TE143 rfl (Nat.le_of_ble_eq_true rfl) ⟨Nat.le_of_ble_eq_true rfl, Nat.le_of_ble_eq_true rfl⟩ (by decide) (dp_0 hd rfl) (k143n E (dp_n hd rfl) H slot (by omega)) ?_
  intro v1 q6
  obtain ⟨q3, q4, q5⟩ := q6
  refine r_ifc (tgt := 28) (pc' := 7) D99_4 rfl rfl (by unfold inR; omega) (fun (c7 : v1 = 0) => ?_) (fun (c7 : ¬ (v1 = 0)) => ?_)
  · refine s_blx (lv' := [(0, vR 0), (1, vI slot), (2, vI values), (3, vI length)]) (st' := [vI (-1), vR 0]) B99_28_30 rfl ?_
    refine r_vI (c := 0) (args := [vI (-1)]) (rest := []) (pc' := 33) D99_30 rfl ck_10_virtual_106 TE133 rfl (Nat.le_of_ble_eq_true rfl) ⟨Nat.le_of_ble_eq_true rfl, Nat.le_of_ble_eq_true rfl⟩ sc_0 ⟨rfl, by decide⟩ H.1 (dp_0 hd rfl) (k133 E (dp_n hd rfl) H (-1) (by omega)) ?_
    intro v8 M9 q13
    obtain ⟨H10, f11, q12⟩ := q13
    have f14 := f0.tr (f11.up rfl)
    have kfr := f11
    have g15 : gi M9 0 9 = gi M 0 9 := (f11.g rfl).trans (rfl)
    exact r_iretI D99_33 rfl (⟨H10, f14, by omega, Or.inr (Or.inr ⟨fun h => by unfold NV at h; omega, by omega, kfr⟩)⟩)
  · refine s_blx (lv' := [(0, vR 0), (1, vI slot), (2, vI values), (3, vI length)]) (st' := [vI 255, vI 1, vI values]) B99_7_12 rfl ?_
    refine r_sIp (args := [vI values, vI 1, vI 255]) (rest := []) (pc' := 15) D99_12 rfl ck_10_static_102 TE142 rfl (Nat.le_of_ble_eq_true rfl) ⟨Nat.le_of_ble_eq_true rfl, Nat.le_of_ble_eq_true rfl⟩ (by decide) (dp_0 hd rfl) (k142 E (dp_n hd rfl) H values 1 255 (by omega) (by omega) (by omega)) ?_
    intro v16 q21
    obtain ⟨q18, q19, q20⟩ := q21
    refine r_ifc (tgt := 28) (pc' := 18) D99_15 rfl rfl (by unfold inR; omega) (fun (c22 : v16 = 0) => ?_) (fun (c22 : ¬ (v16 = 0)) => ?_)
    · refine s_blx (lv' := [(0, vR 0), (1, vI slot), (2, vI values), (3, vI length)]) (st' := [vI (-1), vR 0]) B99_28_30 rfl ?_
      refine r_vI (c := 0) (args := [vI (-1)]) (rest := []) (pc' := 33) D99_30 rfl ck_10_virtual_106 TE133 rfl (Nat.le_of_ble_eq_true rfl) ⟨Nat.le_of_ble_eq_true rfl, Nat.le_of_ble_eq_true rfl⟩ sc_0 ⟨rfl, by decide⟩ H.1 (dp_0 hd rfl) (k133 E (dp_n hd rfl) H (-1) (by omega)) ?_
      intro v23 M24 q28
      obtain ⟨H25, f26, q27⟩ := q28
      have f29 := f0.tr (f26.up rfl)
      have kfr := f26
      have g30 : gi M24 0 9 = gi M 0 9 := (f26.g rfl).trans (rfl)
      exact r_iretI D99_33 rfl (⟨H25, f29, by omega, Or.inr (Or.inr ⟨fun h => by unfold NV at h; omega, by omega, kfr⟩)⟩)
    · refine s_blx (lv' := [(0, vR 0), (1, vI slot), (2, vI values), (3, vI length)]) (st' := [vI 9, vI 1, vI length]) B99_18_22 rfl ?_
      refine r_sIp (args := [vI length, vI 1, vI 9]) (rest := []) (pc' := 25) D99_22 rfl ck_10_static_102 TE142 rfl (Nat.le_of_ble_eq_true rfl) ⟨Nat.le_of_ble_eq_true rfl, Nat.le_of_ble_eq_true rfl⟩ (by decide) (dp_0 hd rfl) (k142 E (dp_n hd rfl) H length 1 9 (by omega) (by omega) (by omega)) ?_
      intro v31 q36
      obtain ⟨q33, q34, q35⟩ := q36
      refine r_ifc (tgt := 34) (pc' := 28) D99_25 rfl rfl (by unfold inR; omega) (fun (c37 : v31 ≠ 0) => ?_) (fun (c37 : ¬ (v31 ≠ 0)) => ?_)
      · refine s_blx (lv' := [(0, vR 0), (1, vI slot), (2, vI values), (3, vI length)]) (st' := [vR 0]) B99_34_35 rfl ?_
        refine r_gfix (r := 1) (pc' := 38) D99_35 rfl gf_10_10_0 H.1 ?_
        refine r_gint (ki := 4) (pc' := 41) D99_38 rfl gf_10_139_1 rfl H.1 ?_
        intro w38 e39 r40
        have b_w38 := H.2 1 (4) 0 12 rfl
        rw [← e39] at b_w38; clear r40
        refine s_blx (lv' := [(0, vR 0), (1, vI slot), (2, vI values), (3, vI length)]) (st' := [vI 12, vI w38]) B99_41_43 rfl ?_
        refine r_icmp (tgt := 53) (pc' := 46) D99_43 rfl rfl (by unfold inR; omega) (fun (c41 : w38 < 12) => ?_) (fun (c41 : ¬ (w38 < 12)) => ?_)
        · refine s_blx (lv' := [(0, vR 0), (1, vI slot), (2, vI values), (3, vI length)]) (st' := [vR 0, vR 0]) B99_53_55 rfl ?_
          refine r_gfix (r := 1) (pc' := 58) D99_55 rfl gf_10_10_0 H.1 ?_
          refine s_blx (lv' := [(0, vR 0), (1, vI slot), (2, vI values), (3, vI length)]) (st' := [vI length, vI values, vI slot, vR 1, vR 0]) B99_58_61 rfl ?_
          have g42 : gi M 1 4 = w38 := e39.symm
          refine r_vI (c := 1) (args := [vI slot, vI values, vI length]) (rest := [vR 0]) (pc' := 64) D99_61 rfl ck_10_virtual_142 TE59 rfl (Nat.le_of_ble_eq_true rfl) ⟨Nat.le_of_ble_eq_true rfl, Nat.le_of_ble_eq_true rfl⟩ sc_1 ⟨rfl, by decide⟩ H.1 (dp_0 hd rfl) (k59_1n E (dp_n hd rfl) H slot values length (by omega) (by omega) (by omega) (by omega)) ?_
          intro v43 M44 q50
          obtain ⟨H45, f46, q47, q48, q49⟩ := q50
          have f51 := f0.tr (f46.up rfl)
          have kw4 := q49
          refine r_vI (c := 0) (args := [vI v43]) (rest := []) (pc' := 67) D99_64 rfl ck_10_virtual_123 TE134 rfl (Nat.le_of_ble_eq_true rfl) ⟨Nat.le_of_ble_eq_true rfl, Nat.le_of_ble_eq_true rfl⟩ sc_0 ⟨rfl, by decide⟩ H45.1 (dp_0 hd rfl) (k134s E (dp_n hd rfl) H45 v43 (by omega)) ?_
          intro v52 M53 q58
          obtain ⟨H54, f55, q56, q57⟩ := q58
          have f59 := f51.tr (f55.up rfl)
          have kfa := f55
          have g60 : gi M53 0 9 = 1 := q57
          exact r_iretI D99_67 rfl (⟨H54, f59, by omega, Or.inl ⟨by unfold NV; omega, by omega, by omega, ⟨_, kw4, kfa⟩⟩⟩)
        · refine s_blx (lv' := [(0, vR 0), (1, vI slot), (2, vI values), (3, vI length)]) (st' := [vI (-5), vR 0]) B99_46_49 rfl ?_
          refine r_vI (c := 0) (args := [vI (-5)]) (rest := []) (pc' := 52) D99_49 rfl ck_10_virtual_106 TE133 rfl (Nat.le_of_ble_eq_true rfl) ⟨Nat.le_of_ble_eq_true rfl, Nat.le_of_ble_eq_true rfl⟩ sc_0 ⟨rfl, by decide⟩ H.1 (dp_0 hd rfl) (k133 E (dp_n hd rfl) H (-5) (by omega)) ?_
          intro v61 M62 q66
          obtain ⟨H63, f64, q65⟩ := q66
          have f67 := f0.tr (f64.up rfl)
          have kfr := f64
          have g68 : gi M62 0 9 = gi M 0 9 := (f64.g rfl).trans (rfl)
          exact r_iretI D99_52 rfl (⟨H63, f67, by omega, Or.inr (Or.inl ⟨by unfold NV; omega, by omega, by omega, kfr⟩)⟩)
      · refine s_blx (lv' := [(0, vR 0), (1, vI slot), (2, vI values), (3, vI length)]) (st' := [vI (-1), vR 0]) B99_28_30 rfl ?_
        refine r_vI (c := 0) (args := [vI (-1)]) (rest := []) (pc' := 33) D99_30 rfl ck_10_virtual_106 TE133 rfl (Nat.le_of_ble_eq_true rfl) ⟨Nat.le_of_ble_eq_true rfl, Nat.le_of_ble_eq_true rfl⟩ sc_0 ⟨rfl, by decide⟩ H.1 (dp_0 hd rfl) (k133 E (dp_n hd rfl) H (-1) (by omega)) ?_
        intro v69 M70 q74
        obtain ⟨H71, f72, q73⟩ := q74
        have f75 := f0.tr (f72.up rfl)
        have kfr := f72
        have g76 : gi M70 0 9 = gi M 0 9 := (f72.g rfl).trans (rfl)
        exact r_iretI D99_33 rfl (⟨H71, f75, by omega, Or.inr (Or.inr ⟨fun h => by unfold NV at h; omega, by omega, kfr⟩)⟩)
