set_option maxRecDepth 4000 in
theorem k119n {base : Nat} {X : Nat → Option mC} {G : Nat → Value} (E : EnvOK base X G) {d : Nat} (hd : 1 ≤ d) {M : mH} (H : HI base M) (lag : Int) (keeps : Int) (limit : Int) (h0 : -2147483648 ≤ lag ∧ lag ≤ 2147483647) (h1 : -2147483648 ≤ keeps ∧ keeps ≤ 2147483647) (h2 : -2147483648 ≤ limit ∧ limit ≤ 2147483647) : sOk base X G d T119 [vR 0, vI lag, vI keeps, vI limit] M (pI (fun v M' => HI base M' ∧ Fr [(0, 6), (0, 10), (1, 15), (10, 0)] M M' ∧ (gi M' 0 9 = 1 ∨ gi M' 0 9 = gi M 0 9) ∧ ((BV lag keeps limit ∧ gi M 1 14 ≤ 5 ∧ v = gi M 1 14 ∧ ∃ M1, W4 10 (gi M 1 14 * 3) 1 14 lag keeps limit (gi M 1 14 + 1) M M1 ∧ Fr [(0, 6), (0, 10)] M1 M') ∨ (BV lag keeps limit ∧ 6 ≤ gi M 1 14 ∧ v = -5 ∧ Fr [(0, 6)] M M') ∨ (¬ BV lag keeps limit ∧ v = -1 ∧ Fr [(0, 6)] M M')))) := by
  have f0 : Fr [(0, 6), (0, 10), (1, 15), (10, 0)] M M := Fr.rf
  refine sOk.of (show sRn base X G d T119 0 [(0, vR 0), (1, vI lag), (2, vI keeps), (3, vI limit)] [] M _ from ?_)
  refine s_blx (lv' := [(0, vR 0), (1, vI lag), (2, vI keeps), (3, vI limit)]) (st' := [vI 60, vI 0, vI lag]) B119_0_4 rfl ?_
  refine r_sIp (args := [vI lag, vI 0, vI 60]) (rest := []) (pc' := 7) D119_4 rfl ck_10_static_102 TE142 rfl (Nat.le_of_ble_eq_true rfl) ⟨Nat.le_of_ble_eq_true rfl, Nat.le_of_ble_eq_true rfl⟩ (by decide) (dp_0 hd rfl) (k142 E (dp_n hd rfl) H lag 0 60 (by omega) (by omega) (by omega)) ?_
  intro v1 q6
  obtain ⟨q3, q4, q5⟩ := q6
  refine r_ifc (tgt := 31) (pc' := 10) D119_7 rfl rfl (by unfold inR; omega) (fun (c7 : v1 = 0) => ?_) (fun (c7 : ¬ (v1 = 0)) => ?_)
  · refine s_blx (lv' := [(0, vR 0), (1, vI lag), (2, vI keeps), (3, vI limit)]) (st' := [vI (-1), vR 0]) B119_31_33 rfl ?_
    refine r_vI (c := 0) (args := [vI (-1)]) (rest := []) (pc' := 36) D119_33 rfl ck_10_virtual_106 TE133 rfl (Nat.le_of_ble_eq_true rfl) ⟨Nat.le_of_ble_eq_true rfl, Nat.le_of_ble_eq_true rfl⟩ sc_0 ⟨rfl, by decide⟩ H.1 (dp_0 hd rfl) (k133 E (dp_n hd rfl) H (-1) (by omega)) ?_
    intro v8 M9 q13
    obtain ⟨H10, f11, q12⟩ := q13
    have f14 := f0.tr (f11.up rfl)
    have kfr := f11
    have g15 : gi M9 0 9 = gi M 0 9 := (f11.g rfl).trans (rfl)
    exact r_iretI D119_36 rfl (⟨H10, f14, by omega, Or.inr (Or.inr ⟨fun h => by unfold BV at h; omega, by omega, kfr⟩)⟩)
  · refine s_blx (lv' := [(0, vR 0), (1, vI lag), (2, vI keeps), (3, vI limit)]) (st' := [vI 100, vI 0, vI keeps]) B119_10_14 rfl ?_
    refine r_sIp (args := [vI keeps, vI 0, vI 100]) (rest := []) (pc' := 17) D119_14 rfl ck_10_static_102 TE142 rfl (Nat.le_of_ble_eq_true rfl) ⟨Nat.le_of_ble_eq_true rfl, Nat.le_of_ble_eq_true rfl⟩ (by decide) (dp_0 hd rfl) (k142 E (dp_n hd rfl) H keeps 0 100 (by omega) (by omega) (by omega)) ?_
    intro v16 q21
    obtain ⟨q18, q19, q20⟩ := q21
    refine r_ifc (tgt := 31) (pc' := 20) D119_17 rfl rfl (by unfold inR; omega) (fun (c22 : v16 = 0) => ?_) (fun (c22 : ¬ (v16 = 0)) => ?_)
    · refine s_blx (lv' := [(0, vR 0), (1, vI lag), (2, vI keeps), (3, vI limit)]) (st' := [vI (-1), vR 0]) B119_31_33 rfl ?_
      refine r_vI (c := 0) (args := [vI (-1)]) (rest := []) (pc' := 36) D119_33 rfl ck_10_virtual_106 TE133 rfl (Nat.le_of_ble_eq_true rfl) ⟨Nat.le_of_ble_eq_true rfl, Nat.le_of_ble_eq_true rfl⟩ sc_0 ⟨rfl, by decide⟩ H.1 (dp_0 hd rfl) (k133 E (dp_n hd rfl) H (-1) (by omega)) ?_
      intro v23 M24 q28
      obtain ⟨H25, f26, q27⟩ := q28
      have f29 := f0.tr (f26.up rfl)
      have kfr := f26
      have g30 : gi M24 0 9 = gi M 0 9 := (f26.g rfl).trans (rfl)
      exact r_iretI D119_36 rfl (⟨H25, f29, by omega, Or.inr (Or.inr ⟨fun h => by unfold BV at h; omega, by omega, kfr⟩)⟩)
    · refine s_blx (lv' := [(0, vR 0), (1, vI lag), (2, vI keeps), (3, vI limit)]) (st' := [vI 300, vI 0, vI limit]) B119_20_25 rfl ?_
      refine r_sIp (args := [vI limit, vI 0, vI 300]) (rest := []) (pc' := 28) D119_25 rfl ck_10_static_102 TE142 rfl (Nat.le_of_ble_eq_true rfl) ⟨Nat.le_of_ble_eq_true rfl, Nat.le_of_ble_eq_true rfl⟩ (by decide) (dp_0 hd rfl) (k142 E (dp_n hd rfl) H limit 0 300 (by omega) (by omega) (by omega)) ?_
      intro v31 q36
      obtain ⟨q33, q34, q35⟩ := q36
      refine r_ifc (tgt := 37) (pc' := 31) D119_28 rfl rfl (by unfold inR; omega) (fun (c37 : v31 ≠ 0) => ?_) (fun (c37 : ¬ (v31 ≠ 0)) => ?_)
      · refine s_blx (lv' := [(0, vR 0), (1, vI lag), (2, vI keeps), (3, vI limit)]) (st' := [vR 0]) B119_37_38 rfl ?_
        refine r_gfix (r := 1) (pc' := 41) D119_38 rfl gf_10_10_0 H.1 ?_
        refine r_gint (ki := 14) (pc' := 44) D119_41 rfl gf_10_279_1 rfl H.1 ?_
        intro w38 e39 r40
        have b_w38 := H.2 1 (14) 0 6 rfl
        rw [← e39] at b_w38; clear r40
        refine s_blx (lv' := [(0, vR 0), (1, vI lag), (2, vI keeps), (3, vI limit)]) (st' := [vI 6, vI w38]) B119_44_46 rfl ?_
        refine r_icmp (tgt := 56) (pc' := 49) D119_46 rfl rfl (by unfold inR; omega) (fun (c41 : w38 < 6) => ?_) (fun (c41 : ¬ (w38 < 6)) => ?_)
        · refine s_blx (lv' := [(0, vR 0), (1, vI lag), (2, vI keeps), (3, vI limit)]) (st' := [vR 0, vR 0]) B119_56_58 rfl ?_
          refine r_gfix (r := 1) (pc' := 61) D119_58 rfl gf_10_10_0 H.1 ?_
          refine s_blx (lv' := [(0, vR 0), (1, vI lag), (2, vI keeps), (3, vI limit)]) (st' := [vI limit, vI keeps, vI lag, vR 1, vR 0]) B119_61_64 rfl ?_
          have g42 : gi M 1 14 = w38 := e39.symm
          refine r_vI (c := 1) (args := [vI lag, vI keeps, vI limit]) (rest := [vR 0]) (pc' := 67) D119_64 rfl ck_10_virtual_282 TE63 rfl (Nat.le_of_ble_eq_true rfl) ⟨Nat.le_of_ble_eq_true rfl, Nat.le_of_ble_eq_true rfl⟩ sc_1 ⟨rfl, by decide⟩ H.1 (dp_0 hd rfl) (k63_1n E (dp_n hd rfl) H lag keeps limit (by omega) (by omega) (by omega) (by omega)) ?_
          intro v43 M44 q50
          obtain ⟨H45, f46, q47, q48, q49⟩ := q50
          have f51 := f0.tr (f46.up rfl)
          have kw4 := q49
          refine r_vI (c := 0) (args := [vI v43]) (rest := []) (pc' := 70) D119_67 rfl ck_10_virtual_123 TE134 rfl (Nat.le_of_ble_eq_true rfl) ⟨Nat.le_of_ble_eq_true rfl, Nat.le_of_ble_eq_true rfl⟩ sc_0 ⟨rfl, by decide⟩ H45.1 (dp_0 hd rfl) (k134s E (dp_n hd rfl) H45 v43 (by omega)) ?_
          intro v52 M53 q58
          obtain ⟨H54, f55, q56, q57⟩ := q58
          have f59 := f51.tr (f55.up rfl)
          have kfa := f55
          have g60 : gi M53 0 9 = 1 := q57
          exact r_iretI D119_70 rfl (⟨H54, f59, by omega, Or.inl ⟨by unfold BV; omega, by omega, by omega, ⟨_, kw4, kfa⟩⟩⟩)
        · refine s_blx (lv' := [(0, vR 0), (1, vI lag), (2, vI keeps), (3, vI limit)]) (st' := [vI (-5), vR 0]) B119_49_52 rfl ?_
          refine r_vI (c := 0) (args := [vI (-5)]) (rest := []) (pc' := 55) D119_52 rfl ck_10_virtual_106 TE133 rfl (Nat.le_of_ble_eq_true rfl) ⟨Nat.le_of_ble_eq_true rfl, Nat.le_of_ble_eq_true rfl⟩ sc_0 ⟨rfl, by decide⟩ H.1 (dp_0 hd rfl) (k133 E (dp_n hd rfl) H (-5) (by omega)) ?_
          intro v61 M62 q66
          obtain ⟨H63, f64, q65⟩ := q66
          have f67 := f0.tr (f64.up rfl)
          have kfr := f64
          have g68 : gi M62 0 9 = gi M 0 9 := (f64.g rfl).trans (rfl)
          exact r_iretI D119_55 rfl (⟨H63, f67, by omega, Or.inr (Or.inl ⟨by unfold BV; omega, by omega, by omega, kfr⟩)⟩)
      · refine s_blx (lv' := [(0, vR 0), (1, vI lag), (2, vI keeps), (3, vI limit)]) (st' := [vI (-1), vR 0]) B119_31_33 rfl ?_
        refine r_vI (c := 0) (args := [vI (-1)]) (rest := []) (pc' := 36) D119_33 rfl ck_10_virtual_106 TE133 rfl (Nat.le_of_ble_eq_true rfl) ⟨Nat.le_of_ble_eq_true rfl, Nat.le_of_ble_eq_true rfl⟩ sc_0 ⟨rfl, by decide⟩ H.1 (dp_0 hd rfl) (k133 E (dp_n hd rfl) H (-1) (by omega)) ?_
        intro v69 M70 q74
        obtain ⟨H71, f72, q73⟩ := q74
        have f75 := f0.tr (f72.up rfl)
        have kfr := f72
        have g76 : gi M70 0 9 = gi M 0 9 := (f72.g rfl).trans (rfl)
        exact r_iretI D119_36 rfl (⟨H71, f75, by omega, Or.inr (Or.inr ⟨fun h => by unfold BV at h; omega, by omega, kfr⟩)⟩)
