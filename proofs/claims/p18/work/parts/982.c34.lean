
set_option maxRecDepth 4000 in
theorem k134s {base : Nat} {X : Nat → Option mC} {G : Nat → Value} (E : EnvOK base X G) {d : Nat} (hd : 0 ≤ d) {M : mH} (H : HI base M) (answer : Int) (h0 : -2147483648 ≤ answer ∧ answer ≤ 2147483647) : sOk base X G d T134 [vR 0, vI answer] M (pI (fun v M' => HI base M' ∧ Fr [(0, 6), (0, 10)] M M' ∧ (v = answer) ∧ (gi M' 0 9 = 1))) := by
  have f0 : Fr [(0, 6), (0, 10)] M M := Fr.rf
  refine sOk.of (show sRn base X G d T134 0 [(0, vR 0), (1, vI answer)] [] M _ from ?_)
  refine s_blx (lv' := [(0, vR 0), (1, vI answer)]) (st' := [vI 0, vR 0]) B134_0_2 rfl ?_
  refine r_pint (ki := 5) (pc' := 5) D134_2 rfl pf_10_31_0 rfl H (by unfold inR; omega) trivial ?_
  intro M1 u2 H3 p4
  have f5 := f0.wr u2 rfl
  refine s_blx (lv' := [(0, vR 0), (1, vI answer)]) (st' := [vI 1, vR 0]) B134_5_7 rfl ?_
  refine r_pbool (ki := 9) (pc' := 10) D134_7 rfl pf_10_57_0 rfl H3 (by omega) (show 0 ≤ 1 ∧ 1 ≤ 1 by omega) ?_
  intro M6 u7 H8 p9
  have f10 := f5.wr u7 rfl
  refine s_blx (lv' := [(0, vR 0), (1, vI answer)]) (st' := [vI answer]) B134_10_11 rfl ?_
  have g11 : gi M6 0 9 = 1 := p9
  exact r_iretI D134_11 rfl (⟨H8, f10, by omega, by omega⟩)
set_option maxRecDepth 4000 in
theorem k96s {base : Nat} {X : Nat → Option mC} {G : Nat → Value} (E : EnvOK base X G) {d : Nat} (hd : 1 ≤ d) {M : mH} (H : HI base M) (word : Int) (what : Int) (value : Int) (h0 : -2147483648 ≤ word ∧ word ≤ 2147483647) (h1 : -2147483648 ≤ what ∧ what ≤ 2147483647) (h2 : -2147483648 ≤ value ∧ value ≤ 2147483647) : sOk base X G d T96 [vR 0, vI word, vI what, vI value] M (pI (fun v M' => HI base M' ∧ Fr [(0, 6), (0, 10), (2, 0)] M M' ∧ (gi M' 0 9 = 1 ∨ gi M' 0 9 = gi M 0 9))) := by
  have f0 : Fr [(0, 6), (0, 10), (2, 0)] M M := Fr.rf
  refine sOk.of (show sRn base X G d T96 0 [(0, vR 0), (1, vI word), (2, vI what), (3, vI value)] [] M _ from ?_)
  refine s_blx (lv' := [(0, vR 0), (1, vI word), (2, vI what), (3, vI value)]) (st' := [vI 29, vI 0, vI word]) B96_0_4 rfl ?_
  refine r_sIp (args := [vI word, vI 0, vI 29]) (rest := []) (pc' := 7) D96_4 rfl ck_10_static_102 TE142 rfl (Nat.le_of_ble_eq_true rfl) ⟨Nat.le_of_ble_eq_true rfl, Nat.le_of_ble_eq_true rfl⟩ (by decide) (dp_0 hd rfl) (k142 E (dp_n hd rfl) H word 0 29 (by omega) (by omega) (by omega)) ?_
  intro v1 q6
  obtain ⟨q3, q4, q5⟩ := q6
  refine r_ifc (tgt := 19) (pc' := 10) D96_7 rfl rfl (by unfold inR; omega) (fun (c7 : v1 = 0) => ?_) (fun (c7 : ¬ (v1 = 0)) => ?_)
  · refine s_blx (lv' := [(0, vR 0), (1, vI word), (2, vI what), (3, vI value)]) (st' := [vI (-1), vR 0]) B96_19_21 rfl ?_
    refine r_vI (c := 0) (args := [vI (-1)]) (rest := []) (pc' := 24) D96_21 rfl ck_10_virtual_106 TE133 rfl (Nat.le_of_ble_eq_true rfl) ⟨Nat.le_of_ble_eq_true rfl, Nat.le_of_ble_eq_true rfl⟩ sc_0 ⟨rfl, by decide⟩ H.1 (dp_0 hd rfl) (k133 E (dp_n hd rfl) H (-1) (by omega)) ?_
    intro v8 M9 q13
    obtain ⟨H10, f11, q12⟩ := q13
    have f14 := f0.tr (f11.up rfl)
    have g15 : gi M9 0 9 = gi M 0 9 := (f11.g rfl).trans (rfl)
    exact r_iretI D96_24 rfl (⟨H10, f14, by omega⟩)
  · refine s_blx (lv' := [(0, vR 0), (1, vI word), (2, vI what), (3, vI value)]) (st' := [vI 2, vI 0, vI what]) B96_10_13 rfl ?_
    refine r_sIp (args := [vI what, vI 0, vI 2]) (rest := []) (pc' := 16) D96_13 rfl ck_10_static_102 TE142 rfl (Nat.le_of_ble_eq_true rfl) ⟨Nat.le_of_ble_eq_true rfl, Nat.le_of_ble_eq_true rfl⟩ (by decide) (dp_0 hd rfl) (k142 E (dp_n hd rfl) H what 0 2 (by omega) (by omega) (by omega)) ?_
    intro v16 q21
    obtain ⟨q18, q19, q20⟩ := q21
    refine r_ifc (tgt := 25) (pc' := 19) D96_16 rfl rfl (by unfold inR; omega) (fun (c22 : v16 ≠ 0) => ?_) (fun (c22 : ¬ (v16 ≠ 0)) => ?_)
    · refine s_blx (lv' := [(0, vR 0), (1, vI word), (2, vI what), (3, vI value)]) (st' := [vI value]) B96_25_26 rfl ?_
      obtain ⟨u23, f24, g25, g26, h27, k28⟩ := E.1 0 _ rfl
      refine r_gst (pc' := 29) D96_26 rfl st_10_110 g25 ?_
      refine s_blx (lv' := [(0, vR 0), (1, vI word), (2, vI what), (3, vI value)]) (st' := [vI what, vA u23, vI value]) B96_29_30 rfl ?_
      refine r_ialdT (pc' := 31) D96_30 rfl h27 g26 k28 (by first | omega | (show _ ∧ _ ∧ _; simp only [List.length]; omega)) ?_
      intro w29 e30 r31
      have b_w29 := tb_0 (what).toNat (by omega)
      rw [← e30] at b_w29; clear r31
      obtain ⟨u32, f33, g34, g35, h36, k37⟩ := E.1 1 _ rfl
      refine r_gst (pc' := 34) D96_31 rfl st_10_113 g34 ?_
      refine s_blx (lv' := [(0, vR 0), (1, vI word), (2, vI what), (3, vI value)]) (st' := [vI what, vA u32, vI w29, vI value]) B96_34_35 rfl ?_
      refine r_ialdT (pc' := 36) D96_35 rfl h36 g35 k37 (by first | omega | (show _ ∧ _ ∧ _; simp only [List.length]; omega)) ?_
      intro w38 e39 r40
      have b_w38 := tb_1 (what).toNat (by omega)
      rw [← e39] at b_w38; clear r40
      refine r_sIp (args := [vI value, vI w29, vI w38]) (rest := []) (pc' := 39) D96_36 rfl ck_10_static_102 TE142 rfl (Nat.le_of_ble_eq_true rfl) ⟨Nat.le_of_ble_eq_true rfl, Nat.le_of_ble_eq_true rfl⟩ (by decide) (dp_0 hd rfl) (k142 E (dp_n hd rfl) H value w29 w38 (by omega) (by omega) (by omega)) ?_
      intro v41 q46
      obtain ⟨q43, q44, q45⟩ := q46
      refine r_ifc (tgt := 48) (pc' := 42) D96_39 rfl rfl (by unfold inR; omega) (fun (c47 : v41 ≠ 0) => ?_) (fun (c47 : ¬ (v41 ≠ 0)) => ?_)
      · refine s_blx (lv' := [(0, vR 0), (1, vI word), (2, vI what), (3, vI value)]) (st' := [vR 0, vR 0]) B96_48_50 rfl ?_
        refine r_gfix (r := 1) (pc' := 53) D96_50 rfl gf_10_10_0 H.1 ?_
        refine r_gfix (r := 2) (pc' := 56) D96_53 rfl gf_10_116_1 H.1 ?_
        refine s_blx (lv' := [(0, vR 0), (1, vI word), (2, vI what), (3, vI value)]) (st' := [vI value, vI ((what * 30) + word), vR 2, vR 0]) B96_56_63 rfl ?_
        refine r_sI (args := [vR 2, vI ((what * 30) + word), vI value]) (rest := [vR 0]) (pc' := 66) D96_63 rfl ck_10_static_119 TE145 rfl (Nat.le_of_ble_eq_true rfl) ⟨Nat.le_of_ble_eq_true rfl, Nat.le_of_ble_eq_true rfl⟩ (by decide) (dp_0 hd rfl) (k145_2 E (dp_n hd rfl) H ((what * 30) + word) value (by omega) (by omega)) ?_
        intro v48 M49 q53
        obtain ⟨H50, f51, q52⟩ := q53
        have f54 := f0.tr (f51.up rfl)
        refine r_vI (c := 0) (args := [vI v48]) (rest := []) (pc' := 69) D96_66 rfl ck_10_virtual_123 TE134 rfl (Nat.le_of_ble_eq_true rfl) ⟨Nat.le_of_ble_eq_true rfl, Nat.le_of_ble_eq_true rfl⟩ sc_0 ⟨rfl, by decide⟩ H50.1 (dp_0 hd rfl) (k134s E (dp_n hd rfl) H50 v48 (by omega)) ?_
        intro v55 M56 q61
        obtain ⟨H57, f58, q59, q60⟩ := q61
        have f62 := f54.tr (f58.up rfl)
        have g63 : gi M56 0 9 = 1 := q60
        exact r_iretI D96_69 rfl (⟨H57, f62, by omega⟩)
      · refine s_blx (lv' := [(0, vR 0), (1, vI word), (2, vI what), (3, vI value)]) (st' := [vI (-1), vR 0]) B96_42_44 rfl ?_
        refine r_vI (c := 0) (args := [vI (-1)]) (rest := []) (pc' := 47) D96_44 rfl ck_10_virtual_106 TE133 rfl (Nat.le_of_ble_eq_true rfl) ⟨Nat.le_of_ble_eq_true rfl, Nat.le_of_ble_eq_true rfl⟩ sc_0 ⟨rfl, by decide⟩ H.1 (dp_0 hd rfl) (k133 E (dp_n hd rfl) H (-1) (by omega)) ?_
        intro v64 M65 q69
        obtain ⟨H66, f67, q68⟩ := q69
        have f70 := f0.tr (f67.up rfl)
        have g71 : gi M65 0 9 = gi M 0 9 := (f67.g rfl).trans (rfl)
        exact r_iretI D96_47 rfl (⟨H66, f70, by omega⟩)
    · refine s_blx (lv' := [(0, vR 0), (1, vI word), (2, vI what), (3, vI value)]) (st' := [vI (-1), vR 0]) B96_19_21 rfl ?_
      refine r_vI (c := 0) (args := [vI (-1)]) (rest := []) (pc' := 24) D96_21 rfl ck_10_virtual_106 TE133 rfl (Nat.le_of_ble_eq_true rfl) ⟨Nat.le_of_ble_eq_true rfl, Nat.le_of_ble_eq_true rfl⟩ sc_0 ⟨rfl, by decide⟩ H.1 (dp_0 hd rfl) (k133 E (dp_n hd rfl) H (-1) (by omega)) ?_
      intro v72 M73 q77
      obtain ⟨H74, f75, q76⟩ := q77
      have f78 := f0.tr (f75.up rfl)
      have g79 : gi M73 0 9 = gi M 0 9 := (f75.g rfl).trans (rfl)
      exact r_iretI D96_24 rfl (⟨H74, f78, by omega⟩)
set_option maxRecDepth 4000 in
theorem k97s {base : Nat} {X : Nat → Option mC} {G : Nat → Value} (E : EnvOK base X G) {d : Nat} (hd : 1 ≤ d) {M : mH} (H : HI base M) (what : Int) (value : Int) (h0 : -2147483648 ≤ what ∧ what ≤ 2147483647) (h1 : -2147483648 ≤ value ∧ value ≤ 2147483647) : sOk base X G d T97 [vR 0, vI what, vI value] M (pI (fun v M' => HI base M' ∧ Fr [(0, 6), (0, 10), (3, 0)] M M' ∧ (gi M' 0 9 = 1 ∨ gi M' 0 9 = gi M 0 9))) := by
  have f0 : Fr [(0, 6), (0, 10), (3, 0)] M M := Fr.rf
  refine sOk.of (show sRn base X G d T97 0 [(0, vR 0), (1, vI what), (2, vI value)] [] M _ from ?_)
  refine s_blx (lv' := [(0, vR 0), (1, vI what), (2, vI value)]) (st' := [vI 8, vI 0, vI what]) B97_0_4 rfl ?_
  refine r_sIp (args := [vI what, vI 0, vI 8]) (rest := []) (pc' := 7) D97_4 rfl ck_10_static_102 TE142 rfl (Nat.le_of_ble_eq_true rfl) ⟨Nat.le_of_ble_eq_true rfl, Nat.le_of_ble_eq_true rfl⟩ (by decide) (dp_0 hd rfl) (k142 E (dp_n hd rfl) H what 0 8 (by omega) (by omega) (by omega)) ?_
  intro v1 q6
  obtain ⟨q3, q4, q5⟩ := q6
  refine r_ifc (tgt := 23) (pc' := 10) D97_7 rfl rfl (by unfold inR; omega) (fun (c7 : v1 = 0) => ?_) (fun (c7 : ¬ (v1 = 0)) => ?_)
  · refine s_blx (lv' := [(0, vR 0), (1, vI what), (2, vI value)]) (st' := [vI (-1), vR 0]) B97_23_25 rfl ?_
    refine r_vI (c := 0) (args := [vI (-1)]) (rest := []) (pc' := 28) D97_25 rfl ck_10_virtual_106 TE133 rfl (Nat.le_of_ble_eq_true rfl) ⟨Nat.le_of_ble_eq_true rfl, Nat.le_of_ble_eq_true rfl⟩ sc_0 ⟨rfl, by decide⟩ H.1 (dp_0 hd rfl) (k133 E (dp_n hd rfl) H (-1) (by omega)) ?_
    intro v8 M9 q13
    obtain ⟨H10, f11, q12⟩ := q13
    have f14 := f0.tr (f11.up rfl)
    have g15 : gi M9 0 9 = gi M 0 9 := (f11.g rfl).trans (rfl)
    exact r_iretI D97_28 rfl (⟨H10, f14, by omega⟩)
  · refine s_blx (lv' := [(0, vR 0), (1, vI what), (2, vI value)]) (st' := [vI 0, vI value]) B97_10_12 rfl ?_
    obtain ⟨u16, f17, g18, g19, h20, k21⟩ := E.1 2 _ rfl
    refine r_gst (pc' := 15) D97_12 rfl st_10_126 g18 ?_
    refine s_blx (lv' := [(0, vR 0), (1, vI what), (2, vI value)]) (st' := [vI what, vA u16, vI 0, vI value]) B97_15_16 rfl ?_
    refine r_ialdT (pc' := 17) D97_16 rfl h20 g19 k21 (by first | omega | (show _ ∧ _ ∧ _; simp only [List.length]; omega)) ?_
    intro w22 e23 r24
    have b_w22 := tb_2 (what).toNat (by omega)
    rw [← e23] at b_w22; clear r24
    refine r_sIp (args := [vI value, vI 0, vI w22]) (rest := []) (pc' := 20) D97_17 rfl ck_10_static_102 TE142 rfl (Nat.le_of_ble_eq_true rfl) ⟨Nat.le_of_ble_eq_true rfl, Nat.le_of_ble_eq_true rfl⟩ (by decide) (dp_0 hd rfl) (k142 E (dp_n hd rfl) H value 0 w22 (by omega) (by omega) (by omega)) ?_
    intro v25 q30
    obtain ⟨q27, q28, q29⟩ := q30
    refine r_ifc (tgt := 29) (pc' := 23) D97_20 rfl rfl (by unfold inR; omega) (fun (c31 : v25 ≠ 0) => ?_) (fun (c31 : ¬ (v25 ≠ 0)) => ?_)
    · refine s_blx (lv' := [(0, vR 0), (1, vI what), (2, vI value)]) (st' := [vR 0, vR 0]) B97_29_31 rfl ?_
      refine r_gfix (r := 1) (pc' := 34) D97_31 rfl gf_10_10_0 H.1 ?_
      refine r_gfix (r := 3) (pc' := 37) D97_34 rfl gf_10_129_1 H.1 ?_
      refine s_blx (lv' := [(0, vR 0), (1, vI what), (2, vI value)]) (st' := [vI value, vI what, vR 3, vR 0]) B97_37_39 rfl ?_
      refine r_sI (args := [vR 3, vI what, vI value]) (rest := [vR 0]) (pc' := 42) D97_39 rfl ck_10_static_119 TE145 rfl (Nat.le_of_ble_eq_true rfl) ⟨Nat.le_of_ble_eq_true rfl, Nat.le_of_ble_eq_true rfl⟩ (by decide) (dp_0 hd rfl) (k145_3 E (dp_n hd rfl) H what value (by omega) (by omega)) ?_
      intro v32 M33 q37
      obtain ⟨H34, f35, q36⟩ := q37
      have f38 := f0.tr (f35.up rfl)
      refine r_vI (c := 0) (args := [vI v32]) (rest := []) (pc' := 45) D97_42 rfl ck_10_virtual_123 TE134 rfl (Nat.le_of_ble_eq_true rfl) ⟨Nat.le_of_ble_eq_true rfl, Nat.le_of_ble_eq_true rfl⟩ sc_0 ⟨rfl, by decide⟩ H34.1 (dp_0 hd rfl) (k134s E (dp_n hd rfl) H34 v32 (by omega)) ?_
      intro v39 M40 q45
      obtain ⟨H41, f42, q43, q44⟩ := q45
      have f46 := f38.tr (f42.up rfl)
      have g47 : gi M40 0 9 = 1 := q44
      exact r_iretI D97_45 rfl (⟨H41, f46, by omega⟩)
    · refine s_blx (lv' := [(0, vR 0), (1, vI what), (2, vI value)]) (st' := [vI (-1), vR 0]) B97_23_25 rfl ?_
      refine r_vI (c := 0) (args := [vI (-1)]) (rest := []) (pc' := 28) D97_25 rfl ck_10_virtual_106 TE133 rfl (Nat.le_of_ble_eq_true rfl) ⟨Nat.le_of_ble_eq_true rfl, Nat.le_of_ble_eq_true rfl⟩ sc_0 ⟨rfl, by decide⟩ H.1 (dp_0 hd rfl) (k133 E (dp_n hd rfl) H (-1) (by omega)) ?_
      intro v48 M49 q53
      obtain ⟨H50, f51, q52⟩ := q53
      have f54 := f0.tr (f51.up rfl)
      have g55 : gi M49 0 9 = gi M 0 9 := (f51.g rfl).trans (rfl)
      exact r_iretI D97_28 rfl (⟨H50, f54, by omega⟩)
set_option maxRecDepth 4000 in
theorem k98s {base : Nat} {X : Nat → Option mC} {G : Nat → Value} (E : EnvOK base X G) {d : Nat} (hd : 1 ≤ d) {M : mH} (H : HI base M) (order : Int) (h0 : -2147483648 ≤ order ∧ order ≤ 2147483647) : sOk base X G d T98 [vR 0, vI order] M (pI (fun v M' => HI base M' ∧ Fr [(0, 6), (0, 10), (1, 3)] M M' ∧ (gi M' 0 9 = 1 ∨ gi M' 0 9 = gi M 0 9))) := by
  have f0 : Fr [(0, 6), (0, 10), (1, 3)] M M := Fr.rf
  refine sOk.of (show sRn base X G d T98 0 [(0, vR 0), (1, vI order)] [] M _ from ?_)
  refine s_blx (lv' := [(0, vR 0), (1, vI order)]) (st' := [vI 5, vI 0, vI order]) B98_0_3 rfl ?_
  refine r_sIp (args := [vI order, vI 0, vI 5]) (rest := []) (pc' := 6) D98_3 rfl ck_10_static_102 TE142 rfl (Nat.le_of_ble_eq_true rfl) ⟨Nat.le_of_ble_eq_true rfl, Nat.le_of_ble_eq_true rfl⟩ (by decide) (dp_0 hd rfl) (k142 E (dp_n hd rfl) H order 0 5 (by omega) (by omega) (by omega)) ?_
  intro v1 q6
  obtain ⟨q3, q4, q5⟩ := q6
  refine r_ifc (tgt := 15) (pc' := 9) D98_6 rfl rfl (by unfold inR; omega) (fun (c7 : v1 ≠ 0) => ?_) (fun (c7 : ¬ (v1 ≠ 0)) => ?_)
  · refine s_blx (lv' := [(0, vR 0), (1, vI order)]) (st' := [vR 0]) B98_15_16 rfl ?_
    refine r_gfix (r := 1) (pc' := 19) D98_16 rfl gf_10_10_0 H.1 ?_
    refine r_gint (ki := 2) (pc' := 22) D98_19 rfl gf_10_132_1 rfl H.1 ?_
    intro w8 e9 r10
    have b_w8 := H.2 1 (2) 0 5 rfl
    rw [← e9] at b_w8; clear r10
    refine s_blx (lv' := [(2, vI w8), (0, vR 0), (1, vI order)]) (st' := [vR 0]) B98_22_24 rfl ?_
    refine r_gfix (r := 1) (pc' := 27) D98_24 rfl gf_10_10_0 H.1 ?_
    refine s_blx (lv' := [(2, vI w8), (0, vR 0), (1, vI order)]) (st' := [vI order, vR 1]) B98_27_28 rfl ?_
    refine r_pint (ki := 2) (pc' := 31) D98_28 rfl pf_10_132_1 rfl H (by unfold inR; omega) (show 0 ≤ order ∧ order ≤ 5 by omega) ?_
    intro M11 u12 H13 p14
    have f15 := f0.wr u12 rfl
    refine s_blx (lv' := [(2, vI w8), (0, vR 0), (1, vI order)]) (st' := [vI w8, vR 0]) B98_31_33 rfl ?_
    refine r_vI (c := 0) (args := [vI w8]) (rest := []) (pc' := 36) D98_33 rfl ck_10_virtual_123 TE134 rfl (Nat.le_of_ble_eq_true rfl) ⟨Nat.le_of_ble_eq_true rfl, Nat.le_of_ble_eq_true rfl⟩ sc_0 ⟨rfl, by decide⟩ H13.1 (dp_0 hd rfl) (k134s E (dp_n hd rfl) H13 w8 (by omega)) ?_
    intro v16 M17 q22
    obtain ⟨H18, f19, q20, q21⟩ := q22
    have f23 := f15.tr (f19.up rfl)
    have g24 : gi M17 0 9 = 1 := q21
    exact r_iretI D98_36 rfl (⟨H18, f23, by omega⟩)
  · refine s_blx (lv' := [(0, vR 0), (1, vI order)]) (st' := [vI (-1), vR 0]) B98_9_11 rfl ?_
    refine r_vI (c := 0) (args := [vI (-1)]) (rest := []) (pc' := 14) D98_11 rfl ck_10_virtual_106 TE133 rfl (Nat.le_of_ble_eq_true rfl) ⟨Nat.le_of_ble_eq_true rfl, Nat.le_of_ble_eq_true rfl⟩ sc_0 ⟨rfl, by decide⟩ H.1 (dp_0 hd rfl) (k133 E (dp_n hd rfl) H (-1) (by omega)) ?_
    intro v25 M26 q30
    obtain ⟨H27, f28, q29⟩ := q30
    have f31 := f0.tr (f28.up rfl)
    have g32 : gi M26 0 9 = gi M 0 9 := (f28.g rfl).trans (rfl)
    exact r_iretI D98_14 rfl (⟨H27, f31, by omega⟩)
set_option maxRecDepth 4000 in
theorem k99s {base : Nat} {X : Nat → Option mC} {G : Nat → Value} (E : EnvOK base X G) {d : Nat} (hd : 2 ≤ d) {M : mH} (H : HI base M) (slot : Int) (values : Int) (length : Int) (h0 : -2147483648 ≤ slot ∧ slot ≤ 2147483647) (h1 : -2147483648 ≤ values ∧ values ≤ 2147483647) (h2 : -2147483648 ≤ length ∧ length ≤ 2147483647) : sOk base X G d T99 [vR 0, vI slot, vI values, vI length] M (pI (fun v M' => HI base M' ∧ Fr [(0, 6), (0, 10), (1, 5), (4, 0)] M M' ∧ (gi M' 0 9 = 1 ∨ gi M' 0 9 = gi M 0 9))) := by
  have f0 : Fr [(0, 6), (0, 10), (1, 5), (4, 0)] M M := Fr.rf
  refine sOk.of (show sRn base X G d T99 0 [(0, vR 0), (1, vI slot), (2, vI values), (3, vI length)] [] M _ from ?_)
  refine s_blx (lv' := [(0, vR 0), (1, vI slot), (2, vI values), (3, vI length)]) (st' := [vI slot]) B99_0_1 rfl ?_
  refine r_sIp (args := [vI slot]) (rest := []) (pc' := 4) D99_1 rfl ck_10_static_135 TE143 rfl (Nat.le_of_ble_eq_true rfl) ⟨Nat.le_of_ble_eq_true rfl, Nat.le_of_ble_eq_true rfl⟩ (by decide) (dp_0 hd rfl) (k143 E (dp_n hd rfl) H slot (by omega)) ?_
  intro v1 q5
  obtain ⟨q3, q4⟩ := q5
  refine r_ifc (tgt := 28) (pc' := 7) D99_4 rfl rfl (by unfold inR; omega) (fun (c6 : v1 = 0) => ?_) (fun (c6 : ¬ (v1 = 0)) => ?_)
  · refine s_blx (lv' := [(0, vR 0), (1, vI slot), (2, vI values), (3, vI length)]) (st' := [vI (-1), vR 0]) B99_28_30 rfl ?_
    refine r_vI (c := 0) (args := [vI (-1)]) (rest := []) (pc' := 33) D99_30 rfl ck_10_virtual_106 TE133 rfl (Nat.le_of_ble_eq_true rfl) ⟨Nat.le_of_ble_eq_true rfl, Nat.le_of_ble_eq_true rfl⟩ sc_0 ⟨rfl, by decide⟩ H.1 (dp_0 hd rfl) (k133 E (dp_n hd rfl) H (-1) (by omega)) ?_
    intro v7 M8 q12
    obtain ⟨H9, f10, q11⟩ := q12
    have f13 := f0.tr (f10.up rfl)
    have g14 : gi M8 0 9 = gi M 0 9 := (f10.g rfl).trans (rfl)
    exact r_iretI D99_33 rfl (⟨H9, f13, by omega⟩)
  · refine s_blx (lv' := [(0, vR 0), (1, vI slot), (2, vI values), (3, vI length)]) (st' := [vI 255, vI 1, vI values]) B99_7_12 rfl ?_
    refine r_sIp (args := [vI values, vI 1, vI 255]) (rest := []) (pc' := 15) D99_12 rfl ck_10_static_102 TE142 rfl (Nat.le_of_ble_eq_true rfl) ⟨Nat.le_of_ble_eq_true rfl, Nat.le_of_ble_eq_true rfl⟩ (by decide) (dp_0 hd rfl) (k142 E (dp_n hd rfl) H values 1 255 (by omega) (by omega) (by omega)) ?_
    intro v15 q20
    obtain ⟨q17, q18, q19⟩ := q20
    refine r_ifc (tgt := 28) (pc' := 18) D99_15 rfl rfl (by unfold inR; omega) (fun (c21 : v15 = 0) => ?_) (fun (c21 : ¬ (v15 = 0)) => ?_)
    · refine s_blx (lv' := [(0, vR 0), (1, vI slot), (2, vI values), (3, vI length)]) (st' := [vI (-1), vR 0]) B99_28_30 rfl ?_
      refine r_vI (c := 0) (args := [vI (-1)]) (rest := []) (pc' := 33) D99_30 rfl ck_10_virtual_106 TE133 rfl (Nat.le_of_ble_eq_true rfl) ⟨Nat.le_of_ble_eq_true rfl, Nat.le_of_ble_eq_true rfl⟩ sc_0 ⟨rfl, by decide⟩ H.1 (dp_0 hd rfl) (k133 E (dp_n hd rfl) H (-1) (by omega)) ?_
      intro v22 M23 q27
      obtain ⟨H24, f25, q26⟩ := q27
      have f28 := f0.tr (f25.up rfl)
      have g29 : gi M23 0 9 = gi M 0 9 := (f25.g rfl).trans (rfl)
      exact r_iretI D99_33 rfl (⟨H24, f28, by omega⟩)
    · refine s_blx (lv' := [(0, vR 0), (1, vI slot), (2, vI values), (3, vI length)]) (st' := [vI 9, vI 1, vI length]) B99_18_22 rfl ?_
      refine r_sIp (args := [vI length, vI 1, vI 9]) (rest := []) (pc' := 25) D99_22 rfl ck_10_static_102 TE142 rfl (Nat.le_of_ble_eq_true rfl) ⟨Nat.le_of_ble_eq_true rfl, Nat.le_of_ble_eq_true rfl⟩ (by decide) (dp_0 hd rfl) (k142 E (dp_n hd rfl) H length 1 9 (by omega) (by omega) (by omega)) ?_
      intro v30 q35
      obtain ⟨q32, q33, q34⟩ := q35
      refine r_ifc (tgt := 34) (pc' := 28) D99_25 rfl rfl (by unfold inR; omega) (fun (c36 : v30 ≠ 0) => ?_) (fun (c36 : ¬ (v30 ≠ 0)) => ?_)
      · refine s_blx (lv' := [(0, vR 0), (1, vI slot), (2, vI values), (3, vI length)]) (st' := [vR 0]) B99_34_35 rfl ?_
        refine r_gfix (r := 1) (pc' := 38) D99_35 rfl gf_10_10_0 H.1 ?_
        refine r_gint (ki := 4) (pc' := 41) D99_38 rfl gf_10_139_1 rfl H.1 ?_
        intro w37 e38 r39
        have b_w37 := H.2 1 (4) 0 12 rfl
        rw [← e38] at b_w37; clear r39
        refine s_blx (lv' := [(0, vR 0), (1, vI slot), (2, vI values), (3, vI length)]) (st' := [vI 12, vI w37]) B99_41_43 rfl ?_
        refine r_icmp (tgt := 53) (pc' := 46) D99_43 rfl rfl (by unfold inR; omega) (fun (c40 : w37 < 12) => ?_) (fun (c40 : ¬ (w37 < 12)) => ?_)
        · refine s_blx (lv' := [(0, vR 0), (1, vI slot), (2, vI values), (3, vI length)]) (st' := [vR 0, vR 0]) B99_53_55 rfl ?_
          refine r_gfix (r := 1) (pc' := 58) D99_55 rfl gf_10_10_0 H.1 ?_
          refine s_blx (lv' := [(0, vR 0), (1, vI slot), (2, vI values), (3, vI length)]) (st' := [vI length, vI values, vI slot, vR 1, vR 0]) B99_58_61 rfl ?_
          have g41 : gi M 1 4 = w37 := e38.symm
          refine r_vI (c := 1) (args := [vI slot, vI values, vI length]) (rest := [vR 0]) (pc' := 64) D99_61 rfl ck_10_virtual_142 TE59 rfl (Nat.le_of_ble_eq_true rfl) ⟨Nat.le_of_ble_eq_true rfl, Nat.le_of_ble_eq_true rfl⟩ sc_1 ⟨rfl, by decide⟩ H.1 (dp_0 hd rfl) (k59_1 E (dp_n hd rfl) H slot values length (by omega) (by omega) (by omega) (by omega)) ?_
          intro v42 M43 q47
          obtain ⟨H44, f45, q46⟩ := q47
          have f48 := f0.tr (f45.up rfl)
          refine r_vI (c := 0) (args := [vI v42]) (rest := []) (pc' := 67) D99_64 rfl ck_10_virtual_123 TE134 rfl (Nat.le_of_ble_eq_true rfl) ⟨Nat.le_of_ble_eq_true rfl, Nat.le_of_ble_eq_true rfl⟩ sc_0 ⟨rfl, by decide⟩ H44.1 (dp_0 hd rfl) (k134s E (dp_n hd rfl) H44 v42 (by omega)) ?_
          intro v49 M50 q55
          obtain ⟨H51, f52, q53, q54⟩ := q55
          have f56 := f48.tr (f52.up rfl)
          have g57 : gi M50 0 9 = 1 := q54
          exact r_iretI D99_67 rfl (⟨H51, f56, by omega⟩)
        · refine s_blx (lv' := [(0, vR 0), (1, vI slot), (2, vI values), (3, vI length)]) (st' := [vI (-5), vR 0]) B99_46_49 rfl ?_
          refine r_vI (c := 0) (args := [vI (-5)]) (rest := []) (pc' := 52) D99_49 rfl ck_10_virtual_106 TE133 rfl (Nat.le_of_ble_eq_true rfl) ⟨Nat.le_of_ble_eq_true rfl, Nat.le_of_ble_eq_true rfl⟩ sc_0 ⟨rfl, by decide⟩ H.1 (dp_0 hd rfl) (k133 E (dp_n hd rfl) H (-5) (by omega)) ?_
          intro v58 M59 q63
          obtain ⟨H60, f61, q62⟩ := q63
          have f64 := f0.tr (f61.up rfl)
          have g65 : gi M59 0 9 = gi M 0 9 := (f61.g rfl).trans (rfl)
          exact r_iretI D99_52 rfl (⟨H60, f64, by omega⟩)
      · refine s_blx (lv' := [(0, vR 0), (1, vI slot), (2, vI values), (3, vI length)]) (st' := [vI (-1), vR 0]) B99_28_30 rfl ?_
        refine r_vI (c := 0) (args := [vI (-1)]) (rest := []) (pc' := 33) D99_30 rfl ck_10_virtual_106 TE133 rfl (Nat.le_of_ble_eq_true rfl) ⟨Nat.le_of_ble_eq_true rfl, Nat.le_of_ble_eq_true rfl⟩ sc_0 ⟨rfl, by decide⟩ H.1 (dp_0 hd rfl) (k133 E (dp_n hd rfl) H (-1) (by omega)) ?_
        intro v66 M67 q71
        obtain ⟨H68, f69, q70⟩ := q71
        have f72 := f0.tr (f69.up rfl)
        have g73 : gi M67 0 9 = gi M 0 9 := (f69.g rfl).trans (rfl)
        exact r_iretI D99_33 rfl (⟨H68, f72, by omega⟩)
set_option maxRecDepth 4000 in
theorem k100s {base : Nat} {X : Nat → Option mC} {G : Nat → Value} (E : EnvOK base X G) {d : Nat} (hd : 1 ≤ d) {M : mH} (H : HI base M) (speaker : Int) (h0 : -2147483648 ≤ speaker ∧ speaker ≤ 2147483647) : sOk base X G d T100 [vR 0, vI speaker] M (pI (fun v M' => HI base M' ∧ Fr [(0, 6), (0, 10), (1, 6)] M M' ∧ (gi M' 0 9 = 1 ∨ gi M' 0 9 = gi M 0 9))) := by
  have f0 : Fr [(0, 6), (0, 10), (1, 6)] M M := Fr.rf
  refine sOk.of (show sRn base X G d T100 0 [(0, vR 0), (1, vI speaker)] [] M _ from ?_)
  refine s_blx (lv' := [(0, vR 0), (1, vI speaker)]) (st' := [vI 3, vI 0, vI speaker]) B100_0_3 rfl ?_
  refine r_sIp (args := [vI speaker, vI 0, vI 3]) (rest := []) (pc' := 6) D100_3 rfl ck_10_static_102 TE142 rfl (Nat.le_of_ble_eq_true rfl) ⟨Nat.le_of_ble_eq_true rfl, Nat.le_of_ble_eq_true rfl⟩ (by decide) (dp_0 hd rfl) (k142 E (dp_n hd rfl) H speaker 0 3 (by omega) (by omega) (by omega)) ?_
  intro v1 q6
  obtain ⟨q3, q4, q5⟩ := q6
  refine r_ifc (tgt := 15) (pc' := 9) D100_6 rfl rfl (by unfold inR; omega) (fun (c7 : v1 ≠ 0) => ?_) (fun (c7 : ¬ (v1 ≠ 0)) => ?_)
  · refine s_blx (lv' := [(0, vR 0), (1, vI speaker)]) (st' := [vR 0]) B100_15_16 rfl ?_
    refine r_gfix (r := 1) (pc' := 19) D100_16 rfl gf_10_10_0 H.1 ?_
    refine r_gint (ki := 5) (pc' := 22) D100_19 rfl gf_10_146_1 rfl H.1 ?_
    intro w8 e9 r10
    have b_w8 := H.2 1 (5) 0 3 rfl
    rw [← e9] at b_w8; clear r10
    refine s_blx (lv' := [(2, vI w8), (0, vR 0), (1, vI speaker)]) (st' := [vR 0]) B100_22_24 rfl ?_
    refine r_gfix (r := 1) (pc' := 27) D100_24 rfl gf_10_10_0 H.1 ?_
    refine s_blx (lv' := [(2, vI w8), (0, vR 0), (1, vI speaker)]) (st' := [vI speaker, vR 1]) B100_27_28 rfl ?_
    refine r_pint (ki := 5) (pc' := 31) D100_28 rfl pf_10_146_1 rfl H (by unfold inR; omega) (show 0 ≤ speaker ∧ speaker ≤ 3 by omega) ?_
    intro M11 u12 H13 p14
    have f15 := f0.wr u12 rfl
    refine s_blx (lv' := [(2, vI w8), (0, vR 0), (1, vI speaker)]) (st' := [vI w8, vR 0]) B100_31_33 rfl ?_
    refine r_vI (c := 0) (args := [vI w8]) (rest := []) (pc' := 36) D100_33 rfl ck_10_virtual_123 TE134 rfl (Nat.le_of_ble_eq_true rfl) ⟨Nat.le_of_ble_eq_true rfl, Nat.le_of_ble_eq_true rfl⟩ sc_0 ⟨rfl, by decide⟩ H13.1 (dp_0 hd rfl) (k134s E (dp_n hd rfl) H13 w8 (by omega)) ?_
    intro v16 M17 q22
    obtain ⟨H18, f19, q20, q21⟩ := q22
    have f23 := f15.tr (f19.up rfl)
    have g24 : gi M17 0 9 = 1 := q21
    exact r_iretI D100_36 rfl (⟨H18, f23, by omega⟩)
  · refine s_blx (lv' := [(0, vR 0), (1, vI speaker)]) (st' := [vI (-1), vR 0]) B100_9_11 rfl ?_
    refine r_vI (c := 0) (args := [vI (-1)]) (rest := []) (pc' := 14) D100_11 rfl ck_10_virtual_106 TE133 rfl (Nat.le_of_ble_eq_true rfl) ⟨Nat.le_of_ble_eq_true rfl, Nat.le_of_ble_eq_true rfl⟩ sc_0 ⟨rfl, by decide⟩ H.1 (dp_0 hd rfl) (k133 E (dp_n hd rfl) H (-1) (by omega)) ?_
    intro v25 M26 q30
    obtain ⟨H27, f28, q29⟩ := q30
    have f31 := f0.tr (f28.up rfl)
    have g32 : gi M26 0 9 = gi M 0 9 := (f28.g rfl).trans (rfl)
    exact r_iretI D100_14 rfl (⟨H27, f31, by omega⟩)
set_option maxRecDepth 4000 in
theorem k102s {base : Nat} {X : Nat → Option mC} {G : Nat → Value} (E : EnvOK base X G) {d : Nat} (hd : 2 ≤ d) {M : mH} (H : HI base M) (sentence : Int) (speaker : Int) (weight : Int) (h0 : -2147483648 ≤ sentence ∧ sentence ≤ 2147483647) (h1 : -2147483648 ≤ speaker ∧ speaker ≤ 2147483647) (h2 : -2147483648 ≤ weight ∧ weight ≤ 2147483647) : sOk base X G d T102 [vR 0, vI sentence, vI speaker, vI weight] M (pI (fun v M' => HI base M' ∧ Fr [(0, 6), (0, 10), (8, 0)] M M' ∧ (gi M' 0 9 = 1 ∨ gi M' 0 9 = gi M 0 9))) := by
  have f0 : Fr [(0, 6), (0, 10), (8, 0)] M M := Fr.rf
  refine sOk.of (show sRn base X G d T102 0 [(0, vR 0), (1, vI sentence), (2, vI speaker), (3, vI weight)] [] M _ from ?_)
  refine s_blx (lv' := [(0, vR 0), (1, vI sentence), (2, vI speaker), (3, vI weight)]) (st' := [vI 15, vI 0, vI sentence]) B102_0_4 rfl ?_
  refine r_sIp (args := [vI sentence, vI 0, vI 15]) (rest := []) (pc' := 7) D102_4 rfl ck_10_static_102 TE142 rfl (Nat.le_of_ble_eq_true rfl) ⟨Nat.le_of_ble_eq_true rfl, Nat.le_of_ble_eq_true rfl⟩ (by decide) (dp_0 hd rfl) (k142 E (dp_n hd rfl) H sentence 0 15 (by omega) (by omega) (by omega)) ?_
  intro v1 q6
  obtain ⟨q3, q4, q5⟩ := q6
  refine r_ifc (tgt := 29) (pc' := 10) D102_7 rfl rfl (by unfold inR; omega) (fun (c7 : v1 = 0) => ?_) (fun (c7 : ¬ (v1 = 0)) => ?_)
  · refine s_blx (lv' := [(0, vR 0), (1, vI sentence), (2, vI speaker), (3, vI weight)]) (st' := [vI (-1), vR 0]) B102_29_31 rfl ?_
    refine r_vI (c := 0) (args := [vI (-1)]) (rest := []) (pc' := 34) D102_31 rfl ck_10_virtual_106 TE133 rfl (Nat.le_of_ble_eq_true rfl) ⟨Nat.le_of_ble_eq_true rfl, Nat.le_of_ble_eq_true rfl⟩ sc_0 ⟨rfl, by decide⟩ H.1 (dp_0 hd rfl) (k133 E (dp_n hd rfl) H (-1) (by omega)) ?_
    intro v8 M9 q13
    obtain ⟨H10, f11, q12⟩ := q13
    have f14 := f0.tr (f11.up rfl)
    have g15 : gi M9 0 9 = gi M 0 9 := (f11.g rfl).trans (rfl)
    exact r_iretI D102_34 rfl (⟨H10, f14, by omega⟩)
  · refine s_blx (lv' := [(0, vR 0), (1, vI sentence), (2, vI speaker), (3, vI weight)]) (st' := [vI 3, vI 0, vI speaker]) B102_10_13 rfl ?_
    refine r_sIp (args := [vI speaker, vI 0, vI 3]) (rest := []) (pc' := 16) D102_13 rfl ck_10_static_102 TE142 rfl (Nat.le_of_ble_eq_true rfl) ⟨Nat.le_of_ble_eq_true rfl, Nat.le_of_ble_eq_true rfl⟩ (by decide) (dp_0 hd rfl) (k142 E (dp_n hd rfl) H speaker 0 3 (by omega) (by omega) (by omega)) ?_
    intro v16 q21
    obtain ⟨q18, q19, q20⟩ := q21
    refine r_ifc (tgt := 29) (pc' := 19) D102_16 rfl rfl (by unfold inR; omega) (fun (c22 : v16 = 0) => ?_) (fun (c22 : ¬ (v16 = 0)) => ?_)
    · refine s_blx (lv' := [(0, vR 0), (1, vI sentence), (2, vI speaker), (3, vI weight)]) (st' := [vI (-1), vR 0]) B102_29_31 rfl ?_
      refine r_vI (c := 0) (args := [vI (-1)]) (rest := []) (pc' := 34) D102_31 rfl ck_10_virtual_106 TE133 rfl (Nat.le_of_ble_eq_true rfl) ⟨Nat.le_of_ble_eq_true rfl, Nat.le_of_ble_eq_true rfl⟩ sc_0 ⟨rfl, by decide⟩ H.1 (dp_0 hd rfl) (k133 E (dp_n hd rfl) H (-1) (by omega)) ?_
      intro v23 M24 q28
      obtain ⟨H25, f26, q27⟩ := q28
      have f29 := f0.tr (f26.up rfl)
      have g30 : gi M24 0 9 = gi M 0 9 := (f26.g rfl).trans (rfl)
      exact r_iretI D102_34 rfl (⟨H25, f29, by omega⟩)
    · refine s_blx (lv' := [(0, vR 0), (1, vI sentence), (2, vI speaker), (3, vI weight)]) (st' := [vI 100, vI 0, vI weight]) B102_19_23 rfl ?_
      refine r_sIp (args := [vI weight, vI 0, vI 100]) (rest := []) (pc' := 26) D102_23 rfl ck_10_static_102 TE142 rfl (Nat.le_of_ble_eq_true rfl) ⟨Nat.le_of_ble_eq_true rfl, Nat.le_of_ble_eq_true rfl⟩ (by decide) (dp_0 hd rfl) (k142 E (dp_n hd rfl) H weight 0 100 (by omega) (by omega) (by omega)) ?_
      intro v31 q36
      obtain ⟨q33, q34, q35⟩ := q36
      refine r_ifc (tgt := 35) (pc' := 29) D102_26 rfl rfl (by unfold inR; omega) (fun (c37 : v31 ≠ 0) => ?_) (fun (c37 : ¬ (v31 ≠ 0)) => ?_)
      · refine s_blx (lv' := [(0, vR 0), (1, vI sentence), (2, vI speaker), (3, vI weight)]) (st' := [vR 0]) B102_35_36 rfl ?_
        refine r_gfix (r := 1) (pc' := 39) D102_36 rfl gf_10_10_0 H.1 ?_
        refine s_blx (lv' := [(0, vR 0), (1, vI sentence), (2, vI speaker), (3, vI weight)]) (st' := [vI sentence, vR 1]) B102_39_40 rfl ?_
        refine r_vIp (c := 1) (args := [vI sentence]) (rest := []) (pc' := 43) D102_40 rfl ck_10_virtual_174 TE65 rfl (Nat.le_of_ble_eq_true rfl) ⟨Nat.le_of_ble_eq_true rfl, Nat.le_of_ble_eq_true rfl⟩ sc_1 ⟨rfl, by decide⟩ H.1 (dp_0 hd rfl) (k65_1 E (dp_n hd rfl) H sentence (by omega)) ?_
        intro v38 q42
        obtain ⟨q40, q41⟩ := q42
        refine r_ifc (tgt := 53) (pc' := 46) D102_43 rfl rfl (by unfold inR; omega) (fun (c43 : v38 ≠ 0) => ?_) (fun (c43 : ¬ (v38 ≠ 0)) => ?_)
        · refine s_blx (lv' := [(0, vR 0), (1, vI sentence), (2, vI speaker), (3, vI weight)]) (st' := [vR 0, vR 0]) B102_53_55 rfl ?_
          refine r_gfix (r := 1) (pc' := 58) D102_55 rfl gf_10_10_0 H.1 ?_
          refine r_gfix (r := 8) (pc' := 61) D102_58 rfl gf_10_177_1 H.1 ?_
          refine s_blx (lv' := [(0, vR 0), (1, vI sentence), (2, vI speaker), (3, vI weight)]) (st' := [vI weight, vI ((sentence * 4) + speaker), vR 8, vR 0]) B102_61_67 rfl ?_
          refine r_sI (args := [vR 8, vI ((sentence * 4) + speaker), vI weight]) (rest := [vR 0]) (pc' := 70) D102_67 rfl ck_10_static_119 TE145 rfl (Nat.le_of_ble_eq_true rfl) ⟨Nat.le_of_ble_eq_true rfl, Nat.le_of_ble_eq_true rfl⟩ (by decide) (dp_0 hd rfl) (k145_8 E (dp_n hd rfl) H ((sentence * 4) + speaker) weight (by omega) (by omega)) ?_
          intro v44 M45 q49
          obtain ⟨H46, f47, q48⟩ := q49
          have f50 := f0.tr (f47.up rfl)
          refine r_vI (c := 0) (args := [vI v44]) (rest := []) (pc' := 73) D102_70 rfl ck_10_virtual_123 TE134 rfl (Nat.le_of_ble_eq_true rfl) ⟨Nat.le_of_ble_eq_true rfl, Nat.le_of_ble_eq_true rfl⟩ sc_0 ⟨rfl, by decide⟩ H46.1 (dp_0 hd rfl) (k134s E (dp_n hd rfl) H46 v44 (by omega)) ?_
          intro v51 M52 q57
          obtain ⟨H53, f54, q55, q56⟩ := q57
          have f58 := f50.tr (f54.up rfl)
          have g59 : gi M52 0 9 = 1 := q56
          exact r_iretI D102_73 rfl (⟨H53, f58, by omega⟩)
        · refine s_blx (lv' := [(0, vR 0), (1, vI sentence), (2, vI speaker), (3, vI weight)]) (st' := [vI (-2), vR 0]) B102_46_49 rfl ?_
          refine r_vI (c := 0) (args := [vI (-2)]) (rest := []) (pc' := 52) D102_49 rfl ck_10_virtual_106 TE133 rfl (Nat.le_of_ble_eq_true rfl) ⟨Nat.le_of_ble_eq_true rfl, Nat.le_of_ble_eq_true rfl⟩ sc_0 ⟨rfl, by decide⟩ H.1 (dp_0 hd rfl) (k133 E (dp_n hd rfl) H (-2) (by omega)) ?_
          intro v60 M61 q65
          obtain ⟨H62, f63, q64⟩ := q65
          have f66 := f0.tr (f63.up rfl)
          have g67 : gi M61 0 9 = gi M 0 9 := (f63.g rfl).trans (rfl)
          exact r_iretI D102_52 rfl (⟨H62, f66, by omega⟩)
      · refine s_blx (lv' := [(0, vR 0), (1, vI sentence), (2, vI speaker), (3, vI weight)]) (st' := [vI (-1), vR 0]) B102_29_31 rfl ?_
        refine r_vI (c := 0) (args := [vI (-1)]) (rest := []) (pc' := 34) D102_31 rfl ck_10_virtual_106 TE133 rfl (Nat.le_of_ble_eq_true rfl) ⟨Nat.le_of_ble_eq_true rfl, Nat.le_of_ble_eq_true rfl⟩ sc_0 ⟨rfl, by decide⟩ H.1 (dp_0 hd rfl) (k133 E (dp_n hd rfl) H (-1) (by omega)) ?_
        intro v68 M69 q73
        obtain ⟨H70, f71, q72⟩ := q73
        have f74 := f0.tr (f71.up rfl)
        have g75 : gi M69 0 9 = gi M 0 9 := (f71.g rfl).trans (rfl)
        exact r_iretI D102_34 rfl (⟨H70, f74, by omega⟩)
set_option maxRecDepth 4000 in
theorem k119s {base : Nat} {X : Nat → Option mC} {G : Nat → Value} (E : EnvOK base X G) {d : Nat} (hd : 1 ≤ d) {M : mH} (H : HI base M) (lag : Int) (keeps : Int) (limit : Int) (h0 : -2147483648 ≤ lag ∧ lag ≤ 2147483647) (h1 : -2147483648 ≤ keeps ∧ keeps ≤ 2147483647) (h2 : -2147483648 ≤ limit ∧ limit ≤ 2147483647) : sOk base X G d T119 [vR 0, vI lag, vI keeps, vI limit] M (pI (fun v M' => HI base M' ∧ Fr [(0, 6), (0, 10), (1, 15), (10, 0)] M M' ∧ (gi M' 0 9 = 1 ∨ gi M' 0 9 = gi M 0 9))) := by
  have f0 : Fr [(0, 6), (0, 10), (1, 15), (10, 0)] M M := Fr.rf
  refine sOk.of (show sRn base X G d T119 0 [(0, vR 0), (1, vI lag), (2, vI keeps), (3, vI limit)] [] M _ from ?_)
  refine s_blx (lv' := [(0, vR 0), (1, vI lag), (2, vI keeps), (3, vI limit)]) (st' := [vI 60, vI 0, vI lag]) B119_0_4 rfl ?_
  refine r_sIp (args := [vI lag, vI 0, vI 60]) (rest := []) (pc' := 7) D119_4 rfl ck_10_static_102 TE142 rfl (Nat.le_of_ble_eq_true rfl) ⟨Nat.le_of_ble_eq_true rfl, Nat.le_of_ble_eq_true rfl⟩ (by decide) (dp_0 hd rfl) (k142 E (dp_n hd rfl) H lag 0 60 (by omega) (by omega) (by omega)) ?_
  intro v1 q6
  obtain ⟨q3, q4, q5⟩ := q6
  refine r_ifc (tgt := 31) (pc' := 10) D119_7 rfl rfl (by unfold inR; omega) (fun (c7 : v1 = 0) => ?_) (fun (c7 : ¬ (v1 = 0)) => ?_)
  · refine s_blx (lv' := [(0, vR 0), (1, vI lag), (2, vI keeps), (3, vI limit)]) (st' := [vI (-1), vR 0]) B119_31_33 rfl ?_
    refine r_vI (c := 0) (args := [vI (-1)]) (rest := []) (pc' := 36) D119_33 rfl ck_10_virtual_106 TE133 rfl (Nat.le_of_ble_eq_true rfl) ⟨Nat.le_of_ble_eq_true rfl, Nat.le_of_ble_eq_true rfl⟩ sc_0 ⟨rfl, by decide⟩ H.1 (dp_0 hd rfl) (k133 E (dp_n hd rfl) H (-1) (by omega)) ?_
    intro v8 M9 q13
    obtain ⟨H10, f11, q12⟩ := q13
    have f14 := f0.tr (f11.up rfl)
    have g15 : gi M9 0 9 = gi M 0 9 := (f11.g rfl).trans (rfl)
    exact r_iretI D119_36 rfl (⟨H10, f14, by omega⟩)
  · refine s_blx (lv' := [(0, vR 0), (1, vI lag), (2, vI keeps), (3, vI limit)]) (st' := [vI 100, vI 0, vI keeps]) B119_10_14 rfl ?_
    refine r_sIp (args := [vI keeps, vI 0, vI 100]) (rest := []) (pc' := 17) D119_14 rfl ck_10_static_102 TE142 rfl (Nat.le_of_ble_eq_true rfl) ⟨Nat.le_of_ble_eq_true rfl, Nat.le_of_ble_eq_true rfl⟩ (by decide) (dp_0 hd rfl) (k142 E (dp_n hd rfl) H keeps 0 100 (by omega) (by omega) (by omega)) ?_
    intro v16 q21
    obtain ⟨q18, q19, q20⟩ := q21
    refine r_ifc (tgt := 31) (pc' := 20) D119_17 rfl rfl (by unfold inR; omega) (fun (c22 : v16 = 0) => ?_) (fun (c22 : ¬ (v16 = 0)) => ?_)
    · refine s_blx (lv' := [(0, vR 0), (1, vI lag), (2, vI keeps), (3, vI limit)]) (st' := [vI (-1), vR 0]) B119_31_33 rfl ?_
      refine r_vI (c := 0) (args := [vI (-1)]) (rest := []) (pc' := 36) D119_33 rfl ck_10_virtual_106 TE133 rfl (Nat.le_of_ble_eq_true rfl) ⟨Nat.le_of_ble_eq_true rfl, Nat.le_of_ble_eq_true rfl⟩ sc_0 ⟨rfl, by decide⟩ H.1 (dp_0 hd rfl) (k133 E (dp_n hd rfl) H (-1) (by omega)) ?_
      intro v23 M24 q28
      obtain ⟨H25, f26, q27⟩ := q28
      have f29 := f0.tr (f26.up rfl)
      have g30 : gi M24 0 9 = gi M 0 9 := (f26.g rfl).trans (rfl)
      exact r_iretI D119_36 rfl (⟨H25, f29, by omega⟩)
    · refine s_blx (lv' := [(0, vR 0), (1, vI lag), (2, vI keeps), (3, vI limit)]) (st' := [vI 300, vI 0, vI limit]) B119_20_25 rfl ?_
      refine r_sIp (args := [vI limit, vI 0, vI 300]) (rest := []) (pc' := 28) D119_25 rfl ck_10_static_102 TE142 rfl (Nat.le_of_ble_eq_true rfl) ⟨Nat.le_of_ble_eq_true rfl, Nat.le_of_ble_eq_true rfl⟩ (by decide) (dp_0 hd rfl) (k142 E (dp_n hd rfl) H limit 0 300 (by omega) (by omega) (by omega)) ?_
      intro v31 q36
      obtain ⟨q33, q34, q35⟩ := q36
      refine r_ifc (tgt := 37) (pc' := 31) D119_28 rfl rfl (by unfold inR; omega) (fun (c37 : v31 ≠ 0) => ?_) (fun (c37 : ¬ (v31 ≠ 0)) => ?_)
      · refine s_blx (lv' := [(0, vR 0), (1, vI lag), (2, vI keeps), (3, vI limit)]) (st' := [vR 0]) B119_37_38 rfl ?_
        refine r_gfix (r := 1) (pc' := 41) D119_38 rfl gf_10_10_0 H.1 ?_
        refine r_gint (ki := 14) (pc' := 44) D119_41 rfl gf_10_279_1 rfl H.1 ?_
        intro w38 e39 r40
        have b_w38 := H.2 1 (14) 0 6 rfl
        rw [← e39] at b_w38; clear r40
        refine s_blx (lv' := [(0, vR 0), (1, vI lag), (2, vI keeps), (3, vI limit)]) (st' := [vI 6, vI w38]) B119_44_46 rfl ?_
        refine r_icmp (tgt := 56) (pc' := 49) D119_46 rfl rfl (by unfold inR; omega) (fun (c41 : w38 < 6) => ?_) (fun (c41 : ¬ (w38 < 6)) => ?_)
        · refine s_blx (lv' := [(0, vR 0), (1, vI lag), (2, vI keeps), (3, vI limit)]) (st' := [vR 0, vR 0]) B119_56_58 rfl ?_
          refine r_gfix (r := 1) (pc' := 61) D119_58 rfl gf_10_10_0 H.1 ?_
          refine s_blx (lv' := [(0, vR 0), (1, vI lag), (2, vI keeps), (3, vI limit)]) (st' := [vI limit, vI keeps, vI lag, vR 1, vR 0]) B119_61_64 rfl ?_
          have g42 : gi M 1 14 = w38 := e39.symm
          refine r_vI (c := 1) (args := [vI lag, vI keeps, vI limit]) (rest := [vR 0]) (pc' := 67) D119_64 rfl ck_10_virtual_282 TE63 rfl (Nat.le_of_ble_eq_true rfl) ⟨Nat.le_of_ble_eq_true rfl, Nat.le_of_ble_eq_true rfl⟩ sc_1 ⟨rfl, by decide⟩ H.1 (dp_0 hd rfl) (k63_1 E (dp_n hd rfl) H lag keeps limit (by omega) (by omega) (by omega) (by omega)) ?_
          intro v43 M44 q48
          obtain ⟨H45, f46, q47⟩ := q48
          have f49 := f0.tr (f46.up rfl)
          refine r_vI (c := 0) (args := [vI v43]) (rest := []) (pc' := 70) D119_67 rfl ck_10_virtual_123 TE134 rfl (Nat.le_of_ble_eq_true rfl) ⟨Nat.le_of_ble_eq_true rfl, Nat.le_of_ble_eq_true rfl⟩ sc_0 ⟨rfl, by decide⟩ H45.1 (dp_0 hd rfl) (k134s E (dp_n hd rfl) H45 v43 (by omega)) ?_
          intro v50 M51 q56
          obtain ⟨H52, f53, q54, q55⟩ := q56
          have f57 := f49.tr (f53.up rfl)
          have g58 : gi M51 0 9 = 1 := q55
          exact r_iretI D119_70 rfl (⟨H52, f57, by omega⟩)
        · refine s_blx (lv' := [(0, vR 0), (1, vI lag), (2, vI keeps), (3, vI limit)]) (st' := [vI (-5), vR 0]) B119_49_52 rfl ?_
          refine r_vI (c := 0) (args := [vI (-5)]) (rest := []) (pc' := 55) D119_52 rfl ck_10_virtual_106 TE133 rfl (Nat.le_of_ble_eq_true rfl) ⟨Nat.le_of_ble_eq_true rfl, Nat.le_of_ble_eq_true rfl⟩ sc_0 ⟨rfl, by decide⟩ H.1 (dp_0 hd rfl) (k133 E (dp_n hd rfl) H (-5) (by omega)) ?_
          intro v59 M60 q64
          obtain ⟨H61, f62, q63⟩ := q64
          have f65 := f0.tr (f62.up rfl)
          have g66 : gi M60 0 9 = gi M 0 9 := (f62.g rfl).trans (rfl)
          exact r_iretI D119_55 rfl (⟨H61, f65, by omega⟩)
      · refine s_blx (lv' := [(0, vR 0), (1, vI lag), (2, vI keeps), (3, vI limit)]) (st' := [vI (-1), vR 0]) B119_31_33 rfl ?_
        refine r_vI (c := 0) (args := [vI (-1)]) (rest := []) (pc' := 36) D119_33 rfl ck_10_virtual_106 TE133 rfl (Nat.le_of_ble_eq_true rfl) ⟨Nat.le_of_ble_eq_true rfl, Nat.le_of_ble_eq_true rfl⟩ sc_0 ⟨rfl, by decide⟩ H.1 (dp_0 hd rfl) (k133 E (dp_n hd rfl) H (-1) (by omega)) ?_
        intro v67 M68 q72
        obtain ⟨H69, f70, q71⟩ := q72
        have f73 := f0.tr (f70.up rfl)
        have g74 : gi M68 0 9 = gi M 0 9 := (f70.g rfl).trans (rfl)
        exact r_iretI D119_36 rfl (⟨H69, f73, by omega⟩)
set_option maxRecDepth 4000 in
theorem k122s {base : Nat} {X : Nat → Option mC} {G : Nat → Value} (E : EnvOK base X G) {d : Nat} (hd : 1 ≤ d) {M : mH} (H : HI base M) (minute : Int) (cost : Int) (h0 : -2147483648 ≤ minute ∧ minute ≤ 2147483647) (h1 : -2147483648 ≤ cost ∧ cost ≤ 2147483647) : sOk base X G d T122 [vR 0, vI minute, vI cost] M (pI (fun v M' => HI base M' ∧ Fr [(0, 6), (0, 10), (11, 0)] M M' ∧ (gi M' 0 9 = 1 ∨ gi M' 0 9 = gi M 0 9))) := by
  have f0 : Fr [(0, 6), (0, 10), (11, 0)] M M := Fr.rf
  refine sOk.of (show sRn base X G d T122 0 [(0, vR 0), (1, vI minute), (2, vI cost)] [] M _ from ?_)
  refine s_blx (lv' := [(0, vR 0), (1, vI minute), (2, vI cost)]) (st' := [vI 59, vI 0, vI minute]) B122_0_4 rfl ?_
  refine r_sIp (args := [vI minute, vI 0, vI 59]) (rest := []) (pc' := 7) D122_4 rfl ck_10_static_102 TE142 rfl (Nat.le_of_ble_eq_true rfl) ⟨Nat.le_of_ble_eq_true rfl, Nat.le_of_ble_eq_true rfl⟩ (by decide) (dp_0 hd rfl) (k142 E (dp_n hd rfl) H minute 0 59 (by omega) (by omega) (by omega)) ?_
  intro v1 q6
  obtain ⟨q3, q4, q5⟩ := q6
  refine r_ifc (tgt := 21) (pc' := 10) D122_7 rfl rfl (by unfold inR; omega) (fun (c7 : v1 = 0) => ?_) (fun (c7 : ¬ (v1 = 0)) => ?_)
  · refine s_blx (lv' := [(0, vR 0), (1, vI minute), (2, vI cost)]) (st' := [vI (-1), vR 0]) B122_21_23 rfl ?_
    refine r_vI (c := 0) (args := [vI (-1)]) (rest := []) (pc' := 26) D122_23 rfl ck_10_virtual_106 TE133 rfl (Nat.le_of_ble_eq_true rfl) ⟨Nat.le_of_ble_eq_true rfl, Nat.le_of_ble_eq_true rfl⟩ sc_0 ⟨rfl, by decide⟩ H.1 (dp_0 hd rfl) (k133 E (dp_n hd rfl) H (-1) (by omega)) ?_
    intro v8 M9 q13
    obtain ⟨H10, f11, q12⟩ := q13
    have f14 := f0.tr (f11.up rfl)
    have g15 : gi M9 0 9 = gi M 0 9 := (f11.g rfl).trans (rfl)
    exact r_iretI D122_26 rfl (⟨H10, f14, by omega⟩)
  · refine s_blx (lv' := [(0, vR 0), (1, vI minute), (2, vI cost)]) (st' := [vI 1000, vI 0, vI cost]) B122_10_15 rfl ?_
    refine r_sIp (args := [vI cost, vI 0, vI 1000]) (rest := []) (pc' := 18) D122_15 rfl ck_10_static_102 TE142 rfl (Nat.le_of_ble_eq_true rfl) ⟨Nat.le_of_ble_eq_true rfl, Nat.le_of_ble_eq_true rfl⟩ (by decide) (dp_0 hd rfl) (k142 E (dp_n hd rfl) H cost 0 1000 (by omega) (by omega) (by omega)) ?_
    intro v16 q21
    obtain ⟨q18, q19, q20⟩ := q21
    refine r_ifc (tgt := 27) (pc' := 21) D122_18 rfl rfl (by unfold inR; omega) (fun (c22 : v16 ≠ 0) => ?_) (fun (c22 : ¬ (v16 ≠ 0)) => ?_)
    · refine s_blx (lv' := [(0, vR 0), (1, vI minute), (2, vI cost)]) (st' := [vR 0, vR 0]) B122_27_29 rfl ?_
      refine r_gfix (r := 1) (pc' := 32) D122_29 rfl gf_10_10_0 H.1 ?_
      refine r_gfix (r := 11) (pc' := 35) D122_32 rfl gf_10_297_1 H.1 ?_
      refine s_blx (lv' := [(0, vR 0), (1, vI minute), (2, vI cost)]) (st' := [vI cost, vI minute, vR 11, vR 0]) B122_35_37 rfl ?_
      refine r_sI (args := [vR 11, vI minute, vI cost]) (rest := [vR 0]) (pc' := 40) D122_37 rfl ck_10_static_119 TE145 rfl (Nat.le_of_ble_eq_true rfl) ⟨Nat.le_of_ble_eq_true rfl, Nat.le_of_ble_eq_true rfl⟩ (by decide) (dp_0 hd rfl) (k145_11 E (dp_n hd rfl) H minute cost (by omega) (by omega)) ?_
      intro v23 M24 q28
      obtain ⟨H25, f26, q27⟩ := q28
      have f29 := f0.tr (f26.up rfl)
      refine r_vI (c := 0) (args := [vI v23]) (rest := []) (pc' := 43) D122_40 rfl ck_10_virtual_123 TE134 rfl (Nat.le_of_ble_eq_true rfl) ⟨Nat.le_of_ble_eq_true rfl, Nat.le_of_ble_eq_true rfl⟩ sc_0 ⟨rfl, by decide⟩ H25.1 (dp_0 hd rfl) (k134s E (dp_n hd rfl) H25 v23 (by omega)) ?_
      intro v30 M31 q36
      obtain ⟨H32, f33, q34, q35⟩ := q36
      have f37 := f29.tr (f33.up rfl)
      have g38 : gi M31 0 9 = 1 := q35
      exact r_iretI D122_43 rfl (⟨H32, f37, by omega⟩)
    · refine s_blx (lv' := [(0, vR 0), (1, vI minute), (2, vI cost)]) (st' := [vI (-1), vR 0]) B122_21_23 rfl ?_
      refine r_vI (c := 0) (args := [vI (-1)]) (rest := []) (pc' := 26) D122_23 rfl ck_10_virtual_106 TE133 rfl (Nat.le_of_ble_eq_true rfl) ⟨Nat.le_of_ble_eq_true rfl, Nat.le_of_ble_eq_true rfl⟩ sc_0 ⟨rfl, by decide⟩ H.1 (dp_0 hd rfl) (k133 E (dp_n hd rfl) H (-1) (by omega)) ?_
      intro v39 M40 q44
      obtain ⟨H41, f42, q43⟩ := q44
      have f45 := f0.tr (f42.up rfl)
      have g46 : gi M40 0 9 = gi M 0 9 := (f42.g rfl).trans (rfl)
      exact r_iretI D122_26 rfl (⟨H41, f45, by omega⟩)
set_option maxRecDepth 4000 in
theorem k101s {base : Nat} {X : Nat → Option mC} {G : Nat → Value} (E : EnvOK base X G) {d : Nat} (hd : 2 ≤ d) {M : mH} (H : HI base M) (a : Int) (b : Int) (c : Int) (h0 : -2147483648 ≤ a ∧ a ≤ 2147483647) (h1 : -2147483648 ≤ b ∧ b ≤ 2147483647) (h2 : -2147483648 ≤ c ∧ c ≤ 2147483647) : sOk base X G d T101 [vR 0, vI a, vI b, vI c] M (pI (fun v M' => HI base M' ∧ Fr [(0, 4), (0, 6), (0, 10), (1, 11), (5, 0), (6, 0), (7, 0), (8, 0)] M M' ∧ (-2147483648 ≤ v ∧ v ≤ 2147483647) ∧ (gi M' 0 9 = 1 ∨ gi M' 0 9 = gi M 0 9))) := by
  have f0 : Fr [(0, 4), (0, 6), (0, 10), (1, 11), (5, 0), (6, 0), (7, 0), (8, 0)] M M := Fr.rf
  refine sOk.of (show sRn base X G d T101 0 [(0, vR 0), (1, vI a), (2, vI b), (3, vI c)] [] M _ from ?_)
  refine s_blx (lv' := [(0, vR 0), (1, vI a), (2, vI b), (3, vI c)]) (st' := [vR 0]) B101_0_1 rfl ?_
  refine r_vI (c := 0) (args := []) (rest := []) (pc' := 4) D101_1 rfl ck_10_virtual_149 TE135 rfl (Nat.le_of_ble_eq_true rfl) ⟨Nat.le_of_ble_eq_true rfl, Nat.le_of_ble_eq_true rfl⟩ sc_0 ⟨rfl, by decide⟩ H.1 (dp_0 hd rfl) (k135 E (dp_n hd rfl) H ) ?_
  intro v1 M2 q6
  obtain ⟨H3, f4, q5⟩ := q6
  have f7 := f0.tr (f4.up rfl)
  refine s_blx (lv' := [(4, vI v1), (0, vR 0), (1, vI a), (2, vI b), (3, vI c)]) (st' := [vI a]) B101_4_7 rfl ?_
  refine r_sIp (args := [vI a]) (rest := []) (pc' := 10) D101_7 rfl ck_10_static_153 TE144 rfl (Nat.le_of_ble_eq_true rfl) ⟨Nat.le_of_ble_eq_true rfl, Nat.le_of_ble_eq_true rfl⟩ (by decide) (dp_0 hd rfl) (k144 E (dp_n hd rfl) H3 a (by omega)) ?_
  intro v8 q12
  obtain ⟨q10, q11⟩ := q12
  refine r_ifc (tgt := 27) (pc' := 13) D101_10 rfl rfl (by unfold inR; omega) (fun (c13 : v8 = 0) => ?_) (fun (c13 : ¬ (v8 = 0)) => ?_)
  · refine s_blx (lv' := [(4, vI v1), (0, vR 0), (1, vI a), (2, vI b), (3, vI c)]) (st' := [vI (-1), vR 0]) B101_27_29 rfl ?_
    refine r_vI (c := 0) (args := [vI (-1)]) (rest := []) (pc' := 32) D101_29 rfl ck_10_virtual_106 TE133 rfl (Nat.le_of_ble_eq_true rfl) ⟨Nat.le_of_ble_eq_true rfl, Nat.le_of_ble_eq_true rfl⟩ sc_0 ⟨rfl, by decide⟩ H3.1 (dp_0 hd rfl) (k133 E (dp_n hd rfl) H3 (-1) (by omega)) ?_
    intro v14 M15 q19
    obtain ⟨H16, f17, q18⟩ := q19
    have f20 := f7.tr (f17.up rfl)
    have g21 : gi M15 0 9 = gi M 0 9 := (f17.g rfl).trans ((f4.g rfl).trans (rfl))
    exact r_iretI D101_32 rfl (⟨H16, f20, by omega, by rw [g21]; omega⟩)
  · refine s_blx (lv' := [(4, vI v1), (0, vR 0), (1, vI a), (2, vI b), (3, vI c)]) (st' := [vI b]) B101_13_14 rfl ?_
    refine r_sIp (args := [vI b]) (rest := []) (pc' := 17) D101_14 rfl ck_10_static_153 TE144 rfl (Nat.le_of_ble_eq_true rfl) ⟨Nat.le_of_ble_eq_true rfl, Nat.le_of_ble_eq_true rfl⟩ (by decide) (dp_0 hd rfl) (k144 E (dp_n hd rfl) H3 b (by omega)) ?_
    intro v22 q26
    obtain ⟨q24, q25⟩ := q26
    refine r_ifc (tgt := 27) (pc' := 20) D101_17 rfl rfl (by unfold inR; omega) (fun (c27 : v22 = 0) => ?_) (fun (c27 : ¬ (v22 = 0)) => ?_)
    · refine s_blx (lv' := [(4, vI v1), (0, vR 0), (1, vI a), (2, vI b), (3, vI c)]) (st' := [vI (-1), vR 0]) B101_27_29 rfl ?_
      refine r_vI (c := 0) (args := [vI (-1)]) (rest := []) (pc' := 32) D101_29 rfl ck_10_virtual_106 TE133 rfl (Nat.le_of_ble_eq_true rfl) ⟨Nat.le_of_ble_eq_true rfl, Nat.le_of_ble_eq_true rfl⟩ sc_0 ⟨rfl, by decide⟩ H3.1 (dp_0 hd rfl) (k133 E (dp_n hd rfl) H3 (-1) (by omega)) ?_
      intro v28 M29 q33
      obtain ⟨H30, f31, q32⟩ := q33
      have f34 := f7.tr (f31.up rfl)
      have g35 : gi M29 0 9 = gi M 0 9 := (f31.g rfl).trans ((f4.g rfl).trans (rfl))
      exact r_iretI D101_32 rfl (⟨H30, f34, by omega, by rw [g35]; omega⟩)
    · refine s_blx (lv' := [(4, vI v1), (0, vR 0), (1, vI a), (2, vI b), (3, vI c)]) (st' := [vI c]) B101_20_21 rfl ?_
      refine r_sIp (args := [vI c]) (rest := []) (pc' := 24) D101_21 rfl ck_10_static_153 TE144 rfl (Nat.le_of_ble_eq_true rfl) ⟨Nat.le_of_ble_eq_true rfl, Nat.le_of_ble_eq_true rfl⟩ (by decide) (dp_0 hd rfl) (k144 E (dp_n hd rfl) H3 c (by omega)) ?_
      intro v36 q40
      obtain ⟨q38, q39⟩ := q40
      refine r_ifc (tgt := 33) (pc' := 27) D101_24 rfl rfl (by unfold inR; omega) (fun (c41 : v36 ≠ 0) => ?_) (fun (c41 : ¬ (v36 ≠ 0)) => ?_)
      · refine s_blx (lv' := [(4, vI v1), (0, vR 0), (1, vI a), (2, vI b), (3, vI c)]) (st' := [vI v1, vR 0]) B101_33_36 rfl ?_
        refine r_vIp (c := 0) (args := [vI v1]) (rest := []) (pc' := 39) D101_36 rfl ck_10_virtual_156 TE137 rfl (Nat.le_of_ble_eq_true rfl) ⟨Nat.le_of_ble_eq_true rfl, Nat.le_of_ble_eq_true rfl⟩ sc_0 ⟨rfl, by decide⟩ H3.1 (dp_0 hd rfl) (k137k E (dp_n hd rfl) H3 v1 (by omega)) ?_
        intro v42 q47
        obtain ⟨q44, q45, q46⟩ := q47
        have ktc := q46; clear q46
        refine r_ifc (tgt := 49) (pc' := 42) D101_39 rfl rfl (by unfold inR; omega) (fun (c48 : v42 ≠ 0) => ?_) (fun (c48 : ¬ (v42 ≠ 0)) => ?_)
        · refine s_blx (lv' := [(4, vI v1), (0, vR 0), (1, vI a), (2, vI b), (3, vI c)]) (st' := [vR 0]) B101_49_50 rfl ?_
          refine r_gfix (r := 1) (pc' := 53) D101_50 rfl gf_10_10_0 H3.1 ?_
          refine s_blx (lv' := [(4, vI v1), (0, vR 0), (1, vI a), (2, vI b), (3, vI c)]) (st' := [vR 0, vR 1]) B101_53_54 rfl ?_
          refine r_gfix (r := 13) (pc' := 57) D101_54 rfl gf_10_20_0 H3.1 ?_
          refine s_blx (lv' := [(4, vI v1), (0, vR 0), (1, vI a), (2, vI b), (3, vI c)]) (st' := [vI v1, vR 13, vR 1]) B101_57_59 rfl ?_
          refine r_vIp (c := 1) (args := [vR 13, vI v1]) (rest := []) (pc' := 62) D101_59 rfl ck_10_virtual_159 TE64 rfl (Nat.le_of_ble_eq_true rfl) ⟨Nat.le_of_ble_eq_true rfl, Nat.le_of_ble_eq_true rfl⟩ sc_1 ⟨rfl, by decide⟩ H3.1 (dp_0 hd rfl) (k64_1_13 E (dp_n hd rfl) H3 v1 (by omega)) ?_
          intro v49 q52
          have q51 := q52; clear q52
          refine r_ifc (tgt := 72) (pc' := 65) D101_62 rfl rfl (by unfold inR; omega) (fun (c53 : v49 = 0) => ?_) (fun (c53 : ¬ (v49 = 0)) => ?_)
          · refine s_blx (lv' := [(4, vI v1), (0, vR 0), (1, vI a), (2, vI b), (3, vI c)]) (st' := [vR 0]) B101_72_73 rfl ?_
            refine r_gfix (r := 1) (pc' := 76) D101_73 rfl gf_10_10_0 H3.1 ?_
            refine r_gint (ki := 10) (pc' := 79) D101_76 rfl gf_10_163_1 rfl H3.1 ?_
            intro w54 e55 r56
            have b_w54 := H3.2 1 (10) 0 16 rfl
            rw [← e55] at b_w54; clear r56
            refine s_blx (lv' := [(4, vI v1), (0, vR 0), (1, vI a), (2, vI b), (3, vI c)]) (st' := [vI 16, vI w54]) B101_79_81 rfl ?_
            refine r_icmp (tgt := 91) (pc' := 84) D101_81 rfl rfl (by unfold inR; omega) (fun (c57 : w54 < 16) => ?_) (fun (c57 : ¬ (w54 < 16)) => ?_)
            · refine s_blx (lv' := [(4, vI v1), (0, vR 0), (1, vI a), (2, vI b), (3, vI c)]) (st' := [vR 0]) B101_91_92 rfl ?_
              refine r_gfix (r := 1) (pc' := 95) D101_92 rfl gf_10_10_0 H3.1 ?_
              refine s_blx (lv' := [(4, vI v1), (0, vR 0), (1, vI a), (2, vI b), (3, vI c)]) (st' := [vR 0, vR 1]) B101_95_96 rfl ?_
              refine r_gfix (r := 13) (pc' := 99) D101_96 rfl gf_10_20_0 H3.1 ?_
              refine s_blx (lv' := [(4, vI v1), (0, vR 0), (1, vI a), (2, vI b), (3, vI c)]) (st' := [vI v1, vR 13, vR 1]) B101_99_101 rfl ?_
              have g58 : gi M2 1 10 = w54 := e55.symm
              refine r_vI (c := 1) (args := [vR 13, vI v1]) (rest := []) (pc' := 104) D101_101 rfl ck_10_virtual_166 TE60 rfl (Nat.le_of_ble_eq_true rfl) ⟨Nat.le_of_ble_eq_true rfl, Nat.le_of_ble_eq_true rfl⟩ sc_1 ⟨rfl, by decide⟩ H3.1 (dp_0 hd rfl) (k60_1_13k E (dp_n hd rfl) H3 v1 (ktc (by omega)) (by omega) (by omega)) ?_
              intro v59 M60 q64
              obtain ⟨H61, f62, q63⟩ := q64
              have f65 := f7.tr (f62.up rfl)
              refine s_blx (lv' := [(5, vI v59), (4, vI v1), (0, vR 0), (1, vI a), (2, vI b), (3, vI c)]) (st' := [vR 0]) B101_104_107 rfl ?_
              refine r_gfix (r := 1) (pc' := 110) D101_107 rfl gf_10_10_0 H61.1 ?_
              refine s_blx (lv' := [(5, vI v59), (4, vI v1), (0, vR 0), (1, vI a), (2, vI b), (3, vI c)]) (st' := [vI c, vI b, vI a, vI v59, vR 1]) B101_110_115 rfl ?_
              refine r_vV (c := 1) (args := [vI v59, vI a, vI b, vI c]) (rest := []) (pc' := 118) D101_115 rfl ck_10_virtual_170 TE61 rfl (Nat.le_of_ble_eq_true rfl) ⟨Nat.le_of_ble_eq_true rfl, Nat.le_of_ble_eq_true rfl⟩ sc_1 ⟨rfl, by decide⟩ H61.1 (dp_0 hd rfl) (k61_1 E (dp_n hd rfl) H61 v59 a b c (by omega) (by omega) (by omega) (by omega)) ?_
              intro M67 q70
              obtain ⟨H68, f69⟩ := q70
              have f71 := f65.tr (f69.up rfl)
              refine s_blx (lv' := [(5, vI v59), (4, vI v1), (0, vR 0), (1, vI a), (2, vI b), (3, vI c)]) (st' := [vI v59, vR 0]) B101_118_121 rfl ?_
              refine r_vI (c := 0) (args := [vI v59]) (rest := []) (pc' := 124) D101_121 rfl ck_10_virtual_123 TE134 rfl (Nat.le_of_ble_eq_true rfl) ⟨Nat.le_of_ble_eq_true rfl, Nat.le_of_ble_eq_true rfl⟩ sc_0 ⟨rfl, by decide⟩ H68.1 (dp_0 hd rfl) (k134s E (dp_n hd rfl) H68 v59 (by omega)) ?_
              intro v72 M73 q78
              obtain ⟨H74, f75, q76, q77⟩ := q78
              have f79 := f71.tr (f75.up rfl)
              have g80 : gi M73 0 9 = 1 := q77
              exact r_iretI D101_124 rfl (⟨H74, f79, by omega, by rw [g80]; omega⟩)
            · refine s_blx (lv' := [(4, vI v1), (0, vR 0), (1, vI a), (2, vI b), (3, vI c)]) (st' := [vI (-5), vR 0]) B101_84_87 rfl ?_
              refine r_vI (c := 0) (args := [vI (-5)]) (rest := []) (pc' := 90) D101_87 rfl ck_10_virtual_106 TE133 rfl (Nat.le_of_ble_eq_true rfl) ⟨Nat.le_of_ble_eq_true rfl, Nat.le_of_ble_eq_true rfl⟩ sc_0 ⟨rfl, by decide⟩ H3.1 (dp_0 hd rfl) (k133 E (dp_n hd rfl) H3 (-5) (by omega)) ?_
              intro v81 M82 q86
              obtain ⟨H83, f84, q85⟩ := q86
              have f87 := f7.tr (f84.up rfl)
              have g88 : gi M82 0 9 = gi M 0 9 := (f84.g rfl).trans ((f4.g rfl).trans (rfl))
              exact r_iretI D101_90 rfl (⟨H83, f87, by omega, by rw [g88]; omega⟩)
          · refine s_blx (lv' := [(4, vI v1), (0, vR 0), (1, vI a), (2, vI b), (3, vI c)]) (st' := [vI (-4), vR 0]) B101_65_68 rfl ?_
            refine r_vI (c := 0) (args := [vI (-4)]) (rest := []) (pc' := 71) D101_68 rfl ck_10_virtual_106 TE133 rfl (Nat.le_of_ble_eq_true rfl) ⟨Nat.le_of_ble_eq_true rfl, Nat.le_of_ble_eq_true rfl⟩ sc_0 ⟨rfl, by decide⟩ H3.1 (dp_0 hd rfl) (k133 E (dp_n hd rfl) H3 (-4) (by omega)) ?_
            intro v89 M90 q94
            obtain ⟨H91, f92, q93⟩ := q94
            have f95 := f7.tr (f92.up rfl)
            have g96 : gi M90 0 9 = gi M 0 9 := (f92.g rfl).trans ((f4.g rfl).trans (rfl))
            exact r_iretI D101_71 rfl (⟨H91, f95, by omega, by rw [g96]; omega⟩)
        · refine s_blx (lv' := [(4, vI v1), (0, vR 0), (1, vI a), (2, vI b), (3, vI c)]) (st' := [vI (-6), vR 0]) B101_42_45 rfl ?_
          refine r_vI (c := 0) (args := [vI (-6)]) (rest := []) (pc' := 48) D101_45 rfl ck_10_virtual_106 TE133 rfl (Nat.le_of_ble_eq_true rfl) ⟨Nat.le_of_ble_eq_true rfl, Nat.le_of_ble_eq_true rfl⟩ sc_0 ⟨rfl, by decide⟩ H3.1 (dp_0 hd rfl) (k133 E (dp_n hd rfl) H3 (-6) (by omega)) ?_
          intro v97 M98 q102
          obtain ⟨H99, f100, q101⟩ := q102
          have f103 := f7.tr (f100.up rfl)
          have g104 : gi M98 0 9 = gi M 0 9 := (f100.g rfl).trans ((f4.g rfl).trans (rfl))
          exact r_iretI D101_48 rfl (⟨H99, f103, by omega, by rw [g104]; omega⟩)
      · refine s_blx (lv' := [(4, vI v1), (0, vR 0), (1, vI a), (2, vI b), (3, vI c)]) (st' := [vI (-1), vR 0]) B101_27_29 rfl ?_
        refine r_vI (c := 0) (args := [vI (-1)]) (rest := []) (pc' := 32) D101_29 rfl ck_10_virtual_106 TE133 rfl (Nat.le_of_ble_eq_true rfl) ⟨Nat.le_of_ble_eq_true rfl, Nat.le_of_ble_eq_true rfl⟩ sc_0 ⟨rfl, by decide⟩ H3.1 (dp_0 hd rfl) (k133 E (dp_n hd rfl) H3 (-1) (by omega)) ?_
        intro v105 M106 q110
        obtain ⟨H107, f108, q109⟩ := q110
        have f111 := f7.tr (f108.up rfl)
        have g112 : gi M106 0 9 = gi M 0 9 := (f108.g rfl).trans ((f4.g rfl).trans (rfl))
        exact r_iretI D101_32 rfl (⟨H107, f111, by omega, by rw [g112]; omega⟩)
set_option maxRecDepth 4000 in
theorem k114s {base : Nat} {X : Nat → Option mC} {G : Nat → Value} (E : EnvOK base X G) {d : Nat} (hd : 7 ≤ d) {M : mH} (H : HI base M) (text : Int) (sentence : Int) (h0 : HB base M) (h1 : SF M) (h2 : -2147483648 ≤ text ∧ text ≤ 2147483647) (h3 : -2147483648 ≤ sentence ∧ sentence ≤ 2147483647) : sOk base X G d T114 [vR 0, vI text, vI sentence] M (pI (fun v M' => HI base M' ∧ Fr [(0, 10), (20, 16), (20, 17), (20, 18), (21, 0), (22, 0), (23, 0), (24, 0), (25, 0), (26, 0), (27, 0), (28, 0), (29, 0), (30, 0), (31, 0), (32, 0), (33, 0), (34, 0), (35, 0), (62, 2), (62, 3), (62, 4), (62, 6), (63, 0), (64, 0), (65, 0)] M M' ∧ (-2147483648 ≤ v ∧ v ≤ 2147483647) ∧ (SF M'))) := by
  have f0 : Fr [(0, 10), (20, 16), (20, 17), (20, 18), (21, 0), (22, 0), (23, 0), (24, 0), (25, 0), (26, 0), (27, 0), (28, 0), (29, 0), (30, 0), (31, 0), (32, 0), (33, 0), (34, 0), (35, 0), (62, 2), (62, 3), (62, 4), (62, 6), (63, 0), (64, 0), (65, 0)] M M := Fr.rf
  refine sOk.of (show sRn base X G d T114 0 [(0, vR 0), (1, vI text), (2, vI sentence)] [] M _ from ?_)
  refine s_blx (lv' := [(0, vR 0), (1, vI text), (2, vI sentence)]) (st' := [vR 0]) B114_0_1 rfl ?_
  refine r_gfix (r := 1) (pc' := 4) D114_1 rfl gf_10_10_0 H.1 ?_
  refine s_blx (lv' := [(0, vR 0), (1, vI text), (2, vI sentence)]) (st' := [vI text, vR 1]) B114_4_5 rfl ?_
  refine r_vIp (c := 1) (args := [vI text]) (rest := []) (pc' := 8) D114_5 rfl ck_10_virtual_249 TE66 rfl (Nat.le_of_ble_eq_true rfl) ⟨Nat.le_of_ble_eq_true rfl, Nat.le_of_ble_eq_true rfl⟩ sc_1 ⟨rfl, by decide⟩ H.1 (dp_0 hd rfl) (k66_1x E (dp_n hd rfl) H text (h0) (by omega)) ?_
  intro v1 q5
  obtain ⟨q3, q4⟩ := q5
  refine r_ifc (tgt := 22) (pc' := 11) D114_8 rfl rfl (by unfold inR; omega) (fun (c6 : v1 = 0) => ?_) (fun (c6 : ¬ (v1 = 0)) => ?_)
  · refine s_blx (lv' := [(0, vR 0), (1, vI text), (2, vI sentence)]) (st' := [vI (-1)]) B114_22_23 rfl ?_
    exact r_iretI D114_23 rfl (⟨H, f0, by omega, h1⟩)
  · refine s_blx (lv' := [(0, vR 0), (1, vI text), (2, vI sentence)]) (st' := [vR 0]) B114_11_12 rfl ?_
    refine r_gfix (r := 1) (pc' := 15) D114_12 rfl gf_10_10_0 H.1 ?_
    refine s_blx (lv' := [(0, vR 0), (1, vI text), (2, vI sentence)]) (st' := [vI sentence, vR 1]) B114_15_16 rfl ?_
    refine r_vIp (c := 1) (args := [vI sentence]) (rest := []) (pc' := 19) D114_16 rfl ck_10_virtual_186 TE67 rfl (Nat.le_of_ble_eq_true rfl) ⟨Nat.le_of_ble_eq_true rfl, Nat.le_of_ble_eq_true rfl⟩ sc_1 ⟨rfl, by decide⟩ H.1 (dp_0 hd rfl) (k67_1x E (dp_n hd rfl) H sentence (by omega)) ?_
    intro v7 q13
    obtain ⟨q9, q10, q11, q12⟩ := q13
    refine r_ifc (tgt := 24) (pc' := 22) D114_19 rfl rfl (by unfold inR; omega) (fun (c14 : v7 ≠ 0) => ?_) (fun (c14 : ¬ (v7 ≠ 0)) => ?_)
    · refine s_blx (lv' := [(0, vR 0), (1, vI text), (2, vI sentence)]) (st' := [vR 0]) B114_24_25 rfl ?_
      refine r_vV (c := 0) (args := []) (rest := []) (pc' := 28) D114_25 rfl ck_10_virtual_252 TE138 rfl (Nat.le_of_ble_eq_true rfl) ⟨Nat.le_of_ble_eq_true rfl, Nat.le_of_ble_eq_true rfl⟩ sc_0 ⟨rfl, by decide⟩ H.1 (dp_0 hd rfl) (k138s E (dp_n hd rfl) H (h1)) ?_
      intro M16 q20
      obtain ⟨H17, f18, q19⟩ := q20
      have f21 := f0.tr (f18.up rfl)
      have ktg : TGd M16 := q19
      have ksf : SF M16 := fun _ => ktg
      refine s_blx (lv' := [(0, vR 0), (1, vI text), (2, vI sentence)]) (st' := [vR 0]) B114_28_29 rfl ?_
      refine r_gfix (r := 62) (pc' := 32) D114_29 rfl gf_10_74_0 H17.1 ?_
      refine s_blx (lv' := [(0, vR 0), (1, vI text), (2, vI sentence)]) (st' := [vR 0, vR 62]) B114_32_33 rfl ?_
      refine r_gfix (r := 20) (pc' := 36) D114_33 rfl gf_10_44_0 H17.1 ?_
      refine s_blx (lv' := [(0, vR 0), (1, vI text), (2, vI sentence)]) (st' := [vR 0, vR 20, vR 62]) B114_36_37 rfl ?_
      refine r_gfix (r := 1) (pc' := 40) D114_37 rfl gf_10_10_0 H17.1 ?_
      refine r_gfix (r := 9) (pc' := 43) D114_40 rfl gf_10_255_1 H17.1 ?_
      refine s_blx (lv' := [(0, vR 0), (1, vI text), (2, vI sentence)]) (st' := [vI text, vR 9, vR 20, vR 62]) B114_43_44 rfl ?_
      have b29 := H17.2 1 12 0 8 rfl
      have g30 : gi M16 1 12 = gi M 1 12 := (f18.g rfl).trans (rfl)
      obtain ⟨hb22, nh23, nc24, a25, b26, r27, r28⟩ := ((h0.fr f21 rfl)) (text) (by omega) (by omega)
      refine r_aald (v := vR hb22) (pc' := 45) D114_44 rfl sc_9 (by decide) H17.1 (by omega) a25 ?_
      refine s_blx (lv' := [(0, vR 0), (1, vI text), (2, vI sentence)]) (st' := [vI sentence, vR (hb22), vR 20, vR 62]) B114_45_46 rfl ?_
      refine r_vI (c := 62) (args := [vR 20, vR (hb22), vI sentence]) (rest := []) (pc' := 49) D114_46 rfl ck_10_virtual_259 TE1 rfl (Nat.le_of_ble_eq_true rfl) ⟨Nat.le_of_ble_eq_true rfl, Nat.le_of_ble_eq_true rfl⟩ sc_62 ⟨rfl, by decide⟩ H17.1 (dp_0 hd rfl) (k1_62_20x E (dp_n hd rfl) H17 hb22 sentence nh23 nc24 (b26) (by omega) (by omega) (by omega)) ?_
      intro v31 M32 q36
      obtain ⟨H33, f34, q35⟩ := q36
      have f37 := f21.tr (f34.up rfl)
      have hp38 := ksf.fr f34 (by decide)
      have hp39 := b26.fr f34 (by decide)
      exact r_iretI D114_49 rfl (⟨H33, f37, by omega, hp38⟩)
    · refine s_blx (lv' := [(0, vR 0), (1, vI text), (2, vI sentence)]) (st' := [vI (-1)]) B114_22_23 rfl ?_
      exact r_iretI D114_23 rfl (⟨H, f0, by omega, h1⟩)
set_option maxRecDepth 4000 in
theorem L_k116s {base : Nat} {X : Nat → Option mC} {G : Nat → Value} (E : EnvOK base X G) {d : Nat} (hd : 7 ≤ d) {M : mH} (H : HI base M) (text : Int) (h0 : HB base M) (h1 : SF M) (h2 : -2147483648 ≤ text ∧ text ≤ 2147483647) : ∀ mz : Nat, (∀ (x2 x4 : Int) (N : mH), HI base N → Fr [(0, 10), (20, 16), (20, 17), (20, 18), (21, 0), (22, 0), (23, 0), (24, 0), (25, 0), (26, 0), (27, 0), (28, 0), (29, 0), (30, 0), (31, 0), (32, 0), (33, 0), (34, 0), (35, 0), (58, 2), (58, 3), (58, 4), (58, 6), (59, 0), (60, 0), (61, 0)] M N → (0 ≤ text ∧ text < gi N 1 12) → (SF N) → (0 ≤ x4) → (x4 ≤ 16) → (0 ≤ text) → (text ≤ 2147483647) → (16 - x4) * 1 + 0 < (mz : Int) → sRn base X G d T116 24 [(0, vR 0), (1, vI text), (2, vL x2), (4, vI x4)] [] N (s_Q base (pL (fun v M' => HI base M' ∧ Fr [(0, 10), (20, 16), (20, 17), (20, 18), (21, 0), (22, 0), (23, 0), (24, 0), (25, 0), (26, 0), (27, 0), (28, 0), (29, 0), (30, 0), (31, 0), (32, 0), (33, 0), (34, 0), (35, 0), (58, 2), (58, 3), (58, 4), (58, 6), (59, 0), (60, 0), (61, 0)] M M' ∧ (SF M'))))) := by
  have f0 : Fr [(0, 10), (20, 16), (20, 17), (20, 18), (21, 0), (22, 0), (23, 0), (24, 0), (25, 0), (26, 0), (27, 0), (28, 0), (29, 0), (30, 0), (31, 0), (32, 0), (33, 0), (34, 0), (35, 0), (58, 2), (58, 3), (58, 4), (58, 6), (59, 0), (60, 0), (61, 0)] M M := Fr.rf
  intro mz
  induction mz with
  | zero => exact fun x2 x4 N _ _ z0 z1 z2 z3 z4 z5 z6 => by omega
  | succ mz ih =>
    intro x2 x4 N HN fN i0 i1 i2 i3 i4 i5 hmu
    refine s_blx (lv' := [(0, vR 0), (1, vI text), (2, vL x2), (4, vI x4)]) (st' := [vR 0, vI x4]) B116_24_27 rfl ?_
    refine r_gfix (r := 1) (pc' := 30) D116_27 rfl gf_10_10_0 HN.1 ?_
    refine r_gint (ki := 10) (pc' := 33) D116_30 rfl gf_10_163_1 rfl HN.1 ?_
    intro w15 e16 r17
    have b_w15 := HN.2 1 (10) 0 16 rfl
    rw [← e16] at b_w15; clear r17
    refine r_icmp (tgt := 93) (pc' := 36) D116_33 rfl rfl (by unfold inR; omega) (fun (c18 : w15 ≤ x4) => ?_) (fun (c18 : ¬ (w15 ≤ x4)) => ?_)
    · refine s_blx (lv' := [(0, vR 0), (1, vI text), (2, vL x2), (4, vI x4)]) (st' := [vL x2]) B116_93_94 rfl ?_
      exact r_lretL D116_94 rfl (⟨HN, fN, i1⟩)
    · refine s_blx (lv' := [(0, vR 0), (1, vI text), (2, vL x2), (4, vI x4)]) (st' := [vR 0]) B116_36_37 rfl ?_
      refine r_gfix (r := 1) (pc' := 40) D116_37 rfl gf_10_10_0 HN.1 ?_
      refine s_blx (lv' := [(0, vR 0), (1, vI text), (2, vL x2), (4, vI x4)]) (st' := [vI x4, vR 1]) B116_40_42 rfl ?_
      refine r_vIp (c := 1) (args := [vI x4]) (rest := []) (pc' := 45) D116_42 rfl ck_10_virtual_186 TE67 rfl (Nat.le_of_ble_eq_true rfl) ⟨Nat.le_of_ble_eq_true rfl, Nat.le_of_ble_eq_true rfl⟩ sc_1 ⟨rfl, by decide⟩ HN.1 (dp_0 hd rfl) (k67_1x E (dp_n hd rfl) HN x4 (by omega)) ?_
      intro v19 q25
      obtain ⟨q21, q22, q23, q24⟩ := q25
      refine r_ifc (tgt := 87) (pc' := 48) D116_45 rfl rfl (by unfold inR; omega) (fun (c26 : v19 = 0) => ?_) (fun (c26 : ¬ (v19 = 0)) => ?_)
      · refine s_blx (lv' := [(4, vI (x4 + 1)), (0, vR 0), (1, vI text), (2, vL x2)]) (st' := []) B116_87_90 rfl ?_
        refine r_goto (tgt := 24) D116_90 rfl ?_
        refine r_loc (lv' := [(0, vR 0), (1, vI text), (2, vL x2), (4, vI (x4 + 1))]) ⟨rfl, rfl, rfl, rfl, trivial⟩ rfl rfl ?_
        exact ih x2 (x4 + 1) N HN fN (by omega) (i1) (by omega) (by omega) (by omega) (by omega) (by omega)
      · refine s_blx (lv' := [(0, vR 0), (1, vI text), (2, vL x2), (4, vI x4)]) (st' := [vR 0, vL x2]) B116_48_50 rfl ?_
        refine r_gfix (r := 1) (pc' := 53) D116_50 rfl gf_10_10_0 HN.1 ?_
        refine s_blx (lv' := [(0, vR 0), (1, vI text), (2, vL x2), (4, vI x4)]) (st' := [vI x4, vI 1, vR 1, vL x2]) B116_53_56 rfl ?_
        refine r_bin (pc' := 57) D116_56 rfl rfl ?_
        intro z27 r28 _; unfold inR at r28
        refine r_vIp (c := 1) (args := [vI z27]) (rest := [vL x2]) (pc' := 60) D116_57 rfl ck_10_virtual_201 TE76 rfl (Nat.le_of_ble_eq_true rfl) ⟨Nat.le_of_ble_eq_true rfl, Nat.le_of_ble_eq_true rfl⟩ sc_1 ⟨rfl, by decide⟩ HN.1 (dp_0 hd rfl) (k76_1 E (dp_n hd rfl) HN z27 (by omega)) ?_
        intro v29 q32
        have q31 := q32; clear q32
        refine r_i2l (pc' := 61) D116_60 rfl (by unfold inR; omega) ?_
        refine s_blx (lv' := [(0, vR 0), (1, vI text), (2, vL x2), (4, vI x4)]) (st' := [vR 0, vL v29, vL x2]) B116_61_62 rfl ?_
        refine r_gfix (r := 58) (pc' := 65) D116_62 rfl gf_10_70_0 HN.1 ?_
        refine s_blx (lv' := [(0, vR 0), (1, vI text), (2, vL x2), (4, vI x4)]) (st' := [vR 0, vR 58, vL v29, vL x2]) B116_65_66 rfl ?_
        refine r_gfix (r := 20) (pc' := 69) D116_66 rfl gf_10_44_0 HN.1 ?_
        refine s_blx (lv' := [(0, vR 0), (1, vI text), (2, vL x2), (4, vI x4)]) (st' := [vR 0, vR 20, vR 58, vL v29, vL x2]) B116_69_70 rfl ?_
        refine r_gfix (r := 1) (pc' := 73) D116_70 rfl gf_10_10_0 HN.1 ?_
        refine r_gfix (r := 9) (pc' := 76) D116_73 rfl gf_10_255_1 HN.1 ?_
        refine s_blx (lv' := [(0, vR 0), (1, vI text), (2, vL x2), (4, vI x4)]) (st' := [vI text, vR 9, vR 20, vR 58, vL v29, vL x2]) B116_76_77 rfl ?_
        have b40 := HN.2 1 12 0 8 rfl
        obtain ⟨hb33, nh34, nc35, a36, b37, r38, r39⟩ := ((h0.fr fN rfl)) (text) (by omega) (by omega)
        refine r_aald (v := vR hb33) (pc' := 78) D116_77 rfl sc_9 (by decide) HN.1 (by omega) a36 ?_
        refine s_blx (lv' := [(0, vR 0), (1, vI text), (2, vL x2), (4, vI x4)]) (st' := [vI x4, vR (hb33), vR 20, vR 58, vL v29, vL x2]) B116_78_80 rfl ?_
        refine r_vI (c := 58) (args := [vR 20, vR (hb33), vI x4]) (rest := [vL v29, vL x2]) (pc' := 83) D116_80 rfl ck_10_virtual_259 TE1 rfl (Nat.le_of_ble_eq_true rfl) ⟨Nat.le_of_ble_eq_true rfl, Nat.le_of_ble_eq_true rfl⟩ sc_58 ⟨rfl, by decide⟩ HN.1 (dp_0 hd rfl) (k1_58_20x E (dp_n hd rfl) HN hb33 x4 nh34 nc35 (b37) (by omega) (by omega) (by omega)) ?_
        intro v41 M42 q46
        obtain ⟨H43, f44, q45⟩ := q46
        have f47 := fN.tr (f44.up rfl)
        have hp48 := i1.fr f44 (by decide)
        have hp49 := b37.fr f44 (by decide)
        refine r_i2l (pc' := 84) D116_83 rfl (by unfold inR; omega) ?_
        refine s_blx (lv' := [(4, vI (x4 + 1)), (2, vL (x2 + (v29 * v41))), (0, vR 0), (1, vI text)]) (st' := []) B116_84_90 rfl ?_
        refine r_goto (tgt := 24) D116_90 rfl ?_
        refine r_loc (lv' := [(0, vR 0), (1, vI text), (2, vL (x2 + (v29 * v41))), (4, vI (x4 + 1))]) ⟨rfl, rfl, rfl, rfl, trivial⟩ rfl rfl ?_
        have g50 : gi M42 1 12 = gi N 1 12 := (f44.g rfl).trans (rfl)
        exact ih (x2 + (v29 * v41)) (x4 + 1) M42 H43 f47 (by omega) (hp48) (by omega) (by omega) (by omega) (by omega) (by omega)
set_option maxRecDepth 4000 in
theorem k116s {base : Nat} {X : Nat → Option mC} {G : Nat → Value} (E : EnvOK base X G) {d : Nat} (hd : 7 ≤ d) {M : mH} (H : HI base M) (text : Int) (h0 : HB base M) (h1 : SF M) (h2 : -2147483648 ≤ text ∧ text ≤ 2147483647) : sOk base X G d T116 [vR 0, vI text] M (pL (fun v M' => HI base M' ∧ Fr [(0, 10), (20, 16), (20, 17), (20, 18), (21, 0), (22, 0), (23, 0), (24, 0), (25, 0), (26, 0), (27, 0), (28, 0), (29, 0), (30, 0), (31, 0), (32, 0), (33, 0), (34, 0), (35, 0), (58, 2), (58, 3), (58, 4), (58, 6), (59, 0), (60, 0), (61, 0)] M M' ∧ (SF M'))) := by
  have f0 : Fr [(0, 10), (20, 16), (20, 17), (20, 18), (21, 0), (22, 0), (23, 0), (24, 0), (25, 0), (26, 0), (27, 0), (28, 0), (29, 0), (30, 0), (31, 0), (32, 0), (33, 0), (34, 0), (35, 0), (58, 2), (58, 3), (58, 4), (58, 6), (59, 0), (60, 0), (61, 0)] M M := Fr.rf
  refine sOk.of (show sRn base X G d T116 0 [(0, vR 0), (1, vI text)] [] M _ from ?_)
  refine s_blx (lv' := [(0, vR 0), (1, vI text)]) (st' := [vR 0]) B116_0_1 rfl ?_
  refine r_gfix (r := 1) (pc' := 4) D116_1 rfl gf_10_10_0 H.1 ?_
  refine s_blx (lv' := [(0, vR 0), (1, vI text)]) (st' := [vI text, vR 1]) B116_4_5 rfl ?_
  refine r_vIp (c := 1) (args := [vI text]) (rest := []) (pc' := 8) D116_5 rfl ck_10_virtual_249 TE66 rfl (Nat.le_of_ble_eq_true rfl) ⟨Nat.le_of_ble_eq_true rfl, Nat.le_of_ble_eq_true rfl⟩ sc_1 ⟨rfl, by decide⟩ H.1 (dp_0 hd rfl) (k66_1x E (dp_n hd rfl) H text (h0) (by omega)) ?_
  intro v1 q5
  obtain ⟨q3, q4⟩ := q5
  refine r_ifc (tgt := 15) (pc' := 11) D116_8 rfl rfl (by unfold inR; omega) (fun (c6 : v1 ≠ 0) => ?_) (fun (c6 : ¬ (v1 ≠ 0)) => ?_)
  · refine s_blx (lv' := [(0, vR 0), (1, vI text)]) (st' := [vR 0]) B116_15_16 rfl ?_
    refine r_vV (c := 0) (args := []) (rest := []) (pc' := 19) D116_16 rfl ck_10_virtual_252 TE138 rfl (Nat.le_of_ble_eq_true rfl) ⟨Nat.le_of_ble_eq_true rfl, Nat.le_of_ble_eq_true rfl⟩ sc_0 ⟨rfl, by decide⟩ H.1 (dp_0 hd rfl) (k138s E (dp_n hd rfl) H (h1)) ?_
    intro M8 q12
    obtain ⟨H9, f10, q11⟩ := q12
    have f13 := f0.tr (f10.up rfl)
    have ktg : TGd M8 := q11
    have ksf : SF M8 := fun _ => ktg
    refine s_blx (lv' := [(4, vI 0), (2, vL 0), (0, vR 0), (1, vI text)]) (st' := []) B116_19_24 rfl ?_
    refine r_loc (lv' := [(0, vR 0), (1, vI text), (2, vL 0), (4, vI 0)]) ⟨rfl, rfl, rfl, rfl, trivial⟩ rfl rfl ?_
    have g14 : gi M8 1 12 = gi M 1 12 := (f10.g rfl).trans (rfl)
    exact (L_k116s E hd H text h0 h1 h2 (((16 - 0) * 1 + 0 : Int) + 1).toNat) 0 0 M8 H9 f13 (by omega) (ksf) (by omega) (by omega) (by omega) (by omega) (by omega)
  · refine r_ldc2 (e := (-1)) (pc' := 14) D116_11 rfl cl_10_269 (by decide) ?_
    exact r_lretL D116_14 rfl (⟨H, f0, h1⟩)
set_option maxRecDepth 4000 in
theorem k126s {base : Nat} {X : Nat → Option mC} {G : Nat → Value} (E : EnvOK base X G) {d : Nat} (hd : 7 ≤ d) {M : mH} (H : HI base M) (text : Int) (sentence : Int) (slot : Int) (meant : Int) (third : Int) (h0 : HB base M) (h1 : SF M) (h2 : -2147483648 ≤ text ∧ text ≤ 2147483647) (h3 : -2147483648 ≤ sentence ∧ sentence ≤ 2147483647) (h4 : -2147483648 ≤ slot ∧ slot ≤ 2147483647) (h5 : -2147483648 ≤ meant ∧ meant ≤ 2147483647) (h6 : -2147483648 ≤ third ∧ third ≤ 2147483647) : sOk base X G d T126 [vR 0, vI text, vI sentence, vI slot, vI meant, vI third] M (pI (fun v M' => HI base M' ∧ Fr [(0, 10), (20, 16), (20, 17), (20, 18), (21, 0), (22, 0), (23, 0), (24, 0), (25, 0), (26, 0), (27, 0), (28, 0), (29, 0), (30, 0), (31, 0), (32, 0), (33, 0), (34, 0), (35, 0), (58, 2), (58, 3), (58, 4), (58, 6), (59, 0), (60, 0), (61, 0)] M M' ∧ (SF M'))) := by
  have f0 : Fr [(0, 10), (20, 16), (20, 17), (20, 18), (21, 0), (22, 0), (23, 0), (24, 0), (25, 0), (26, 0), (27, 0), (28, 0), (29, 0), (30, 0), (31, 0), (32, 0), (33, 0), (34, 0), (35, 0), (58, 2), (58, 3), (58, 4), (58, 6), (59, 0), (60, 0), (61, 0)] M M := Fr.rf
  refine sOk.of (show sRn base X G d T126 0 [(0, vR 0), (1, vI text), (2, vI sentence), (3, vI slot), (4, vI meant), (5, vI third)] [] M _ from ?_)
  refine s_blx (lv' := [(0, vR 0), (1, vI text), (2, vI sentence), (3, vI slot), (4, vI meant), (5, vI third)]) (st' := [vR 0]) B126_0_1 rfl ?_
  refine r_gfix (r := 1) (pc' := 4) D126_1 rfl gf_10_10_0 H.1 ?_
  refine s_blx (lv' := [(0, vR 0), (1, vI text), (2, vI sentence), (3, vI slot), (4, vI meant), (5, vI third)]) (st' := [vI text, vR 1]) B126_4_5 rfl ?_
  refine r_vIp (c := 1) (args := [vI text]) (rest := []) (pc' := 8) D126_5 rfl ck_10_virtual_249 TE66 rfl (Nat.le_of_ble_eq_true rfl) ⟨Nat.le_of_ble_eq_true rfl, Nat.le_of_ble_eq_true rfl⟩ sc_1 ⟨rfl, by decide⟩ H.1 (dp_0 hd rfl) (k66_1x E (dp_n hd rfl) H text (h0) (by omega)) ?_
  intro v1 q5
  obtain ⟨q3, q4⟩ := q5
  refine r_ifc (tgt := 29) (pc' := 11) D126_8 rfl rfl (by unfold inR; omega) (fun (c6 : v1 = 0) => ?_) (fun (c6 : ¬ (v1 = 0)) => ?_)
  · refine s_blx (lv' := [(0, vR 0), (1, vI text), (2, vI sentence), (3, vI slot), (4, vI meant), (5, vI third)]) (st' := [vI (-1)]) B126_29_30 rfl ?_
    exact r_iretI D126_30 rfl (⟨H, f0, h1⟩)
  · refine s_blx (lv' := [(0, vR 0), (1, vI text), (2, vI sentence), (3, vI slot), (4, vI meant), (5, vI third)]) (st' := [vR 0]) B126_11_12 rfl ?_
    refine r_gfix (r := 1) (pc' := 15) D126_12 rfl gf_10_10_0 H.1 ?_
    refine s_blx (lv' := [(0, vR 0), (1, vI text), (2, vI sentence), (3, vI slot), (4, vI meant), (5, vI third)]) (st' := [vI sentence, vR 1]) B126_15_16 rfl ?_
    refine r_vIp (c := 1) (args := [vI sentence]) (rest := []) (pc' := 19) D126_16 rfl ck_10_virtual_186 TE67 rfl (Nat.le_of_ble_eq_true rfl) ⟨Nat.le_of_ble_eq_true rfl, Nat.le_of_ble_eq_true rfl⟩ sc_1 ⟨rfl, by decide⟩ H.1 (dp_0 hd rfl) (k67_1x E (dp_n hd rfl) H sentence (by omega)) ?_
    intro v7 q13
    obtain ⟨q9, q10, q11, q12⟩ := q13
    refine r_ifc (tgt := 29) (pc' := 22) D126_19 rfl rfl (by unfold inR; omega) (fun (c14 : v7 = 0) => ?_) (fun (c14 : ¬ (v7 = 0)) => ?_)
    · refine s_blx (lv' := [(0, vR 0), (1, vI text), (2, vI sentence), (3, vI slot), (4, vI meant), (5, vI third)]) (st' := [vI (-1)]) B126_29_30 rfl ?_
      exact r_iretI D126_30 rfl (⟨H, f0, h1⟩)
    · refine s_blx (lv' := [(0, vR 0), (1, vI text), (2, vI sentence), (3, vI slot), (4, vI meant), (5, vI third)]) (st' := [vI slot]) B126_22_23 rfl ?_
      refine r_sIp (args := [vI slot]) (rest := []) (pc' := 26) D126_23 rfl ck_10_static_135 TE143 rfl (Nat.le_of_ble_eq_true rfl) ⟨Nat.le_of_ble_eq_true rfl, Nat.le_of_ble_eq_true rfl⟩ (by decide) (dp_0 hd rfl) (k143 E (dp_n hd rfl) H slot (by omega)) ?_
      intro v15 q19
      obtain ⟨q17, q18⟩ := q19
      refine r_ifc (tgt := 31) (pc' := 29) D126_26 rfl rfl (by unfold inR; omega) (fun (c20 : v15 ≠ 0) => ?_) (fun (c20 : ¬ (v15 ≠ 0)) => ?_)
      · refine s_blx (lv' := [(0, vR 0), (1, vI text), (2, vI sentence), (3, vI slot), (4, vI meant), (5, vI third)]) (st' := [vI meant]) B126_31_33 rfl ?_
        refine r_sIp (args := [vI meant]) (rest := []) (pc' := 36) D126_33 rfl ck_10_static_153 TE144 rfl (Nat.le_of_ble_eq_true rfl) ⟨Nat.le_of_ble_eq_true rfl, Nat.le_of_ble_eq_true rfl⟩ (by decide) (dp_0 hd rfl) (k144 E (dp_n hd rfl) H meant (by omega)) ?_
        intro v21 q25
        obtain ⟨q23, q24⟩ := q25
        refine r_ifc (tgt := 47) (pc' := 39) D126_36 rfl rfl (by unfold inR; omega) (fun (c26 : v21 = 0) => ?_) (fun (c26 : ¬ (v21 = 0)) => ?_)
        · refine s_blx (lv' := [(0, vR 0), (1, vI text), (2, vI sentence), (3, vI slot), (4, vI meant), (5, vI third)]) (st' := [vI (-1)]) B126_47_48 rfl ?_
          exact r_iretI D126_48 rfl (⟨H, f0, h1⟩)
        · refine s_blx (lv' := [(0, vR 0), (1, vI text), (2, vI sentence), (3, vI slot), (4, vI meant), (5, vI third)]) (st' := [vI third]) B126_39_41 rfl ?_
          refine r_sIp (args := [vI third]) (rest := []) (pc' := 44) D126_41 rfl ck_10_static_153 TE144 rfl (Nat.le_of_ble_eq_true rfl) ⟨Nat.le_of_ble_eq_true rfl, Nat.le_of_ble_eq_true rfl⟩ (by decide) (dp_0 hd rfl) (k144 E (dp_n hd rfl) H third (by omega)) ?_
          intro v27 q31
          obtain ⟨q29, q30⟩ := q31
          refine r_ifc (tgt := 49) (pc' := 47) D126_44 rfl rfl (by unfold inR; omega) (fun (c32 : v27 ≠ 0) => ?_) (fun (c32 : ¬ (v27 ≠ 0)) => ?_)
          · refine s_blx (lv' := [(0, vR 0), (1, vI text), (2, vI sentence), (3, vI slot), (4, vI meant), (5, vI third)]) (st' := [vR 0]) B126_49_50 rfl ?_
            refine r_vV (c := 0) (args := []) (rest := []) (pc' := 53) D126_50 rfl ck_10_virtual_252 TE138 rfl (Nat.le_of_ble_eq_true rfl) ⟨Nat.le_of_ble_eq_true rfl, Nat.le_of_ble_eq_true rfl⟩ sc_0 ⟨rfl, by decide⟩ H.1 (dp_0 hd rfl) (k138s E (dp_n hd rfl) H (h1)) ?_
            intro M34 q38
            obtain ⟨H35, f36, q37⟩ := q38
            have f39 := f0.tr (f36.up rfl)
            have ktg : TGd M34 := q37
            have ksf : SF M34 := fun _ => ktg
            refine s_blx (lv' := [(0, vR 0), (1, vI text), (2, vI sentence), (3, vI slot), (4, vI meant), (5, vI third)]) (st' := [vR 0]) B126_53_54 rfl ?_
            refine r_gfix (r := 58) (pc' := 57) D126_54 rfl gf_10_70_0 H35.1 ?_
            refine s_blx (lv' := [(0, vR 0), (1, vI text), (2, vI sentence), (3, vI slot), (4, vI meant), (5, vI third)]) (st' := [vR 0, vR 58]) B126_57_58 rfl ?_
            refine r_gfix (r := 20) (pc' := 61) D126_58 rfl gf_10_44_0 H35.1 ?_
            refine s_blx (lv' := [(0, vR 0), (1, vI text), (2, vI sentence), (3, vI slot), (4, vI meant), (5, vI third)]) (st' := [vR 0, vR 20, vR 58]) B126_61_62 rfl ?_
            refine r_gfix (r := 1) (pc' := 65) D126_62 rfl gf_10_10_0 H35.1 ?_
            refine r_gfix (r := 9) (pc' := 68) D126_65 rfl gf_10_255_1 H35.1 ?_
            refine s_blx (lv' := [(0, vR 0), (1, vI text), (2, vI sentence), (3, vI slot), (4, vI meant), (5, vI third)]) (st' := [vI text, vR 9, vR 20, vR 58]) B126_68_69 rfl ?_
            have b47 := H35.2 1 12 0 8 rfl
            have g48 : gi M34 1 12 = gi M 1 12 := (f36.g rfl).trans (rfl)
            obtain ⟨hb40, nh41, nc42, a43, b44, r45, r46⟩ := ((h0.fr f39 rfl)) (text) (by omega) (by omega)
            refine r_aald (v := vR hb40) (pc' := 70) D126_69 rfl sc_9 (by decide) H35.1 (by omega) a43 ?_
            refine s_blx (lv' := [(0, vR 0), (1, vI text), (2, vI sentence), (3, vI slot), (4, vI meant), (5, vI third)]) (st' := [vI sentence, vR (hb40), vR 20, vR 58]) B126_70_71 rfl ?_
            refine r_vI (c := 58) (args := [vR 20, vR (hb40), vI sentence]) (rest := []) (pc' := 74) D126_71 rfl ck_10_virtual_259 TE1 rfl (Nat.le_of_ble_eq_true rfl) ⟨Nat.le_of_ble_eq_true rfl, Nat.le_of_ble_eq_true rfl⟩ sc_58 ⟨rfl, by decide⟩ H35.1 (dp_0 hd rfl) (k1_58_20x E (dp_n hd rfl) H35 hb40 sentence nh41 nc42 (b44) (by omega) (by omega) (by omega)) ?_
            intro v49 M50 q54
            obtain ⟨H51, f52, q53⟩ := q54
            have f55 := f39.tr (f52.up rfl)
            have hp56 := ksf.fr f52 (by decide)
            have hp57 := b44.fr f52 (by decide)
            refine s_blx (lv' := [(0, vR 0), (1, vI text), (2, vI sentence), (3, vI slot), (4, vI meant), (5, vI third)]) (st' := [vR 0]) B126_74_76 rfl ?_
            refine r_gfix (r := 1) (pc' := 79) D126_76 rfl gf_10_10_0 H51.1 ?_
            refine r_gfix (r := 7) (pc' := 82) D126_79 rfl gf_10_316_1 H51.1 ?_
            refine s_blx (lv' := [(0, vR 0), (1, vI text), (2, vI sentence), (3, vI slot), (4, vI meant), (5, vI third)]) (st' := [vI ((sentence * 3) + slot), vR 7]) B126_82_87 rfl ?_
            refine r_iald (pc' := 88) D126_87 rfl sc_7 H51.1 (by omega) ?_
            intro w58 e59 r60
            have b_w58 := H51.2 7 ((sentence * 3) + slot) 0 7 rfl
            rw [← e59] at b_w58; clear r60
            refine s_blx (lv' := [(6, vI w58), (0, vR 0), (1, vI text), (2, vI sentence), (3, vI slot), (4, vI meant), (5, vI third)]) (st' := [vR 0]) B126_88_91 rfl ?_
            refine r_gfix (r := 20) (pc' := 94) D126_91 rfl gf_10_44_0 H51.1 ?_
            refine s_blx (lv' := [(6, vI w58), (0, vR 0), (1, vI text), (2, vI sentence), (3, vI slot), (4, vI meant), (5, vI third)]) (st' := [vR 0, vR 20]) B126_94_95 rfl ?_
            refine r_gfix (r := 58) (pc' := 98) D126_95 rfl gf_10_70_0 H51.1 ?_
            refine r_gint (ki := 3) (pc' := 101) D126_98 rfl gf_10_319_58 rfl H51.1 ?_
            intro w61 e62 r63
            unfold inR at r63
            refine s_blx (lv' := [(6, vI w58), (0, vR 0), (1, vI text), (2, vI sentence), (3, vI slot), (4, vI meant), (5, vI third)]) (st' := [vI slot, vI w61, vR 20]) B126_101_102 rfl ?_
            refine r_vIp (c := 20) (args := [vI w61, vI slot]) (rest := []) (pc' := 105) D126_102 rfl ck_10_virtual_322 TE86 rfl (Nat.le_of_ble_eq_true rfl) ⟨Nat.le_of_ble_eq_true rfl, Nat.le_of_ble_eq_true rfl⟩ sc_20 ⟨rfl, by decide⟩ H51.1 (dp_0 hd rfl) (k86_20 E (dp_n hd rfl) H51 w61 slot (by omega) (by omega)) ?_
            intro v64 q67
            have q66 := q67; clear q67
            refine s_blx (lv' := [(7, vI v64), (6, vI w58), (0, vR 0), (1, vI text), (2, vI sentence), (3, vI slot), (4, vI meant), (5, vI third)]) (st' := [vI w58, vI meant]) B126_105_111 rfl ?_
            refine r_icmp (tgt := 118) (pc' := 114) D126_111 rfl rfl (by unfold inR; omega) (fun (c68 : meant = w58) => ?_) (fun (c68 : ¬ (meant = w58)) => ?_)
            · refine s_blx (lv' := [(7, vI v64), (6, vI w58), (0, vR 0), (1, vI text), (2, vI sentence), (3, vI slot), (4, vI meant), (5, vI third)]) (st' := [vI w58, vI v64, vI 0]) B126_118_123 rfl ?_
              refine r_icmp (tgt := 130) (pc' := 126) D126_123 rfl rfl (by unfold inR; omega) (fun (c69 : v64 = w58) => ?_) (fun (c69 : ¬ (v64 = w58)) => ?_)
              · refine s_blx (lv' := [(7, vI v64), (6, vI w58), (0, vR 0), (1, vI text), (2, vI sentence), (3, vI slot), (4, vI meant), (5, vI third)]) (st' := [vI v64, vI third, vI (0 + 0)]) B126_130_136 rfl ?_
                refine r_icmp (tgt := 143) (pc' := 139) D126_136 rfl rfl (by unfold inR; omega) (fun (c70 : third = v64) => ?_) (fun (c70 : ¬ (third = v64)) => ?_)
                · refine s_blx (lv' := [(7, vI v64), (6, vI w58), (0, vR 0), (1, vI text), (2, vI sentence), (3, vI slot), (4, vI meant), (5, vI third)]) (st' := [vI ((0 + 0) + 0)]) B126_143_145 rfl ?_
                  exact r_iretI D126_145 rfl (⟨H51, f55, hp56⟩)
                · refine s_blx (lv' := [(7, vI v64), (6, vI w58), (0, vR 0), (1, vI text), (2, vI sentence), (3, vI slot), (4, vI meant), (5, vI third)]) (st' := [vI 4, vI (0 + 0)]) B126_139_140 rfl ?_
                  refine r_goto (tgt := 144) D126_140 rfl ?_
                  refine s_blx (lv' := [(7, vI v64), (6, vI w58), (0, vR 0), (1, vI text), (2, vI sentence), (3, vI slot), (4, vI meant), (5, vI third)]) (st' := [vI ((0 + 0) + 4)]) B126_144_145 rfl ?_
                  exact r_iretI D126_145 rfl (⟨H51, f55, hp56⟩)
              · refine s_blx (lv' := [(7, vI v64), (6, vI w58), (0, vR 0), (1, vI text), (2, vI sentence), (3, vI slot), (4, vI meant), (5, vI third)]) (st' := [vI 2, vI 0]) B126_126_127 rfl ?_
                refine r_goto (tgt := 131) D126_127 rfl ?_
                refine s_blx (lv' := [(7, vI v64), (6, vI w58), (0, vR 0), (1, vI text), (2, vI sentence), (3, vI slot), (4, vI meant), (5, vI third)]) (st' := [vI v64, vI third, vI (0 + 2)]) B126_131_136 rfl ?_
                refine r_icmp (tgt := 143) (pc' := 139) D126_136 rfl rfl (by unfold inR; omega) (fun (c71 : third = v64) => ?_) (fun (c71 : ¬ (third = v64)) => ?_)
                · refine s_blx (lv' := [(7, vI v64), (6, vI w58), (0, vR 0), (1, vI text), (2, vI sentence), (3, vI slot), (4, vI meant), (5, vI third)]) (st' := [vI ((0 + 2) + 0)]) B126_143_145 rfl ?_
                  exact r_iretI D126_145 rfl (⟨H51, f55, hp56⟩)
                · refine s_blx (lv' := [(7, vI v64), (6, vI w58), (0, vR 0), (1, vI text), (2, vI sentence), (3, vI slot), (4, vI meant), (5, vI third)]) (st' := [vI 4, vI (0 + 2)]) B126_139_140 rfl ?_
                  refine r_goto (tgt := 144) D126_140 rfl ?_
                  refine s_blx (lv' := [(7, vI v64), (6, vI w58), (0, vR 0), (1, vI text), (2, vI sentence), (3, vI slot), (4, vI meant), (5, vI third)]) (st' := [vI ((0 + 2) + 4)]) B126_144_145 rfl ?_
                  exact r_iretI D126_145 rfl (⟨H51, f55, hp56⟩)
            · refine s_blx (lv' := [(7, vI v64), (6, vI w58), (0, vR 0), (1, vI text), (2, vI sentence), (3, vI slot), (4, vI meant), (5, vI third)]) (st' := [vI 1]) B126_114_115 rfl ?_
              refine r_goto (tgt := 119) D126_115 rfl ?_
              refine s_blx (lv' := [(7, vI v64), (6, vI w58), (0, vR 0), (1, vI text), (2, vI sentence), (3, vI slot), (4, vI meant), (5, vI third)]) (st' := [vI w58, vI v64, vI 1]) B126_119_123 rfl ?_
              refine r_icmp (tgt := 130) (pc' := 126) D126_123 rfl rfl (by unfold inR; omega) (fun (c72 : v64 = w58) => ?_) (fun (c72 : ¬ (v64 = w58)) => ?_)
              · refine s_blx (lv' := [(7, vI v64), (6, vI w58), (0, vR 0), (1, vI text), (2, vI sentence), (3, vI slot), (4, vI meant), (5, vI third)]) (st' := [vI v64, vI third, vI (1 + 0)]) B126_130_136 rfl ?_
                refine r_icmp (tgt := 143) (pc' := 139) D126_136 rfl rfl (by unfold inR; omega) (fun (c73 : third = v64) => ?_) (fun (c73 : ¬ (third = v64)) => ?_)
                · refine s_blx (lv' := [(7, vI v64), (6, vI w58), (0, vR 0), (1, vI text), (2, vI sentence), (3, vI slot), (4, vI meant), (5, vI third)]) (st' := [vI ((1 + 0) + 0)]) B126_143_145 rfl ?_
                  exact r_iretI D126_145 rfl (⟨H51, f55, hp56⟩)
                · refine s_blx (lv' := [(7, vI v64), (6, vI w58), (0, vR 0), (1, vI text), (2, vI sentence), (3, vI slot), (4, vI meant), (5, vI third)]) (st' := [vI 4, vI (1 + 0)]) B126_139_140 rfl ?_
                  refine r_goto (tgt := 144) D126_140 rfl ?_
                  refine s_blx (lv' := [(7, vI v64), (6, vI w58), (0, vR 0), (1, vI text), (2, vI sentence), (3, vI slot), (4, vI meant), (5, vI third)]) (st' := [vI ((1 + 0) + 4)]) B126_144_145 rfl ?_
                  exact r_iretI D126_145 rfl (⟨H51, f55, hp56⟩)
              · refine s_blx (lv' := [(7, vI v64), (6, vI w58), (0, vR 0), (1, vI text), (2, vI sentence), (3, vI slot), (4, vI meant), (5, vI third)]) (st' := [vI 2, vI 1]) B126_126_127 rfl ?_
                refine r_goto (tgt := 131) D126_127 rfl ?_
                refine s_blx (lv' := [(7, vI v64), (6, vI w58), (0, vR 0), (1, vI text), (2, vI sentence), (3, vI slot), (4, vI meant), (5, vI third)]) (st' := [vI v64, vI third, vI (1 + 2)]) B126_131_136 rfl ?_
                refine r_icmp (tgt := 143) (pc' := 139) D126_136 rfl rfl (by unfold inR; omega) (fun (c74 : third = v64) => ?_) (fun (c74 : ¬ (third = v64)) => ?_)
                · refine s_blx (lv' := [(7, vI v64), (6, vI w58), (0, vR 0), (1, vI text), (2, vI sentence), (3, vI slot), (4, vI meant), (5, vI third)]) (st' := [vI ((1 + 2) + 0)]) B126_143_145 rfl ?_
                  exact r_iretI D126_145 rfl (⟨H51, f55, hp56⟩)
                · refine s_blx (lv' := [(7, vI v64), (6, vI w58), (0, vR 0), (1, vI text), (2, vI sentence), (3, vI slot), (4, vI meant), (5, vI third)]) (st' := [vI 4, vI (1 + 2)]) B126_139_140 rfl ?_
                  refine r_goto (tgt := 144) D126_140 rfl ?_
                  refine s_blx (lv' := [(7, vI v64), (6, vI w58), (0, vR 0), (1, vI text), (2, vI sentence), (3, vI slot), (4, vI meant), (5, vI third)]) (st' := [vI ((1 + 2) + 4)]) B126_144_145 rfl ?_
                  exact r_iretI D126_145 rfl (⟨H51, f55, hp56⟩)
          · refine s_blx (lv' := [(0, vR 0), (1, vI text), (2, vI sentence), (3, vI slot), (4, vI meant), (5, vI third)]) (st' := [vI (-1)]) B126_47_48 rfl ?_
            exact r_iretI D126_48 rfl (⟨H, f0, h1⟩)
      · refine s_blx (lv' := [(0, vR 0), (1, vI text), (2, vI sentence), (3, vI slot), (4, vI meant), (5, vI third)]) (st' := [vI (-1)]) B126_29_30 rfl ?_
        exact r_iretI D126_30 rfl (⟨H, f0, h1⟩)
set_option maxRecDepth 4000 in
theorem L_k127s {base : Nat} {X : Nat → Option mC} {G : Nat → Value} (E : EnvOK base X G) {d : Nat} (hd : 7 ≤ d) {M : mH} (H : HI base M) (sentence : Int) (h0 : HB base M) (h1 : SF M) (h2 : -2147483648 ≤ sentence ∧ sentence ≤ 2147483647) : ∀ mz : Nat, (∀ (x2 x3 x4 : Int) (N : mH), HI base N → Fr [(0, 4), (0, 10), (20, 16), (20, 17), (20, 18), (21, 0), (22, 0), (23, 0), (24, 0), (25, 0), (26, 0), (27, 0), (28, 0), (29, 0), (30, 0), (31, 0), (32, 0), (33, 0), (34, 0), (35, 0), (58, 2), (58, 3), (58, 4), (58, 6), (59, 0), (60, 0), (61, 0)] M N → (0 ≤ sentence ∧ sentence ≤ 15) → (SF N) → (0 ≤ x2) → (x2 ≤ 400) → ((-2147483648) ≤ x3) → (x3 ≤ 2147483647) → (0 ≤ x4) → (x4 ≤ 8) → (0 ≤ sentence) → (sentence ≤ 15) → (8 - x4) * 1 + 0 < (mz : Int) → sRn base X G d T127 27 [(0, vR 0), (1, vI sentence), (2, vI x2), (3, vI x3), (4, vI x4)] [] N (s_Q base (pI (fun v M' => HI base M' ∧ Fr [(0, 4), (0, 10), (20, 16), (20, 17), (20, 18), (21, 0), (22, 0), (23, 0), (24, 0), (25, 0), (26, 0), (27, 0), (28, 0), (29, 0), (30, 0), (31, 0), (32, 0), (33, 0), (34, 0), (35, 0), (58, 2), (58, 3), (58, 4), (58, 6), (59, 0), (60, 0), (61, 0)] M M' ∧ (-2147483648 ≤ v ∧ v ≤ 2147483647) ∧ (SF M'))))) := by
  have f0 : Fr [(0, 4), (0, 10), (20, 16), (20, 17), (20, 18), (21, 0), (22, 0), (23, 0), (24, 0), (25, 0), (26, 0), (27, 0), (28, 0), (29, 0), (30, 0), (31, 0), (32, 0), (33, 0), (34, 0), (35, 0), (58, 2), (58, 3), (58, 4), (58, 6), (59, 0), (60, 0), (61, 0)] M M := Fr.rf
  intro mz
  induction mz with
  | zero => exact fun x2 x3 x4 N _ _ z0 z1 z2 z3 z4 z5 z6 z7 z8 z9 z10 => by omega
  | succ mz ih =>
    intro x2 x3 x4 N HN fN i0 i1 i2 i3 i4 i5 i6 i7 i8 i9 hmu
    refine s_blx (lv' := [(0, vR 0), (1, vI sentence), (2, vI x2), (3, vI x3), (4, vI x4)]) (st' := [vR 0, vI x4]) B127_27_30 rfl ?_
    refine r_gfix (r := 1) (pc' := 33) D127_30 rfl gf_10_10_0 HN.1 ?_
    refine r_gint (ki := 12) (pc' := 36) D127_33 rfl gf_10_237_1 rfl HN.1 ?_
    intro w24 e25 r26
    have b_w24 := HN.2 1 (12) 0 8 rfl
    rw [← e25] at b_w24; clear r26
    refine r_icmp (tgt := 83) (pc' := 39) D127_36 rfl rfl (by unfold inR; omega) (fun (c27 : w24 ≤ x4) => ?_) (fun (c27 : ¬ (w24 ≤ x4)) => ?_)
    · refine s_blx (lv' := [(0, vR 0), (1, vI sentence), (2, vI x2), (3, vI x3), (4, vI x4)]) (st' := [vI x3]) B127_83_84 rfl ?_
      exact r_iretI D127_84 rfl (⟨HN, fN, by omega, i1⟩)
    · refine s_blx (lv' := [(0, vR 0), (1, vI sentence), (2, vI x2), (3, vI x3), (4, vI x4)]) (st' := [vR 0]) B127_39_40 rfl ?_
      refine r_gfix (r := 58) (pc' := 43) D127_40 rfl gf_10_70_0 HN.1 ?_
      refine s_blx (lv' := [(0, vR 0), (1, vI sentence), (2, vI x2), (3, vI x3), (4, vI x4)]) (st' := [vR 0, vR 58]) B127_43_44 rfl ?_
      refine r_gfix (r := 20) (pc' := 47) D127_44 rfl gf_10_44_0 HN.1 ?_
      refine s_blx (lv' := [(0, vR 0), (1, vI sentence), (2, vI x2), (3, vI x3), (4, vI x4)]) (st' := [vR 0, vR 20, vR 58]) B127_47_48 rfl ?_
      refine r_gfix (r := 1) (pc' := 51) D127_48 rfl gf_10_10_0 HN.1 ?_
      refine r_gfix (r := 9) (pc' := 54) D127_51 rfl gf_10_255_1 HN.1 ?_
      refine s_blx (lv' := [(0, vR 0), (1, vI sentence), (2, vI x2), (3, vI x3), (4, vI x4)]) (st' := [vI x4, vR 9, vR 20, vR 58]) B127_54_56 rfl ?_
      have b35 := HN.2 1 12 0 8 rfl
      have g36 : gi N 1 12 = w24 := e25.symm
      obtain ⟨hb28, nh29, nc30, a31, b32, r33, r34⟩ := ((h0.fr fN rfl)) (x4) (by omega) (by omega)
      refine r_aald (v := vR hb28) (pc' := 57) D127_56 rfl sc_9 (by decide) HN.1 (by omega) a31 ?_
      refine s_blx (lv' := [(0, vR 0), (1, vI sentence), (2, vI x2), (3, vI x3), (4, vI x4)]) (st' := [vI sentence, vR (hb28), vR 20, vR 58]) B127_57_58 rfl ?_
      refine r_vI (c := 58) (args := [vR 20, vR (hb28), vI sentence]) (rest := []) (pc' := 61) D127_58 rfl ck_10_virtual_259 TE1 rfl (Nat.le_of_ble_eq_true rfl) ⟨Nat.le_of_ble_eq_true rfl, Nat.le_of_ble_eq_true rfl⟩ sc_58 ⟨rfl, by decide⟩ HN.1 (dp_0 hd rfl) (k1_58_20x E (dp_n hd rfl) HN hb28 sentence nh29 nc30 (b32) (by omega) (by omega) (by omega)) ?_
      intro v37 M38 q42
      obtain ⟨H39, f40, q41⟩ := q42
      have f43 := fN.tr (f40.up rfl)
      have hp44 := i1.fr f40 (by decide)
      have hp45 := b32.fr f40 (by decide)
      refine s_blx (lv' := [(0, vR 0), (1, vI sentence), (2, vI x2), (3, vI x3), (4, vI x4)]) (st' := [vI x2, vR 0]) B127_61_64 rfl ?_
      refine r_vIp (c := 0) (args := [vI x2]) (rest := []) (pc' := 67) D127_64 rfl ck_10_virtual_325 TE140 rfl (Nat.le_of_ble_eq_true rfl) ⟨Nat.le_of_ble_eq_true rfl, Nat.le_of_ble_eq_true rfl⟩ sc_0 ⟨rfl, by decide⟩ H39.1 (dp_0 hd rfl) (k140 E (dp_n hd rfl) H39 x2 (by omega)) ?_
      intro v46 q49
      have q48 := q49; clear q49
      refine r_ifc (tgt := 77) (pc' := 70) D127_67 rfl rfl (by unfold inR; omega) (fun (c50 : v46 = 0) => ?_) (fun (c50 : ¬ (v46 = 0)) => ?_)
      · refine s_blx (lv' := [(4, vI (x4 + 1)), (0, vR 0), (1, vI sentence), (2, vI x2), (3, vI x3)]) (st' := []) B127_77_80 rfl ?_
        refine r_goto (tgt := 27) D127_80 rfl ?_
        refine r_loc (lv' := [(0, vR 0), (1, vI sentence), (2, vI x2), (3, vI x3), (4, vI (x4 + 1))]) ⟨rfl, rfl, rfl, rfl, rfl, trivial⟩ rfl rfl ?_
        exact ih x2 x3 (x4 + 1) M38 H39 f43 (by omega) (hp44) (by omega) (by omega) (by omega) (by omega) (by omega) (by omega) (by omega) (by omega) (by omega)
      · refine s_blx (lv' := [(0, vR 0), (1, vI sentence), (2, vI x2), (3, vI x3), (4, vI x4)]) (st' := [vI x4, vI 1, vI x3]) B127_70_74 rfl ?_
        refine r_bin (pc' := 75) D127_74 rfl rfl ?_
        intro z51 r52 _; unfold inR at r52
        refine r_bin (pc' := 76) D127_75 rfl rfl ?_
        intro z53 r54 _; unfold inR at r54
        refine s_blx (lv' := [(4, vI (x4 + 1)), (3, vI z53), (0, vR 0), (1, vI sentence), (2, vI x2)]) (st' := []) B127_76_80 rfl ?_
        refine r_goto (tgt := 27) D127_80 rfl ?_
        refine r_loc (lv' := [(0, vR 0), (1, vI sentence), (2, vI x2), (3, vI z53), (4, vI (x4 + 1))]) ⟨rfl, rfl, rfl, rfl, rfl, trivial⟩ rfl rfl ?_
        exact ih x2 z53 (x4 + 1) M38 H39 f43 (by omega) (hp44) (by omega) (by omega) (by omega) (by omega) (by omega) (by omega) (by omega) (by omega) (by omega)
set_option maxRecDepth 4000 in
theorem k127s {base : Nat} {X : Nat → Option mC} {G : Nat → Value} (E : EnvOK base X G) {d : Nat} (hd : 7 ≤ d) {M : mH} (H : HI base M) (sentence : Int) (h0 : HB base M) (h1 : SF M) (h2 : -2147483648 ≤ sentence ∧ sentence ≤ 2147483647) : sOk base X G d T127 [vR 0, vI sentence] M (pI (fun v M' => HI base M' ∧ Fr [(0, 4), (0, 10), (20, 16), (20, 17), (20, 18), (21, 0), (22, 0), (23, 0), (24, 0), (25, 0), (26, 0), (27, 0), (28, 0), (29, 0), (30, 0), (31, 0), (32, 0), (33, 0), (34, 0), (35, 0), (58, 2), (58, 3), (58, 4), (58, 6), (59, 0), (60, 0), (61, 0)] M M' ∧ (-2147483648 ≤ v ∧ v ≤ 2147483647) ∧ (SF M'))) := by
  have f0 : Fr [(0, 4), (0, 10), (20, 16), (20, 17), (20, 18), (21, 0), (22, 0), (23, 0), (24, 0), (25, 0), (26, 0), (27, 0), (28, 0), (29, 0), (30, 0), (31, 0), (32, 0), (33, 0), (34, 0), (35, 0), (58, 2), (58, 3), (58, 4), (58, 6), (59, 0), (60, 0), (61, 0)] M M := Fr.rf
  refine sOk.of (show sRn base X G d T127 0 [(0, vR 0), (1, vI sentence)] [] M _ from ?_)
  refine s_blx (lv' := [(0, vR 0), (1, vI sentence)]) (st' := [vR 0]) B127_0_1 rfl ?_
  refine r_vI (c := 0) (args := []) (rest := []) (pc' := 4) D127_1 rfl ck_10_virtual_149 TE135 rfl (Nat.le_of_ble_eq_true rfl) ⟨Nat.le_of_ble_eq_true rfl, Nat.le_of_ble_eq_true rfl⟩ sc_0 ⟨rfl, by decide⟩ H.1 (dp_0 hd rfl) (k135 E (dp_n hd rfl) H ) ?_
  intro v1 M2 q6
  obtain ⟨H3, f4, q5⟩ := q6
  have f7 := f0.tr (f4.up rfl)
  have hp8 := h1.fr f4 (by decide)
  refine s_blx (lv' := [(2, vI v1), (0, vR 0), (1, vI sentence)]) (st' := [vR 0]) B127_4_6 rfl ?_
  refine r_gfix (r := 1) (pc' := 9) D127_6 rfl gf_10_10_0 H3.1 ?_
  refine s_blx (lv' := [(2, vI v1), (0, vR 0), (1, vI sentence)]) (st' := [vI sentence, vR 1]) B127_9_10 rfl ?_
  refine r_vIp (c := 1) (args := [vI sentence]) (rest := []) (pc' := 13) D127_10 rfl ck_10_virtual_186 TE67 rfl (Nat.le_of_ble_eq_true rfl) ⟨Nat.le_of_ble_eq_true rfl, Nat.le_of_ble_eq_true rfl⟩ sc_1 ⟨rfl, by decide⟩ H3.1 (dp_0 hd rfl) (k67_1x E (dp_n hd rfl) H3 sentence (by omega)) ?_
  intro v9 q15
  obtain ⟨q11, q12, q13, q14⟩ := q15
  refine r_ifc (tgt := 18) (pc' := 16) D127_13 rfl rfl (by unfold inR; omega) (fun (c16 : v9 ≠ 0) => ?_) (fun (c16 : ¬ (v9 ≠ 0)) => ?_)
  · refine s_blx (lv' := [(2, vI v1), (0, vR 0), (1, vI sentence)]) (st' := [vR 0]) B127_18_19 rfl ?_
    refine r_vV (c := 0) (args := []) (rest := []) (pc' := 22) D127_19 rfl ck_10_virtual_252 TE138 rfl (Nat.le_of_ble_eq_true rfl) ⟨Nat.le_of_ble_eq_true rfl, Nat.le_of_ble_eq_true rfl⟩ sc_0 ⟨rfl, by decide⟩ H3.1 (dp_0 hd rfl) (k138s E (dp_n hd rfl) H3 (hp8)) ?_
    intro M18 q22
    obtain ⟨H19, f20, q21⟩ := q22
    have f23 := f7.tr (f20.up rfl)
    have ktg : TGd M18 := q21
    have ksf : SF M18 := fun _ => ktg
    refine s_blx (lv' := [(4, vI 0), (3, vI 0), (2, vI v1), (0, vR 0), (1, vI sentence)]) (st' := []) B127_22_27 rfl ?_
    refine r_loc (lv' := [(0, vR 0), (1, vI sentence), (2, vI v1), (3, vI 0), (4, vI 0)]) ⟨rfl, rfl, rfl, rfl, rfl, trivial⟩ rfl rfl ?_
    exact (L_k127s E hd H sentence h0 h1 h2 (((8 - 0) * 1 + 0 : Int) + 1).toNat) v1 0 0 M18 H19 f23 (by omega) (ksf) (by omega) (by omega) (by omega) (by omega) (by omega) (by omega) (by omega) (by omega) (by omega)
  · refine s_blx (lv' := [(2, vI v1), (0, vR 0), (1, vI sentence)]) (st' := [vI (-1)]) B127_16_17 rfl ?_
    exact r_iretI D127_17 rfl (⟨H3, f7, by omega, hp8⟩)
set_option maxRecDepth 4000 in
theorem L_k128s {base : Nat} {X : Nat → Option mC} {G : Nat → Value} (E : EnvOK base X G) {d : Nat} (hd : 7 ≤ d) {M : mH} (H : HI base M) (what : Int) (h0 : HB base M) (h1 : SF M) (h2 : -2147483648 ≤ what ∧ what ≤ 2147483647) : ∀ mz : Nat, (∀ (x2 x3 x4 : Int) (N : mH), HI base N → Fr [(0, 10), (20, 16), (20, 17), (20, 18), (21, 0), (22, 0), (23, 0), (24, 0), (25, 0), (26, 0), (27, 0), (28, 0), (29, 0), (30, 0), (31, 0), (32, 0), (33, 0), (34, 0), (35, 0), (58, 2), (58, 3), (58, 4), (58, 6), (59, 0), (60, 0), (61, 0), (76, 0)] M N → (SF N) → (0 ≤ x2) → (x2 ≤ 2147483647) → ((-1) ≤ x3) → (x3 ≤ 15) → (0 ≤ x4) → (x4 ≤ 16) → (0 ≤ what) → (what ≤ 1) → (16 - x4) * 1 + 0 < (mz : Int) → sRn base X G d T128 22 [(0, vR 0), (1, vI what), (2, vI x2), (3, vI x3), (4, vI x4)] [] N (s_Q base (pI (fun v M' => HI base M' ∧ Fr [(0, 10), (20, 16), (20, 17), (20, 18), (21, 0), (22, 0), (23, 0), (24, 0), (25, 0), (26, 0), (27, 0), (28, 0), (29, 0), (30, 0), (31, 0), (32, 0), (33, 0), (34, 0), (35, 0), (58, 2), (58, 3), (58, 4), (58, 6), (59, 0), (60, 0), (61, 0), (76, 0)] M M' ∧ (-2147483648 ≤ v ∧ v ≤ 2147483647) ∧ (SF M'))))) := by
  have f0 : Fr [(0, 10), (20, 16), (20, 17), (20, 18), (21, 0), (22, 0), (23, 0), (24, 0), (25, 0), (26, 0), (27, 0), (28, 0), (29, 0), (30, 0), (31, 0), (32, 0), (33, 0), (34, 0), (35, 0), (58, 2), (58, 3), (58, 4), (58, 6), (59, 0), (60, 0), (61, 0), (76, 0)] M M := Fr.rf
  intro mz
  induction mz with
  | zero => exact fun x2 x3 x4 N _ _ z0 z1 z2 z3 z4 z5 z6 z7 z8 z9 => by omega
  | succ mz ih =>
    intro x2 x3 x4 N HN fN i0 i1 i2 i3 i4 i5 i6 i7 i8 hmu
    refine s_blx (lv' := [(0, vR 0), (1, vI what), (2, vI x2), (3, vI x3), (4, vI x4)]) (st' := [vR 0, vI x4]) B128_22_25 rfl ?_
    refine r_gfix (r := 1) (pc' := 28) D128_25 rfl gf_10_10_0 HN.1 ?_
    refine r_gint (ki := 10) (pc' := 31) D128_28 rfl gf_10_163_1 rfl HN.1 ?_
    intro w15 e16 r17
    have b_w15 := HN.2 1 (10) 0 16 rfl
    rw [← e16] at b_w15; clear r17
    refine r_icmp (tgt := 76) (pc' := 34) D128_31 rfl rfl (by unfold inR; omega) (fun (c18 : w15 ≤ x4) => ?_) (fun (c18 : ¬ (w15 ≤ x4)) => ?_)
    · refine s_blx (lv' := [(0, vR 0), (1, vI what), (2, vI x2), (3, vI x3), (4, vI x4)]) (st' := [vI (-1), vI x3]) B128_76_78 rfl ?_
      refine r_icmp (tgt := 85) (pc' := 81) D128_78 rfl rfl (by unfold inR; omega) (fun (c19 : x3 = (-1)) => ?_) (fun (c19 : ¬ (x3 = (-1))) => ?_)
      · refine s_blx (lv' := [(0, vR 0), (1, vI what), (2, vI x2), (3, vI x3), (4, vI x4)]) (st' := [vI x3]) B128_85_86 rfl ?_
        refine r_goto (tgt := 90) D128_86 rfl ?_
        exact r_iretI D128_90 rfl (⟨HN, fN, by omega, i0⟩)
      · refine s_blx (lv' := [(0, vR 0), (1, vI what), (2, vI x2), (3, vI x3), (4, vI x4)]) (st' := [vI what]) B128_81_82 rfl ?_
        refine r_ifc (tgt := 89) (pc' := 85) D128_82 rfl rfl (by unfold inR; omega) (fun (c20 : what ≠ 0) => ?_) (fun (c20 : ¬ (what ≠ 0)) => ?_)
        · refine s_blx (lv' := [(0, vR 0), (1, vI what), (2, vI x2), (3, vI x3), (4, vI x4)]) (st' := [vI x2]) B128_89_90 rfl ?_
          exact r_iretI D128_90 rfl (⟨HN, fN, by omega, i0⟩)
        · refine s_blx (lv' := [(0, vR 0), (1, vI what), (2, vI x2), (3, vI x3), (4, vI x4)]) (st' := [vI x3]) B128_85_86 rfl ?_
          refine r_goto (tgt := 90) D128_86 rfl ?_
          exact r_iretI D128_90 rfl (⟨HN, fN, by omega, i0⟩)
    · refine s_blx (lv' := [(0, vR 0), (1, vI what), (2, vI x2), (3, vI x3), (4, vI x4)]) (st' := [vR 0]) B128_34_35 rfl ?_
      refine r_gfix (r := 1) (pc' := 38) D128_35 rfl gf_10_10_0 HN.1 ?_
      refine s_blx (lv' := [(0, vR 0), (1, vI what), (2, vI x2), (3, vI x3), (4, vI x4)]) (st' := [vI x4, vR 1]) B128_38_40 rfl ?_
      refine r_vIp (c := 1) (args := [vI x4]) (rest := []) (pc' := 43) D128_40 rfl ck_10_virtual_186 TE67 rfl (Nat.le_of_ble_eq_true rfl) ⟨Nat.le_of_ble_eq_true rfl, Nat.le_of_ble_eq_true rfl⟩ sc_1 ⟨rfl, by decide⟩ HN.1 (dp_0 hd rfl) (k67_1x E (dp_n hd rfl) HN x4 (by omega)) ?_
      intro v21 q27
      obtain ⟨q23, q24, q25, q26⟩ := q27
      refine r_ifc (tgt := 55) (pc' := 46) D128_43 rfl rfl (by unfold inR; omega) (fun (c28 : v21 = 0) => ?_) (fun (c28 : ¬ (v21 = 0)) => ?_)
      · refine s_blx (lv' := [(5, vI 0), (0, vR 0), (1, vI what), (2, vI x2), (3, vI x3), (4, vI x4)]) (st' := [vI x2, vI 0]) B128_55_61 rfl ?_
        refine r_icmp (tgt := 70) (pc' := 64) D128_61 rfl rfl (by unfold inR; omega) (fun (c29 : 0 ≤ x2) => ?_) (fun (c29 : ¬ (0 ≤ x2)) => ?_)
        · refine s_blx (lv' := [(4, vI (x4 + 1)), (5, vI 0), (0, vR 0), (1, vI what), (2, vI x2), (3, vI x3)]) (st' := []) B128_70_73 rfl ?_
          refine r_goto (tgt := 22) D128_73 rfl ?_
          refine r_loc (lv' := [(0, vR 0), (1, vI what), (2, vI x2), (3, vI x3), (4, vI (x4 + 1))]) ⟨rfl, rfl, rfl, rfl, rfl, trivial⟩ rfl rfl ?_
          exact ih x2 x3 (x4 + 1) N HN fN (i0) (by omega) (by omega) (by omega) (by omega) (by omega) (by omega) (by omega) (by omega) (by omega)
        · exfalso; omega
      · refine s_blx (lv' := [(0, vR 0), (1, vI what), (2, vI x2), (3, vI x3), (4, vI x4)]) (st' := [vI x4, vR 0]) B128_46_49 rfl ?_
        refine r_vI (c := 0) (args := [vI x4]) (rest := []) (pc' := 52) D128_49 rfl ck_10_virtual_328 TE141 rfl (Nat.le_of_ble_eq_true rfl) ⟨Nat.le_of_ble_eq_true rfl, Nat.le_of_ble_eq_true rfl⟩ sc_0 ⟨rfl, by decide⟩ HN.1 (dp_0 hd rfl) (k141x E (dp_n hd rfl) HN x4 ((h0.fr fN rfl)) (by omega)) ?_
        intro v30 M31 q35
        obtain ⟨H32, f33, q34⟩ := q35
        have f36 := fN.tr (f33.up rfl)
        have hp37 := i0.fr f33 (by decide)
        refine r_goto (tgt := 56) D128_52 rfl ?_
        refine s_blx (lv' := [(5, vI v30), (0, vR 0), (1, vI what), (2, vI x2), (3, vI x3), (4, vI x4)]) (st' := [vI x2, vI v30]) B128_56_61 rfl ?_
        refine r_icmp (tgt := 70) (pc' := 64) D128_61 rfl rfl (by unfold inR; omega) (fun (c38 : v30 ≤ x2) => ?_) (fun (c38 : ¬ (v30 ≤ x2)) => ?_)
        · refine s_blx (lv' := [(4, vI (x4 + 1)), (5, vI v30), (0, vR 0), (1, vI what), (2, vI x2), (3, vI x3)]) (st' := []) B128_70_73 rfl ?_
          refine r_goto (tgt := 22) D128_73 rfl ?_
          refine r_loc (lv' := [(0, vR 0), (1, vI what), (2, vI x2), (3, vI x3), (4, vI (x4 + 1))]) ⟨rfl, rfl, rfl, rfl, rfl, trivial⟩ rfl rfl ?_
          exact ih x2 x3 (x4 + 1) M31 H32 f36 (hp37) (by omega) (by omega) (by omega) (by omega) (by omega) (by omega) (by omega) (by omega) (by omega)
        · refine s_blx (lv' := [(4, vI (x4 + 1)), (3, vI x4), (2, vI v30), (5, vI v30), (0, vR 0), (1, vI what)]) (st' := []) B128_64_73 rfl ?_
          refine r_goto (tgt := 22) D128_73 rfl ?_
          refine r_loc (lv' := [(0, vR 0), (1, vI what), (2, vI v30), (3, vI x4), (4, vI (x4 + 1))]) ⟨rfl, rfl, rfl, rfl, rfl, trivial⟩ rfl rfl ?_
          exact ih v30 x4 (x4 + 1) M31 H32 f36 (hp37) (by omega) (by omega) (by omega) (by omega) (by omega) (by omega) (by omega) (by omega) (by omega)
set_option maxRecDepth 4000 in
theorem k128s {base : Nat} {X : Nat → Option mC} {G : Nat → Value} (E : EnvOK base X G) {d : Nat} (hd : 7 ≤ d) {M : mH} (H : HI base M) (what : Int) (h0 : HB base M) (h1 : SF M) (h2 : -2147483648 ≤ what ∧ what ≤ 2147483647) : sOk base X G d T128 [vR 0, vI what] M (pI (fun v M' => HI base M' ∧ Fr [(0, 10), (20, 16), (20, 17), (20, 18), (21, 0), (22, 0), (23, 0), (24, 0), (25, 0), (26, 0), (27, 0), (28, 0), (29, 0), (30, 0), (31, 0), (32, 0), (33, 0), (34, 0), (35, 0), (58, 2), (58, 3), (58, 4), (58, 6), (59, 0), (60, 0), (61, 0), (76, 0)] M M' ∧ (-2147483648 ≤ v ∧ v ≤ 2147483647) ∧ (SF M'))) := by
  have f0 : Fr [(0, 10), (20, 16), (20, 17), (20, 18), (21, 0), (22, 0), (23, 0), (24, 0), (25, 0), (26, 0), (27, 0), (28, 0), (29, 0), (30, 0), (31, 0), (32, 0), (33, 0), (34, 0), (35, 0), (58, 2), (58, 3), (58, 4), (58, 6), (59, 0), (60, 0), (61, 0), (76, 0)] M M := Fr.rf
  refine sOk.of (show sRn base X G d T128 0 [(0, vR 0), (1, vI what)] [] M _ from ?_)
  refine s_blx (lv' := [(0, vR 0), (1, vI what)]) (st' := [vI 1, vI 0, vI what]) B128_0_3 rfl ?_
  refine r_sIp (args := [vI what, vI 0, vI 1]) (rest := []) (pc' := 6) D128_3 rfl ck_10_static_102 TE142 rfl (Nat.le_of_ble_eq_true rfl) ⟨Nat.le_of_ble_eq_true rfl, Nat.le_of_ble_eq_true rfl⟩ (by decide) (dp_0 hd rfl) (k142 E (dp_n hd rfl) H what 0 1 (by omega) (by omega) (by omega)) ?_
  intro v1 q6
  obtain ⟨q3, q4, q5⟩ := q6
  refine r_ifc (tgt := 11) (pc' := 9) D128_6 rfl rfl (by unfold inR; omega) (fun (c7 : v1 ≠ 0) => ?_) (fun (c7 : ¬ (v1 ≠ 0)) => ?_)
  · refine s_blx (lv' := [(0, vR 0), (1, vI what)]) (st' := [vR 0]) B128_11_12 rfl ?_
    refine r_vV (c := 0) (args := []) (rest := []) (pc' := 15) D128_12 rfl ck_10_virtual_252 TE138 rfl (Nat.le_of_ble_eq_true rfl) ⟨Nat.le_of_ble_eq_true rfl, Nat.le_of_ble_eq_true rfl⟩ sc_0 ⟨rfl, by decide⟩ H.1 (dp_0 hd rfl) (k138s E (dp_n hd rfl) H (h1)) ?_
    intro M9 q13
    obtain ⟨H10, f11, q12⟩ := q13
    have f14 := f0.tr (f11.up rfl)
    have ktg : TGd M9 := q12
    have ksf : SF M9 := fun _ => ktg
    refine s_blx (lv' := [(4, vI 0), (3, vI (-1)), (2, vI 0), (0, vR 0), (1, vI what)]) (st' := []) B128_15_22 rfl ?_
    refine r_loc (lv' := [(0, vR 0), (1, vI what), (2, vI 0), (3, vI (-1)), (4, vI 0)]) ⟨rfl, rfl, rfl, rfl, rfl, trivial⟩ rfl rfl ?_
    exact (L_k128s E hd H what h0 h1 h2 (((16 - 0) * 1 + 0 : Int) + 1).toNat) 0 (-1) 0 M9 H10 f14 (ksf) (by omega) (by omega) (by omega) (by omega) (by omega) (by omega) (by omega) (by omega) (by omega)
  · refine s_blx (lv' := [(0, vR 0), (1, vI what)]) (st' := [vI (-1)]) B128_9_10 rfl ?_
    exact r_iretI D128_10 rfl (⟨H, f0, by omega, h1⟩)
