set_option maxRecDepth 4000 in
theorem k96n {base : Nat} {X : Nat → Option mC} {G : Nat → Value} (E : EnvOK base X G) {d : Nat} (hd : 1 ≤ d) {M : mH} (H : HI base M) (word : Int) (what : Int) (value : Int) (h0 : -2147483648 ≤ word ∧ word ≤ 2147483647) (h1 : -2147483648 ≤ what ∧ what ≤ 2147483647) (h2 : -2147483648 ≤ value ∧ value ≤ 2147483647) : sOk base X G d T96 [vR 0, vI word, vI what, vI value] M (pI (fun v M' => HI base M' ∧ Fr [(0, 6), (0, 10), (2, 0)] M M' ∧ (gi M' 0 9 = 1 ∨ gi M' 0 9 = gi M 0 9) ∧ ((WV word what value ∧ v = gi M 2 (what * 30 + word) ∧ ∃ M1, Wr M 2 (what * 30 + word).toNat (.int (Int32.ofInt value)) M1 ∧ Fr [(0, 6), (0, 10)] M1 M') ∨ (¬ WV word what value ∧ (v = -1) ∧ Fr [(0, 6)] M M')))) := by
  have f0 : Fr [(0, 6), (0, 10), (2, 0)] M M := Fr.rf
  refine sOk.of (show sRn base X G d T96 0 [(0, vR 0), (1, vI word), (2, vI what), (3, vI value)] [] M _ from ?_)
  refine s_blx (lv' := [(0, vR 0), (1, vI word), (2, vI what), (3, vI value)]) (st' := [vI 29, vI 0, vI word]) B96_0_4 rfl ?_
  refine r_sIp (args := [vI word, vI 0, vI 29]) (rest := []) (pc' := 7) D96_4 rfl ck_10_static_102 TE142 rfl (Nat.le_of_ble_eq_true rfl) ⟨Nat.le_of_ble_eq_true rfl, Nat.le_of_ble_eq_true rfl⟩ (by decide) (dp_0 hd rfl) (k142 E (dp_n hd rfl) H word 0 29 (by omega) (by omega) (by omega)) ?_
  intro v1 q6
  obtain ⟨q3, q4, q5⟩ := q6
  refine r_ifc (tgt := 19) (pc' := 10) D96_7 rfl rfl (by unfold inR; omega) (fun (c7 : v1 = 0) => ?_) (fun (c7 : ¬ (v1 = 0)) => ?_)
  · refine s_blx (lv' := [(0, vR 0), (1, vI word), (2, vI what), (3, vI value)]) (st' := [vI (-1), vR 0]) B96_19_21 rfl ?_
    refine r_vI (c := 0) (args := [vI (-1)]) (rest := []) (pc' := 24) D96_21 rfl ck_10_virtual_106 TE133 rfl (Nat.le_of_ble_eq_true rfl) ⟨Nat.le_of_ble_eq_true rfl, Nat.le_of_ble_eq_true rfl⟩ sc_0 ⟨rfl, by decide⟩ H.1 (dp_0 hd rfl) (k133 E (dp_n hd rfl) H (-1) (by omega)) ?_
    intro v8 M9 q13
    obtain ⟨H10, f11, q12⟩ := q13
    have f14 := f0.tr (f11.up rfl)
    have kfr := f11
    have g15 : gi M9 0 9 = gi M 0 9 := (f11.g rfl).trans (rfl)
    exact r_iretI D96_24 rfl (⟨H10, f14, by omega, Or.inr ⟨fun h => by unfold WV at h; omega, by omega, kfr⟩⟩)
  · refine s_blx (lv' := [(0, vR 0), (1, vI word), (2, vI what), (3, vI value)]) (st' := [vI 2, vI 0, vI what]) B96_10_13 rfl ?_
    refine r_sIp (args := [vI what, vI 0, vI 2]) (rest := []) (pc' := 16) D96_13 rfl ck_10_static_102 TE142 rfl (Nat.le_of_ble_eq_true rfl) ⟨Nat.le_of_ble_eq_true rfl, Nat.le_of_ble_eq_true rfl⟩ (by decide) (dp_0 hd rfl) (k142 E (dp_n hd rfl) H what 0 2 (by omega) (by omega) (by omega)) ?_
    intro v16 q21
    obtain ⟨q18, q19, q20⟩ := q21
    refine r_ifc (tgt := 25) (pc' := 19) D96_16 rfl rfl (by unfold inR; omega) (fun (c22 : v16 ≠ 0) => ?_) (fun (c22 : ¬ (v16 ≠ 0)) => ?_)
    · refine s_blx (lv' := [(0, vR 0), (1, vI word), (2, vI what), (3, vI value)]) (st' := [vI value]) B96_25_26 rfl ?_
      obtain ⟨u23, f24, g25, g26, h27, k28⟩ := E.1 0 _ rfl
      refine r_gst (pc' := 29) D96_26 rfl st_10_110 g25 ?_
      refine s_blx (lv' := [(0, vR 0), (1, vI word), (2, vI what), (3, vI value)]) (st' := [vI what, vA u23, vI value]) B96_29_30 rfl ?_
      refine r_ialdT (pc' := 31) D96_30 rfl h27 g26 k28 (by first | omega | (show _ ∧ _ ∧ _; simp only [List.length]; omega)) ?_
      intro w29 e30 r31
      have b_w29 := tb_0 (what).toNat (by omega)
      rw [← e30] at b_w29; clear r31
      have kt30 := wl0 (what).toNat (by omega)
      rw [← e30] at kt30
      obtain ⟨u32, f33, g34, g35, h36, k37⟩ := E.1 1 _ rfl
      refine r_gst (pc' := 34) D96_31 rfl st_10_113 g34 ?_
      refine s_blx (lv' := [(0, vR 0), (1, vI word), (2, vI what), (3, vI value)]) (st' := [vI what, vA u32, vI w29, vI value]) B96_34_35 rfl ?_
      refine r_ialdT (pc' := 36) D96_35 rfl h36 g35 k37 (by first | omega | (show _ ∧ _ ∧ _; simp only [List.length]; omega)) ?_
      intro w38 e39 r40
      have b_w38 := tb_1 (what).toNat (by omega)
      rw [← e39] at b_w38; clear r40
      have kt35 := wm0 (what).toNat (by omega)
      rw [← e39] at kt35
      refine r_sIp (args := [vI value, vI w29, vI w38]) (rest := []) (pc' := 39) D96_36 rfl ck_10_static_102 TE142 rfl (Nat.le_of_ble_eq_true rfl) ⟨Nat.le_of_ble_eq_true rfl, Nat.le_of_ble_eq_true rfl⟩ (by decide) (dp_0 hd rfl) (k142 E (dp_n hd rfl) H value w29 w38 (by omega) (by omega) (by omega)) ?_
      intro v41 q46
      obtain ⟨q43, q44, q45⟩ := q46
      refine r_ifc (tgt := 48) (pc' := 42) D96_39 rfl rfl (by unfold inR; omega) (fun (c47 : v41 ≠ 0) => ?_) (fun (c47 : ¬ (v41 ≠ 0)) => ?_)
      · refine s_blx (lv' := [(0, vR 0), (1, vI word), (2, vI what), (3, vI value)]) (st' := [vR 0, vR 0]) B96_48_50 rfl ?_
        refine r_gfix (r := 1) (pc' := 53) D96_50 rfl gf_10_10_0 H.1 ?_
        refine r_gfix (r := 2) (pc' := 56) D96_53 rfl gf_10_116_1 H.1 ?_
        refine s_blx (lv' := [(0, vR 0), (1, vI word), (2, vI what), (3, vI value)]) (st' := [vI value, vI ((what * 30) + word), vR 2, vR 0]) B96_56_63 rfl ?_
        refine r_sI (args := [vR 2, vI ((what * 30) + word), vI value]) (rest := [vR 0]) (pc' := 66) D96_63 rfl ck_10_static_119 TE145 rfl (Nat.le_of_ble_eq_true rfl) ⟨Nat.le_of_ble_eq_true rfl, Nat.le_of_ble_eq_true rfl⟩ (by decide) (dp_0 hd rfl) (k145_2n E (dp_n hd rfl) H ((what * 30) + word) value (by omega) (by omega)) ?_
        intro v48 M49 q55
        obtain ⟨H50, f51, q52, q53, q54⟩ := q55
        have f56 := f0.tr (f51.up rfl)
        have kwr := q54
        refine r_vI (c := 0) (args := [vI v48]) (rest := []) (pc' := 69) D96_66 rfl ck_10_virtual_123 TE134 rfl (Nat.le_of_ble_eq_true rfl) ⟨Nat.le_of_ble_eq_true rfl, Nat.le_of_ble_eq_true rfl⟩ sc_0 ⟨rfl, by decide⟩ H50.1 (dp_0 hd rfl) (k134s E (dp_n hd rfl) H50 v48 (by omega)) ?_
        intro v57 M58 q63
        obtain ⟨H59, f60, q61, q62⟩ := q63
        have f64 := f56.tr (f60.up rfl)
        have kfa := f60
        have g65 : gi M58 0 9 = 1 := q62
        exact r_iretI D96_69 rfl (⟨H59, f64, by omega, Or.inl ⟨by unfold WV; omega, by omega, ⟨_, kwr, kfa⟩⟩⟩)
      · refine s_blx (lv' := [(0, vR 0), (1, vI word), (2, vI what), (3, vI value)]) (st' := [vI (-1), vR 0]) B96_42_44 rfl ?_
        refine r_vI (c := 0) (args := [vI (-1)]) (rest := []) (pc' := 47) D96_44 rfl ck_10_virtual_106 TE133 rfl (Nat.le_of_ble_eq_true rfl) ⟨Nat.le_of_ble_eq_true rfl, Nat.le_of_ble_eq_true rfl⟩ sc_0 ⟨rfl, by decide⟩ H.1 (dp_0 hd rfl) (k133 E (dp_n hd rfl) H (-1) (by omega)) ?_
        intro v66 M67 q71
        obtain ⟨H68, f69, q70⟩ := q71
        have f72 := f0.tr (f69.up rfl)
        have kfr := f69
        have g73 : gi M67 0 9 = gi M 0 9 := (f69.g rfl).trans (rfl)
        exact r_iretI D96_47 rfl (⟨H68, f72, by omega, Or.inr ⟨fun h => by unfold WV at h; omega, by omega, kfr⟩⟩)
    · refine s_blx (lv' := [(0, vR 0), (1, vI word), (2, vI what), (3, vI value)]) (st' := [vI (-1), vR 0]) B96_19_21 rfl ?_
      refine r_vI (c := 0) (args := [vI (-1)]) (rest := []) (pc' := 24) D96_21 rfl ck_10_virtual_106 TE133 rfl (Nat.le_of_ble_eq_true rfl) ⟨Nat.le_of_ble_eq_true rfl, Nat.le_of_ble_eq_true rfl⟩ sc_0 ⟨rfl, by decide⟩ H.1 (dp_0 hd rfl) (k133 E (dp_n hd rfl) H (-1) (by omega)) ?_
      intro v74 M75 q79
      obtain ⟨H76, f77, q78⟩ := q79
      have f80 := f0.tr (f77.up rfl)
      have kfr := f77
      have g81 : gi M75 0 9 = gi M 0 9 := (f77.g rfl).trans (rfl)
      exact r_iretI D96_24 rfl (⟨H76, f80, by omega, Or.inr ⟨fun h => by unfold WV at h; omega, by omega, kfr⟩⟩)
