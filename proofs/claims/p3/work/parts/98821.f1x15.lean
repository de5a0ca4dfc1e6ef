set_option maxRecDepth 4000 in
theorem k102n {base : Nat} {X : Nat → Option mC} {G : Nat → Value} (E : EnvOK base X G) {d : Nat} (hd : 2 ≤ d) {M : mH} (H : HI base M) (sentence : Int) (speaker : Int) (weight : Int) (h0 : -2147483648 ≤ sentence ∧ sentence ≤ 2147483647) (h1 : -2147483648 ≤ speaker ∧ speaker ≤ 2147483647) (h2 : -2147483648 ≤ weight ∧ weight ≤ 2147483647) : sOk base X G d T102 [vR 0, vI sentence, vI speaker, vI weight] M (pI (fun v M' => HI base M' ∧ Fr [(0, 6), (0, 10), (8, 0)] M M' ∧ (gi M' 0 9 = 1 ∨ gi M' 0 9 = gi M 0 9) ∧ ((GV (gi M 1 10) sentence speaker weight ∧ v = gi M 8 (sentence * 4 + speaker) ∧ ∃ M1, Wr M 8 (sentence * 4 + speaker).toNat (.int (Int32.ofInt weight)) M1 ∧ Fr [(0, 6), (0, 10)] M1 M') ∨ (¬ GV (gi M 1 10) sentence speaker weight ∧ (v = -1 ∨ v = -2) ∧ Fr [(0, 6)] M M')))) := by
  have f0 : Fr [(0, 6), (0, 10), (8, 0)] M M := Fr.rf
  refine sOk.of (show sRn base X G d T102 0 [(0, vR 0), (1, vI sentence), (2, vI speaker), (3, vI weight)] [] M _ from ?_)
  have km := H.2 1 10 0 16 rfl
  refine s_blx (lv' := [(0, vR 0), (1, vI sentence), (2, vI speaker), (3, vI weight)]) (st' := [vI 15, vI 0, vI sentence]) B102_0_4 rfl ?_
  refine r_sIp (args := [vI sentence, vI 0, vI 15]) (rest := []) (pc' := 7) D102_4 rfl ck_10_static_102 TE142 rfl (Nat.le_of_ble_eq_true rfl) ⟨Nat.le_of_ble_eq_true rfl, Nat.le_of_ble_eq_true rfl⟩ (by decide) (dp_0 hd rfl) (k142 E (dp_n hd rfl) H sentence 0 15 (by omega) (by omega) (by omega)) ?_
  intro v1 q6
  obtain ⟨q3, q4, q5⟩ := q6
  refine r_ifc (tgt := 29) (pc' := 10) D102_7 rfl rfl (by unfold inR; omega) (fun (c7 : v1 = 0) => ?_) (fun (c7 : ¬ (v1 = 0)) => ?_)
  · refine s_blx (lv' := [(0, vR 0), (1, vI sentence), (2, vI speaker), (3, vI weight)]) (st' := [vI (-1), vR 0]) B102_29_31 rfl ?_
    refine r_vI (c := 0) (args := [vI (-1)]) (rest := []) (pc' := 34) D102_31 rfl ck_10_virtual_106 TE133 rfl (Nat.le_of_ble_eq_true rfl) ⟨Nat.le_of_ble_eq_true rfl, Nat.le_of_ble_eq_true rfl⟩ sc_0 ⟨rfl, by decide⟩ H.1 (dp_0 hd rfl) (k133 E (dp_n hd rfl) H (-1) (by omega)) ?_
    intro v8 M9 q13
    obtain ⟨H10, f11, q12⟩ := q13
    have f14 := f0.tr (f11.up rfl)
    have kfr := f11
    have g15 : gi M9 0 9 = gi M 0 9 := (f11.g rfl).trans (rfl)
    exact r_iretI D102_34 rfl (⟨H10, f14, by omega, Or.inr ⟨fun h => by unfold GV at h; omega, by omega, kfr⟩⟩)
  · refine s_blx (lv' := [(0, vR 0), (1, vI sentence), (2, vI speaker), (3, vI weight)]) (st' := [vI 3, vI 0, vI speaker]) B102_10_13 rfl ?_
    refine r_sIp (args := [vI speaker, vI 0, vI 3]) (rest := []) (pc' := 16) D102_13 rfl ck_10_static_102 TE142 rfl (Nat.le_of_ble_eq_true rfl) ⟨Nat.le_of_ble_eq_true rfl, Nat.le_of_ble_eq_true rfl⟩ (by decide) (dp_0 hd rfl) (k142 E (dp_n hd rfl) H speaker 0 3 (by omega) (by omega) (by omega)) ?_
    intro v16 q21
    obtain ⟨q18, q19, q20⟩ := q21
    refine r_ifc (tgt := 29) (pc' := 19) D102_16 rfl rfl (by unfold inR; omega) (fun (c22 : v16 = 0) => ?_) (fun (c22 : ¬ (v16 = 0)) => ?_)
    · refine s_blx (lv' := [(0, vR 0), (1, vI sentence), (2, vI speaker), (3, vI weight)]) (st' := [vI (-1), vR 0]) B102_29_31 rfl ?_
      refine r_vI (c := 0) (args := [vI (-1)]) (rest := []) (pc' := 34) D102_31 rfl ck_10_virtual_106 TE133 rfl (Nat.le_of_ble_eq_true rfl) ⟨Nat.le_of_ble_eq_true rfl, Nat.le_of_ble_eq_true rfl⟩ sc_0 ⟨rfl, by decide⟩ H.1 (dp_0 hd rfl) (k133 E (dp_n hd rfl) H (-1) (by omega)) ?_
      intro v23 M24 q28
      obtain ⟨H25, f26, q27⟩ := q28
      have f29 := f0.tr (f26.up rfl)
      have kfr := f26
      have g30 : gi M24 0 9 = gi M 0 9 := (f26.g rfl).trans (rfl)
      exact r_iretI D102_34 rfl (⟨H25, f29, by omega, Or.inr ⟨fun h => by unfold GV at h; omega, by omega, kfr⟩⟩)
    · refine s_blx (lv' := [(0, vR 0), (1, vI sentence), (2, vI speaker), (3, vI weight)]) (st' := [vI 100, vI 0, vI weight]) B102_19_23 rfl ?_
      refine r_sIp (args := [vI weight, vI 0, vI 100]) (rest := []) (pc' := 26) D102_23 rfl ck_10_static_102 TE142 rfl (Nat.le_of_ble_eq_true rfl) ⟨Nat.le_of_ble_eq_true rfl, Nat.le_of_ble_eq_true rfl⟩ (by decide) (dp_0 hd rfl) (k142 E (dp_n hd rfl) H weight 0 100 (by omega) (by omega) (by omega)) ?_
      intro v31 q36
      obtain ⟨q33, q34, q35⟩ := q36
      refine r_ifc (tgt := 35) (pc' := 29) D102_26 rfl rfl (by unfold inR; omega) (fun (c37 : v31 ≠ 0) => ?_) (fun (c37 : ¬ (v31 ≠ 0)) => ?_)
      · refine s_blx (lv' := [(0, vR 0), (1, vI sentence), (2, vI speaker), (3, vI weight)]) (st' := [vR 0]) B102_35_36 rfl ?_
        refine r_gfix (r := 1) (pc' := 39) D102_36 rfl gf_10_10_0 H.1 ?_
        refine s_blx (lv' := [(0, vR 0), (1, vI sentence), (2, vI speaker), (3, vI weight)]) (st' := [vI sentence, vR 1]) B102_39_40 rfl ?_
        refine r_vIp (c := 1) (args := [vI sentence]) (rest := []) (pc' := 43) D102_40 rfl ck_10_virtual_174 TE65 rfl (Nat.le_of_ble_eq_true rfl) ⟨Nat.le_of_ble_eq_true rfl, Nat.le_of_ble_eq_true rfl⟩ sc_1 ⟨rfl, by decide⟩ H.1 (dp_0 hd rfl) (k65_1n E (dp_n hd rfl) H sentence (by omega)) ?_
        intro v38 q43
        obtain ⟨q40, q41, q42⟩ := q43
        refine r_ifc (tgt := 53) (pc' := 46) D102_43 rfl rfl (by unfold inR; omega) (fun (c44 : v38 ≠ 0) => ?_) (fun (c44 : ¬ (v38 ≠ 0)) => ?_)
        · refine s_blx (lv' := [(0, vR 0), (1, vI sentence), (2, vI speaker), (3, vI weight)]) (st' := [vR 0, vR 0]) B102_53_55 rfl ?_
          refine r_gfix (r := 1) (pc' := 58) D102_55 rfl gf_10_10_0 H.1 ?_
          refine r_gfix (r := 8) (pc' := 61) D102_58 rfl gf_10_177_1 H.1 ?_
          refine s_blx (lv' := [(0, vR 0), (1, vI sentence), (2, vI speaker), (3, vI weight)]) (st' := [vI weight, vI ((sentence * 4) + speaker), vR 8, vR 0]) B102_61_67 rfl ?_
          refine r_sI (args := [vR 8, vI ((sentence * 4) + speaker), vI weight]) (rest := [vR 0]) (pc' := 70) D102_67 rfl ck_10_static_119 TE145 rfl (Nat.le_of_ble_eq_true rfl) ⟨Nat.le_of_ble_eq_true rfl, Nat.le_of_ble_eq_true rfl⟩ (by decide) (dp_0 hd rfl) (k145_8n E (dp_n hd rfl) H ((sentence * 4) + speaker) weight (by omega) (by omega)) ?_
          intro v45 M46 q52
          obtain ⟨H47, f48, q49, q50, q51⟩ := q52
          have f53 := f0.tr (f48.up rfl)
          have kwr := q51
          refine r_vI (c := 0) (args := [vI v45]) (rest := []) (pc' := 73) D102_70 rfl ck_10_virtual_123 TE134 rfl (Nat.le_of_ble_eq_true rfl) ⟨Nat.le_of_ble_eq_true rfl, Nat.le_of_ble_eq_true rfl⟩ sc_0 ⟨rfl, by decide⟩ H47.1 (dp_0 hd rfl) (k134s E (dp_n hd rfl) H47 v45 (by omega)) ?_
          intro v54 M55 q60
          obtain ⟨H56, f57, q58, q59⟩ := q60
          have f61 := f53.tr (f57.up rfl)
          have kfa := f57
          have g62 : gi M55 0 9 = 1 := q59
          exact r_iretI D102_73 rfl (⟨H56, f61, by omega, Or.inl ⟨by unfold GV; omega, by omega, ⟨_, kwr, kfa⟩⟩⟩)
        · refine s_blx (lv' := [(0, vR 0), (1, vI sentence), (2, vI speaker), (3, vI weight)]) (st' := [vI (-2), vR 0]) B102_46_49 rfl ?_
          refine r_vI (c := 0) (args := [vI (-2)]) (rest := []) (pc' := 52) D102_49 rfl ck_10_virtual_106 TE133 rfl (Nat.le_of_ble_eq_true rfl) ⟨Nat.le_of_ble_eq_true rfl, Nat.le_of_ble_eq_true rfl⟩ sc_0 ⟨rfl, by decide⟩ H.1 (dp_0 hd rfl) (k133 E (dp_n hd rfl) H (-2) (by omega)) ?_
          intro v63 M64 q68
          obtain ⟨H65, f66, q67⟩ := q68
          have f69 := f0.tr (f66.up rfl)
          have kfr := f66
          have g70 : gi M64 0 9 = gi M 0 9 := (f66.g rfl).trans (rfl)
          exact r_iretI D102_52 rfl (⟨H65, f69, by omega, Or.inr ⟨fun h => by unfold GV at h; omega, by omega, kfr⟩⟩)
      · refine s_blx (lv' := [(0, vR 0), (1, vI sentence), (2, vI speaker), (3, vI weight)]) (st' := [vI (-1), vR 0]) B102_29_31 rfl ?_
        refine r_vI (c := 0) (args := [vI (-1)]) (rest := []) (pc' := 34) D102_31 rfl ck_10_virtual_106 TE133 rfl (Nat.le_of_ble_eq_true rfl) ⟨Nat.le_of_ble_eq_true rfl, Nat.le_of_ble_eq_true rfl⟩ sc_0 ⟨rfl, by decide⟩ H.1 (dp_0 hd rfl) (k133 E (dp_n hd rfl) H (-1) (by omega)) ?_
        intro v71 M72 q76
        obtain ⟨H73, f74, q75⟩ := q76
        have f77 := f0.tr (f74.up rfl)
        have kfr := f74
        have g78 : gi M72 0 9 = gi M 0 9 := (f74.g rfl).trans (rfl)
        exact r_iretI D102_34 rfl (⟨H73, f77, by omega, Or.inr ⟨fun h => by unfold GV at h; omega, by omega, kfr⟩⟩)
