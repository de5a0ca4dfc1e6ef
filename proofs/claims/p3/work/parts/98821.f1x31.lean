set_option maxRecDepth 4000 in
theorem k103n {base : Nat} {X : Nat → Option mC} {G : Nat → Value} (E : EnvOK base X G) {d : Nat} (hd : 2 ≤ d) {M : mH} (H : HI base M) (sentence : Int) (i : Int) (h0 : -2147483648 ≤ sentence ∧ sentence ≤ 2147483647) (h1 : -2147483648 ≤ i ∧ i ≤ 2147483647) : sOk base X G d T103 [vR 0, vI sentence, vI i] M (pI (fun v M' => M' = M ∧ (-2147483648 ≤ v ∧ v ≤ 2147483647) ∧ (0 ≤ sentence ∧ sentence < gi M 1 10 ∧ i = -1 → v = gi M 6 sentence) ∧ (0 ≤ sentence ∧ sentence < gi M 1 10 ∧ 0 ≤ i ∧ i < gi M 6 sentence → v = gi M 5 (sentence * 8 + i)) ∧ ((sentence < 0 ∨ gi M 1 10 ≤ sentence ∨ i < -1 ∨ gi M 6 sentence ≤ i) → v = -1))) := by
  refine sOk.of (show sRn base X G d T103 0 [(0, vR 0), (1, vI sentence), (2, vI i)] [] M _ from ?_)
  refine s_blx (lv' := [(0, vR 0), (1, vI sentence), (2, vI i)]) (st' := [vR 0]) B103_0_1 rfl ?_
  refine r_gfix (r := 1) (pc' := 4) D103_1 rfl gf_10_10_0 H.1 ?_
  refine s_blx (lv' := [(0, vR 0), (1, vI sentence), (2, vI i)]) (st' := [vI sentence, vR 1]) B103_4_5 rfl ?_
  refine r_vIp (c := 1) (args := [vI sentence]) (rest := []) (pc' := 8) D103_5 rfl ck_10_virtual_174 TE65 rfl (Nat.le_of_ble_eq_true rfl) ⟨Nat.le_of_ble_eq_true rfl, Nat.le_of_ble_eq_true rfl⟩ sc_1 ⟨rfl, by decide⟩ H.1 (dp_0 hd rfl) (k65_1n E (dp_n hd rfl) H sentence (by omega)) ?_
  intro v1 q6
  obtain ⟨q3, q4, q5⟩ := q6
  refine r_ifc (tgt := 13) (pc' := 11) D103_8 rfl rfl (by unfold inR; omega) (fun (c7 : v1 ≠ 0) => ?_) (fun (c7 : ¬ (v1 ≠ 0)) => ?_)
  · refine s_blx (lv' := [(0, vR 0), (1, vI sentence), (2, vI i)]) (st' := [vR 0]) B103_13_14 rfl ?_
    refine r_gfix (r := 1) (pc' := 17) D103_14 rfl gf_10_10_0 H.1 ?_
    refine r_gfix (r := 6) (pc' := 20) D103_17 rfl gf_10_180_1 H.1 ?_
    refine s_blx (lv' := [(0, vR 0), (1, vI sentence), (2, vI i)]) (st' := [vI sentence, vR 6]) B103_20_21 rfl ?_
    refine r_iald (pc' := 22) D103_21 rfl sc_6 H.1 (by omega) ?_
    intro w8 e9 r10
    have b_w8 := H.2 6 (sentence) 0 8 rfl
    rw [← e9] at b_w8; clear r10
    refine s_blx (lv' := [(3, vI w8), (0, vR 0), (1, vI sentence), (2, vI i)]) (st' := [vI (-1), vI i]) B103_22_25 rfl ?_
    refine r_icmp (tgt := 30) (pc' := 28) D103_25 rfl rfl (by unfold inR; omega) (fun (c11 : i ≠ (-1)) => ?_) (fun (c11 : ¬ (i ≠ (-1))) => ?_)
    · refine s_blx (lv' := [(3, vI w8), (0, vR 0), (1, vI sentence), (2, vI i)]) (st' := [vI (w8 - 1), vI 0, vI i]) B103_30_35 rfl ?_
      refine r_sIp (args := [vI i, vI 0, vI (w8 - 1)]) (rest := []) (pc' := 38) D103_35 rfl ck_10_static_102 TE142 rfl (Nat.le_of_ble_eq_true rfl) ⟨Nat.le_of_ble_eq_true rfl, Nat.le_of_ble_eq_true rfl⟩ (by decide) (dp_0 hd rfl) (k142 E (dp_n hd rfl) H i 0 (w8 - 1) (by omega) (by omega) (by omega)) ?_
      intro v12 q17
      obtain ⟨q14, q15, q16⟩ := q17
      refine r_ifc (tgt := 58) (pc' := 41) D103_38 rfl rfl (by unfold inR; omega) (fun (c18 : v12 = 0) => ?_) (fun (c18 : ¬ (v12 = 0)) => ?_)
      · refine s_blx (lv' := [(3, vI w8), (0, vR 0), (1, vI sentence), (2, vI i)]) (st' := [vI (-1)]) B103_58_59 rfl ?_
        exact r_iretI D103_59 rfl (⟨rfl, by omega, by omega, by omega, by omega⟩)
      · refine s_blx (lv' := [(3, vI w8), (0, vR 0), (1, vI sentence), (2, vI i)]) (st' := [vR 0]) B103_41_42 rfl ?_
        refine r_gfix (r := 1) (pc' := 45) D103_42 rfl gf_10_10_0 H.1 ?_
        refine r_gfix (r := 5) (pc' := 48) D103_45 rfl gf_10_183_1 H.1 ?_
        refine s_blx (lv' := [(3, vI w8), (0, vR 0), (1, vI sentence), (2, vI i)]) (st' := [vI ((sentence * 8) + i), vR 5]) B103_48_54 rfl ?_
        refine r_iald (pc' := 55) D103_54 rfl sc_5 H.1 (by omega) ?_
        intro w19 e20 r21
        have b_w19 := H.2 5 ((sentence * 8) + i) 0 29 rfl
        rw [← e20] at b_w19; clear r21
        refine r_goto (tgt := 59) D103_55 rfl ?_
        exact r_iretI D103_59 rfl (⟨rfl, by omega, by omega, by omega, by omega⟩)
    · refine s_blx (lv' := [(3, vI w8), (0, vR 0), (1, vI sentence), (2, vI i)]) (st' := [vI w8]) B103_28_29 rfl ?_
      exact r_iretI D103_29 rfl (⟨rfl, by omega, by omega, by omega, by omega⟩)
  · refine s_blx (lv' := [(0, vR 0), (1, vI sentence), (2, vI i)]) (st' := [vI (-1)]) B103_11_12 rfl ?_
    exact r_iretI D103_12 rfl (⟨rfl, by omega, by omega, by omega, by omega⟩)

