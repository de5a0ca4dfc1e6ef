set_option maxRecDepth 4000 in
theorem L_k49_36 {base : Nat} {X : Nat → Option mC} {G : Nat → Value} (E : EnvOK base X G) {d : Nat} (hd : 1 ≤ d) {M : mH} (H : HI base M) (place : Int) (said : Int) (done : Int) (h0 : 0 ≤ place ∧ place ≤ 144) (h1 : (done = 0 ∧ said = 0) ∨ (done = 1 ∧ 1 ≤ said ∧ said ≤ 10) ∨ (done = 2 ∧ 11 ≤ said ∧ said ≤ 110) ∨ (done = 3 ∧ 111 ≤ said ∧ said ≤ 1110)) (h2 : 0 ≤ done ∧ done ≤ 3) (h3 : 0 ≤ said ∧ said ≤ 1110) : ∀ mz : Nat, (∀ (x4 x5 x6 x7 : Int), ((done - 1 - x7 = 0 ∧ x6 = 1 ∧ x4 = x5) ∨ (done - 1 - x7 = 1 ∧ x6 = 10 ∧ 1 ≤ x4 - 10 * x5 ∧ x4 - 10 * x5 ≤ 10) ∨ (done - 1 - x7 = 2 ∧ x6 = 100 ∧ 11 ≤ x4 - 100 * x5 ∧ x4 - 100 * x5 ≤ 110) ∨ (done - 1 - x7 = 3 ∧ x6 = 1000 ∧ 111 ≤ x4 - 1000 * x5 ∧ x4 - 1000 * x5 ≤ 1110)) → (((x7 + 1) = 0 ∧ x5 = 0) ∨ ((x7 + 1) = 1 ∧ 1 ≤ x5 ∧ x5 ≤ 10) ∨ ((x7 + 1) = 2 ∧ 11 ≤ x5 ∧ x5 ≤ 110) ∨ ((x7 + 1) = 3 ∧ 111 ≤ x5 ∧ x5 ≤ 1110)) → (0 ≤ x5 ∧ x5 ≤ 1110) → (1 ≤ x6 ∧ x6 ≤ 1000) → (-1 ≤ x7 ∧ x7 ≤ 2) → ((-1) ≤ x5) → (x5 ≤ 1110) → (1 ≤ x6) → (x6 ≤ 10000) → ((-1) ≤ x7) → (x7 ≤ 2) → (x7 + 1) * 1 + 0 < (mz : Int) → sRn base X G d T49 14 [(0, vR 36), (1, vI place), (4, vI x4), (5, vI x5), (6, vI x6), (7, vI x7)] [] M (s_Q base (pI (fun v M' => M' = M ∧ ((done = 0 ∧ v = 0) ∨ (done = 1 ∧ 1 ≤ v ∧ v ≤ 10) ∨ (done = 2 ∧ 11 ≤ v ∧ v ≤ 110) ∨ (done = 3 ∧ 111 ≤ v ∧ v ≤ 1110)) ∧ (0 ≤ v ∧ v ≤ 1110))))) := by
  intro mz
  induction mz with
  | zero => exact fun x4 x5 x6 x7 z0 z1 z2 z3 z4 z5 z6 z7 z8 z9 z10 z11 => by omega
  | succ mz ih =>
    intro x4 x5 x6 x7 i0 i1 i2 i3 i4 i5 i6 i7 i8 i9 i10 hmu
    refine s_blx (lv' := [(0, vR 36), (1, vI place), (4, vI x4), (5, vI x5), (6, vI x6), (7, vI x7)]) (st' := [vI x7]) B49_14_16 rfl ?_
    refine r_ifc (tgt := 84) (pc' := 19) D49_16 rfl rfl (by unfold inR; omega) (fun (c1 : x7 < 0) => ?_) (fun (c1 : ¬ (x7 < 0)) => ?_)
    · refine s_blx (lv' := [(0, vR 36), (1, vI place), (4, vI x4), (5, vI x5), (6, vI x6), (7, vI x7)]) (st' := [vI x4]) B49_84_86 rfl ?_
      exact r_iretI D49_86 rfl (⟨rfl, by omega, by omega⟩)
    · refine s_blx (lv' := [(0, vR 36), (1, vI place), (4, vI x4), (5, vI x5), (6, vI x6), (7, vI x7)]) (st' := [vI 10, vI (x5 - 1)]) B49_19_25 rfl ?_
      refine r_irem (pc' := 26) D49_25 rfl (by omega) ?_
      refine s_blx (lv' := [(8, vI ((x5 - 1) % 10)), (0, vR 36), (1, vI place), (4, vI x4), (5, vI x5), (6, vI x6), (7, vI x7)]) (st' := [vI 10, vI (x5 - 1)]) B49_26_34 rfl ?_
      refine r_idiv (pc' := 35) D49_34 rfl (by omega) ?_
      refine s_blx (lv' := [(5, vI ((x5 - 1) / 10)), (8, vI ((x5 - 1) % 10)), (0, vR 36), (1, vI place), (4, vI x4), (6, vI x6), (7, vI x7)]) (st' := [vI 8, vI ((x5 - 1) % 10)]) B49_35_41 rfl ?_
      refine r_icmp (tgt := 71) (pc' := 44) D49_41 rfl rfl (by unfold inR; omega) (fun (c2 : 8 ≤ ((x5 - 1) % 10)) => ?_) (fun (c2 : ¬ (8 ≤ ((x5 - 1) % 10))) => ?_)
      · refine s_blx (lv' := [(7, vI (x7 + (-1))), (6, vI (x6 * 10)), (5, vI ((x5 - 1) / 10)), (8, vI ((x5 - 1) % 10)), (0, vR 36), (1, vI place), (4, vI x4)]) (st' := []) B49_71_81 rfl ?_
        refine r_goto (tgt := 14) D49_81 rfl ?_
        refine r_loc (lv' := [(0, vR 36), (1, vI place), (4, vI x4), (5, vI ((x5 - 1) / 10)), (6, vI (x6 * 10)), (7, vI (x7 + (-1)))]) ⟨rfl, rfl, rfl, rfl, rfl, rfl, trivial⟩ rfl rfl ?_
        exact ih x4 ((x5 - 1) / 10) (x6 * 10) (x7 + (-1)) (by rcases i0 with ⟨z1, rfl, z2⟩ | ⟨z1, rfl, z2⟩ | ⟨z1, rfl, z2⟩ | ⟨z1, rfl, z2⟩ <;> omega) (by omega) (by omega) (by omega) (by omega) (by omega) (by omega) (by omega) (by omega) (by omega) (by omega) (by omega)
      · refine s_blx (lv' := [(5, vI ((x5 - 1) / 10)), (8, vI ((x5 - 1) % 10)), (0, vR 36), (1, vI place), (4, vI x4), (6, vI x6), (7, vI x7)]) (st' := [vR 36, vR 36, vI x4]) B49_44_48 rfl ?_
        refine r_gfix (r := 20) (pc' := 51) D49_48 rfl gf_7_31_36 H.1 ?_
        refine s_blx (lv' := [(5, vI ((x5 - 1) / 10)), (8, vI ((x5 - 1) % 10)), (0, vR 36), (1, vI place), (4, vI x4), (6, vI x6), (7, vI x7)]) (st' := [vI x7, vI place, vR 20, vR 36, vI x4]) B49_51_54 rfl ?_
        refine r_vIp (c := 20) (args := [vI place, vI x7]) (rest := [vR 36, vI x4]) (pc' := 57) D49_54 rfl ck_7_virtual_72 TE85 rfl (Nat.le_of_ble_eq_true rfl) ⟨Nat.le_of_ble_eq_true rfl, Nat.le_of_ble_eq_true rfl⟩ sc_20 ⟨rfl, by decide⟩ H.1 (dp_0 hd rfl) (k85_20 E (dp_n hd rfl) H place x7 (by omega) (by omega)) ?_
        intro v3 q6
        have q5 := q6
        refine s_blx (lv' := [(5, vI ((x5 - 1) / 10)), (8, vI ((x5 - 1) % 10)), (0, vR 36), (1, vI place), (4, vI x4), (6, vI x6), (7, vI x7)]) (st' := [vI ((x5 - 1) % 10), vI v3, vR 36, vI x4]) B49_57_59 rfl ?_
        refine r_vIp (c := 36) (args := [vI v3, vI ((x5 - 1) % 10)]) (rest := [vI x4]) (pc' := 62) D49_59 rfl ck_7_virtual_75 TE50 rfl (Nat.le_of_ble_eq_true rfl) ⟨Nat.le_of_ble_eq_true rfl, Nat.le_of_ble_eq_true rfl⟩ sc_36 ⟨rfl, by decide⟩ H.1 (dp_0 hd rfl) (k50_36 E (dp_n hd rfl) H v3 ((x5 - 1) % 10) (by omega) (by omega)) ?_
        intro v7 q10
        have q9 := q10
        refine s_blx (lv' := [(7, vI (x7 + (-1))), (6, vI (x6 * 10)), (4, vI (x4 + ((v7 - ((x5 - 1) % 10)) * x6))), (5, vI ((x5 - 1) / 10)), (8, vI ((x5 - 1) % 10)), (0, vR 36), (1, vI place)]) (st' := []) B49_62_81 rfl ?_
        refine r_goto (tgt := 14) D49_81 rfl ?_
        refine r_loc (lv' := [(0, vR 36), (1, vI place), (4, vI (x4 + ((v7 - ((x5 - 1) % 10)) * x6))), (5, vI ((x5 - 1) / 10)), (6, vI (x6 * 10)), (7, vI (x7 + (-1)))]) ⟨rfl, rfl, rfl, rfl, rfl, rfl, trivial⟩ rfl rfl ?_
        exact ih (x4 + ((v7 - ((x5 - 1) % 10)) * x6)) ((x5 - 1) / 10) (x6 * 10) (x7 + (-1)) (by rcases i0 with ⟨z1, rfl, z2⟩ | ⟨z1, rfl, z2⟩ | ⟨z1, rfl, z2⟩ | ⟨z1, rfl, z2⟩ <;> omega) (by omega) (by omega) (by omega) (by omega) (by omega) (by omega) (by omega) (by omega) (by omega) (by omega) (by omega)
