set_option maxRecDepth 4000 in
theorem k54_36 {base : Nat} {X : Nat → Option mC} {G : Nat → Value} (E : EnvOK base X G) {rr : Nat} (ihr : ∀ {d : Nat} (_ : 8 + 4 * rr ≤ d) {M : mH} (_ : HI base M) (place : Int) (said : Int) (done : Int) (depth : Int) (n : Int), (RW base 37 n M) → (TR 21 n M) → (1 ≤ n ∧ n ≤ 145) → (0 ≤ done ∧ done ≤ 3 ∧ 0 ≤ said ∧ said ≤ 1110) → (1 ≤ place ∧ place < n) → ((done = 0 ∧ said = 0) ∨ (done = 1 ∧ 1 ≤ said ∧ said ≤ 10) ∨ (done = 2 ∧ 11 ≤ said ∧ said ≤ 110) ∨ (done = 3 ∧ 111 ≤ said ∧ said ≤ 1110)) → (0 ≤ depth ∧ depth ≤ 41) → 41 - depth < ((rr : Nat) : Int) → sOk base X G d T52 [vR 36, vI place, vI said, vI done, vI depth] M (pL (fun v M' => HI base M' ∧ Fq [(38, 0)] M M'))) {d : Nat} (hd : 11 + 4 * rr ≤ d) {M : mH} (H : HI base M) (place : Int) (mended : Int) (done : Int) (at_ : Int) (depth : Int) (n : Int) (h0 : RW base 37 n M) (h1 : TR 21 n M) (h2 : 1 ≤ n ∧ n ≤ 145) (h3 : 0 ≤ done ∧ done ≤ 3 ∧ 0 ≤ mended ∧ mended ≤ 1110) (h4 : 1 ≤ place ∧ place < n) (h5 : (done = 0 ∧ mended = 0) ∨ (done = 1 ∧ 1 ≤ mended ∧ mended ≤ 10) ∨ (done = 2 ∧ 11 ≤ mended ∧ mended ≤ 110) ∨ (done = 3 ∧ 111 ≤ mended ∧ mended ≤ 1110)) (h6 : 0 ≤ at_ ∧ at_ ≤ 2) (h7 : 0 ≤ depth ∧ depth ≤ 40 ∧ 40 - depth < (rr : Int)) : sOk base X G d T54 [vR 36, vI place, vI mended, vI done, vI at_, vI depth] M (pL (fun v M' => HI base M' ∧ Fq [(38, 0)] M M')) := by
  have f0 : Fq [(38, 0)] M M := Fq.rf
  refine sOk.of (show sRn base X G d T54 0 [(0, vR 36), (1, vI place), (2, vI mended), (3, vI done), (4, vI at_), (5, vI depth)] [] M _ from ?_)
  refine s_blx (lv' := [(0, vR 36), (1, vI place), (2, vI mended), (3, vI done), (4, vI at_), (5, vI depth)]) (st' := [vR 36]) B54_0_1 rfl ?_
  refine r_gfix (r := 20) (pc' := 4) D54_1 rfl gf_7_31_36 H.1 ?_
  refine s_blx (lv' := [(0, vR 36), (1, vI place), (2, vI mended), (3, vI done), (4, vI at_), (5, vI depth)]) (st' := [vI at_, vI place, vR 20]) B54_4_7 rfl ?_
  refine r_vIp (c := 20) (args := [vI place, vI at_]) (rest := []) (pc' := 10) D54_7 rfl ck_7_virtual_72 TE85 rfl (Nat.le_of_ble_eq_true rfl) ⟨Nat.le_of_ble_eq_true rfl, Nat.le_of_ble_eq_true rfl⟩ sc_20 ⟨rfl, by decide⟩ H.1 (by omega) (k85_20 E (by omega) H place at_ (by omega) (by omega)) ?_
  intro v1 q4
  have q3 := q4
  refine s_blx (lv' := [(6, vI v1), (0, vR 36), (1, vI place), (2, vI mended), (3, vI done), (4, vI at_), (5, vI depth)]) (st' := [vR 36]) B54_10_13 rfl ?_
  refine r_gfix (r := 20) (pc' := 16) D54_13 rfl gf_7_31_36 H.1 ?_
  refine r_gfix (r := 28) (pc' := 19) D54_16 rfl gf_7_81_20 H.1 ?_
  refine s_blx (lv' := [(6, vI v1), (0, vR 36), (1, vI place), (2, vI mended), (3, vI done), (4, vI at_), (5, vI depth)]) (st' := [vI v1, vR 28]) B54_19_21 rfl ?_
  refine r_iald (pc' := 22) D54_21 rfl sc_28 H.1 (by omega) ?_
  intro w5 e6 r7
  have b_w5 := H.2 28 (v1) (-1) 7 rfl
  rw [← e6] at b_w5; clear r7
  refine s_blx (lv' := [(6, vI v1), (0, vR 36), (1, vI place), (2, vI mended), (3, vI done), (4, vI at_), (5, vI depth)]) (st' := [vI (-1), vI w5]) B54_22_23 rfl ?_
  refine r_icmp (tgt := 30) (pc' := 26) D54_23 rfl rfl (by unfold inR; omega) (fun (c8 : w5 ≠ (-1)) => ?_) (fun (c8 : ¬ (w5 ≠ (-1))) => ?_)
  · refine s_blx (lv' := [(6, vI v1), (0, vR 36), (1, vI place), (2, vI mended), (3, vI done), (4, vI at_), (5, vI depth)]) (st' := [vR 36]) B54_30_31 rfl ?_
    refine r_gfix (r := 20) (pc' := 34) D54_31 rfl gf_7_31_36 H.1 ?_
    refine r_gfix (r := 23) (pc' := 37) D54_34 rfl gf_7_39_20 H.1 ?_
    refine s_blx (lv' := [(6, vI v1), (0, vR 36), (1, vI place), (2, vI mended), (3, vI done), (4, vI at_), (5, vI depth)]) (st' := [vI place, vR 23]) B54_37_38 rfl ?_
    refine r_iald (pc' := 39) D54_38 rfl sc_23 H.1 (by omega) ?_
    intro w9 e10 r11
    unfold inR at r11
    refine r_i2l (pc' := 40) D54_39 rfl (by unfold inR; omega) ?_
    refine s_blx (lv' := [(6, vI v1), (0, vR 36), (1, vI place), (2, vI mended), (3, vI done), (4, vI at_), (5, vI depth)]) (st' := [vR 36, vL w9]) B54_40_41 rfl ?_
    refine r_gfix (r := 20) (pc' := 44) D54_41 rfl gf_7_31_36 H.1 ?_
    refine r_gfix (r := 34) (pc' := 47) D54_44 rfl gf_7_110_20 H.1 ?_
    refine s_blx (lv' := [(6, vI v1), (0, vR 36), (1, vI place), (2, vI mended), (3, vI done), (4, vI at_), (5, vI depth)]) (st' := [vI 6, vR 34, vL w9]) B54_47_49 rfl ?_
    refine r_iald (pc' := 50) D54_49 rfl sc_34 H.1 (by omega) ?_
    intro w12 e13 r14
    have b_w12 := H.2 34 (6) 0 1000 rfl
    rw [← e13] at b_w12; clear r14
    refine r_i2l (pc' := 51) D54_50 rfl (by unfold inR; omega) ?_
    refine s_blx (lv' := [(6, vI v1), (0, vR 36), (1, vI place), (2, vI mended), (3, vI done), (4, vI at_), (5, vI depth)]) (st' := [vI depth, vI done, vI mended, vI place, vR 36, vL (w9 * w12)]) B54_51_58 rfl ?_
    refine r_vL (c := 36) (args := [vI place, vI mended, vI done, vI depth]) (rest := [vL (w9 * w12)]) (pc' := 61) D54_58 rfl ck_7_virtual_90 TE55 rfl (Nat.le_of_ble_eq_true rfl) ⟨Nat.le_of_ble_eq_true rfl, Nat.le_of_ble_eq_true rfl⟩ sc_36 ⟨rfl, by decide⟩ H.1 (by omega) (k55_36 E ihr (by omega) H place mended done depth n (h0) (h1) (by omega) (by omega) (by omega) (by omega) (by omega)) ?_
    intro v15 M16 q19
    obtain ⟨H17, f18⟩ := q19
    have f20 := f0.tr (f18.up rfl)
    refine s_blx (lv' := [(7, vL ((w9 * w12) + v15)), (6, vI v1), (0, vR 36), (1, vI place), (2, vI mended), (3, vI done), (4, vI at_), (5, vI depth)]) (st' := [vI ((20 + v1) - (place * 3)), vL ((w9 * w12) + v15)]) B54_61_75 rfl ?_
    refine r_sLp (args := [vL ((w9 * w12) + v15), vI ((20 + v1) - (place * 3))]) (rest := []) (pc' := 78) D54_75 rfl ck_7_static_93 TE51 rfl (Nat.le_of_ble_eq_true rfl) ⟨Nat.le_of_ble_eq_true rfl, Nat.le_of_ble_eq_true rfl⟩ (by decide) (by omega) (k51 E (by omega) H17 ((w9 * w12) + v15) ((20 + v1) - (place * 3)) (by omega)) ?_
    intro v21 q23
    exact r_lretL D54_78 rfl (⟨H17, f20⟩)
  · refine r_ldc2 (e := 4611686018427387904) (pc' := 29) D54_26 rfl cl_7_88 (by decide) ?_
    exact r_lretL D54_29 rfl (⟨H, f0⟩)
