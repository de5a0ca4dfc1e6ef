set_option maxRecDepth 4000 in
set_option maxHeartbeats 4000000 in
theorem L_k250k {base : Nat} {X : Nat → Option mC} {G : Nat → Value} (E : EnvOK base X G) {d : Nat} (hd : 70 ≤ d) {M : mH} (H : HI base M) (text : Int) (K : Int → Int) (h0 : TB M) (h1 : KK K M) (h2 : GK M) (h3 : -2147483648 ≤ text ∧ text ≤ 2147483647) : ∀ mz : Nat, (∀ (x2 x4 : Int) (N : mH), HI base N → Fr [(77, 7), (77, 8), (77, 9), (77, 10), (77, 14), (77, 15), (77, 16), (77, 41), (77, 42), (77, 43), (77, 46), (77, 47), (83, 0), (84, 0), (85, 0), (100, 0), (101, 0)] M N → (0 ≤ text ∧ text < K 471) → (text ≤ 7) → (0 ≤ x4) → (x4 ≤ 16) → (0 ≤ text) → (text ≤ 7) → (16 - x4) * 1 + 0 < (mz : Int) → sRn base X G d T250 17 [(0, vR 77), (1, vI text), (2, vL x2), (4, vI x4)] [] N (s_Q base (pL (fun v M' => HI base M' ∧ Fr [(77, 7), (77, 8), (77, 9), (77, 10), (77, 14), (77, 15), (77, 16), (77, 41), (77, 42), (77, 43), (77, 46), (77, 47), (83, 0), (84, 0), (85, 0), (100, 0), (101, 0)] M M')))) := by
  have f0 : Fr [(77, 7), (77, 8), (77, 9), (77, 10), (77, 14), (77, 15), (77, 16), (77, 41), (77, 42), (77, 43), (77, 46), (77, 47), (83, 0), (84, 0), (85, 0), (100, 0), (101, 0)] M M := Fr.rf
  intro mz
  induction mz with
  | zero => exact fun x2 x4 N _ _ z0 z1 z2 z3 z4 z5 z6 => by omega
  | succ mz ih =>
    intro x2 x4 N HN fN i0 i1 i2 i3 i4 i5 hmu
    refine s_blx (lv' := [(0, vR 77), (1, vI text), (2, vL x2), (4, vI x4)]) (st' := [vR 77, vI x4]) B250_17_20 rfl ?_
    refine r_gfix (r := 78) (pc' := 23) D250_20 rfl gf_11_13_77 HN.1 ?_
    refine s_blx (lv' := [(0, vR 77), (1, vI text), (2, vL x2), (4, vI x4)]) (st' := [vI 469, vR 78, vI x4]) B250_23_26 rfl ?_
    refine r_iald (pc' := 27) D250_26 rfl sc_78 HN.1 (by omega) ?_
    intro w7 e8 r9
    have kk_w7 := ((h1.fr fN rfl)) (469)
    have b_w7 := HN.2 78 (469) 0 16 (rk_many (by omega))
    rw [← e8] at b_w7; clear r9
    refine r_icmp (tgt := 63) (pc' := 30) D250_27 rfl rfl (by unfold inR; omega) (fun (c10 : w7 ≤ x4) => ?_) (fun (c10 : ¬ (w7 ≤ x4)) => ?_)
    · refine s_blx (lv' := [(0, vR 77), (1, vI text), (2, vL x2), (4, vI x4)]) (st' := [vL x2]) B250_63_64 rfl ?_
      exact r_lretL D250_64 rfl (⟨HN, fN⟩)
    · refine s_blx (lv' := [(0, vR 77), (1, vI text), (2, vL x2), (4, vI x4)]) (st' := [vI x4, vR 77]) B250_30_33 rfl ?_
      refine r_vIp (c := 77) (args := [vI x4]) (rest := []) (pc' := 36) D250_33 rfl ck_11_virtual_138 TE159 rfl (Nat.le_of_ble_eq_true rfl) ⟨Nat.le_of_ble_eq_true rfl, Nat.le_of_ble_eq_true rfl⟩ sc_77 ⟨rfl, by decide⟩ HN.1 (dp_0 hd rfl) (k159f E (dp_n hd rfl) HN x4 K ((h1.fr fN rfl)) (by omega)) ?_
      intro v11 q15
      obtain ⟨q13, q14⟩ := q15
      have kw := q14
      refine r_ifc (tgt := 57) (pc' := 39) D250_36 rfl rfl (by unfold inR; omega) (fun (c16 : v11 ≤ 0) => ?_) (fun (c16 : ¬ (v11 ≤ 0)) => ?_)
      · refine s_blx (lv' := [(4, vI (x4 + 1)), (0, vR 77), (1, vI text), (2, vL x2)]) (st' := []) B250_57_60 rfl ?_
        refine r_goto (tgt := 17) D250_60 rfl ?_
        refine r_loc (lv' := [(0, vR 77), (1, vI text), (2, vL x2), (4, vI (x4 + 1))]) ⟨rfl, rfl, rfl, rfl, trivial⟩ rfl rfl ?_
        exact ih x2 (x4 + 1) N HN fN (by omega) (by omega) (by omega) (by omega) (by omega) (by omega) (by omega)
      · refine s_blx (lv' := [(0, vR 77), (1, vI text), (2, vL x2), (4, vI x4)]) (st' := [vI x4, vR 77, vL x2]) B250_39_43 rfl ?_
        refine r_vIp (c := 77) (args := [vI x4]) (rest := [vL x2]) (pc' := 46) D250_43 rfl ck_11_virtual_138 TE159 rfl (Nat.le_of_ble_eq_true rfl) ⟨Nat.le_of_ble_eq_true rfl, Nat.le_of_ble_eq_true rfl⟩ sc_77 ⟨rfl, by decide⟩ HN.1 (dp_0 hd rfl) (k159f E (dp_n hd rfl) HN x4 K ((h1.fr fN rfl)) (by omega)) ?_
        intro v17 q21
        obtain ⟨q19, q20⟩ := q21
        refine r_i2l (pc' := 47) D250_46 rfl (by unfold inR; omega) ?_
        refine s_blx (lv' := [(0, vR 77), (1, vI text), (2, vL x2), (4, vI x4)]) (st' := [vI x4, vI text, vR 77, vL v17, vL x2]) B250_47_51 rfl ?_
        refine r_vL (c := 77) (args := [vI text, vI x4]) (rest := [vL v17, vL x2]) (pc' := 54) D250_51 rfl ck_11_virtual_446 TE247 rfl (Nat.le_of_ble_eq_true rfl) ⟨Nat.le_of_ble_eq_true rfl, Nat.le_of_ble_eq_true rfl⟩ sc_77 ⟨rfl, by decide⟩ HN.1 (dp_0 hd rfl) (k247k E (dp_n hd rfl) HN text x4 K ((h0.fr fN rfl)) ((h1.fr fN rfl)) ((h2.fr fN rfl)) (by omega) (by omega) (by omega) (by omega) (by omega)) ?_
        intro v22 M23 q26
        obtain ⟨H24, f25⟩ := q26
        have f27 := fN.tr (f25.up rfl)
        refine s_blx (lv' := [(4, vI (x4 + 1)), (2, vL (x2 + (v17 * v22))), (0, vR 77), (1, vI text)]) (st' := []) B250_54_60 rfl ?_
        refine r_goto (tgt := 17) D250_60 rfl ?_
        refine r_loc (lv' := [(0, vR 77), (1, vI text), (2, vL (x2 + (v17 * v22))), (4, vI (x4 + 1))]) ⟨rfl, rfl, rfl, rfl, trivial⟩ rfl rfl ?_
        exact ih (x2 + (v17 * v22)) (x4 + 1) M23 H24 f27 (by omega) (by omega) (by omega) (by omega) (by omega) (by omega) (by omega)
