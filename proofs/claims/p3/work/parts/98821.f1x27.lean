set_option maxRecDepth 4000 in
theorem L_k60_1_13n {base : Nat} {X : Nat → Option mC} {G : Nat → Value} (E : EnvOK base X G) {d : Nat} (hd : 0 ≤ d) {M : mH} (H : HI base M) (length : Int) (h0 : TC length M) (h1 : 1 ≤ length ∧ length ≤ 8) (h2 : gi M 1 10 ≤ 15) : ∀ mz : Nat, (∀ (x3 x4 : Int) (N : mH), HI base N → Fr [(1, 11), (5, 0), (6, 0), (8, 0)] M N → (gi N 1 10 = x3) → (0 ≤ x3 ∧ x3 ≤ 15) → (0 ≤ x4 ∧ x4 ≤ 4) → (x3 = gi M 1 10) → (∀ i : Int, gi N 6 i = updN (gi M 6) (gi M 1 10) length i) → (∀ i : Int, gi N 8 i = wtN (gi M 8) (gi M 1 10 * 4) x4 i) → (∀ i : Int, 0 ≤ i → gi N 5 i = rwN (gi M 5) (gi M 13) (gi M 1 10 * 8) length i) → (0 ≤ x3) → (x3 ≤ 16) → (0 ≤ x4) → (x4 ≤ 4) → (4 - x4) * 1 + 0 < (mz : Int) → sRn base X G d T60 29 [(0, vR 1), (3, vI x3), (4, vI x4)] [] N (s_Q base (pI (fun v M' => HI base M' ∧ Fr [(1, 11), (5, 0), (6, 0), (8, 0)] M M' ∧ (0 ≤ v ∧ v ≤ 15) ∧ (v = gi M 1 10) ∧ (gi M' 1 10 = gi M 1 10 + 1) ∧ (∀ i : Int, gi M' 6 i = updN (gi M 6) (gi M 1 10) length i) ∧ (∀ i : Int, gi M' 8 i = wtN (gi M 8) (gi M 1 10 * 4) 4 i) ∧ (∀ i : Int, 0 ≤ i → gi M' 5 i = rwN (gi M 5) (gi M 13) (gi M 1 10 * 8) length i))))) := by
  have f0 : Fr [(1, 11), (5, 0), (6, 0), (8, 0)] M M := Fr.rf
  intro mz
  induction mz with
  | zero => exact fun x3 x4 N _ _ z0 z1 z2 z3 z4 z5 z6 z7 z8 z9 z10 z11 => by omega
  | succ mz ih =>
    intro x3 x4 N HN fN i0 i1 i2 i3 i4 i5 i6 i7 i8 i9 i10 hmu
    refine s_blx (lv' := [(0, vR 1), (3, vI x3), (4, vI x4)]) (st' := [vI 4, vI x4]) B60_29_32 rfl ?_
    refine r_icmp (tgt := 53) (pc' := 35) D60_32 rfl rfl (by unfold inR; omega) (fun (c14 : 4 ≤ x4) => ?_) (fun (c14 : ¬ (4 ≤ x4)) => ?_)
    · refine s_blx (lv' := [(0, vR 1), (3, vI x3), (4, vI x4)]) (st' := [vR 1, vR 1]) B60_53_55 rfl ?_
      refine r_gint (ki := 10) (pc' := 58) D60_55 rfl gf_8_43_1 rfl HN.1 ?_
      intro w15 e16 r17
      have e18 : x3 = w15 := (e16.trans (i0)).symm
      subst e18
      refine s_blx (lv' := [(0, vR 1), (3, vI x3), (4, vI x4)]) (st' := [vI (x3 + 1), vR 1]) B60_58_60 rfl ?_
      refine r_pint (ki := 10) (pc' := 63) D60_60 rfl pf_8_43_1 rfl HN (by unfold inR; omega) (show 0 ≤ (x3 + 1) ∧ (x3 + 1) ≤ 16 by omega) ?_
      intro M19 u20 H21 p22
      have f23 := fN.wr u20 rfl
      have kz := u20
      refine s_blx (lv' := [(0, vR 1), (3, vI x3), (4, vI x4)]) (st' := [vI x3]) B60_63_64 rfl ?_
      have g24 : gi M19 1 10 = x3 + 1 := p22
      exact r_iretI D60_64 rfl (⟨H21, f23, by omega, by omega, by first | (rw [g24]; omega) | rw [g24], fun i => by rw [kz.gi_ne (by decide) (Or.inl (by decide))]; exact i4 i, fun i => by rw [kz.gi_ne (by decide) (Or.inl (by decide)), i5 i, show x4 = 4 by omega], fun i hi => by rw [kz.gi_ne (by decide) (Or.inl (by decide))]; exact i6 i hi⟩)
    · refine s_blx (lv' := [(0, vR 1), (3, vI x3), (4, vI x4)]) (st' := [vR 1]) B60_35_36 rfl ?_
      refine r_gfix (r := 8) (pc' := 39) D60_36 rfl gf_8_40_1 HN.1 ?_
      refine s_blx (lv' := [(0, vR 1), (3, vI x3), (4, vI x4)]) (st' := [vI 1, vI ((x3 * 4) + x4), vR 8]) B60_39_46 rfl ?_
      refine r_iast (pc' := 47) D60_46 rfl sc_8 HN (by omega) (by unfold inR; omega) (show 0 ≤ 1 ∧ 1 ≤ 100 by omega) ?_
      intro M25 u26 H27 p28
      have f29 := fN.wr u26 rfl
      have ku := u26
      have kp := p28
      refine s_blx (lv' := [(4, vI (x4 + 1)), (0, vR 1), (3, vI x3)]) (st' := []) B60_47_50 rfl ?_
      refine r_goto (tgt := 29) D60_50 rfl ?_
      refine r_loc (lv' := [(0, vR 1), (3, vI x3), (4, vI (x4 + 1))]) ⟨rfl, rfl, rfl, trivial⟩ rfl rfl ?_
      have g30 : gi M25 1 10 = x3 := (u26.gi_ne (by omega) (Or.inl (by decide))).trans (i0)
      exact ih x3 (x4 + 1) M25 H27 f29 (by omega) (by omega) (by omega) (by omega) (fun i => by rw [ku.gi_ne (by omega) (Or.inl (by decide))]; exact i4 i) (wtN_step i5 ku kp (by omega) (by omega) (by omega)) (fun i hi => by rw [ku.gi_ne (by omega) (Or.inl (by decide))]; exact i6 i hi) (by omega) (by omega) (by omega) (by omega) (by omega)
