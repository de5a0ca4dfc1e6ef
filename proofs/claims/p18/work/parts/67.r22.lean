/-! The reference's images keep what is kept. -/
noncomputable def LI (k : Int) (M : mH) : Prop := ∀ s : Int, 0 ≤ s → s < gi M 79 (6883 * k + 469) → 1 ≤ gi M 79 (6883 * k + (135 + 16 * s))
noncomputable def GI (k : Int) (M : mH) : Prop := ∀ t : Int, 0 ≤ t → t < gi M 79 (6883 * k + 471) → AC 79 (6883 * k + (483 + 400 * t)) (gi M 79 (6883 * k + (475 + t))) M
noncomputable def IM (M : mH) : Prop := ∀ k : Int, k = 0 ∨ k = 1 → gi M 80 k = 1 → LI k M ∧ GI k M
theorem IM.fr {L : List (Nat × Nat)} {M M' : mH} (h : IM M) (f : Fr L M M') (hc : s_al L (fun c => c != 79 && c != 80) = true) : IM M' := by
  have e1 : ∀ i : Int, gi M' 79 i = gi M 79 i := fun _ => f.g (s_al_ok hc (by simp))
  have e2 : ∀ i : Int, gi M' 80 i = gi M 80 i := fun _ => f.g (s_al_ok hc (by simp))
  intro k hk h1
  rw [e2] at h1
  obtain ⟨a, b⟩ := h k hk h1
  refine ⟨fun s q1 q2 => ?_, fun t q1 q2 => ?_⟩
  · rw [e1] at q2 ⊢; exact a s q1 q2
  · rw [e1] at q2 ⊢; exact (b t q1 q2).of (fun j _ _ => e1 _)
theorem IM.wr {M M' : mH} {c i : Nat} {v : Value} (h : IM M) (u : Wr M c i v M') (hc : c ≠ 79 ∧ c ≠ 80) : IM M' := by
  have e1 : ∀ i : Int, gi M' 79 i = gi M 79 i := fun j => by unfold gi; rw [u.ne (Or.inl (Ne.symm hc.1))]
  have e2 : ∀ i : Int, gi M' 80 i = gi M 80 i := fun j => by unfold gi; rw [u.ne (Or.inl (Ne.symm hc.2))]
  intro k hk h1
  rw [e2] at h1
  obtain ⟨a, b⟩ := h k hk h1
  refine ⟨fun s q1 q2 => ?_, fun t q1 q2 => ?_⟩
  · rw [e1] at q2 ⊢; exact a s q1 q2
  · rw [e1] at q2 ⊢; exact (b t q1 q2).of (fun j _ _ => e1 _)
/-- what is kept is made an image -/
theorem IM.make {base : Nat} {M N : mH} {k : Int} (h : IM M) (hk : k = 0 ∨ k = 1) (HN : HI base N) (hl : LN N) (hg : GK N) (hc : ∀ j : Int, 0 ≤ j → j < 6883 → gi N 79 (6883 * k + j) = gi N 78 j)
    (ho : ∀ j : Int, 0 ≤ j → (j < 6883 * k ∨ 6883 * k + 6883 ≤ j) → gi N 79 j = gi M 79 j) (h8 : ∀ i : Int, i ≠ k → gi N 80 i = gi M 80 i) : IM N := by
  have hm := HN.2 78 469 0 16 (rk_many (by omega))
  have ht := HN.2 78 471 0 8 (rk_told (by omega))
  intro k' hk' h1
  by_cases e : k' = k
  · subst e
    refine ⟨fun s q1 q2 => ?_, fun t q1 q2 => ?_⟩
    · rw [hc 469 (by omega) (by omega)] at q2
      rw [hc _ (by omega) (by omega)]
      exact hl s q1 q2
    · rw [hc 471 (by omega) (by omega)] at q2
      have hz := HN.2 78 (475 + t) 0 400 (rk_sizes (by omega))
      rw [hc (475 + t) (by omega) (by omega)]
      obtain ⟨F, f0, f1, f2⟩ := hg t q1 q2
      refine ⟨F, f0, fun j a b => ?_, f2⟩
      rw [show 6883 * k' + (483 + 400 * t) + j = 6883 * k' + (483 + 400 * t + j) by omega, hc _ (by omega) (by omega)]
      exact f1 j a b
  · rw [h8 k' e] at h1
    obtain ⟨a, b⟩ := h k' hk' h1
    have h9 : ∀ j : Int, 0 ≤ j → j < 6883 → gi N 79 (6883 * k' + j) = gi M 79 (6883 * k' + j) := fun j q1 q2 => ho _ (by omega) (by omega)
    have hm2 := HN.2 79 (6883 * k' + 469) 0 16 (by rw [rg79 hk' (by omega)]; exact rk_many (by omega))
    have ht2 := HN.2 79 (6883 * k' + 471) 0 8 (by rw [rg79 hk' (by omega)]; exact rk_told (by omega))
    refine ⟨fun s q1 q2 => ?_, fun t q1 q2 => ?_⟩
    · rw [h9 469 (by omega) (by omega)] at q2 hm2
      rw [h9 _ (by omega) (by omega)]
      exact a s q1 q2
    · rw [h9 471 (by omega) (by omega)] at q2 ht2
      have hz := HN.2 79 (6883 * k' + (475 + t)) 0 400 (by rw [rg79 hk' (by omega)]; exact rk_sizes (by omega))
      rw [h9 (475 + t) (by omega) (by omega)] at hz ⊢
      refine (b t q1 q2).of (fun j a b => ?_)
      rw [show 6883 * k' + (483 + 400 * t) + j = 6883 * k' + (483 + 400 * t + j) by omega]
      exact h9 _ (by omega) (by omega)
/-- an image is kept again -/
theorem IM.back {base : Nat} {N : mH} {k : Int} (h : LI k N ∧ GI k N) (hk : k = 0 ∨ k = 1) (HN : HI base N) (hc : ∀ j : Int, 0 ≤ j → j < 6883 → gi N 78 j = gi N 79 (6883 * k + j)) : LN N ∧ GK N := by
  have hm := HN.2 78 469 0 16 (rk_many (by omega))
  have ht := HN.2 78 471 0 8 (rk_told (by omega))
  obtain ⟨a, b⟩ := h
  refine ⟨fun s q1 q2 => ?_, fun t q1 q2 => ?_⟩
  · have q3 := q2
    rw [hc 469 (by omega) (by omega)] at q3
    rw [hc _ (by omega) (by omega)]
    exact a s q1 q3
  · have q3 := q2
    rw [hc 471 (by omega) (by omega)] at q3
    have hz := HN.2 78 (475 + t) 0 400 (rk_sizes (by omega))
    rw [hc (475 + t) (by omega) (by omega)] at hz ⊢
    obtain ⟨F, f0, f1, f2⟩ := b t q1 q3
    refine ⟨F, f0, fun j a b => ?_, f2⟩
    rw [hc _ (by omega) (by omega), show 6883 * k + (483 + 400 * t + j) = 6883 * k + (483 + 400 * t) + j by omega]
    exact f1 j a b

set_option maxRecDepth 4000 in
theorem L_k151k {base : Nat} {X : Nat → Option mC} {G : Nat → Value} (E : EnvOK base X G) {d : Nat} (hd : 1 ≤ d) {M : mH} (H : HI base M) (k : Int) (h0 : -2147483648 ≤ k ∧ k ≤ 2147483647) (h1 : LN M) (h2 : GK M) (h3 : IM M) : ∀ mz : Nat, (∀ (x2 : Int) (N : mH), HI base N → Fr [(77, 1), (79, 0), (80, 0)] M N → (∀ j : Int, 0 ≤ j → j < x2 → gi N 79 (6883 * k + j) = gi N 78 j) → (∀ j : Int, 0 ≤ j → (j < 6883 * k ∨ 6883 * k + 6883 ≤ j) → gi N 79 j = gi M 79 j) → (∀ i : Int, gi N 80 i = gi M 80 i) → (0 ≤ k ∧ k ≤ 1) → (0 ≤ x2 ∧ x2 ≤ 6883) → (0 ≤ x2) → (x2 ≤ 6883) → (0 ≤ k) → (k ≤ 1) → (6883 - x2) * 1 + 0 < (mz : Int) → sRn base X G d T151 17 [(0, vR 77), (1, vI k), (2, vI x2)] [] N (s_Q base (pI (fun v M' => HI base M' ∧ Fr [(77, 1), (79, 0), (80, 0)] M M' ∧ (LN M') ∧ (GK M') ∧ (IM M') ∧ (0 ≤ k ∧ k ≤ 1 → v = 0) ∧ (k < 0 ∨ 1 < k → v = -1))))) := by
  have f0 : Fr [(77, 1), (79, 0), (80, 0)] M M := Fr.rf
  intro mz
  induction mz with
  | zero => exact fun x2 N _ _ z0 z1 z2 z3 z4 z5 z6 z7 z8 z9 => by omega
  | succ mz ih =>
    intro x2 N HN fN i0 i1 i2 i3 i4 i5 i6 i7 i8 hmu
    refine s_blx (lv' := [(0, vR 77), (1, vI k), (2, vI x2)]) (st' := [vI 6883, vI x2]) B151_17_21 rfl ?_
    refine r_icmp (tgt := 48) (pc' := 24) D151_21 rfl rfl (by unfold inR; omega) (fun (c16 : 6883 ≤ x2) => ?_) (fun (c16 : ¬ (6883 ≤ x2)) => ?_)
    · refine s_blx (lv' := [(0, vR 77), (1, vI k), (2, vI x2)]) (st' := [vR 77]) B151_48_49 rfl ?_
      refine r_gfix (r := 80) (pc' := 52) D151_49 rfl gf_11_20_77 HN.1 ?_
      refine s_blx (lv' := [(0, vR 77), (1, vI k), (2, vI x2)]) (st' := [vI 1, vI k, vR 80]) B151_52_54 rfl ?_
      refine r_zast (pc' := 55) D151_54 rfl sc_80 HN (by omega) (by omega) (show 0 ≤ 1 ∧ 1 ≤ 1 by omega) ?_
      intro M17 u18 H19 p20
      have f21 := fN.wr u18 rfl
      have k8 := u18
      have kim : IM M17 := IM.make (k := k) h3 (by omega) H19 ((h1.fr f21 rfl)) ((h2.fr f21 rfl)) (fun j a b => by rw [k8.gi_ne (by omega) (Or.inl (by decide)), k8.gi_ne (by omega) (Or.inl (by decide))]; exact i0 j a (by omega)) (fun j a b => by rw [k8.gi_ne (by omega) (Or.inl (by decide))]; exact i1 j a b) (fun i hi => by rw [k8.gi_ne (by omega) (Or.inr hi)]; exact i2 i)
      refine s_blx (lv' := [(0, vR 77), (1, vI k), (2, vI x2)]) (st' := [vI 0, vR 77]) B151_55_57 rfl ?_
      refine r_vI (c := 77) (args := [vI 0]) (rest := []) (pc' := 60) D151_57 rfl ck_11_virtual_131 TE149 rfl (Nat.le_of_ble_eq_true rfl) ⟨Nat.le_of_ble_eq_true rfl, Nat.le_of_ble_eq_true rfl⟩ sc_77 ⟨rfl, by decide⟩ H19.1 (dp_0 hd rfl) (k149 E (dp_n hd rfl) H19 0 (by omega)) ?_
      intro v22 M23 q27
      obtain ⟨H24, f25, q26⟩ := q27
      have f28 := f21.tr (f25.up rfl)
      have hp29 := kim.fr f25 (by decide)
      exact r_iretI D151_60 rfl (⟨H24, f28, (h1.fr f28 rfl), (h2.fr f28 rfl), hp29, by omega, by omega⟩)
    · refine s_blx (lv' := [(0, vR 77), (1, vI k), (2, vI x2)]) (st' := [vR 77]) B151_24_25 rfl ?_
      refine r_gfix (r := 79) (pc' := 28) D151_25 rfl gf_11_17_77 HN.1 ?_
      refine s_blx (lv' := [(0, vR 77), (1, vI k), (2, vI x2)]) (st' := [vR 77, vI ((6883 * k) + x2), vR 79]) B151_28_36 rfl ?_
      refine r_gfix (r := 78) (pc' := 39) D151_36 rfl gf_11_13_77 HN.1 ?_
      refine s_blx (lv' := [(0, vR 77), (1, vI k), (2, vI x2)]) (st' := [vI x2, vR 78, vI ((6883 * k) + x2), vR 79]) B151_39_40 rfl ?_
      refine r_iald (pc' := 41) D151_40 rfl sc_78 HN.1 (by omega) ?_
      intro w30 e31 r32
      unfold inR at r32
      have ke := e31
      refine r_iast (pc' := 42) D151_41 rfl sc_79 HN (by omega) (by unfold inR; omega) (by rw [rg79 (by omega) (by omega), e31]; exact HN.2.sin 78 _) ?_
      intro M33 u34 H35 p36
      have f37 := fN.wr u34 rfl
      have ku := u34
      have kA : gi M33 79 (6883 * k + x2) = gi M33 78 x2 := by rw [p36, ke]; exact (ku.gi_ne (by omega) (Or.inl (by decide))).symm
      refine s_blx (lv' := [(2, vI (x2 + 1)), (0, vR 77), (1, vI k)]) (st' := []) B151_42_45 rfl ?_
      refine r_goto (tgt := 17) D151_45 rfl ?_
      refine r_loc (lv' := [(0, vR 77), (1, vI k), (2, vI (x2 + 1))]) ⟨rfl, rfl, rfl, trivial⟩ rfl rfl ?_
      exact ih (x2 + 1) M33 H35 f37 (fun j h1 h2 => if e : j = x2 then (by rw [e]; exact kA) else (by rw [ku.gi_ne (by omega) (Or.inr (by omega)), ku.gi_ne (by omega) (Or.inl (by decide))]; exact i0 j h1 (by omega))) (fun j h1 h2 => by rw [ku.gi_ne (by omega) (Or.inr (by omega))]; exact i1 j h1 h2) (fun i => by rw [ku.gi_ne (by omega) (Or.inl (by decide))]; exact i2 i) (by omega) (by omega) (by omega) (by omega) (by omega) (by omega) (by omega)
set_option maxRecDepth 4000 in
theorem k151k {base : Nat} {X : Nat → Option mC} {G : Nat → Value} (E : EnvOK base X G) {d : Nat} (hd : 1 ≤ d) {M : mH} (H : HI base M) (k : Int) (h0 : -2147483648 ≤ k ∧ k ≤ 2147483647) (h1 : LN M) (h2 : GK M) (h3 : IM M) : sOk base X G d T151 [vR 77, vI k] M (pI (fun v M' => HI base M' ∧ Fr [(77, 1), (79, 0), (80, 0)] M M' ∧ (LN M') ∧ (GK M') ∧ (IM M') ∧ (0 ≤ k ∧ k ≤ 1 → v = 0) ∧ (k < 0 ∨ 1 < k → v = -1))) := by
  have f0 : Fr [(77, 1), (79, 0), (80, 0)] M M := Fr.rf
  refine sOk.of (show sRn base X G d T151 0 [(0, vR 77), (1, vI k)] [] M _ from ?_)
  refine s_blx (lv' := [(0, vR 77), (1, vI k)]) (st' := [vI 1, vI 0, vI k]) B151_0_3 rfl ?_
  refine r_sIp (args := [vI k, vI 0, vI 1]) (rest := []) (pc' := 6) D151_3 rfl ck_11_static_123 TE147 rfl (Nat.le_of_ble_eq_true rfl) ⟨Nat.le_of_ble_eq_true rfl, Nat.le_of_ble_eq_true rfl⟩ (by decide) (dp_0 hd rfl) (k147 E (dp_n hd rfl) H k 0 1 (by omega) (by omega) (by omega)) ?_
  intro v1 q6
  obtain ⟨q3, q4, q5⟩ := q6
  refine r_ifc (tgt := 15) (pc' := 9) D151_6 rfl rfl (by unfold inR; omega) (fun (c7 : v1 ≠ 0) => ?_) (fun (c7 : ¬ (v1 ≠ 0)) => ?_)
  · refine s_blx (lv' := [(2, vI 0), (0, vR 77), (1, vI k)]) (st' := []) B151_15_17 rfl ?_
    refine r_loc (lv' := [(0, vR 77), (1, vI k), (2, vI 0)]) ⟨rfl, rfl, rfl, trivial⟩ rfl rfl ?_
    exact (L_k151k E hd H k h0 h1 h2 h3 (((6883 - 0) * 1 + 0 : Int) + 1).toNat) 0 M H f0 (fun j h1 h2 => by omega) (fun j _ _ => rfl) (fun _ => rfl) (by omega) (by omega) (by omega) (by omega) (by omega) (by omega) (by omega)
  · refine s_blx (lv' := [(0, vR 77), (1, vI k)]) (st' := [vI (-1), vR 77]) B151_9_11 rfl ?_
    refine r_vI (c := 77) (args := [vI (-1)]) (rest := []) (pc' := 14) D151_11 rfl ck_11_virtual_127 TE148 rfl (Nat.le_of_ble_eq_true rfl) ⟨Nat.le_of_ble_eq_true rfl, Nat.le_of_ble_eq_true rfl⟩ sc_77 ⟨rfl, by decide⟩ H.1 (dp_0 hd rfl) (k148 E (dp_n hd rfl) H (-1) (by omega)) ?_
    intro v8 M9 q13
    obtain ⟨H10, f11, q12⟩ := q13
    have f14 := f0.tr (f11.up rfl)
    have hp15 := h3.fr f11 (by decide)
    exact r_iretI D151_14 rfl (⟨H10, f14, (h1.fr f14 rfl), (h2.fr f14 rfl), hp15, by omega, by omega⟩)
set_option maxRecDepth 4000 in
theorem L_k152k {base : Nat} {X : Nat → Option mC} {G : Nat → Value} (E : EnvOK base X G) {d : Nat} (hd : 1 ≤ d) {M : mH} (H : HI base M) (k : Int) (h0 : -2147483648 ≤ k ∧ k ≤ 2147483647) (h1 : LN M) (h2 : GK M) (h3 : IM M) : ∀ mz : Nat, (∀ (x2 : Int) (N : mH), HI base N → Fr [(77, 1), (78, 0)] M N → (∀ j : Int, 0 ≤ j → j < x2 → gi N 78 j = gi N 79 (6883 * k + j)) → (gi N 80 k = 1) → (0 ≤ k ∧ k ≤ 1) → (0 ≤ x2 ∧ x2 ≤ 6883) → (0 ≤ x2) → (x2 ≤ 6883) → (0 ≤ k) → (k ≤ 1) → (6883 - x2) * 1 + 0 < (mz : Int) → sRn base X G d T152 33 [(0, vR 77), (1, vI k), (2, vI x2)] [] N (s_Q base (pI (fun v M' => HI base M' ∧ Fr [(77, 1), (78, 0)] M M' ∧ (LN M') ∧ (GK M'))))) := by
  have f0 : Fr [(77, 1), (78, 0)] M M := Fr.rf
  intro mz
  induction mz with
  | zero => exact fun x2 N _ _ z0 z1 z2 z3 z4 z5 z6 z7 z8 => by omega
  | succ mz ih =>
    intro x2 N HN fN i0 i1 i2 i3 i4 i5 i6 i7 hmu
    refine s_blx (lv' := [(0, vR 77), (1, vI k), (2, vI x2)]) (st' := [vI 6883, vI x2]) B152_33_37 rfl ?_
    refine r_icmp (tgt := 64) (pc' := 40) D152_37 rfl rfl (by unfold inR; omega) (fun (c31 : 6883 ≤ x2) => ?_) (fun (c31 : ¬ (6883 ≤ x2)) => ?_)
    · refine s_blx (lv' := [(0, vR 77), (1, vI k), (2, vI x2)]) (st' := [vI 0, vR 77]) B152_64_66 rfl ?_
      have kb := IM.back (((h3.fr fN rfl)) k (by omega) (by omega)) (by omega) HN (fun j a b => i0 j a (by omega))
      refine r_vI (c := 77) (args := [vI 0]) (rest := []) (pc' := 69) D152_66 rfl ck_11_virtual_131 TE149 rfl (Nat.le_of_ble_eq_true rfl) ⟨Nat.le_of_ble_eq_true rfl, Nat.le_of_ble_eq_true rfl⟩ sc_77 ⟨rfl, by decide⟩ HN.1 (dp_0 hd rfl) (k149 E (dp_n hd rfl) HN 0 (by omega)) ?_
      intro v32 M33 q37
      obtain ⟨H34, f35, q36⟩ := q37
      have f38 := fN.tr (f35.up rfl)
      have kl := kb.1.fr f35 (by decide)
      have kg := kb.2.fr f35 (by decide)
      exact r_iretI D152_69 rfl (⟨H34, f38, kl, kg⟩)
    · refine s_blx (lv' := [(0, vR 77), (1, vI k), (2, vI x2)]) (st' := [vR 77]) B152_40_41 rfl ?_
      refine r_gfix (r := 78) (pc' := 44) D152_41 rfl gf_11_13_77 HN.1 ?_
      refine s_blx (lv' := [(0, vR 77), (1, vI k), (2, vI x2)]) (st' := [vR 77, vI x2, vR 78]) B152_44_46 rfl ?_
      refine r_gfix (r := 79) (pc' := 49) D152_46 rfl gf_11_17_77 HN.1 ?_
      refine s_blx (lv' := [(0, vR 77), (1, vI k), (2, vI x2)]) (st' := [vI ((6883 * k) + x2), vR 79, vI x2, vR 78]) B152_49_56 rfl ?_
      refine r_iald (pc' := 57) D152_56 rfl sc_79 HN.1 (by omega) ?_
      intro w39 e40 r41
      unfold inR at r41
      have ke := e40
      refine r_iast (pc' := 58) D152_57 rfl sc_78 HN (by omega) (by unfold inR; omega) (by show s_in (rg 78 _) _; rw [e40]; have q := HN.2.sin 79 (6883 * k + x2); rw [rg79 (by omega) (by omega)] at q; exact q) ?_
      intro M42 u43 H44 p45
      have f46 := fN.wr u43 rfl
      have ku := u43
      have kA : gi M42 78 x2 = gi M42 79 (6883 * k + x2) := by rw [p45, ke]; exact (ku.gi_ne (by omega) (Or.inl (by decide))).symm
      refine s_blx (lv' := [(2, vI (x2 + 1)), (0, vR 77), (1, vI k)]) (st' := []) B152_58_61 rfl ?_
      refine r_goto (tgt := 33) D152_61 rfl ?_
      refine r_loc (lv' := [(0, vR 77), (1, vI k), (2, vI (x2 + 1))]) ⟨rfl, rfl, rfl, trivial⟩ rfl rfl ?_
      have g47 : gi M42 80 k = gi N 80 k := (u43.gi_ne (by omega) (Or.inl (by decide))).trans (rfl)
      exact ih (x2 + 1) M42 H44 f46 (fun j h1 h2 => if e : j = x2 then (by rw [e]; exact kA) else (by rw [ku.gi_ne (by omega) (Or.inr (by omega)), ku.gi_ne (by omega) (Or.inl (by decide))]; exact i0 j h1 (by omega))) (by omega) (by omega) (by omega) (by omega) (by omega) (by omega) (by omega) (by omega)
set_option maxRecDepth 4000 in
theorem k152k {base : Nat} {X : Nat → Option mC} {G : Nat → Value} (E : EnvOK base X G) {d : Nat} (hd : 1 ≤ d) {M : mH} (H : HI base M) (k : Int) (h0 : -2147483648 ≤ k ∧ k ≤ 2147483647) (h1 : LN M) (h2 : GK M) (h3 : IM M) : sOk base X G d T152 [vR 77, vI k] M (pI (fun v M' => HI base M' ∧ Fr [(77, 1), (78, 0)] M M' ∧ (LN M') ∧ (GK M'))) := by
  have f0 : Fr [(77, 1), (78, 0)] M M := Fr.rf
  refine sOk.of (show sRn base X G d T152 0 [(0, vR 77), (1, vI k)] [] M _ from ?_)
  refine s_blx (lv' := [(0, vR 77), (1, vI k)]) (st' := [vI 1, vI 0, vI k]) B152_0_3 rfl ?_
  refine r_sIp (args := [vI k, vI 0, vI 1]) (rest := []) (pc' := 6) D152_3 rfl ck_11_static_123 TE147 rfl (Nat.le_of_ble_eq_true rfl) ⟨Nat.le_of_ble_eq_true rfl, Nat.le_of_ble_eq_true rfl⟩ (by decide) (dp_0 hd rfl) (k147 E (dp_n hd rfl) H k 0 1 (by omega) (by omega) (by omega)) ?_
  intro v1 q6
  obtain ⟨q3, q4, q5⟩ := q6
  refine r_ifc (tgt := 15) (pc' := 9) D152_6 rfl rfl (by unfold inR; omega) (fun (c7 : v1 ≠ 0) => ?_) (fun (c7 : ¬ (v1 ≠ 0)) => ?_)
  · refine s_blx (lv' := [(0, vR 77), (1, vI k)]) (st' := [vR 77]) B152_15_16 rfl ?_
    refine r_gfix (r := 80) (pc' := 19) D152_16 rfl gf_11_20_77 H.1 ?_
    refine s_blx (lv' := [(0, vR 77), (1, vI k)]) (st' := [vI k, vR 80]) B152_19_20 rfl ?_
    refine r_bald (pc' := 21) D152_20 rfl sc_80 (by decide) H.1 (by omega) ?_
    intro w8 e9 r10
    have b_w8 := H.2 80 (k) 0 1 rfl
    rw [← e9] at b_w8; clear r10
    refine r_ifc (tgt := 31) (pc' := 24) D152_21 rfl rfl (by unfold inR; omega) (fun (c11 : w8 ≠ 0) => ?_) (fun (c11 : ¬ (w8 ≠ 0)) => ?_)
    · refine s_blx (lv' := [(2, vI 0), (0, vR 77), (1, vI k)]) (st' := []) B152_31_33 rfl ?_
      refine r_loc (lv' := [(0, vR 77), (1, vI k), (2, vI 0)]) ⟨rfl, rfl, rfl, trivial⟩ rfl rfl ?_
      have g12 : gi M 80 k = w8 := e9.symm
      exact (L_k152k E hd H k h0 h1 h2 h3 (((6883 - 0) * 1 + 0 : Int) + 1).toNat) 0 M H f0 (fun j h1 h2 => by omega) (by omega) (by omega) (by omega) (by omega) (by omega) (by omega) (by omega) (by omega)
    · refine s_blx (lv' := [(0, vR 77), (1, vI k)]) (st' := [vI (-2), vR 77]) B152_24_27 rfl ?_
      refine r_vI (c := 77) (args := [vI (-2)]) (rest := []) (pc' := 30) D152_27 rfl ck_11_virtual_127 TE148 rfl (Nat.le_of_ble_eq_true rfl) ⟨Nat.le_of_ble_eq_true rfl, Nat.le_of_ble_eq_true rfl⟩ sc_77 ⟨rfl, by decide⟩ H.1 (dp_0 hd rfl) (k148 E (dp_n hd rfl) H (-2) (by omega)) ?_
      intro v13 M14 q18
      obtain ⟨H15, f16, q17⟩ := q18
      have f19 := f0.tr (f16.up rfl)
      have hp20 := h1.fr f16 (by decide)
      have hp21 := h2.fr f16 (by decide)
      exact r_iretI D152_30 rfl (⟨H15, f19, hp20, hp21⟩)
  · refine s_blx (lv' := [(0, vR 77), (1, vI k)]) (st' := [vI (-1), vR 77]) B152_9_11 rfl ?_
    refine r_vI (c := 77) (args := [vI (-1)]) (rest := []) (pc' := 14) D152_11 rfl ck_11_virtual_127 TE148 rfl (Nat.le_of_ble_eq_true rfl) ⟨Nat.le_of_ble_eq_true rfl, Nat.le_of_ble_eq_true rfl⟩ sc_77 ⟨rfl, by decide⟩ H.1 (dp_0 hd rfl) (k148 E (dp_n hd rfl) H (-1) (by omega)) ?_
    intro v22 M23 q27
    obtain ⟨H24, f25, q26⟩ := q27
    have f28 := f0.tr (f25.up rfl)
    have hp29 := h1.fr f25 (by decide)
    have hp30 := h2.fr f25 (by decide)
    exact r_iretI D152_14 rfl (⟨H24, f28, hp29, hp30⟩)
