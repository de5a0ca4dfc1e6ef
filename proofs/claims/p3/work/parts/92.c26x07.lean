set_option maxRecDepth 4000 in
theorem L_k48_55l {base : Nat} {X : Nat → Option mC} {G : Nat → Value} (E : EnvOK base X G) {d : Nat} (hd : 177 ≤ d) {M : mH} (H : HI base M) (place : Int) (said : Int) (n : Int) (h0 : RW base 56 n M) (h1 : TR 40 n M) (h2 : 1 ≤ n ∧ n ≤ 145) (h3 : 1 ≤ place ∧ place < n) (h4 : 0 ≤ said ∧ said ≤ 1110) : ∀ mz : Nat, (∀ (x3 x4 x5 : Int), (0 ≤ x5 ∧ x5 ≤ x3) → (0 ≤ x3 ∧ x3 ≤ 3) → (SDk said x3) → (SDk x4 x3) → (PLk said x4 x3 x5) → (0 ≤ x4 ∧ x4 ≤ 1110) → (0 ≤ x3) → (x3 ≤ 3) → ((-1000) ≤ x4) → (x4 ≤ 3000) → (0 ≤ x5) → (x5 ≤ 3) → (3 - x5) * 1 + 0 < (mz : Int) → sRn base X G d T48 11 [(0, vR 55), (1, vI place), (2, vI said), (3, vI x3), (4, vI x4), (5, vI x5)] [] M (s_Q base (pI (fun v M' => HI base M' ∧ Fq [(57, 0)] M M' ∧ (0 ≤ v ∧ v ≤ 31) ∧ ((v = 0 ∨ v = 4 ∨ (20 ≤ v ∧ v ≤ 22)) ∨ (said ≤ 110 ∧ 1 ≤ v ∧ v ≤ 17)))))) := by
  have f0 : Fq [(57, 0)] M M := Fq.rf
  intro mz
  induction mz with
  | zero => exact fun x3 x4 x5 z0 z1 z2 z3 z4 z5 z6 z7 z8 z9 z10 z11 z12 => by omega
  | succ mz ih =>
    intro x3 x4 x5 i0 i1 i2 i3 i4 i5 i6 i7 i8 i9 i10 i11 hmu
    refine s_blx (lv' := [(0, vR 55), (1, vI place), (2, vI said), (3, vI x3), (4, vI x4), (5, vI x5)]) (st' := [vI x3, vI x5]) B48_11_14 rfl ?_
    refine r_icmp (tgt := 47) (pc' := 17) D48_14 rfl rfl (by unfold inR; omega) (fun (c9 : x3 ≤ x5) => ?_) (fun (c9 : ¬ (x3 ≤ x5)) => ?_)
    · refine s_blx (lv' := [(0, vR 55), (1, vI place), (2, vI said), (3, vI x3), (4, vI x4), (5, vI x5)]) (st' := [vI x3, vI x4, vI place, vR 55, vI place, vR 55]) B48_47_54 rfl ?_
      refine r_vIp (c := 55) (args := [vI place, vI x4, vI x3]) (rest := [vI place, vR 55]) (pc' := 57) D48_54 rfl ck_7_virtual_64 TE49 rfl (Nat.le_of_ble_eq_true rfl) ⟨Nat.le_of_ble_eq_true rfl, Nat.le_of_ble_eq_true rfl⟩ sc_55 ⟨rfl, by decide⟩ H.1 (dp_0 hd rfl) (k49_55 E (dp_n hd rfl) H place x4 x3 (by omega) (i3) (by omega) (by omega)) ?_
      intro v10 q14
      obtain ⟨q12, q13⟩ := q14
      have kq := q12
      refine s_blx (lv' := [(0, vR 55), (1, vI place), (2, vI said), (3, vI x3), (4, vI x4), (5, vI x5)]) (st' := [vI 0, vI x3, vI v10, vI place, vR 55]) B48_57_59 rfl ?_
      refine r_vL (c := 55) (args := [vI place, vI v10, vI x3, vI 0]) (rest := []) (pc' := 62) D48_59 rfl ck_7_virtual_67 TE52 rfl (Nat.le_of_ble_eq_true rfl) ⟨Nat.le_of_ble_eq_true rfl, Nat.le_of_ble_eq_true rfl⟩ sc_55 ⟨rfl, by decide⟩ H.1 (dp_0 hd rfl) (k52_55l E (dp_n hd rfl) H place v10 x3 0 n (h0) (h1) (by omega) (by omega) (by omega) (kq) (by omega)) ?_
      intro v15 M16 q20
      obtain ⟨H17, f18, q19⟩ := q20
      have f21 := f0.tr (f18.up rfl)
      have klm := q19
      have kv := v15
      refine r_ldc2 (e := 31) (pc' := 65) D48_62 rfl cl_7_70 (by decide) ?_
      refine r_binL (pc' := 66) D48_65 rfl rfl ?_
      intro z22 kq3r kq3
      have kz := j_and kq3r kq3
      have ksd2 := i2
      unfold SDk at ksd2
      refine r_l2i (pc' := 67) D48_66 rfl ?_
      exact r_iretI D48_67 rfl (⟨H17, f21, by omega, by omega⟩)
    · refine s_blx (lv' := [(0, vR 55), (1, vI place), (2, vI said), (3, vI x3), (4, vI x4), (5, vI x5)]) (st' := [vI x5, vI x3, vI said]) B48_17_21 rfl ?_
      refine r_sIp (args := [vI said, vI x3, vI x5]) (rest := []) (pc' := 24) D48_21 rfl ck_7_static_56 TE44 rfl (Nat.le_of_ble_eq_true rfl) ⟨Nat.le_of_ble_eq_true rfl, Nat.le_of_ble_eq_true rfl⟩ (by decide) (dp_0 hd rfl) (k44x E (dp_n hd rfl) H said x3 x5 (by omega) (i2) (by omega)) ?_
      intro v24 q33
      obtain ⟨q26, q27, q28, q29, q30, q31, q32⟩ := q33
      have e1 := q27
      have e2 := q28
      have e3 := q29
      have e4 := q30
      have e5 := q31
      have e6 := q32
      clear q27 q28 q29 q30 q31 q32
      refine s_blx (lv' := [(0, vR 55), (1, vI place), (2, vI said), (3, vI x3), (4, vI x4), (5, vI x5)]) (st' := [vI 9, vI v24]) B48_24_26 rfl ?_
      refine r_icmp (tgt := 41) (pc' := 29) D48_26 rfl rfl (by unfold inR; omega) (fun (c34 : v24 ≠ 9) => ?_) (fun (c34 : ¬ (v24 ≠ 9)) => ?_)
      · refine s_blx (lv' := [(5, vI (x5 + 1)), (0, vR 55), (1, vI place), (2, vI said), (3, vI x3), (4, vI x4)]) (st' := []) B48_41_44 rfl ?_
        refine r_goto (tgt := 11) D48_44 rfl ?_
        refine r_loc (lv' := [(0, vR 55), (1, vI place), (2, vI said), (3, vI x3), (4, vI x4), (5, vI (x5 + 1))]) ⟨rfl, rfl, rfl, rfl, rfl, rfl, trivial⟩ rfl rfl ?_
        exact ih x3 x4 (x5 + 1) (by omega) (by omega) (i2) (by first | exact kpl.1 | exact i3) (by first | exact kpl.2 | exact pl_skip i4 (by omega)) (by first | (have q := kpl.1; unfold SDk at q; omega) | omega) (by omega) (by omega) (by omega) (by omega) (by omega) (by omega) (by omega)
      · refine s_blx (lv' := [(0, vR 55), (1, vI place), (2, vI said), (3, vI x3), (4, vI x4), (5, vI x5)]) (st' := [vI 8, vI x5, vI x3, vI x4]) B48_29_36 rfl ?_
        have kd9 : v24 = 9 := by omega
        refine r_sIp (args := [vI x4, vI x3, vI x5, vI 8]) (rest := []) (pc' := 39) D48_36 rfl ck_7_static_60 TE45 rfl (Nat.le_of_ble_eq_true rfl) ⟨Nat.le_of_ble_eq_true rfl, Nat.le_of_ble_eq_true rfl⟩ (by decide) (dp_0 hd rfl) (k45x E (dp_n hd rfl) H x4 x3 x5 8 (by omega) (i3) (by omega) (by omega)) ?_
        intro v35 q44
        obtain ⟨q37, q38, q39, q40, q41, q42, q43⟩ := q44
        have kpl := pl_step i2 i3 i4 (by omega) kd9 e1 e2 e3 e4 e5 e6 q38 q39 q40 q41 q42 q43
        clear q38 q39 q40 q41 q42 q43 e1 e2 e3 e4 e5 e6
        refine s_blx (lv' := [(5, vI (x5 + 1)), (4, vI v35), (0, vR 55), (1, vI place), (2, vI said), (3, vI x3)]) (st' := []) B48_39_44 rfl ?_
        refine r_goto (tgt := 11) D48_44 rfl ?_
        refine r_loc (lv' := [(0, vR 55), (1, vI place), (2, vI said), (3, vI x3), (4, vI v35), (5, vI (x5 + 1))]) ⟨rfl, rfl, rfl, rfl, rfl, rfl, trivial⟩ rfl rfl ?_
        exact ih x3 v35 (x5 + 1) (by omega) (by omega) (i2) (by first | exact kpl.1 | exact i3) (by first | exact kpl.2 | exact pl_skip i4 (by omega)) (by first | (have q := kpl.1; unfold SDk at q; omega) | omega) (by omega) (by omega) (by omega) (by omega) (by omega) (by omega) (by omega)
