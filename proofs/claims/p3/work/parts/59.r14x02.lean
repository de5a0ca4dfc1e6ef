set_option maxRecDepth 4000 in
theorem L_k240x {base : Nat} {X : Nat → Option mC} {G : Nat → Value} (E : EnvOK base X G) {rr : Nat} (ihr : ∀ {d : Nat} (_ : 31 + 4 * rr ≤ d) {M : mH} (_ : HI base M) (live : Int) (p : Int) (a : Int) (e : Int) (gg : Int) (F : Int → Int) (C : Int → Int), ((live = 0 ∨ live = 1)) → (KC C M) → (∀ j : Int, a ≤ j → j < e → F (j + 1) = dl (F j) (C j) ∧ F (j + 1) ≠ 0) → (F e = 2 ∨ F e = 20 ∨ F e = 2001) → (gi M 77 41 = e) → (0 ≤ a ∧ e ≤ 3200) → (gi M 77 40 = gg) → (a ≤ gg ∧ gg ≤ e) → (F gg = 10 + p) → (0 ≤ p ∧ p ≤ 8) → 8 - p < ((rr : Nat) : Int) → sOk base X G d T238 [vR 77, vI live] M (pI (fun v M' => HI base M' ∧ Fr [(77, 41), (77, 43)] M M' ∧ (v = 0 ∨ v = 1) ∧ (gg < gi M' 77 40 ∧ gi M' 77 40 ≤ e) ∧ (F (gi M' 77 40) = 20 + p ∨ (F (gi M' 77 40) = 2001 + 100 * p ∧ ((gi M' 77 40) < e → C (gi M' 77 40) ≠ 142 ∧ C (gi M' 77 40) ≠ 143 ∧ C (gi M' 77 40) ≠ 145 ∧ C (gi M' 77 40) ≠ 147))) ∧ ((gi M' 77 40) < e → C (gi M' 77 40) ≠ 8 ∧ C (gi M' 77 40) ≠ 9)))) {d : Nat} (hd : 33 + 4 * rr ≤ d) {M : mH} (H : HI base M) (live : Int) (p : Int) (a : Int) (e : Int) (gg : Int) (F : Int → Int) (C : Int → Int) (h0 : (live = 0 ∨ live = 1)) (h1 : KC C M) (h2 : ∀ j : Int, a ≤ j → j < e → F (j + 1) = dl (F j) (C j) ∧ F (j + 1) ≠ 0) (h3 : F e = 2 ∨ F e = 20 ∨ F e = 2001) (h4 : gi M 77 41 = e) (h5 : 0 ≤ a ∧ e ≤ 3200) (h6 : gi M 77 40 = gg) (h7 : a ≤ gg ∧ gg ≤ e) (h8 : F gg = 10 + p) (h9 : 0 ≤ p ∧ p ≤ 8) (h10 : 8 - p < (rr : Int) + 1) : ∀ mz : Nat, (∀ (x2 t0 : Int) (N : mH), HI base N → Fr [(77, 41), (77, 43)] M N → (gi N 77 40 = t0) → (gg ≤ t0 ∧ t0 ≤ e) → (gi N 77 41 = e) → (F t0 = 10 + p) → (0 ≤ x2 ∧ x2 ≤ 1) → (0 ≤ x2) → (x2 ≤ 1) → (3200 - t0) * 1 + 0 < (mz : Int) → sRn base X G d T240 2 [(0, vR 77), (1, vI live), (2, vI x2)] [] N (s_Q base (pI (fun v M' => HI base M' ∧ Fr [(77, 41), (77, 43)] M M' ∧ (v = 0 ∨ v = 1) ∧ (gg < gi M' 77 40 ∧ gi M' 77 40 ≤ e) ∧ (F (gi M' 77 40) = 20 + p ∨ (F (gi M' 77 40) = 2001 + 100 * p ∧ ((gi M' 77 40) < e → C (gi M' 77 40) ≠ 142 ∧ C (gi M' 77 40) ≠ 143 ∧ C (gi M' 77 40) ≠ 145 ∧ C (gi M' 77 40) ≠ 147))))))) := by
  have f0 : Fr [(77, 41), (77, 43)] M M := Fr.rf
  intro mz
  induction mz with
  | zero => exact fun x2 t0 N _ _ z0 z1 z2 z3 z4 z5 z6 z7 => by omega
  | succ mz ih =>
    intro x2 t0 N HN fN i0 i1 i2 i3 i4 i5 i6 hmu
    refine s_blx (lv' := [(0, vR 77), (1, vI live), (2, vI x2)]) (st' := [vI 10, vR 77]) B240_2_5 rfl ?_
    have k1 := d_not (x := F t0)
    have g3 : gi N 77 41 = e := i2
    have g4 : gi N 77 40 = t0 := i0
    refine r_vI (c := 77) (args := [vI 10]) (rest := []) (pc' := 8) D240_5 rfl ck_11_virtual_402 TE233 rfl (Nat.le_of_ble_eq_true rfl) ⟨Nat.le_of_ble_eq_true rfl, Nat.le_of_ble_eq_true rfl⟩ sc_77 ⟨rfl, by decide⟩ HN.1 (by omega) (k233x E (by omega) HN 10 a e t0 F C ((h1.fr fN rfl)) (h2) (by omega) (by omega) (by omega) (by omega) (by omega) (by omega) (by omega)) ?_
    intro v5 M6 q13
    obtain ⟨H7, f8, q9, q10, q11, q12⟩ := q13
    have f14 := fN.tr (f8.up rfl)
    obtain ⟨t15, ht16⟩ : ∃ q, q = gi M6 77 40 := ⟨_, rfl⟩
    rw [← ht16] at q10
    rw [← ht16] at q11
    rw [← ht16] at q12
    refine r_ifc (tgt := 24) (pc' := 11) D240_8 rfl rfl (by unfold inR; omega) (fun (c17 : v5 = 0) => ?_) (fun (c17 : ¬ (v5 = 0)) => ?_)
    · refine s_blx (lv' := [(0, vR 77), (1, vI live), (2, vI x2)]) (st' := [vI live, vR 77]) B240_24_26 rfl ?_
      have g18 : gi M6 77 41 = e := (f8.g rfl).trans (i2)
      have g19 : gi M6 77 40 = t15 := ht16.symm
      refine r_vI (c := 77) (args := [vI live]) (rest := []) (pc' := 29) D240_26 rfl ck_11_virtual_415 TE241 rfl (Nat.le_of_ble_eq_true rfl) ⟨Nat.le_of_ble_eq_true rfl, Nat.le_of_ble_eq_true rfl⟩ sc_77 ⟨rfl, by decide⟩ H7.1 (by omega) (k241x E ihr (by omega) H7 live p a e t15 F C (by omega) ((h1.fr f14 rfl)) (h2) (by omega) (by omega) (by omega) (by omega) (by omega) (by omega) (by omega) (by omega) (by omega)) ?_
      intro v20 M21 q27
      obtain ⟨H22, f23, q24, q25, q26⟩ := q27
      have f28 := f14.tr (f23.up rfl)
      obtain ⟨t29, ht30⟩ : ∃ q, q = gi M21 77 40 := ⟨_, rfl⟩
      rw [← ht30] at q25
      rw [← ht30] at q26
      refine s_blx (lv' := [(0, vR 77), (1, vI live), (2, vI x2)]) (st' := [vI x2, vI v20]) B240_29_30 rfl ?_
      refine r_icmp (tgt := 37) (pc' := 33) D240_30 rfl rfl (by unfold inR; omega) (fun (c31 : v20 = x2) => ?_) (fun (c31 : ¬ (v20 = x2)) => ?_)
      · refine s_blx (lv' := [(0, vR 77), (1, vI live), (2, vI x2)]) (st' := [vI 0]) B240_37_38 rfl ?_
        have g32 : gi M21 77 40 = t29 := ht30.symm
        exact r_zretI D240_38 rfl (by omega) (⟨H22, f28, by omega, by rw [g32]; omega, by rw [g32]; omega⟩)
      · refine s_blx (lv' := [(0, vR 77), (1, vI live), (2, vI x2)]) (st' := [vI 1]) B240_33_34 rfl ?_
        refine r_goto (tgt := 38) D240_34 rfl ?_
        have g33 : gi M21 77 40 = t29 := ht30.symm
        exact r_zretI D240_38 rfl (by omega) (⟨H22, f28, by omega, by rw [g33]; omega, by rw [g33]; omega⟩)
    · refine s_blx (lv' := [(0, vR 77), (1, vI live), (2, vI x2)]) (st' := [vI x2]) B240_11_12 rfl ?_
      refine r_ifc (tgt := 19) (pc' := 15) D240_12 rfl rfl (by unfold inR; omega) (fun (c34 : x2 ≠ 0) => ?_) (fun (c34 : ¬ (x2 ≠ 0)) => ?_)
      · refine s_blx (lv' := [(2, vI 0), (0, vR 77), (1, vI live)]) (st' := []) B240_19_21 rfl ?_
        refine r_goto (tgt := 2) D240_21 rfl ?_
        refine r_loc (lv' := [(0, vR 77), (1, vI live), (2, vI 0)]) ⟨rfl, rfl, rfl, trivial⟩ rfl rfl ?_
        have g35 : gi M6 77 40 = t15 := ht16.symm
        have g36 : gi M6 77 41 = e := (f8.g rfl).trans (i2)
        exact ih 0 t15 M6 H7 f14 (by omega) (by omega) (by omega) (by omega) (by omega) (by omega) (by omega) (by omega)
      · refine s_blx (lv' := [(0, vR 77), (1, vI live), (2, vI x2)]) (st' := [vI 1]) B240_15_16 rfl ?_
        refine r_goto (tgt := 20) D240_16 rfl ?_
        refine s_blx (lv' := [(2, vI 1), (0, vR 77), (1, vI live)]) (st' := []) B240_20_21 rfl ?_
        refine r_goto (tgt := 2) D240_21 rfl ?_
        refine r_loc (lv' := [(0, vR 77), (1, vI live), (2, vI 1)]) ⟨rfl, rfl, rfl, trivial⟩ rfl rfl ?_
        have g37 : gi M6 77 40 = t15 := ht16.symm
        have g38 : gi M6 77 41 = e := (f8.g rfl).trans (i2)
        exact ih 1 t15 M6 H7 f14 (by omega) (by omega) (by omega) (by omega) (by omega) (by omega) (by omega) (by omega)
