set_option maxRecDepth 4000 in
theorem L_k239x {base : Nat} {X : Nat → Option mC} {G : Nat → Value} (E : EnvOK base X G) {rr : Nat} (ihr : ∀ {d : Nat} (_ : 31 + 4 * rr ≤ d) {M : mH} (_ : HI base M) (live : Int) (p : Int) (a : Int) (e : Int) (gg : Int) (F : Int → Int) (C : Int → Int), ((live = 0 ∨ live = 1)) → (KC C M) → (∀ j : Int, a ≤ j → j < e → F (j + 1) = dl (F j) (C j) ∧ F (j + 1) ≠ 0) → (F e = 2 ∨ F e = 20 ∨ F e = 2001) → (gi M 77 41 = e) → (0 ≤ a ∧ e ≤ 3200) → (gi M 77 40 = gg) → (a ≤ gg ∧ gg ≤ e) → (F gg = 10 + p) → (0 ≤ p ∧ p ≤ 8) → 8 - p < ((rr : Nat) : Int) → sOk base X G d T238 [vR 77, vI live] M (pI (fun v M' => HI base M' ∧ Fr [(77, 41), (77, 43)] M M' ∧ (v = 0 ∨ v = 1) ∧ (gg < gi M' 77 40 ∧ gi M' 77 40 ≤ e) ∧ (F (gi M' 77 40) = 20 + p ∨ (F (gi M' 77 40) = 2001 + 100 * p ∧ ((gi M' 77 40) < e → C (gi M' 77 40) ≠ 142 ∧ C (gi M' 77 40) ≠ 143 ∧ C (gi M' 77 40) ≠ 145 ∧ C (gi M' 77 40) ≠ 147))) ∧ ((gi M' 77 40) < e → C (gi M' 77 40) ≠ 8 ∧ C (gi M' 77 40) ≠ 9)))) {d : Nat} (hd : 34 + 4 * rr ≤ d) {M : mH} (H : HI base M) (live : Int) (p : Int) (a : Int) (e : Int) (gg : Int) (F : Int → Int) (C : Int → Int) (h0 : (live = 0 ∨ live = 1)) (h1 : KC C M) (h2 : ∀ j : Int, a ≤ j → j < e → F (j + 1) = dl (F j) (C j) ∧ F (j + 1) ≠ 0) (h3 : F e = 2 ∨ F e = 20 ∨ F e = 2001) (h4 : gi M 77 41 = e) (h5 : 0 ≤ a ∧ e ≤ 3200) (h6 : gi M 77 40 = gg) (h7 : a ≤ gg ∧ gg ≤ e) (h8 : F gg = 10 + p) (h9 : 0 ≤ p ∧ p ≤ 8) (h10 : 8 - p < (rr : Int) + 1) : ∀ mz : Nat, (∀ (x2 t0 : Int) (N : mH), HI base N → Fr [(77, 41), (77, 43)] M N → (gi N 77 40 = t0) → (gg < t0 ∧ t0 ≤ e) → (gi N 77 41 = e) → (F t0 = 20 + p ∨ (F t0 = 2001 + 100 * p ∧ (t0 < e → C t0 ≠ 142 ∧ C t0 ≠ 143 ∧ C t0 ≠ 145 ∧ C t0 ≠ 147))) → (0 ≤ x2) → (x2 ≤ 1) → (3200 - t0) * 1 + 0 < (mz : Int) → sRn base X G d T239 6 [(0, vR 77), (1, vI live), (2, vI x2)] [] N (s_Q base (pI (fun v M' => HI base M' ∧ Fr [(77, 41), (77, 43)] M M' ∧ (v = 0 ∨ v = 1) ∧ (gg < gi M' 77 40 ∧ gi M' 77 40 ≤ e) ∧ (F (gi M' 77 40) = 20 + p ∨ (F (gi M' 77 40) = 2001 + 100 * p ∧ ((gi M' 77 40) < e → C (gi M' 77 40) ≠ 142 ∧ C (gi M' 77 40) ≠ 143 ∧ C (gi M' 77 40) ≠ 145 ∧ C (gi M' 77 40) ≠ 147))) ∧ ((gi M' 77 40) < e → C (gi M' 77 40) ≠ 9))))) := by
  have f0 : Fr [(77, 41), (77, 43)] M M := Fr.rf
  intro mz
  induction mz with
  | zero => exact fun x2 t0 N _ _ z0 z1 z2 z3 z4 z5 z6 => by omega
  | succ mz ih =>
    intro x2 t0 N HN fN i0 i1 i2 i3 i4 i5 hmu
    refine s_blx (lv' := [(0, vR 77), (1, vI live), (2, vI x2)]) (st' := [vI 9, vR 77]) B239_6_9 rfl ?_
    have k1 := d_or (x := F t0) (p := p) 9 (by decide)
    have g16 : gi N 77 41 = e := i2
    have g17 : gi N 77 40 = t0 := i0
    refine r_vI (c := 77) (args := [vI 9]) (rest := []) (pc' := 12) D239_9 rfl ck_11_virtual_402 TE233 rfl (Nat.le_of_ble_eq_true rfl) ⟨Nat.le_of_ble_eq_true rfl, Nat.le_of_ble_eq_true rfl⟩ sc_77 ⟨rfl, by decide⟩ HN.1 (by omega) (k233x E (by omega) HN 9 a e t0 F C ((h1.fr fN rfl)) (h2) (by omega) (by omega) (by omega) (by omega) (by omega) (by omega) (by omega)) ?_
    intro v18 M19 q26
    obtain ⟨H20, f21, q22, q23, q24, q25⟩ := q26
    have f27 := fN.tr (f21.up rfl)
    obtain ⟨t28, ht29⟩ : ∃ q, q = gi M19 77 40 := ⟨_, rfl⟩
    rw [← ht29] at q23
    rw [← ht29] at q24
    rw [← ht29] at q25
    refine r_ifc (tgt := 50) (pc' := 15) D239_12 rfl rfl (by unfold inR; omega) (fun (c30 : v18 = 0) => ?_) (fun (c30 : ¬ (v18 = 0)) => ?_)
    · refine s_blx (lv' := [(0, vR 77), (1, vI live), (2, vI x2)]) (st' := [vI x2]) B239_50_51 rfl ?_
      have g31 : gi M19 77 40 = t28 := ht29.symm
      exact r_zretI D239_51 rfl (by omega) (⟨H20, f27, by omega, by rw [g31]; omega, by rw [g31]; omega, by rw [g31]; omega⟩)
    · refine s_blx (lv' := [(0, vR 77), (1, vI live), (2, vI x2)]) (st' := [vI live, vR 77]) B239_15_17 rfl ?_
      refine r_ifc (tgt := 28) (pc' := 20) D239_17 rfl rfl (by unfold inR; omega) (fun (c32 : live = 0) => ?_) (fun (c32 : ¬ (live = 0)) => ?_)
      · refine s_blx (lv' := [(0, vR 77), (1, vI live), (2, vI x2)]) (st' := [vI 0, vR 77]) B239_28_29 rfl ?_
        have g33 : gi M19 77 41 = e := (f21.g rfl).trans (i2)
        have g34 : gi M19 77 40 = t28 := ht29.symm
        refine r_vI (c := 77) (args := [vI 0]) (rest := []) (pc' := 32) D239_29 rfl ck_11_virtual_412 TE240 rfl (Nat.le_of_ble_eq_true rfl) ⟨Nat.le_of_ble_eq_true rfl, Nat.le_of_ble_eq_true rfl⟩ sc_77 ⟨rfl, by decide⟩ H20.1 (by omega) (k240x E ihr (by omega) H20 0 p a e t28 F C (by omega) ((h1.fr f27 rfl)) (h2) (by omega) (by omega) (by omega) (by omega) (by omega) (by omega) (by omega) (by omega)) ?_
        intro v35 M36 q42
        obtain ⟨H37, f38, q39, q40, q41⟩ := q42
        have f43 := f27.tr (f38.up rfl)
        obtain ⟨t44, ht45⟩ : ∃ q, q = gi M36 77 40 := ⟨_, rfl⟩
        rw [← ht45] at q40
        rw [← ht45] at q41
        refine s_blx (lv' := [(3, vI v35), (0, vR 77), (1, vI live), (2, vI x2)]) (st' := [vI x2]) B239_32_34 rfl ?_
        refine r_ifc (tgt := 45) (pc' := 37) D239_34 rfl rfl (by unfold inR; omega) (fun (c46 : x2 = 0) => ?_) (fun (c46 : ¬ (x2 = 0)) => ?_)
        · refine s_blx (lv' := [(2, vI 0), (3, vI v35), (0, vR 77), (1, vI live)]) (st' := []) B239_45_47 rfl ?_
          refine r_goto (tgt := 6) D239_47 rfl ?_
          refine r_loc (lv' := [(0, vR 77), (1, vI live), (2, vI 0)]) ⟨rfl, rfl, rfl, trivial⟩ rfl rfl ?_
          have g47 : gi M36 77 40 = t44 := ht45.symm
          have g48 : gi M36 77 41 = e := (f38.g rfl).trans ((f21.g rfl).trans (i2))
          exact ih 0 t44 M36 H37 f43 (by omega) (by omega) (by omega) (by omega) (by omega) (by omega) (by omega)
        · refine s_blx (lv' := [(3, vI v35), (0, vR 77), (1, vI live), (2, vI x2)]) (st' := [vI v35]) B239_37_38 rfl ?_
          refine r_ifc (tgt := 45) (pc' := 41) D239_38 rfl rfl (by unfold inR; omega) (fun (c49 : v35 = 0) => ?_) (fun (c49 : ¬ (v35 = 0)) => ?_)
          · refine s_blx (lv' := [(2, vI 0), (3, vI v35), (0, vR 77), (1, vI live)]) (st' := []) B239_45_47 rfl ?_
            refine r_goto (tgt := 6) D239_47 rfl ?_
            refine r_loc (lv' := [(0, vR 77), (1, vI live), (2, vI 0)]) ⟨rfl, rfl, rfl, trivial⟩ rfl rfl ?_
            have g50 : gi M36 77 40 = t44 := ht45.symm
            have g51 : gi M36 77 41 = e := (f38.g rfl).trans ((f21.g rfl).trans (i2))
            exact ih 0 t44 M36 H37 f43 (by omega) (by omega) (by omega) (by omega) (by omega) (by omega) (by omega)
          · refine s_blx (lv' := [(3, vI v35), (0, vR 77), (1, vI live), (2, vI x2)]) (st' := [vI 1]) B239_41_42 rfl ?_
            refine r_goto (tgt := 46) D239_42 rfl ?_
            refine s_blx (lv' := [(2, vI 1), (3, vI v35), (0, vR 77), (1, vI live)]) (st' := []) B239_46_47 rfl ?_
            refine r_goto (tgt := 6) D239_47 rfl ?_
            refine r_loc (lv' := [(0, vR 77), (1, vI live), (2, vI 1)]) ⟨rfl, rfl, rfl, trivial⟩ rfl rfl ?_
            have g52 : gi M36 77 40 = t44 := ht45.symm
            have g53 : gi M36 77 41 = e := (f38.g rfl).trans ((f21.g rfl).trans (i2))
            exact ih 1 t44 M36 H37 f43 (by omega) (by omega) (by omega) (by omega) (by omega) (by omega) (by omega)
      · refine s_blx (lv' := [(0, vR 77), (1, vI live), (2, vI x2)]) (st' := [vI x2, vR 77]) B239_20_21 rfl ?_
        refine r_ifc (tgt := 28) (pc' := 24) D239_21 rfl rfl (by unfold inR; omega) (fun (c54 : x2 = 0) => ?_) (fun (c54 : ¬ (x2 = 0)) => ?_)
        · refine s_blx (lv' := [(0, vR 77), (1, vI live), (2, vI x2)]) (st' := [vI 0, vR 77]) B239_28_29 rfl ?_
          have g55 : gi M19 77 41 = e := (f21.g rfl).trans (i2)
          have g56 : gi M19 77 40 = t28 := ht29.symm
          refine r_vI (c := 77) (args := [vI 0]) (rest := []) (pc' := 32) D239_29 rfl ck_11_virtual_412 TE240 rfl (Nat.le_of_ble_eq_true rfl) ⟨Nat.le_of_ble_eq_true rfl, Nat.le_of_ble_eq_true rfl⟩ sc_77 ⟨rfl, by decide⟩ H20.1 (by omega) (k240x E ihr (by omega) H20 0 p a e t28 F C (by omega) ((h1.fr f27 rfl)) (h2) (by omega) (by omega) (by omega) (by omega) (by omega) (by omega) (by omega) (by omega)) ?_
          intro v57 M58 q64
          obtain ⟨H59, f60, q61, q62, q63⟩ := q64
          have f65 := f27.tr (f60.up rfl)
          obtain ⟨t66, ht67⟩ : ∃ q, q = gi M58 77 40 := ⟨_, rfl⟩
          rw [← ht67] at q62
          rw [← ht67] at q63
          refine s_blx (lv' := [(3, vI v57), (0, vR 77), (1, vI live), (2, vI x2)]) (st' := [vI x2]) B239_32_34 rfl ?_
          refine r_ifc (tgt := 45) (pc' := 37) D239_34 rfl rfl (by unfold inR; omega) (fun (c68 : x2 = 0) => ?_) (fun (c68 : ¬ (x2 = 0)) => ?_)
          · refine s_blx (lv' := [(2, vI 0), (3, vI v57), (0, vR 77), (1, vI live)]) (st' := []) B239_45_47 rfl ?_
            refine r_goto (tgt := 6) D239_47 rfl ?_
            refine r_loc (lv' := [(0, vR 77), (1, vI live), (2, vI 0)]) ⟨rfl, rfl, rfl, trivial⟩ rfl rfl ?_
            have g69 : gi M58 77 40 = t66 := ht67.symm
            have g70 : gi M58 77 41 = e := (f60.g rfl).trans ((f21.g rfl).trans (i2))
            exact ih 0 t66 M58 H59 f65 (by omega) (by omega) (by omega) (by omega) (by omega) (by omega) (by omega)
          · exfalso; omega
        · refine s_blx (lv' := [(0, vR 77), (1, vI live), (2, vI x2)]) (st' := [vI 1, vR 77]) B239_24_25 rfl ?_
          refine r_goto (tgt := 29) D239_25 rfl ?_
          have g71 : gi M19 77 41 = e := (f21.g rfl).trans (i2)
          have g72 : gi M19 77 40 = t28 := ht29.symm
          refine r_vI (c := 77) (args := [vI 1]) (rest := []) (pc' := 32) D239_29 rfl ck_11_virtual_412 TE240 rfl (Nat.le_of_ble_eq_true rfl) ⟨Nat.le_of_ble_eq_true rfl, Nat.le_of_ble_eq_true rfl⟩ sc_77 ⟨rfl, by decide⟩ H20.1 (by omega) (k240x E ihr (by omega) H20 1 p a e t28 F C (by omega) ((h1.fr f27 rfl)) (h2) (by omega) (by omega) (by omega) (by omega) (by omega) (by omega) (by omega) (by omega)) ?_
          intro v73 M74 q80
          obtain ⟨H75, f76, q77, q78, q79⟩ := q80
          have f81 := f27.tr (f76.up rfl)
          obtain ⟨t82, ht83⟩ : ∃ q, q = gi M74 77 40 := ⟨_, rfl⟩
          rw [← ht83] at q78
          rw [← ht83] at q79
          refine s_blx (lv' := [(3, vI v73), (0, vR 77), (1, vI live), (2, vI x2)]) (st' := [vI x2]) B239_32_34 rfl ?_
          refine r_ifc (tgt := 45) (pc' := 37) D239_34 rfl rfl (by unfold inR; omega) (fun (c84 : x2 = 0) => ?_) (fun (c84 : ¬ (x2 = 0)) => ?_)
          · exfalso; omega
          · refine s_blx (lv' := [(3, vI v73), (0, vR 77), (1, vI live), (2, vI x2)]) (st' := [vI v73]) B239_37_38 rfl ?_
            refine r_ifc (tgt := 45) (pc' := 41) D239_38 rfl rfl (by unfold inR; omega) (fun (c85 : v73 = 0) => ?_) (fun (c85 : ¬ (v73 = 0)) => ?_)
            · refine s_blx (lv' := [(2, vI 0), (3, vI v73), (0, vR 77), (1, vI live)]) (st' := []) B239_45_47 rfl ?_
              refine r_goto (tgt := 6) D239_47 rfl ?_
              refine r_loc (lv' := [(0, vR 77), (1, vI live), (2, vI 0)]) ⟨rfl, rfl, rfl, trivial⟩ rfl rfl ?_
              have g86 : gi M74 77 40 = t82 := ht83.symm
              have g87 : gi M74 77 41 = e := (f76.g rfl).trans ((f21.g rfl).trans (i2))
              exact ih 0 t82 M74 H75 f81 (by omega) (by omega) (by omega) (by omega) (by omega) (by omega) (by omega)
            · refine s_blx (lv' := [(3, vI v73), (0, vR 77), (1, vI live), (2, vI x2)]) (st' := [vI 1]) B239_41_42 rfl ?_
              refine r_goto (tgt := 46) D239_42 rfl ?_
              refine s_blx (lv' := [(2, vI 1), (3, vI v73), (0, vR 77), (1, vI live)]) (st' := []) B239_46_47 rfl ?_
              refine r_goto (tgt := 6) D239_47 rfl ?_
              refine r_loc (lv' := [(0, vR 77), (1, vI live), (2, vI 1)]) ⟨rfl, rfl, rfl, trivial⟩ rfl rfl ?_
              have g88 : gi M74 77 40 = t82 := ht83.symm
              have g89 : gi M74 77 41 = e := (f76.g rfl).trans ((f21.g rfl).trans (i2))
              exact ih 1 t82 M74 H75 f81 (by omega) (by omega) (by omega) (by omega) (by omega) (by omega) (by omega)
