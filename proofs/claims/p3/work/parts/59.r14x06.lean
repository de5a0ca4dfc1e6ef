set_option maxRecDepth 4000 in
theorem L_k238x {base : Nat} {X : Nat → Option mC} {G : Nat → Value} (E : EnvOK base X G) {rr : Nat} (ihr : ∀ {d : Nat} (_ : 31 + 4 * rr ≤ d) {M : mH} (_ : HI base M) (live : Int) (p : Int) (a : Int) (e : Int) (gg : Int) (F : Int → Int) (C : Int → Int), ((live = 0 ∨ live = 1)) → (KC C M) → (∀ j : Int, a ≤ j → j < e → F (j + 1) = dl (F j) (C j) ∧ F (j + 1) ≠ 0) → (F e = 2 ∨ F e = 20 ∨ F e = 2001) → (gi M 77 41 = e) → (0 ≤ a ∧ e ≤ 3200) → (gi M 77 40 = gg) → (a ≤ gg ∧ gg ≤ e) → (F gg = 10 + p) → (0 ≤ p ∧ p ≤ 8) → 8 - p < ((rr : Nat) : Int) → sOk base X G d T238 [vR 77, vI live] M (pI (fun v M' => HI base M' ∧ Fr [(77, 41), (77, 43)] M M' ∧ (v = 0 ∨ v = 1) ∧ (gg < gi M' 77 40 ∧ gi M' 77 40 ≤ e) ∧ (F (gi M' 77 40) = 20 + p ∨ (F (gi M' 77 40) = 2001 + 100 * p ∧ ((gi M' 77 40) < e → C (gi M' 77 40) ≠ 142 ∧ C (gi M' 77 40) ≠ 143 ∧ C (gi M' 77 40) ≠ 145 ∧ C (gi M' 77 40) ≠ 147))) ∧ ((gi M' 77 40) < e → C (gi M' 77 40) ≠ 8 ∧ C (gi M' 77 40) ≠ 9)))) {d : Nat} (hd : 31 + 4 * (rr + 1) ≤ d) {M : mH} (H : HI base M) (live : Int) (p : Int) (a : Int) (e : Int) (gg : Int) (F : Int → Int) (C : Int → Int) (h0 : (live = 0 ∨ live = 1)) (h1 : KC C M) (h2 : ∀ j : Int, a ≤ j → j < e → F (j + 1) = dl (F j) (C j) ∧ F (j + 1) ≠ 0) (h3 : F e = 2 ∨ F e = 20 ∨ F e = 2001) (h4 : gi M 77 41 = e) (h5 : 0 ≤ a ∧ e ≤ 3200) (h6 : gi M 77 40 = gg) (h7 : a ≤ gg ∧ gg ≤ e) (h8 : F gg = 10 + p) (h9 : 0 ≤ p ∧ p ≤ 8) (hrr : 8 - p < ((rr + 1 : Nat) : Int)) : ∀ mz : Nat, (∀ (x2 t0 : Int) (N : mH), HI base N → Fr [(77, 41), (77, 43)] M N → (gi N 77 40 = t0) → (gg < t0 ∧ t0 ≤ e) → (gi N 77 41 = e) → (F t0 = 20 + p ∨ (F t0 = 2001 + 100 * p ∧ (t0 < e → C t0 ≠ 142 ∧ C t0 ≠ 143 ∧ C t0 ≠ 145 ∧ C t0 ≠ 147))) → (t0 < e → C t0 ≠ 9) → (0 ≤ x2) → (x2 ≤ 1) → (3200 - t0) * 1 + 0 < (mz : Int) → sRn base X G d T238 6 [(0, vR 77), (1, vI live), (2, vI x2)] [] N (s_Q base (pI (fun v M' => HI base M' ∧ Fr [(77, 41), (77, 43)] M M' ∧ (v = 0 ∨ v = 1) ∧ (gg < gi M' 77 40 ∧ gi M' 77 40 ≤ e) ∧ (F (gi M' 77 40) = 20 + p ∨ (F (gi M' 77 40) = 2001 + 100 * p ∧ ((gi M' 77 40) < e → C (gi M' 77 40) ≠ 142 ∧ C (gi M' 77 40) ≠ 143 ∧ C (gi M' 77 40) ≠ 145 ∧ C (gi M' 77 40) ≠ 147))) ∧ ((gi M' 77 40) < e → C (gi M' 77 40) ≠ 8 ∧ C (gi M' 77 40) ≠ 9))))) := by
  have f0 : Fr [(77, 41), (77, 43)] M M := Fr.rf
  intro mz
  induction mz with
  | zero => exact fun x2 t0 N _ _ z0 z1 z2 z3 z4 z5 z6 z7 => by omega
  | succ mz ih =>
    intro x2 t0 N HN fN i0 i1 i2 i3 i4 i5 i6 hmu
    refine s_blx (lv' := [(0, vR 77), (1, vI live), (2, vI x2)]) (st' := [vI 8, vR 77]) B238_6_9 rfl ?_
    have k1 := d_or (x := F t0) (p := p) 8 (by decide)
    have g17 : gi N 77 41 = e := i2
    have g18 : gi N 77 40 = t0 := i0
    refine r_vI (c := 77) (args := [vI 8]) (rest := []) (pc' := 12) D238_9 rfl ck_11_virtual_402 TE233 rfl (Nat.le_of_ble_eq_true rfl) ⟨Nat.le_of_ble_eq_true rfl, Nat.le_of_ble_eq_true rfl⟩ sc_77 ⟨rfl, by decide⟩ HN.1 (by omega) (k233x E (by omega) HN 8 a e t0 F C ((h1.fr fN rfl)) (h2) (by omega) (by omega) (by omega) (by omega) (by omega) (by omega) (by omega)) ?_
    intro v19 M20 q27
    obtain ⟨H21, f22, q23, q24, q25, q26⟩ := q27
    have f28 := fN.tr (f22.up rfl)
    obtain ⟨t29, ht30⟩ : ∃ q, q = gi M20 77 40 := ⟨_, rfl⟩
    rw [← ht30] at q24
    rw [← ht30] at q25
    rw [← ht30] at q26
    refine r_ifc (tgt := 50) (pc' := 15) D238_12 rfl rfl (by unfold inR; omega) (fun (c31 : v19 = 0) => ?_) (fun (c31 : ¬ (v19 = 0)) => ?_)
    · refine s_blx (lv' := [(0, vR 77), (1, vI live), (2, vI x2)]) (st' := [vI x2]) B238_50_51 rfl ?_
      have g32 : gi M20 77 40 = t29 := ht30.symm
      exact r_zretI D238_51 rfl (by omega) (⟨H21, f28, by omega, by rw [g32]; omega, by rw [g32]; omega, by rw [g32]; omega⟩)
    · refine s_blx (lv' := [(0, vR 77), (1, vI live), (2, vI x2)]) (st' := [vI live, vR 77]) B238_15_17 rfl ?_
      refine r_ifc (tgt := 28) (pc' := 20) D238_17 rfl rfl (by unfold inR; omega) (fun (c33 : live = 0) => ?_) (fun (c33 : ¬ (live = 0)) => ?_)
      · refine s_blx (lv' := [(0, vR 77), (1, vI live), (2, vI x2)]) (st' := [vI 0, vR 77]) B238_28_29 rfl ?_
        have g34 : gi M20 77 41 = e := (f22.g rfl).trans (i2)
        have g35 : gi M20 77 40 = t29 := ht30.symm
        refine r_vI (c := 77) (args := [vI 0]) (rest := []) (pc' := 32) D238_29 rfl ck_11_virtual_408 TE239 rfl (Nat.le_of_ble_eq_true rfl) ⟨Nat.le_of_ble_eq_true rfl, Nat.le_of_ble_eq_true rfl⟩ sc_77 ⟨rfl, by decide⟩ H21.1 (by omega) (k239x E ihr (by omega) H21 0 p a e t29 F C (by omega) ((h1.fr f28 rfl)) (h2) (by omega) (by omega) (by omega) (by omega) (by omega) (by omega) (by omega) (by omega)) ?_
        intro v36 M37 q44
        obtain ⟨H38, f39, q40, q41, q42, q43⟩ := q44
        have f45 := f28.tr (f39.up rfl)
        obtain ⟨t46, ht47⟩ : ∃ q, q = gi M37 77 40 := ⟨_, rfl⟩
        rw [← ht47] at q41
        rw [← ht47] at q42
        rw [← ht47] at q43
        refine s_blx (lv' := [(3, vI v36), (0, vR 77), (1, vI live), (2, vI x2)]) (st' := [vI x2]) B238_32_34 rfl ?_
        refine r_ifc (tgt := 41) (pc' := 37) D238_34 rfl rfl (by unfold inR; omega) (fun (c48 : x2 ≠ 0) => ?_) (fun (c48 : ¬ (x2 ≠ 0)) => ?_)
        · refine s_blx (lv' := [(3, vI v36), (0, vR 77), (1, vI live), (2, vI x2)]) (st' := [vI 1]) B238_41_42 rfl ?_
          refine r_goto (tgt := 46) D238_42 rfl ?_
          refine s_blx (lv' := [(2, vI 1), (3, vI v36), (0, vR 77), (1, vI live)]) (st' := []) B238_46_47 rfl ?_
          refine r_goto (tgt := 6) D238_47 rfl ?_
          refine r_loc (lv' := [(0, vR 77), (1, vI live), (2, vI 1)]) ⟨rfl, rfl, rfl, trivial⟩ rfl rfl ?_
          have g49 : gi M37 77 40 = t46 := ht47.symm
          have g50 : gi M37 77 41 = e := (f39.g rfl).trans ((f22.g rfl).trans (i2))
          exact ih 1 t46 M37 H38 f45 (by omega) (by omega) (by omega) (by omega) (by omega) (by omega) (by omega) (by omega)
        · refine s_blx (lv' := [(3, vI v36), (0, vR 77), (1, vI live), (2, vI x2)]) (st' := [vI v36]) B238_37_38 rfl ?_
          refine r_ifc (tgt := 45) (pc' := 41) D238_38 rfl rfl (by unfold inR; omega) (fun (c51 : v36 = 0) => ?_) (fun (c51 : ¬ (v36 = 0)) => ?_)
          · refine s_blx (lv' := [(2, vI 0), (3, vI v36), (0, vR 77), (1, vI live)]) (st' := []) B238_45_47 rfl ?_
            refine r_goto (tgt := 6) D238_47 rfl ?_
            refine r_loc (lv' := [(0, vR 77), (1, vI live), (2, vI 0)]) ⟨rfl, rfl, rfl, trivial⟩ rfl rfl ?_
            have g52 : gi M37 77 40 = t46 := ht47.symm
            have g53 : gi M37 77 41 = e := (f39.g rfl).trans ((f22.g rfl).trans (i2))
            exact ih 0 t46 M37 H38 f45 (by omega) (by omega) (by omega) (by omega) (by omega) (by omega) (by omega) (by omega)
          · refine s_blx (lv' := [(3, vI v36), (0, vR 77), (1, vI live), (2, vI x2)]) (st' := [vI 1]) B238_41_42 rfl ?_
            refine r_goto (tgt := 46) D238_42 rfl ?_
            refine s_blx (lv' := [(2, vI 1), (3, vI v36), (0, vR 77), (1, vI live)]) (st' := []) B238_46_47 rfl ?_
            refine r_goto (tgt := 6) D238_47 rfl ?_
            refine r_loc (lv' := [(0, vR 77), (1, vI live), (2, vI 1)]) ⟨rfl, rfl, rfl, trivial⟩ rfl rfl ?_
            have g54 : gi M37 77 40 = t46 := ht47.symm
            have g55 : gi M37 77 41 = e := (f39.g rfl).trans ((f22.g rfl).trans (i2))
            exact ih 1 t46 M37 H38 f45 (by omega) (by omega) (by omega) (by omega) (by omega) (by omega) (by omega) (by omega)
      · refine s_blx (lv' := [(0, vR 77), (1, vI live), (2, vI x2)]) (st' := [vI x2, vR 77]) B238_20_21 rfl ?_
        refine r_ifc (tgt := 28) (pc' := 24) D238_21 rfl rfl (by unfold inR; omega) (fun (c56 : x2 ≠ 0) => ?_) (fun (c56 : ¬ (x2 ≠ 0)) => ?_)
        · refine s_blx (lv' := [(0, vR 77), (1, vI live), (2, vI x2)]) (st' := [vI 0, vR 77]) B238_28_29 rfl ?_
          have g57 : gi M20 77 41 = e := (f22.g rfl).trans (i2)
          have g58 : gi M20 77 40 = t29 := ht30.symm
          refine r_vI (c := 77) (args := [vI 0]) (rest := []) (pc' := 32) D238_29 rfl ck_11_virtual_408 TE239 rfl (Nat.le_of_ble_eq_true rfl) ⟨Nat.le_of_ble_eq_true rfl, Nat.le_of_ble_eq_true rfl⟩ sc_77 ⟨rfl, by decide⟩ H21.1 (by omega) (k239x E ihr (by omega) H21 0 p a e t29 F C (by omega) ((h1.fr f28 rfl)) (h2) (by omega) (by omega) (by omega) (by omega) (by omega) (by omega) (by omega) (by omega)) ?_
          intro v59 M60 q67
          obtain ⟨H61, f62, q63, q64, q65, q66⟩ := q67
          have f68 := f28.tr (f62.up rfl)
          obtain ⟨t69, ht70⟩ : ∃ q, q = gi M60 77 40 := ⟨_, rfl⟩
          rw [← ht70] at q64
          rw [← ht70] at q65
          rw [← ht70] at q66
          refine s_blx (lv' := [(3, vI v59), (0, vR 77), (1, vI live), (2, vI x2)]) (st' := [vI x2]) B238_32_34 rfl ?_
          refine r_ifc (tgt := 41) (pc' := 37) D238_34 rfl rfl (by unfold inR; omega) (fun (c71 : x2 ≠ 0) => ?_) (fun (c71 : ¬ (x2 ≠ 0)) => ?_)
          · refine s_blx (lv' := [(3, vI v59), (0, vR 77), (1, vI live), (2, vI x2)]) (st' := [vI 1]) B238_41_42 rfl ?_
            refine r_goto (tgt := 46) D238_42 rfl ?_
            refine s_blx (lv' := [(2, vI 1), (3, vI v59), (0, vR 77), (1, vI live)]) (st' := []) B238_46_47 rfl ?_
            refine r_goto (tgt := 6) D238_47 rfl ?_
            refine r_loc (lv' := [(0, vR 77), (1, vI live), (2, vI 1)]) ⟨rfl, rfl, rfl, trivial⟩ rfl rfl ?_
            have g72 : gi M60 77 40 = t69 := ht70.symm
            have g73 : gi M60 77 41 = e := (f62.g rfl).trans ((f22.g rfl).trans (i2))
            exact ih 1 t69 M60 H61 f68 (by omega) (by omega) (by omega) (by omega) (by omega) (by omega) (by omega) (by omega)
          · exfalso; omega
        · refine s_blx (lv' := [(0, vR 77), (1, vI live), (2, vI x2)]) (st' := [vI 1, vR 77]) B238_24_25 rfl ?_
          refine r_goto (tgt := 29) D238_25 rfl ?_
          have g74 : gi M20 77 41 = e := (f22.g rfl).trans (i2)
          have g75 : gi M20 77 40 = t29 := ht30.symm
          refine r_vI (c := 77) (args := [vI 1]) (rest := []) (pc' := 32) D238_29 rfl ck_11_virtual_408 TE239 rfl (Nat.le_of_ble_eq_true rfl) ⟨Nat.le_of_ble_eq_true rfl, Nat.le_of_ble_eq_true rfl⟩ sc_77 ⟨rfl, by decide⟩ H21.1 (by omega) (k239x E ihr (by omega) H21 1 p a e t29 F C (by omega) ((h1.fr f28 rfl)) (h2) (by omega) (by omega) (by omega) (by omega) (by omega) (by omega) (by omega) (by omega)) ?_
          intro v76 M77 q84
          obtain ⟨H78, f79, q80, q81, q82, q83⟩ := q84
          have f85 := f28.tr (f79.up rfl)
          obtain ⟨t86, ht87⟩ : ∃ q, q = gi M77 77 40 := ⟨_, rfl⟩
          rw [← ht87] at q81
          rw [← ht87] at q82
          rw [← ht87] at q83
          refine s_blx (lv' := [(3, vI v76), (0, vR 77), (1, vI live), (2, vI x2)]) (st' := [vI x2]) B238_32_34 rfl ?_
          refine r_ifc (tgt := 41) (pc' := 37) D238_34 rfl rfl (by unfold inR; omega) (fun (c88 : x2 ≠ 0) => ?_) (fun (c88 : ¬ (x2 ≠ 0)) => ?_)
          · exfalso; omega
          · refine s_blx (lv' := [(3, vI v76), (0, vR 77), (1, vI live), (2, vI x2)]) (st' := [vI v76]) B238_37_38 rfl ?_
            refine r_ifc (tgt := 45) (pc' := 41) D238_38 rfl rfl (by unfold inR; omega) (fun (c89 : v76 = 0) => ?_) (fun (c89 : ¬ (v76 = 0)) => ?_)
            · refine s_blx (lv' := [(2, vI 0), (3, vI v76), (0, vR 77), (1, vI live)]) (st' := []) B238_45_47 rfl ?_
              refine r_goto (tgt := 6) D238_47 rfl ?_
              refine r_loc (lv' := [(0, vR 77), (1, vI live), (2, vI 0)]) ⟨rfl, rfl, rfl, trivial⟩ rfl rfl ?_
              have g90 : gi M77 77 40 = t86 := ht87.symm
              have g91 : gi M77 77 41 = e := (f79.g rfl).trans ((f22.g rfl).trans (i2))
              exact ih 0 t86 M77 H78 f85 (by omega) (by omega) (by omega) (by omega) (by omega) (by omega) (by omega) (by omega)
            · refine s_blx (lv' := [(3, vI v76), (0, vR 77), (1, vI live), (2, vI x2)]) (st' := [vI 1]) B238_41_42 rfl ?_
              refine r_goto (tgt := 46) D238_42 rfl ?_
              refine s_blx (lv' := [(2, vI 1), (3, vI v76), (0, vR 77), (1, vI live)]) (st' := []) B238_46_47 rfl ?_
              refine r_goto (tgt := 6) D238_47 rfl ?_
              refine r_loc (lv' := [(0, vR 77), (1, vI live), (2, vI 1)]) ⟨rfl, rfl, rfl, trivial⟩ rfl rfl ?_
              have g92 : gi M77 77 40 = t86 := ht87.symm
              have g93 : gi M77 77 41 = e := (f79.g rfl).trans ((f22.g rfl).trans (i2))
              exact ih 1 t86 M77 H78 f85 (by omega) (by omega) (by omega) (by omega) (by omega) (by omega) (by omega) (by omega)
