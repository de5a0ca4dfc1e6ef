set_option maxRecDepth 4000 in
theorem L_k224x {base : Nat} {X : Nat → Option mC} {G : Nat → Value} (E : EnvOK base X G) {rr : Nat} (ihr : ∀ {d : Nat} (_ : 30 + 3 * rr ≤ d) {M : mH} (_ : HI base M) (deep : Int) (tk : Int) (tok : Int) (F : Int → Int) (C : Int → Int), (PC C M) → (∀ j : Int, 0 ≤ j → F (j + 1) = dl (F j) (C j)) → (gi M 77 36 = tk) → (C tk = 0) → (0 ≤ tk ∧ tk ≤ 400) → (gi M 77 37 = tok) → (0 ≤ tok ∧ tok ≤ tk) → (gi M 77 39 = -1 → F tok = 10 + deep) → (0 ≤ deep ∧ deep ≤ 8) → 8 - deep < ((rr : Nat) : Int) → sOk base X G d T223 [vR 77, vI deep] M (pV (fun M' => HI base M' ∧ Fr [(77, 38), (77, 39), (77, 40)] M M' ∧ (tok ≤ gi M' 77 37 ∧ gi M' 77 37 ≤ tk) ∧ (gi M' 77 39 = -1 → gi M 77 39 = -1 ∧ (F (gi M' 77 37) = 20 + deep ∨ F (gi M' 77 37) = 2001 + 100 * deep))))) {d : Nat} (hd : 32 + 3 * rr ≤ d) {M : mH} (H : HI base M) (deep : Int) (tk : Int) (tok : Int) (F : Int → Int) (C : Int → Int) (h0 : PC C M) (h1 : ∀ j : Int, 0 ≤ j → F (j + 1) = dl (F j) (C j)) (h2 : gi M 77 36 = tk) (h3 : C tk = 0) (h4 : 0 ≤ tk ∧ tk ≤ 400) (h5 : gi M 77 37 = tok) (h6 : 0 ≤ tok ∧ tok ≤ tk) (h7 : gi M 77 39 = -1 → F tok = 10 + deep) (h8 : 0 ≤ deep ∧ deep ≤ 8) (h9 : 8 - deep < (rr : Int) + 1) : ∀ mz : Nat, (∀ (t0 : Int) (N : mH), HI base N → Fr [(77, 38), (77, 39), (77, 40)] M N → (gi N 77 37 = t0) → (tok ≤ t0 ∧ t0 ≤ tk) → (gi N 77 36 = tk) → (gi N 77 39 = -1 → gi M 77 39 = -1 ∧ (F t0 = 20 + deep ∨ F t0 = 2001 + 100 * deep)) → (400 - t0) * 1 + 0 < (mz : Int) → sRn base X G d T224 5 [(0, vR 77), (1, vI deep)] [] N (s_Q base (pV (fun M' => HI base M' ∧ Fr [(77, 38), (77, 39), (77, 40)] M M' ∧ (tok ≤ gi M' 77 37 ∧ gi M' 77 37 ≤ tk) ∧ (gi M' 77 39 = -1 → gi M 77 39 = -1 ∧ (F (gi M' 77 37) = 20 + deep ∨ F (gi M' 77 37) = 2001 + 100 * deep)))))) := by
  have f0 : Fr [(77, 38), (77, 39), (77, 40)] M M := Fr.rf
  intro mz
  induction mz with
  | zero => exact fun t0 N _ _ z0 z1 z2 z3 z4 => by omega
  | succ mz ih =>
    intro t0 N HN fN i0 i1 i2 i3 hmu
    refine s_blx (lv' := [(0, vR 77), (1, vI deep)]) (st' := [vI 9, vR 77]) B224_5_8 rfl ?_
    have k1 := d_or (x := F t0) (p := deep) 9 (by decide)
    have g18 : gi N 77 36 = tk := i2
    have g19 : gi N 77 37 = t0 := i0
    refine r_vI (c := 77) (args := [vI 9]) (rest := []) (pc' := 11) D224_8 rfl ck_11_virtual_328 TE218 rfl (Nat.le_of_ble_eq_true rfl) ⟨Nat.le_of_ble_eq_true rfl, Nat.le_of_ble_eq_true rfl⟩ sc_77 ⟨rfl, by decide⟩ HN.1 (by omega) (k218x E (by omega) HN 9 tk t0 F C ((h0.fr fN rfl)) (h1) (by omega) (by omega) (by omega) (by omega) (by omega) (by omega) (by omega)) ?_
    intro v20 M21 q28
    obtain ⟨H22, f23, q24, q25, q26, q27⟩ := q28
    have f29 := fN.tr (f23.up rfl)
    obtain ⟨t30, ht31⟩ : ∃ q, q = gi M21 77 37 := ⟨_, rfl⟩
    rw [← ht31] at q25
    rw [← ht31] at q26
    rw [← ht31] at q27
    refine r_ifc (tgt := 22) (pc' := 14) D224_11 rfl rfl (by unfold inR; omega) (fun (c32 : v20 = 0) => ?_) (fun (c32 : ¬ (v20 = 0)) => ?_)
    · have g33 : gi M21 77 37 = t30 := ht31.symm
      have g34 : gi M21 77 39 = gi N 77 39 := (f23.g rfl).trans (rfl)
      exact r_retV D224_22 rfl (⟨H22, f29, by rw [g33]; omega, by rw [g33, g34]; omega⟩)
    · refine s_blx (lv' := [(0, vR 77), (1, vI deep)]) (st' := [vI deep, vR 77]) B224_14_16 rfl ?_
      have g35 : gi M21 77 36 = tk := (f23.g rfl).trans (i2)
      have g36 : gi M21 77 37 = t30 := ht31.symm
      have g37 : gi M21 77 39 = gi N 77 39 := (f23.g rfl).trans (rfl)
      refine r_vV (c := 77) (args := [vI deep]) (rest := []) (pc' := 19) D224_16 rfl ck_11_virtual_343 TE225 rfl (Nat.le_of_ble_eq_true rfl) ⟨Nat.le_of_ble_eq_true rfl, Nat.le_of_ble_eq_true rfl⟩ sc_77 ⟨rfl, by decide⟩ H22.1 (by omega) (k225x E ihr (by omega) H22 deep tk t30 F C ((h0.fr f29 rfl)) (h1) (by omega) (by omega) (by omega) (by omega) (by omega) (by omega) (by omega) (by omega)) ?_
      intro M39 q44
      obtain ⟨H40, f41, q42, q43⟩ := q44
      have f45 := f29.tr (f41.up rfl)
      obtain ⟨t46, ht47⟩ : ∃ q, q = gi M39 77 37 := ⟨_, rfl⟩
      obtain ⟨t48, ht49⟩ : ∃ q, q = gi M39 77 39 := ⟨_, rfl⟩
      rw [← ht47] at q42
      rw [← ht47, ← ht49] at q43
      refine r_goto (tgt := 5) D224_19 rfl ?_
      refine r_loc (lv' := [(0, vR 77), (1, vI deep)]) ⟨rfl, rfl, trivial⟩ rfl rfl ?_
      have g50 : gi M39 77 37 = t46 := ht47.symm
      have g51 : gi M39 77 36 = tk := (f41.g rfl).trans ((f23.g rfl).trans (i2))
      have g52 : gi M39 77 39 = t48 := ht49.symm
      exact ih t46 M39 H40 f45 (by omega) (by omega) (by omega) (by omega) (by omega)
