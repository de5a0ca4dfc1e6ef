set_option maxRecDepth 4000 in
theorem L_k227x {base : Nat} {X : Nat → Option mC} {G : Nat → Value} (E : EnvOK base X G) {rr : Nat} (ihr : ∀ {d : Nat} (_ : 3 + 3 * rr ≤ d) {M : mH} (_ : HI base M) (deep : Int) (p : Int) (q : Int) (s : Int) (tk : Int) (tok : Int) (F : Int → Int) (C : Int → Int), (PC C M) → (∀ j : Int, 0 ≤ j → F (j + 1) = dl (F j) (C j)) → (gi M 77 36 = tk) → (C tk = 0) → (0 ≤ tk ∧ tk ≤ 400) → (gi M 77 37 = tok) → (0 ≤ tok ∧ tok ≤ tk) → (gi M 77 39 = -1 → F tok = 1000 + 100 * p + 10 * q + s ∨ (F tok = 10 + p ∧ q = 0 ∧ s = 0)) → (0 ≤ p ∧ 0 ≤ q ∧ p + q = deep) → (0 ≤ deep ∧ deep ≤ 8) → (0 ≤ s ∧ s ≤ 1) → 8 - deep < ((rr : Nat) : Int) → sOk base X G d T226 [vR 77, vI deep] M (pV (fun M' => HI base M' ∧ Fr [(77, 38), (77, 39), (77, 40)] M M' ∧ (tok ≤ gi M' 77 37 ∧ gi M' 77 37 ≤ tk) ∧ (gi M' 77 39 = -1 → gi M 77 39 = -1 ∧ F (gi M' 77 37) = 2000 + 100 * p + 10 * q + s)))) {d : Nat} (hd : 5 + 3 * rr ≤ d) {M : mH} (H : HI base M) (deep : Int) (p : Int) (q : Int) (s : Int) (tk : Int) (tok : Int) (F : Int → Int) (C : Int → Int) (h0 : PC C M) (h1 : ∀ j : Int, 0 ≤ j → F (j + 1) = dl (F j) (C j)) (h2 : gi M 77 36 = tk) (h3 : C tk = 0) (h4 : 0 ≤ tk ∧ tk ≤ 400) (h5 : gi M 77 37 = tok) (h6 : 0 ≤ tok ∧ tok ≤ tk) (h7 : gi M 77 39 = -1 → F tok = 1000 + 100 * p + 10 * q + s ∨ (F tok = 10 + p ∧ q = 0 ∧ s = 0)) (h8 : 0 ≤ p ∧ 0 ≤ q ∧ p + q = deep) (h9 : 0 ≤ deep ∧ deep ≤ 8) (h10 : 0 ≤ s ∧ s ≤ 1) (h11 : 8 - deep < (rr : Int) + 1) : ∀ mz : Nat, (∀ (t0 : Int) (N : mH), HI base N → Fr [(77, 38), (77, 39), (77, 40)] M N → (gi N 77 37 = t0) → (tok ≤ t0 ∧ t0 ≤ tk) → (gi N 77 36 = tk) → (gi N 77 39 = -1 → gi M 77 39 = -1 ∧ F t0 = 2000 + 100 * p + 10 * q + s) → (400 - t0) * 1 + 0 < (mz : Int) → sRn base X G d T227 5 [(0, vR 77), (1, vI deep)] [] N (s_Q base (pV (fun M' => HI base M' ∧ Fr [(77, 38), (77, 39), (77, 40)] M M' ∧ (tok ≤ gi M' 77 37 ∧ gi M' 77 37 ≤ tk) ∧ (gi M' 77 39 = -1 → gi M 77 39 = -1 ∧ F (gi M' 77 37) = 2000 + 100 * p + 10 * q + s))))) := by
  have f0 : Fr [(77, 38), (77, 39), (77, 40)] M M := Fr.rf
  intro mz
  induction mz with
  | zero => exact fun t0 N _ _ z0 z1 z2 z3 z4 => by omega
  | succ mz ih =>
    intro t0 N HN fN i0 i1 i2 i3 hmu
    refine s_blx (lv' := [(0, vR 77), (1, vI deep)]) (st' := [vI 42, vR 77]) B227_5_8 rfl ?_
    refine r_sIp (args := [vI 42]) (rest := [vR 77]) (pc' := 11) D227_8 rfl ck_11_static_346 TE221 rfl (Nat.le_of_ble_eq_true rfl) ⟨Nat.le_of_ble_eq_true rfl, Nat.le_of_ble_eq_true rfl⟩ (by decide) (by omega) (k221 E (by omega) HN 42 (by omega)) ?_
    intro v18 q21
    have q20 := q21
    have e22 : v18 = 142 := by omega
    subst e22
    have k1 := d_op (x := F t0) 142 (by decide)
    have g23 : gi N 77 36 = tk := i2
    have g24 : gi N 77 37 = t0 := i0
    refine r_vI (c := 77) (args := [vI 142]) (rest := []) (pc' := 14) D227_11 rfl ck_11_virtual_328 TE218 rfl (Nat.le_of_ble_eq_true rfl) ⟨Nat.le_of_ble_eq_true rfl, Nat.le_of_ble_eq_true rfl⟩ sc_77 ⟨rfl, by decide⟩ HN.1 (by omega) (k218x E (by omega) HN 142 tk t0 F C ((h0.fr fN rfl)) (h1) (by omega) (by omega) (by omega) (by omega) (by omega) (by omega) (by omega)) ?_
    intro v25 M26 q33
    obtain ⟨H27, f28, q29, q30, q31, q32⟩ := q33
    have f34 := fN.tr (f28.up rfl)
    obtain ⟨t35, ht36⟩ : ∃ q, q = gi M26 77 37 := ⟨_, rfl⟩
    rw [← ht36] at q30
    rw [← ht36] at q31
    rw [← ht36] at q32
    refine r_ifc (tgt := 29) (pc' := 17) D227_14 rfl rfl (by unfold inR; omega) (fun (c37 : v25 ≠ 0) => ?_) (fun (c37 : ¬ (v25 ≠ 0)) => ?_)
    · refine s_blx (lv' := [(0, vR 77), (1, vI deep)]) (st' := [vI deep, vR 77]) B227_29_31 rfl ?_
      have g38 : gi M26 77 36 = tk := (f28.g rfl).trans (i2)
      have g39 : gi M26 77 37 = t35 := ht36.symm
      have g40 : gi M26 77 39 = gi N 77 39 := (f28.g rfl).trans (rfl)
      refine r_vV (c := 77) (args := [vI deep]) (rest := []) (pc' := 34) D227_31 rfl ck_11_virtual_362 TE228 rfl (Nat.le_of_ble_eq_true rfl) ⟨Nat.le_of_ble_eq_true rfl, Nat.le_of_ble_eq_true rfl⟩ sc_77 ⟨rfl, by decide⟩ H27.1 (by omega) (k228x E ihr (by omega) H27 deep p q s tk t35 F C ((h0.fr f34 rfl)) (h1) (by omega) (by omega) (by omega) (by omega) (by omega) (by omega) (by omega) (by omega) (by omega) (by omega)) ?_
      intro M42 q47
      obtain ⟨H43, f44, q45, q46⟩ := q47
      have f48 := f34.tr (f44.up rfl)
      obtain ⟨t49, ht50⟩ : ∃ q, q = gi M42 77 37 := ⟨_, rfl⟩
      obtain ⟨t51, ht52⟩ : ∃ q, q = gi M42 77 39 := ⟨_, rfl⟩
      rw [← ht50] at q45
      rw [← ht50, ← ht52] at q46
      refine r_goto (tgt := 5) D227_34 rfl ?_
      refine r_loc (lv' := [(0, vR 77), (1, vI deep)]) ⟨rfl, rfl, trivial⟩ rfl rfl ?_
      have g53 : gi M42 77 37 = t49 := ht50.symm
      have g54 : gi M42 77 36 = tk := (f44.g rfl).trans ((f28.g rfl).trans (i2))
      have g55 : gi M42 77 39 = t51 := ht52.symm
      exact ih t49 M42 H43 f48 (by omega) (by omega) (by omega) (by omega) (by omega)
    · refine s_blx (lv' := [(0, vR 77), (1, vI deep)]) (st' := [vI 47, vR 77]) B227_17_20 rfl ?_
      refine r_sIp (args := [vI 47]) (rest := [vR 77]) (pc' := 23) D227_20 rfl ck_11_static_346 TE221 rfl (Nat.le_of_ble_eq_true rfl) ⟨Nat.le_of_ble_eq_true rfl, Nat.le_of_ble_eq_true rfl⟩ (by decide) (by omega) (k221 E (by omega) H27 47 (by omega)) ?_
      intro v56 q59
      have q58 := q59
      have e60 : v56 = 147 := by omega
      subst e60
      have k2 := d_op (x := F t35) 147 (by decide)
      have g61 : gi M26 77 36 = tk := (f28.g rfl).trans (i2)
      have g62 : gi M26 77 37 = t35 := ht36.symm
      have g63 : gi M26 77 39 = gi N 77 39 := (f28.g rfl).trans (rfl)
      refine r_vI (c := 77) (args := [vI 147]) (rest := []) (pc' := 26) D227_23 rfl ck_11_virtual_328 TE218 rfl (Nat.le_of_ble_eq_true rfl) ⟨Nat.le_of_ble_eq_true rfl, Nat.le_of_ble_eq_true rfl⟩ sc_77 ⟨rfl, by decide⟩ H27.1 (by omega) (k218x E (by omega) H27 147 tk t35 F C ((h0.fr f34 rfl)) (h1) (by omega) (by omega) (by omega) (by omega) (by omega) (by omega) (by omega)) ?_
      intro v64 M65 q72
      obtain ⟨H66, f67, q68, q69, q70, q71⟩ := q72
      have f73 := f34.tr (f67.up rfl)
      obtain ⟨t74, ht75⟩ : ∃ q, q = gi M65 77 37 := ⟨_, rfl⟩
      rw [← ht75] at q69
      rw [← ht75] at q70
      rw [← ht75] at q71
      refine r_ifc (tgt := 37) (pc' := 29) D227_26 rfl rfl (by unfold inR; omega) (fun (c76 : v64 = 0) => ?_) (fun (c76 : ¬ (v64 = 0)) => ?_)
      · have g77 : gi M65 77 37 = t74 := ht75.symm
        have g78 : gi M65 77 39 = gi N 77 39 := (f67.g rfl).trans ((f28.g rfl).trans (rfl))
        exact r_retV D227_37 rfl (⟨H66, f73, by rw [g77]; omega, by rw [g77, g78]; omega⟩)
      · refine s_blx (lv' := [(0, vR 77), (1, vI deep)]) (st' := [vI deep, vR 77]) B227_29_31 rfl ?_
        have g79 : gi M65 77 36 = tk := (f67.g rfl).trans ((f28.g rfl).trans (i2))
        have g80 : gi M65 77 37 = t74 := ht75.symm
        have g81 : gi M65 77 39 = gi N 77 39 := (f67.g rfl).trans ((f28.g rfl).trans (rfl))
        refine r_vV (c := 77) (args := [vI deep]) (rest := []) (pc' := 34) D227_31 rfl ck_11_virtual_362 TE228 rfl (Nat.le_of_ble_eq_true rfl) ⟨Nat.le_of_ble_eq_true rfl, Nat.le_of_ble_eq_true rfl⟩ sc_77 ⟨rfl, by decide⟩ H66.1 (by omega) (k228x E ihr (by omega) H66 deep p q s tk t74 F C ((h0.fr f73 rfl)) (h1) (by omega) (by omega) (by omega) (by omega) (by omega) (by omega) (by omega) (by omega) (by omega) (by omega)) ?_
        intro M83 q88
        obtain ⟨H84, f85, q86, q87⟩ := q88
        have f89 := f73.tr (f85.up rfl)
        obtain ⟨t90, ht91⟩ : ∃ q, q = gi M83 77 37 := ⟨_, rfl⟩
        obtain ⟨t92, ht93⟩ : ∃ q, q = gi M83 77 39 := ⟨_, rfl⟩
        rw [← ht91] at q86
        rw [← ht91, ← ht93] at q87
        refine r_goto (tgt := 5) D227_34 rfl ?_
        refine r_loc (lv' := [(0, vR 77), (1, vI deep)]) ⟨rfl, rfl, trivial⟩ rfl rfl ?_
        have g94 : gi M83 77 37 = t90 := ht91.symm
        have g95 : gi M83 77 36 = tk := (f85.g rfl).trans ((f67.g rfl).trans ((f28.g rfl).trans (i2)))
        have g96 : gi M83 77 39 = t92 := ht93.symm
        exact ih t90 M83 H84 f89 (by omega) (by omega) (by omega) (by omega) (by omega)
