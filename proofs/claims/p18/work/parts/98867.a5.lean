
set_option maxRecDepth 4000 in
theorem L_k24_14p {base : Nat} {X : Nat → Option mC} {G : Nat → Value} (E : EnvOK base X G) {d : Nat} (hd : 58 ≤ d) {M : mH} (H : HI base M) (ct : Int) (at_ : Int) (kd : Int) (K : Int → Int) (st : Int → Int) (fo : Int) (pq : Int) (h0 : TKx K st ct M) (h1 : K ct = 22) (h2 : 0 ≤ ct ∧ ct ≤ 400) (h3 : gi M 14 2 = at_) (h4 : gi M 14 3 = kd) (h5 : kd = K at_) (h6 : 0 ≤ at_ ∧ at_ ≤ ct) (h7 : 0 ≤ kd ∧ kd ≤ 511) (h8 : gi M 14 10 = fo) (h9 : gi M 14 4 = pq) (h10 : 0 ≤ pq ∧ pq ≤ 50) : ∀ mz : Nat, (∀ (x1 a0 k0 p0 : Int) (N : mH), HI base N → Fr [(14, 3), (14, 4), (14, 5), (14, 8), (14, 10), (14, 11), (17, 0), (18, 0), (19, 0)] M N → (gi N 14 2 = a0) → (gi N 14 3 = k0) → (gi N 14 4 = p0) → (k0 = K a0) → (at_ ≤ a0 ∧ a0 ≤ ct) → (0 ≤ k0 ∧ k0 ≤ 511) → (0 ≤ p0 ∧ p0 ≤ 50) → (CLx K at_ pq x1 a0 p0) → (gi N 14 10 = fo) → (0 ≤ x1 ∧ x1 ≤ 12) → (0 ≤ x1) → (x1 ≤ 12) → (12 - x1) * 1 + 0 < (mz : Int) → sRn base X G d T24 2 [(0, vR 14), (1, vI x1)] [] N (s_Q base (pI (fun v M' => HI base M' ∧ Fr [(14, 3), (14, 4), (14, 5), (14, 8), (14, 10), (14, 11), (17, 0), (18, 0), (19, 0)] M M' ∧ (v = 0 ∨ v = 1) ∧ (at_ ≤ gi M' 14 2 ∧ gi M' 14 2 ≤ ct) ∧ (gi M' 14 3 = K (gi M' 14 2)) ∧ (0 ≤ gi M' 14 4 ∧ gi M' 14 4 ≤ 50) ∧ (RR K 10 0 at_ pq (gi M' 14 2, gi M' 14 4, -v)) ∧ (FTx st fo (gi M' 14 10) (gi M' 14 2) v))))) := by
  have f0 : Fr [(14, 3), (14, 4), (14, 5), (14, 8), (14, 10), (14, 11), (17, 0), (18, 0), (19, 0)] M M := Fr.rf
  intro mz
  induction mz with
  | zero => exact fun x1 a0 k0 p0 N _ _ z0 z1 z2 z3 z4 z5 z6 z7 z8 z9 z10 z11 z12 => by omega
  | succ mz ih =>
    intro x1 a0 k0 p0 N HN fN i0 i1 i2 i3 i4 i5 i6 i7 i8 i9 i10 i11 hmu
    have kn : a0 = ct → K a0 = 22 := fun h => by rw [h]; exact h1
    have kk := i3
    have kF : FTx st fo fo at_ 1 := FTx.one
    refine s_blx (lv' := [(0, vR 14), (1, vI x1)]) (st' := [vI 12, vI x1]) B24_2_5 rfl ?_
    refine r_icmp (tgt := 103) (pc' := 8) D24_5 rfl rfl (by unfold inR; omega) (fun (c5 : 12 ≤ x1) => ?_) (fun (c5 : ¬ (12 ≤ x1)) => ?_)
    · refine s_blx (lv' := [(0, vR 14), (1, vI x1)]) (st' := [vR 14]) B24_103_104 rfl ?_
      have g6 : gi N 14 2 = a0 := i0
      refine r_vI (c := 14) (args := []) (rest := []) (pc' := 107) D24_104 rfl ck_4_virtual_102 TE36 rfl (Nat.le_of_ble_eq_true rfl) ⟨Nat.le_of_ble_eq_true rfl, Nat.le_of_ble_eq_true rfl⟩ sc_14 ⟨rfl, by decide⟩ HN.1 (dp_0 hd rfl) (k36_14p E (dp_n hd rfl) HN ct a0 K st ((h0.fr fN rfl)) (by omega) (by omega) (by omega)) ?_
      intro v7 M8 q14
      obtain ⟨H9, f10, q11, q12, q13⟩ := q14
      have f15 := fN.tr (f10.up rfl)
      obtain ⟨t16, ht17⟩ : ∃ q, q = gi M8 14 10 := ⟨_, rfl⟩
      have b_t16 := (H9.1.int sc_14 (i := 10) (by decide) (by decide) rfl).2
      unfold inR at b_t16; rw [← ht17] at b_t16
      rw [← ht17] at q13
      have kF : FTx st fo t16 a0 v7 := FTx.bad (by omega) q13
      have g18 : gi M8 14 2 = a0 := (f10.g rfl).trans (i0)
      have g19 : gi M8 14 3 = k0 := (f10.g rfl).trans (i1)
      have g20 : gi M8 14 4 = p0 := (f10.g rfl).trans (i2)
      have g21 : gi M8 14 10 = t16 := ht17.symm
      exact r_zretI D24_107 rfl (by omega) (⟨H9, f15, by omega, by first | (rw [g18]; omega) | rw [g18], by rw [((f10.g rfl).trans (i1)), ((f10.g rfl).trans (i0))]; exact kk, by first | (rw [g20]; omega) | rw [g20], by rw [((f10.g rfl).trans (i0)), ((f10.g rfl).trans (i2))]; exact i7 _ ((RR.f10 (by omega)).rs rfl rfl (by omega)), by rw [(ht17.symm), ((f10.g rfl).trans (i0))]; first | exact kF | exact kF.lit (by omega) | exact kF.up (by omega) (by omega)⟩)
    · refine s_blx (lv' := [(0, vR 14), (1, vI x1)]) (st' := [vR 14]) B24_8_9 rfl ?_
      refine r_gint (ki := 3) (pc' := 12) D24_9 rfl gf_4_22_14 rfl HN.1 ?_
      intro w22 e23 r24
      have e25 : k0 = w22 := (e23.trans (i1)).symm
      subst e25
      refine s_blx (lv' := [(0, vR 14), (1, vI x1)]) (st' := [vI 5, vI k0]) B24_12_13 rfl ?_
      refine r_icmp (tgt := 21) (pc' := 16) D24_13 rfl rfl (by unfold inR; omega) (fun (c26 : k0 ≤ 5) => ?_) (fun (c26 : ¬ (k0 ≤ 5)) => ?_)
      · refine s_blx (lv' := [(0, vR 14), (1, vI x1)]) (st' := [vR 14]) B24_21_22 rfl ?_
        refine r_gfix (r := 17) (pc' := 25) D24_22 rfl gf_4_28_14 HN.1 ?_
        refine s_blx (lv' := [(0, vR 14), (1, vI x1)]) (st' := [vR 14, vI x1, vR 17]) B24_25_27 rfl ?_
        refine r_gint (ki := 3) (pc' := 30) D24_27 rfl gf_4_22_14 rfl HN.1 ?_
        intro w27 e28 r29
        have e30 : k0 = w27 := (e28.trans (i1)).symm
        subst e30
        refine r_iast (pc' := 31) D24_30 rfl sc_17 HN (by omega) (by unfold inR; omega) trivial ?_
        intro M31 u32 H33 p34
        have f35 := fN.wr u32 rfl
        refine s_blx (lv' := [(0, vR 14), (1, vI x1)]) (st' := [vR 14]) B24_31_32 rfl ?_
        have g36 : gi M31 14 2 = a0 := (u32.gi_ne (by omega) (Or.inl (by decide))).trans (i0)
        have g37 : gi M31 14 3 = k0 := (u32.gi_ne (by omega) (Or.inl (by decide))).trans (i1)
        refine r_vV (c := 14) (args := []) (rest := []) (pc' := 35) D24_32 rfl ck_4_virtual_105 TE35 rfl (Nat.le_of_ble_eq_true rfl) ⟨Nat.le_of_ble_eq_true rfl, Nat.le_of_ble_eq_true rfl⟩ sc_14 ⟨rfl, by decide⟩ H33.1 (dp_0 hd rfl) (k35_14p E (dp_n hd rfl) H33 ct a0 k0 K st ((h0.fr f35 rfl)) (by omega) (by omega) (by omega) (by omega) (by omega) (by omega) (by omega) (by omega)) ?_
        intro M39 q46
        obtain ⟨H40, f41, q42, q43, q44, q45⟩ := q46
        have f47 := f35.tr (f41.up rfl)
        obtain ⟨t48, ht49⟩ : ∃ q, q = gi M39 14 2 := ⟨_, rfl⟩
        have b_t48 := H40.2 14 2 0 400 rfl
        rw [← ht49] at b_t48
        obtain ⟨t50, ht51⟩ : ∃ q, q = gi M39 14 3 := ⟨_, rfl⟩
        have b_t50 := H40.2 14 3 0 511 rfl
        rw [← ht51] at b_t50
        rw [← ht49] at q42
        rw [← ht49, ← ht51] at q43
        rw [← ht49] at q44
        rw [← ht51] at q45
        have kk := q43; clear q43
        refine s_blx (lv' := [(0, vR 14), (1, vI x1)]) (st' := [vR 14]) B24_35_36 rfl ?_
        refine r_gint (ki := 3) (pc' := 39) D24_36 rfl gf_4_22_14 rfl H40.1 ?_
        intro w52 e53 r54
        have e55 : t50 = w52 := (e53.trans (ht51.symm)).symm
        subst e55
        refine s_blx (lv' := [(0, vR 14), (1, vI x1)]) (st' := [vI 6, vI t50]) B24_39_41 rfl ?_
        refine r_icmp (tgt := 58) (pc' := 44) D24_41 rfl rfl (by unfold inR; omega) (fun (c56 : t50 ≠ 6) => ?_) (fun (c56 : ¬ (t50 ≠ 6)) => ?_)
        · refine s_blx (lv' := [(0, vR 14), (1, vI x1)]) (st' := [vR 14]) B24_58_59 rfl ?_
          refine r_gfix (r := 18) (pc' := 62) D24_59 rfl gf_4_31_14 H40.1 ?_
          refine s_blx (lv' := [(0, vR 14), (1, vI x1)]) (st' := [vR 14, vI x1, vR 18]) B24_62_64 rfl ?_
          refine r_gint (ki := 9) (pc' := 67) D24_64 rfl gf_4_40_14 rfl H40.1 ?_
          intro w57 e58 r59
          have b_w57 := H40.2 14 (9) 0 400 rfl
          rw [← e58] at b_w57; clear r59
          refine r_iast (pc' := 68) D24_67 rfl sc_18 H40 (by omega) (by unfold inR; omega) (show 0 ≤ w57 ∧ w57 ≤ 400 by omega) ?_
          intro M60 u61 H62 p63
          have f64 := f47.wr u61 rfl
          refine s_blx (lv' := [(0, vR 14), (1, vI x1)]) (st' := [vI (x1 + 1), vR 14]) B24_68_72 rfl ?_
          refine r_pint (ki := 7) (pc' := 75) D24_72 rfl pf_4_34_14 rfl H62 (by unfold inR; omega) (show 0 ≤ (x1 + 1) ∧ (x1 + 1) ≤ 12 by omega) ?_
          intro M65 u66 H67 p68
          have f69 := f64.wr u66 rfl
          refine s_blx (lv' := [(0, vR 14), (1, vI x1)]) (st' := [vR 14]) B24_75_76 rfl ?_
          refine r_gint (ki := 3) (pc' := 79) D24_76 rfl gf_4_22_14 rfl H67.1 ?_
          intro w70 e71 r72
          have e73 : t50 = w70 := (e71.trans ((u66.gi_ne (by decide) (Or.inr (by decide))).trans ((u61.gi_ne (by omega) (Or.inl (by decide))).trans (ht51.symm)))).symm
          subst e73
          refine s_blx (lv' := [(0, vR 14), (1, vI x1)]) (st' := [vI 22, vI t50]) B24_79_81 rfl ?_
          refine r_icmp (tgt := 86) (pc' := 84) D24_81 rfl rfl (by unfold inR; omega) (fun (c74 : t50 ≠ 22) => ?_) (fun (c74 : ¬ (t50 ≠ 22)) => ?_)
          · refine s_blx (lv' := [(0, vR 14), (1, vI x1)]) (st' := [vI 59, vR 14]) B24_86_89 rfl ?_
            have g75 : gi M65 14 2 = t48 := (u66.gi_ne (by decide) (Or.inr (by decide))).trans ((u61.gi_ne (by omega) (Or.inl (by decide))).trans (ht49.symm))
            have g76 : gi M65 14 3 = t50 := (u66.gi_ne (by decide) (Or.inr (by decide))).trans ((u61.gi_ne (by omega) (Or.inl (by decide))).trans (ht51.symm))
            have g77 : gi M65 14 10 = fo := (u66.gi_ne (by decide) (Or.inr (by decide))).trans ((u61.gi_ne (by omega) (Or.inl (by decide))).trans ((f41.g rfl).trans ((u32.gi_ne (by omega) (Or.inl (by decide))).trans (i8))))
            refine r_vI (c := 14) (args := [vI 59]) (rest := []) (pc' := 92) D24_89 rfl ck_4_virtual_111 TE34 rfl (Nat.le_of_ble_eq_true rfl) ⟨Nat.le_of_ble_eq_true rfl, Nat.le_of_ble_eq_true rfl⟩ sc_14 ⟨rfl, by decide⟩ H67.1 (dp_0 hd rfl) (k34_14p E (dp_n hd rfl) H67 59 ct t48 t50 K st fo ((h0.fr f69 rfl)) (by omega) (by omega) (by omega) (by omega) (by omega) (by omega) (by omega) (by omega) (by omega) (by omega)) ?_
            intro v78 M79 q89
            obtain ⟨H80, f81, q82, q83, q84, q85, q86, q87, q88⟩ := q89
            have f90 := f69.tr (f81.up rfl)
            obtain ⟨t91, ht92⟩ : ∃ q, q = gi M79 14 2 := ⟨_, rfl⟩
            have b_t91 := H80.2 14 2 0 400 rfl
            rw [← ht92] at b_t91
            obtain ⟨t93, ht94⟩ : ∃ q, q = gi M79 14 3 := ⟨_, rfl⟩
            have b_t93 := H80.2 14 3 0 511 rfl
            rw [← ht94] at b_t93
            obtain ⟨t95, ht96⟩ : ∃ q, q = gi M79 14 10 := ⟨_, rfl⟩
            have b_t95 := (H80.1.int sc_14 (i := 10) (by decide) (by decide) rfl).2
            unfold inR at b_t95; rw [← ht96] at b_t95
            rw [← ht92] at q83
            rw [← ht92, ← ht94] at q84
            rw [← ht92, ← ht96] at q88
            have kF := kF.tr (by omega) q88
            have kk := q84; clear q84
            have kz : v78 ≠ 0 → t95 = fo := kF.2
            have kG := q86; clear q86
            have kH := q87; clear q87
            refine r_ifc (tgt := 97) (pc' := 95) D24_92 rfl rfl (by unfold inR; omega) (fun (c97 : v78 ≠ 0) => ?_) (fun (c97 : ¬ (v78 ≠ 0)) => ?_)
            · refine s_blx (lv' := [(1, vI (x1 + 1)), (0, vR 14)]) (st' := []) B24_97_100 rfl ?_
              refine r_goto (tgt := 2) D24_100 rfl ?_
              refine r_loc (lv' := [(0, vR 14), (1, vI (x1 + 1))]) ⟨rfl, rfl, trivial⟩ rfl rfl ?_
              have g98 : gi M79 14 2 = t91 := ht92.symm
              have g99 : gi M79 14 3 = t93 := ht94.symm
              have g100 : gi M79 14 4 = p0 := (f81.g rfl).trans ((u66.gi_ne (by decide) (Or.inr (by decide))).trans ((u61.gi_ne (by omega) (Or.inl (by decide))).trans ((f41.g rfl).trans ((u32.gi_ne (by omega) (Or.inl (by decide))).trans (i2)))))
              have g101 : gi M79 14 10 = t95 := ht96.symm
              exact ih (x1 + 1) t91 t93 p0 M79 H80 f90 (by omega) (by omega) (by omega) (by omega) (by omega) (by omega) (by omega) (fun r h => i7 r (by first | exact RR.t10 (by omega) (by omega) ((kS.at (by omega)).rs rfl rfl (by omega)) (RR.m11 (by omega) (h.at (by omega))) | exact RR.h10 (by omega) (by omega) (RR.m11 (by omega) (h.at (by omega))))) (by omega) (by omega) (by omega) (by omega) (by omega)
            · refine s_blx (lv' := [(0, vR 14), (1, vI x1)]) (st' := [vI 0]) B24_95_96 rfl ?_
              have g102 : gi M79 14 2 = t91 := ht92.symm
              have g103 : gi M79 14 3 = t93 := ht94.symm
              have g104 : gi M79 14 4 = p0 := (f81.g rfl).trans ((u66.gi_ne (by decide) (Or.inr (by decide))).trans ((u61.gi_ne (by omega) (Or.inl (by decide))).trans ((f41.g rfl).trans ((u32.gi_ne (by omega) (Or.inl (by decide))).trans (i2)))))
              have g105 : gi M79 14 10 = t95 := ht96.symm
              exact r_zretI D24_96 rfl (by omega) (⟨H80, f90, by omega, by first | (rw [g102]; omega) | rw [g102], by rw [(ht94.symm), (ht92.symm)]; exact kk, by first | (rw [g104]; omega) | rw [g104], by rw [(ht92.symm), ((f81.g rfl).trans ((u66.gi_ne (by decide) (Or.inr (by decide))).trans ((u61.gi_ne (by omega) (Or.inl (by decide))).trans ((f41.g rfl).trans ((u32.gi_ne (by omega) (Or.inl (by decide))).trans (i2))))))]; exact i7 _ (by first | exact (RR.t10 (by omega) (by omega) ((kS.at (by omega)).rs rfl rfl (by omega)) (RR.f11 (by omega))).rs (by omega) (by omega) (by omega) | exact (RR.h10 (by omega) (by omega) (RR.f11 (by omega))).rs (by omega) (by omega) (by omega)), by rw [(ht96.symm), (ht92.symm)]; first | exact kF | exact kF.lit (by omega) | exact kF.up (by omega) (by omega)⟩)
          · refine s_blx (lv' := [(0, vR 14), (1, vI x1)]) (st' := [vI 1]) B24_84_85 rfl ?_
            have g106 : gi M65 14 2 = t48 := (u66.gi_ne (by decide) (Or.inr (by decide))).trans ((u61.gi_ne (by omega) (Or.inl (by decide))).trans (ht49.symm))
            have g107 : gi M65 14 3 = t50 := (u66.gi_ne (by decide) (Or.inr (by decide))).trans ((u61.gi_ne (by omega) (Or.inl (by decide))).trans (ht51.symm))
            have g108 : gi M65 14 4 = p0 := (u66.gi_ne (by decide) (Or.inr (by decide))).trans ((u61.gi_ne (by omega) (Or.inl (by decide))).trans ((f41.g rfl).trans ((u32.gi_ne (by omega) (Or.inl (by decide))).trans (i2))))
            have g109 : gi M65 14 10 = fo := (u66.gi_ne (by decide) (Or.inr (by decide))).trans ((u61.gi_ne (by omega) (Or.inl (by decide))).trans ((f41.g rfl).trans ((u32.gi_ne (by omega) (Or.inl (by decide))).trans (i8))))
            exact r_zretI D24_85 rfl (by omega) (⟨H67, f69, by omega, by first | (rw [g106]; omega) | rw [g106], by rw [((u66.gi_ne (by decide) (Or.inr (by decide))).trans ((u61.gi_ne (by omega) (Or.inl (by decide))).trans (ht51.symm))), ((u66.gi_ne (by decide) (Or.inr (by decide))).trans ((u61.gi_ne (by omega) (Or.inl (by decide))).trans (ht49.symm)))]; exact kk, by first | (rw [g108]; omega) | rw [g108], by rw [((u66.gi_ne (by decide) (Or.inr (by decide))).trans ((u61.gi_ne (by omega) (Or.inl (by decide))).trans (ht49.symm))), ((u66.gi_ne (by decide) (Or.inr (by decide))).trans ((u61.gi_ne (by omega) (Or.inl (by decide))).trans ((f41.g rfl).trans ((u32.gi_ne (by omega) (Or.inl (by decide))).trans (i2)))))]; exact i7 _ (by first | exact (RR.t10 (by omega) (by omega) ((kS.at (by omega)).rs rfl rfl (by omega)) (RR.e11 (by omega))).rs (by omega) (by omega) (by omega) | exact (RR.h10 (by omega) (by omega) (RR.e11 (by omega))).rs (by omega) (by omega) (by omega)), by rw [((u66.gi_ne (by decide) (Or.inr (by decide))).trans ((u61.gi_ne (by omega) (Or.inl (by decide))).trans ((f41.g rfl).trans ((u32.gi_ne (by omega) (Or.inl (by decide))).trans (i8))))), ((u66.gi_ne (by decide) (Or.inr (by decide))).trans ((u61.gi_ne (by omega) (Or.inl (by decide))).trans (ht49.symm)))]; first | exact kF | exact kF.lit (by omega) | exact kF.up (by omega) (by omega)⟩)
        · refine s_blx (lv' := [(0, vR 14), (1, vI x1)]) (st' := [vR 14]) B24_44_45 rfl ?_
          have g110 : gi M39 14 2 = t48 := ht49.symm
          have g111 : gi M39 14 3 = t50 := ht51.symm
          refine r_vV (c := 14) (args := []) (rest := []) (pc' := 48) D24_45 rfl ck_4_virtual_105 TE35 rfl (Nat.le_of_ble_eq_true rfl) ⟨Nat.le_of_ble_eq_true rfl, Nat.le_of_ble_eq_true rfl⟩ sc_14 ⟨rfl, by decide⟩ H40.1 (dp_0 hd rfl) (k35_14p E (dp_n hd rfl) H40 ct t48 t50 K st ((h0.fr f47 rfl)) (by omega) (by omega) (by omega) (by omega) (by omega) (by omega) (by omega) (by omega)) ?_
          intro M113 q120
          obtain ⟨H114, f115, q116, q117, q118, q119⟩ := q120
          have f121 := f47.tr (f115.up rfl)
          obtain ⟨t122, ht123⟩ : ∃ q, q = gi M113 14 2 := ⟨_, rfl⟩
          have b_t122 := H114.2 14 2 0 400 rfl
          rw [← ht123] at b_t122
          obtain ⟨t124, ht125⟩ : ∃ q, q = gi M113 14 3 := ⟨_, rfl⟩
          have b_t124 := H114.2 14 3 0 511 rfl
          rw [← ht125] at b_t124
          rw [← ht123] at q116
          rw [← ht123, ← ht125] at q117
          rw [← ht123] at q118
          rw [← ht125] at q119
          have kk := q117; clear q117
          refine s_blx (lv' := [(0, vR 14), (1, vI x1)]) (st' := [vI 0, vR 14]) B24_48_50 rfl ?_
          have g126 : gi M113 14 2 = t122 := ht123.symm
          have g127 : gi M113 14 3 = t124 := ht125.symm
          have g128 : gi M113 14 10 = fo := (f115.g rfl).trans ((f41.g rfl).trans ((u32.gi_ne (by omega) (Or.inl (by decide))).trans (i8)))
          have g129 : gi M113 14 4 = p0 := (f115.g rfl).trans ((f41.g rfl).trans ((u32.gi_ne (by omega) (Or.inl (by decide))).trans (i2)))
          refine r_vI (c := 14) (args := [vI 0]) (rest := []) (pc' := 53) D24_50 rfl ck_4_virtual_108 TE25 rfl (Nat.le_of_ble_eq_true rfl) ⟨Nat.le_of_ble_eq_true rfl, Nat.le_of_ble_eq_true rfl⟩ sc_14 ⟨rfl, by decide⟩ H114.1 (dp_0 hd rfl) (k25_14p E (dp_n hd rfl) H114 0 ct t122 t124 K st fo p0 ((h0.fr f121 rfl)) (by omega) (by omega) (by omega) (by omega) (by omega) (by omega) (by omega) (by omega) (by omega) (by omega) (by omega)) ?_
          intro v130 M131 q140
          obtain ⟨H132, f133, q134, q135, q136, q137, q138, q139⟩ := q140
          have f141 := f121.tr (f133.up rfl)
          obtain ⟨t142, ht143⟩ : ∃ q, q = gi M131 14 2 := ⟨_, rfl⟩
          have b_t142 := H132.2 14 2 0 400 rfl
          rw [← ht143] at b_t142
          obtain ⟨t144, ht145⟩ : ∃ q, q = gi M131 14 3 := ⟨_, rfl⟩
          have b_t144 := H132.2 14 3 0 511 rfl
          rw [← ht145] at b_t144
          obtain ⟨t146, ht147⟩ : ∃ q, q = gi M131 14 4 := ⟨_, rfl⟩
          have b_t146 := H132.2 14 4 0 50 rfl
          rw [← ht147] at b_t146
          obtain ⟨t148, ht149⟩ : ∃ q, q = gi M131 14 10 := ⟨_, rfl⟩
          have b_t148 := (H132.1.int sc_14 (i := 10) (by decide) (by decide) rfl).2
          unfold inR at b_t148; rw [← ht149] at b_t148
          rw [← ht143] at q135
          rw [← ht143, ← ht145] at q136
          rw [← ht147] at q137
          rw [← ht143, ← ht147] at q138
          rw [← ht143, ← ht149] at q139
          have kS := q138; clear q138
          have kk := q136; clear q136
          have kF := kF.tr (by omega) q139
          have kz : v130 ≠ 0 → t148 = fo := kF.2
          refine r_ifc (tgt := 58) (pc' := 56) D24_53 rfl rfl (by unfold inR; omega) (fun (c150 : v130 ≠ 0) => ?_) (fun (c150 : ¬ (v130 ≠ 0)) => ?_)
          · refine s_blx (lv' := [(0, vR 14), (1, vI x1)]) (st' := [vR 14]) B24_58_59 rfl ?_
            refine r_gfix (r := 18) (pc' := 62) D24_59 rfl gf_4_31_14 H132.1 ?_
            refine s_blx (lv' := [(0, vR 14), (1, vI x1)]) (st' := [vR 14, vI x1, vR 18]) B24_62_64 rfl ?_
            refine r_gint (ki := 9) (pc' := 67) D24_64 rfl gf_4_40_14 rfl H132.1 ?_
            intro w151 e152 r153
            have b_w151 := H132.2 14 (9) 0 400 rfl
            rw [← e152] at b_w151; clear r153
            refine r_iast (pc' := 68) D24_67 rfl sc_18 H132 (by omega) (by unfold inR; omega) (show 0 ≤ w151 ∧ w151 ≤ 400 by omega) ?_
            intro M154 u155 H156 p157
            have f158 := f141.wr u155 rfl
            refine s_blx (lv' := [(0, vR 14), (1, vI x1)]) (st' := [vI (x1 + 1), vR 14]) B24_68_72 rfl ?_
            refine r_pint (ki := 7) (pc' := 75) D24_72 rfl pf_4_34_14 rfl H156 (by unfold inR; omega) (show 0 ≤ (x1 + 1) ∧ (x1 + 1) ≤ 12 by omega) ?_
            intro M159 u160 H161 p162
            have f163 := f158.wr u160 rfl
            refine s_blx (lv' := [(0, vR 14), (1, vI x1)]) (st' := [vR 14]) B24_75_76 rfl ?_
            refine r_gint (ki := 3) (pc' := 79) D24_76 rfl gf_4_22_14 rfl H161.1 ?_
            intro w164 e165 r166
            have e167 : t144 = w164 := (e165.trans ((u160.gi_ne (by decide) (Or.inr (by decide))).trans ((u155.gi_ne (by omega) (Or.inl (by decide))).trans (ht145.symm)))).symm
            subst e167
            refine s_blx (lv' := [(0, vR 14), (1, vI x1)]) (st' := [vI 22, vI t144]) B24_79_81 rfl ?_
            refine r_icmp (tgt := 86) (pc' := 84) D24_81 rfl rfl (by unfold inR; omega) (fun (c168 : t144 ≠ 22) => ?_) (fun (c168 : ¬ (t144 ≠ 22)) => ?_)
            · refine s_blx (lv' := [(0, vR 14), (1, vI x1)]) (st' := [vI 59, vR 14]) B24_86_89 rfl ?_
              have g169 : gi M159 14 2 = t142 := (u160.gi_ne (by decide) (Or.inr (by decide))).trans ((u155.gi_ne (by omega) (Or.inl (by decide))).trans (ht143.symm))
              have g170 : gi M159 14 3 = t144 := (u160.gi_ne (by decide) (Or.inr (by decide))).trans ((u155.gi_ne (by omega) (Or.inl (by decide))).trans (ht145.symm))
              have g171 : gi M159 14 10 = t148 := (u160.gi_ne (by decide) (Or.inr (by decide))).trans ((u155.gi_ne (by omega) (Or.inl (by decide))).trans (ht149.symm))
              refine r_vI (c := 14) (args := [vI 59]) (rest := []) (pc' := 92) D24_89 rfl ck_4_virtual_111 TE34 rfl (Nat.le_of_ble_eq_true rfl) ⟨Nat.le_of_ble_eq_true rfl, Nat.le_of_ble_eq_true rfl⟩ sc_14 ⟨rfl, by decide⟩ H161.1 (dp_0 hd rfl) (k34_14p E (dp_n hd rfl) H161 59 ct t142 t144 K st t148 ((h0.fr f163 rfl)) (by omega) (by omega) (by omega) (by omega) (by omega) (by omega) (by omega) (by omega) (by omega) (by omega)) ?_
              intro v172 M173 q183
              obtain ⟨H174, f175, q176, q177, q178, q179, q180, q181, q182⟩ := q183
              have f184 := f163.tr (f175.up rfl)
              obtain ⟨t185, ht186⟩ : ∃ q, q = gi M173 14 2 := ⟨_, rfl⟩
              have b_t185 := H174.2 14 2 0 400 rfl
              rw [← ht186] at b_t185
              obtain ⟨t187, ht188⟩ : ∃ q, q = gi M173 14 3 := ⟨_, rfl⟩
              have b_t187 := H174.2 14 3 0 511 rfl
              rw [← ht188] at b_t187
              obtain ⟨t189, ht190⟩ : ∃ q, q = gi M173 14 10 := ⟨_, rfl⟩
              have b_t189 := (H174.1.int sc_14 (i := 10) (by decide) (by decide) rfl).2
              unfold inR at b_t189; rw [← ht190] at b_t189
              rw [← ht186] at q177
              rw [← ht186, ← ht188] at q178
              rw [← ht186, ← ht190] at q182
              have kF := kF.tr (by omega) q182
              have kk := q178; clear q178
              have kz : v172 ≠ 0 → t189 = fo := kF.2
              have kG := q180; clear q180
              have kH := q181; clear q181
              refine r_ifc (tgt := 97) (pc' := 95) D24_92 rfl rfl (by unfold inR; omega) (fun (c191 : v172 ≠ 0) => ?_) (fun (c191 : ¬ (v172 ≠ 0)) => ?_)
              · refine s_blx (lv' := [(1, vI (x1 + 1)), (0, vR 14)]) (st' := []) B24_97_100 rfl ?_
                refine r_goto (tgt := 2) D24_100 rfl ?_
                refine r_loc (lv' := [(0, vR 14), (1, vI (x1 + 1))]) ⟨rfl, rfl, trivial⟩ rfl rfl ?_
                have g192 : gi M173 14 2 = t185 := ht186.symm
                have g193 : gi M173 14 3 = t187 := ht188.symm
                have g194 : gi M173 14 4 = t146 := (f175.g rfl).trans ((u160.gi_ne (by decide) (Or.inr (by decide))).trans ((u155.gi_ne (by omega) (Or.inl (by decide))).trans (ht147.symm)))
                have g195 : gi M173 14 10 = t189 := ht190.symm
                exact ih (x1 + 1) t185 t187 t146 M173 H174 f184 (by omega) (by omega) (by omega) (by omega) (by omega) (by omega) (by omega) (fun r h => i7 r (by first | exact RR.t10 (by omega) (by omega) ((kS.at (by omega)).rs rfl rfl (by omega)) (RR.m11 (by omega) (h.at (by omega))) | exact RR.h10 (by omega) (by omega) (RR.m11 (by omega) (h.at (by omega))))) (by omega) (by omega) (by omega) (by omega) (by omega)
              · refine s_blx (lv' := [(0, vR 14), (1, vI x1)]) (st' := [vI 0]) B24_95_96 rfl ?_
                have g196 : gi M173 14 2 = t185 := ht186.symm
                have g197 : gi M173 14 3 = t187 := ht188.symm
                have g198 : gi M173 14 4 = t146 := (f175.g rfl).trans ((u160.gi_ne (by decide) (Or.inr (by decide))).trans ((u155.gi_ne (by omega) (Or.inl (by decide))).trans (ht147.symm)))
                have g199 : gi M173 14 10 = t189 := ht190.symm
                exact r_zretI D24_96 rfl (by omega) (⟨H174, f184, by omega, by first | (rw [g196]; omega) | rw [g196], by rw [(ht188.symm), (ht186.symm)]; exact kk, by first | (rw [g198]; omega) | rw [g198], by rw [(ht186.symm), ((f175.g rfl).trans ((u160.gi_ne (by decide) (Or.inr (by decide))).trans ((u155.gi_ne (by omega) (Or.inl (by decide))).trans (ht147.symm))))]; exact i7 _ (by first | exact (RR.t10 (by omega) (by omega) ((kS.at (by omega)).rs rfl rfl (by omega)) (RR.f11 (by omega))).rs (by omega) (by omega) (by omega) | exact (RR.h10 (by omega) (by omega) (RR.f11 (by omega))).rs (by omega) (by omega) (by omega)), by rw [(ht190.symm), (ht186.symm)]; first | exact kF | exact kF.lit (by omega) | exact kF.up (by omega) (by omega)⟩)
            · refine s_blx (lv' := [(0, vR 14), (1, vI x1)]) (st' := [vI 1]) B24_84_85 rfl ?_
              have g200 : gi M159 14 2 = t142 := (u160.gi_ne (by decide) (Or.inr (by decide))).trans ((u155.gi_ne (by omega) (Or.inl (by decide))).trans (ht143.symm))
              have g201 : gi M159 14 3 = t144 := (u160.gi_ne (by decide) (Or.inr (by decide))).trans ((u155.gi_ne (by omega) (Or.inl (by decide))).trans (ht145.symm))
              have g202 : gi M159 14 4 = t146 := (u160.gi_ne (by decide) (Or.inr (by decide))).trans ((u155.gi_ne (by omega) (Or.inl (by decide))).trans (ht147.symm))
              have g203 : gi M159 14 10 = t148 := (u160.gi_ne (by decide) (Or.inr (by decide))).trans ((u155.gi_ne (by omega) (Or.inl (by decide))).trans (ht149.symm))
              exact r_zretI D24_85 rfl (by omega) (⟨H161, f163, by omega, by first | (rw [g200]; omega) | rw [g200], by rw [((u160.gi_ne (by decide) (Or.inr (by decide))).trans ((u155.gi_ne (by omega) (Or.inl (by decide))).trans (ht145.symm))), ((u160.gi_ne (by decide) (Or.inr (by decide))).trans ((u155.gi_ne (by omega) (Or.inl (by decide))).trans (ht143.symm)))]; exact kk, by first | (rw [g202]; omega) | rw [g202], by rw [((u160.gi_ne (by decide) (Or.inr (by decide))).trans ((u155.gi_ne (by omega) (Or.inl (by decide))).trans (ht143.symm))), ((u160.gi_ne (by decide) (Or.inr (by decide))).trans ((u155.gi_ne (by omega) (Or.inl (by decide))).trans (ht147.symm)))]; exact i7 _ (by first | exact (RR.t10 (by omega) (by omega) ((kS.at (by omega)).rs rfl rfl (by omega)) (RR.e11 (by omega))).rs (by omega) (by omega) (by omega) | exact (RR.h10 (by omega) (by omega) (RR.e11 (by omega))).rs (by omega) (by omega) (by omega)), by rw [((u160.gi_ne (by decide) (Or.inr (by decide))).trans ((u155.gi_ne (by omega) (Or.inl (by decide))).trans (ht149.symm))), ((u160.gi_ne (by decide) (Or.inr (by decide))).trans ((u155.gi_ne (by omega) (Or.inl (by decide))).trans (ht143.symm)))]; first | exact kF | exact kF.lit (by omega) | exact kF.up (by omega) (by omega)⟩)
          · refine s_blx (lv' := [(0, vR 14), (1, vI x1)]) (st' := [vI 0]) B24_56_57 rfl ?_
            have g204 : gi M131 14 2 = t142 := ht143.symm
            have g205 : gi M131 14 3 = t144 := ht145.symm
            have g206 : gi M131 14 4 = t146 := ht147.symm
            have g207 : gi M131 14 10 = t148 := ht149.symm
            exact r_zretI D24_57 rfl (by omega) (⟨H132, f141, by omega, by first | (rw [g204]; omega) | rw [g204], by rw [(ht145.symm), (ht143.symm)]; exact kk, by first | (rw [g206]; omega) | rw [g206], by rw [(ht143.symm), (ht147.symm)]; exact i7 _ ((RR.tb10 (by omega) (by omega) ((kS.at (by omega)).rs rfl rfl (by omega))).rs (by omega) (by omega) (by omega)), by rw [(ht149.symm), (ht143.symm)]; first | exact kF | exact kF.lit (by omega) | exact kF.up (by omega) (by omega)⟩)
      · refine s_blx (lv' := [(0, vR 14), (1, vI x1)]) (st' := [vR 14]) B24_16_17 rfl ?_
        have g208 : gi N 14 2 = a0 := i0
        refine r_vI (c := 14) (args := []) (rest := []) (pc' := 20) D24_17 rfl ck_4_virtual_102 TE36 rfl (Nat.le_of_ble_eq_true rfl) ⟨Nat.le_of_ble_eq_true rfl, Nat.le_of_ble_eq_true rfl⟩ sc_14 ⟨rfl, by decide⟩ HN.1 (dp_0 hd rfl) (k36_14p E (dp_n hd rfl) HN ct a0 K st ((h0.fr fN rfl)) (by omega) (by omega) (by omega)) ?_
        intro v209 M210 q216
        obtain ⟨H211, f212, q213, q214, q215⟩ := q216
        have f217 := fN.tr (f212.up rfl)
        obtain ⟨t218, ht219⟩ : ∃ q, q = gi M210 14 10 := ⟨_, rfl⟩
        have b_t218 := (H211.1.int sc_14 (i := 10) (by decide) (by decide) rfl).2
        unfold inR at b_t218; rw [← ht219] at b_t218
        rw [← ht219] at q215
        have kF : FTx st fo t218 a0 v209 := FTx.bad (by omega) q215
        have g220 : gi M210 14 2 = a0 := (f212.g rfl).trans (i0)
        have g221 : gi M210 14 3 = k0 := (f212.g rfl).trans (i1)
        have g222 : gi M210 14 4 = p0 := (f212.g rfl).trans (i2)
        have g223 : gi M210 14 10 = t218 := ht219.symm
        exact r_zretI D24_20 rfl (by omega) (⟨H211, f217, by omega, by first | (rw [g220]; omega) | rw [g220], by rw [((f212.g rfl).trans (i1)), ((f212.g rfl).trans (i0))]; exact kk, by first | (rw [g222]; omega) | rw [g222], by rw [((f212.g rfl).trans (i0)), ((f212.g rfl).trans (i2))]; exact i7 _ ((RR.f10 (by omega)).rs rfl rfl (by omega)), by rw [(ht219.symm), ((f212.g rfl).trans (i0))]; first | exact kF | exact kF.lit (by omega) | exact kF.up (by omega) (by omega)⟩)
set_option maxRecDepth 4000 in
theorem k24_14p {base : Nat} {X : Nat → Option mC} {G : Nat → Value} (E : EnvOK base X G) {d : Nat} (hd : 58 ≤ d) {M : mH} (H : HI base M) (ct : Int) (at_ : Int) (kd : Int) (K : Int → Int) (st : Int → Int) (fo : Int) (pq : Int) (h0 : TKx K st ct M) (h1 : K ct = 22) (h2 : 0 ≤ ct ∧ ct ≤ 400) (h3 : gi M 14 2 = at_) (h4 : gi M 14 3 = kd) (h5 : kd = K at_) (h6 : 0 ≤ at_ ∧ at_ ≤ ct) (h7 : 0 ≤ kd ∧ kd ≤ 511) (h8 : gi M 14 10 = fo) (h9 : gi M 14 4 = pq) (h10 : 0 ≤ pq ∧ pq ≤ 50) : sOk base X G d T24 [vR 14] M (pI (fun v M' => HI base M' ∧ Fr [(14, 3), (14, 4), (14, 5), (14, 8), (14, 10), (14, 11), (17, 0), (18, 0), (19, 0)] M M' ∧ (v = 0 ∨ v = 1) ∧ (at_ ≤ gi M' 14 2 ∧ gi M' 14 2 ≤ ct) ∧ (gi M' 14 3 = K (gi M' 14 2)) ∧ (0 ≤ gi M' 14 4 ∧ gi M' 14 4 ≤ 50) ∧ (RR K 10 0 at_ pq (gi M' 14 2, gi M' 14 4, -v)) ∧ (FTx st fo (gi M' 14 10) (gi M' 14 2) v))) := by
  have f0 : Fr [(14, 3), (14, 4), (14, 5), (14, 8), (14, 10), (14, 11), (17, 0), (18, 0), (19, 0)] M M := Fr.rf
  refine sOk.of (show sRn base X G d T24 0 [(0, vR 14)] [] M _ from ?_)
  have kk := h5
  have kF : FTx st fo fo at_ 1 := FTx.one
  refine s_blx (lv' := [(1, vI 0), (0, vR 14)]) (st' := []) B24_0_2 rfl ?_
  refine r_loc (lv' := [(0, vR 14), (1, vI 0)]) ⟨rfl, rfl, trivial⟩ rfl rfl ?_
  have g1 : gi M 14 2 = at_ := h3
  have g2 : gi M 14 3 = kd := h4
  have g3 : gi M 14 4 = pq := h9
  have g4 : gi M 14 10 = fo := h8
  exact (L_k24_14p E hd H ct at_ kd K st fo pq h0 h1 h2 h3 h4 h5 h6 h7 h8 h9 h10 (((12 - 0) * 1 + 0 : Int) + 1).toNat) 0 at_ kd pq M H f0 (by omega) (by omega) (by omega) (by omega) (by omega) (by omega) (by omega) (fun r h => h) (by omega) (by omega) (by omega) (by omega) (by omega)
