set_option maxRecDepth 4000 in
set_option maxHeartbeats 4000000 in
theorem L_k247k {base : Nat} {X : Nat → Option mC} {G : Nat → Value} (E : EnvOK base X G) {d : Nat} (hd : 69 ≤ d) {M : mH} (H : HI base M) (text : Int) (s : Int) (K : Int → Int) (h0 : TB M) (h1 : KK K M) (h2 : GK M) (h3 : 0 ≤ text ∧ text < K 471) (h4 : text ≤ 7) (h5 : 0 ≤ s ∧ s ≤ 15) (h6 : s < K 469) (h7 : 1 ≤ K (135 + 16 * s + 12 + K 474)) : ∀ mz : Nat, (∀ (x3 x4 x5 x6 : Int) (N : mH), HI base N → Fr [(77, 7), (77, 8), (77, 9), (77, 10), (77, 14), (77, 15), (77, 16), (77, 41), (77, 42), (77, 43), (77, 46), (77, 47), (83, 0), (84, 0), (85, 0), (100, 0), (101, 0)] M N → (0 ≤ x3 ∧ x3 ≤ 1110) → (0 ≤ x4 ∧ x4 ≤ 12) → (x5 ≠ 4 → x4 ≤ K (135 + 16 * s) ∨ x4 + mu (K 473) (suF K s (K (135 + 16 * s)) 1) x3 ≤ K (135 + 16 * s) + 3) → (-1 ≤ x5 ∧ x5 ≤ 22) → (0 ≤ x3) → (x3 ≤ 1110) → (0 ≤ x4) → (x4 ≤ 13) → (12 - x4) * 1 + 0 < (mz : Int) → sRn base X G d T247 11 [(0, vR 77), (1, vI text), (2, vI s), (3, vI x3), (4, vI x4), (5, vI x5), (6, vL x6)] [] N (s_Q base (pL (fun v M' => HI base M' ∧ Fr [(77, 7), (77, 8), (77, 9), (77, 10), (77, 14), (77, 15), (77, 16), (77, 41), (77, 42), (77, 43), (77, 46), (77, 47), (83, 0), (84, 0), (85, 0), (100, 0), (101, 0)] M M')))) := by
  have f0 : Fr [(77, 7), (77, 8), (77, 9), (77, 10), (77, 14), (77, 15), (77, 16), (77, 41), (77, 42), (77, 43), (77, 46), (77, 47), (83, 0), (84, 0), (85, 0), (100, 0), (101, 0)] M M := Fr.rf
  intro mz
  induction mz with
  | zero => exact fun x3 x4 x5 x6 N _ _ z0 z1 z2 z3 z4 z5 z6 z7 z8 => by omega
  | succ mz ih =>
    intro x3 x4 x5 x6 N HN fN i0 i1 i2 i3 i4 i5 i6 i7 hmu
    refine s_blx (lv' := [(0, vR 77), (1, vI text), (2, vI s), (3, vI x3), (4, vI x4), (5, vI x5), (6, vL x6)]) (st' := [vI 4, vI x5]) B247_11_14 rfl ?_
    refine r_icmp (tgt := 128) (pc' := 17) D247_14 rfl rfl (by unfold inR; omega) (fun (c1 : x5 = 4) => ?_) (fun (c1 : ¬ (x5 = 4)) => ?_)
    · refine s_blx (lv' := [(0, vR 77), (1, vI text), (2, vI s), (3, vI x3), (4, vI x4), (5, vI x5), (6, vL x6)]) (st' := [vI x4, vR 77]) B247_128_131 rfl ?_
      refine r_pint (ki := 45) (pc' := 134) D247_131 rfl pf_11_437_77 rfl HN (by unfold inR; omega) (show 0 ≤ x4 ∧ x4 ≤ 24 by omega) ?_
      intro M2 u3 H4 p5
      have f6 := fN.wr u3 rfl
      refine s_blx (lv' := [(0, vR 77), (1, vI text), (2, vI s), (3, vI x3), (4, vI x4), (5, vI x5), (6, vL x6)]) (st' := [vI x3, vR 77]) B247_134_136 rfl ?_
      refine r_pint (ki := 46) (pc' := 139) D247_136 rfl pf_11_440_77 rfl H4 (by unfold inR; omega) (show 0 ≤ x3 ∧ x3 ≤ 1110 by omega) ?_
      intro M7 u8 H9 p10
      have f11 := f6.wr u8 rfl
      refine s_blx (lv' := [(0, vR 77), (1, vI text), (2, vI s), (3, vI x3), (4, vI x4), (5, vI x5), (6, vL x6)]) (st' := [vL x6]) B247_139_141 rfl ?_
      exact r_lretL D247_141 rfl (⟨H9, f11⟩)
    · refine s_blx (lv' := [(0, vR 77), (1, vI text), (2, vI s), (3, vI x3), (4, vI x4), (5, vI x5), (6, vL x6)]) (st' := [vI s, vR 77, vI x4]) B247_17_21 rfl ?_
      refine r_vIp (c := 77) (args := [vI s]) (rest := [vI x4]) (pc' := 24) D247_21 rfl ck_11_virtual_144 TE156 rfl (Nat.le_of_ble_eq_true rfl) ⟨Nat.le_of_ble_eq_true rfl, Nat.le_of_ble_eq_true rfl⟩ sc_77 ⟨rfl, by decide⟩ HN.1 (dp_0 hd rfl) (k156f E (dp_n hd rfl) HN s K ((h1.fr fN rfl)) (by omega)) ?_
      intro v12 q16
      obtain ⟨q14, q15⟩ := q16
      have kl := q15
      have kmu := mu_le (K 473) (suF K s (K (135 + 16 * s)) 1) x3
      refine r_icmp (tgt := 31) (pc' := 27) D247_24 rfl rfl (by unfold inR; omega) (fun (c17 : x4 < v12) => ?_) (fun (c17 : ¬ (x4 < v12)) => ?_)
      · refine s_blx (lv' := [(8, vI 0), (0, vR 77), (1, vI text), (2, vI s), (3, vI x3), (4, vI x4), (5, vI x5), (6, vL x6)]) (st' := [vI 0, vI s, vR 77]) B247_31_38 rfl ?_
        refine r_ifc (tgt := 49) (pc' := 41) D247_38 rfl rfl (by unfold inR; omega) (fun (c18 : 0 = 0) => ?_) (fun (c18 : ¬ (0 = 0)) => ?_)
        · refine s_blx (lv' := [(8, vI 0), (0, vR 77), (1, vI text), (2, vI s), (3, vI x3), (4, vI x4), (5, vI x5), (6, vL x6)]) (st' := [vI 0, vI (x4 + 1), vI s, vR 77]) B247_49_55 rfl ?_
          refine r_vV (c := 77) (args := [vI s, vI (x4 + 1), vI 0]) (rest := []) (pc' := 58) D247_55 rfl ck_11_virtual_253 TE183 rfl (Nat.le_of_ble_eq_true rfl) ⟨Nat.le_of_ble_eq_true rfl, Nat.le_of_ble_eq_true rfl⟩ sc_77 ⟨rfl, by decide⟩ HN.1 (dp_0 hd rfl) (k183f E (dp_n hd rfl) HN s (x4 + 1) 0 K (by omega) ((h1.fr fN rfl)) (by omega) (by omega)) ?_
          intro M20 q28
          obtain ⟨H21, f22, q23, q24, q25, q26, q27⟩ := q28
          have f29 := fN.tr (f22.up rfl)
          obtain ⟨t30, ht31⟩ : ∃ q, q = gi M20 77 9 := ⟨_, rfl⟩
          have b_t30 := H21.2 77 9 0 1 rfl
          rw [← ht31] at b_t30
          obtain ⟨t32, ht33⟩ : ∃ q, q = gi M20 77 6 := ⟨_, rfl⟩
          have b_t32 := (H21.1.int sc_77 (i := 6) (by decide) (by decide) rfl).2
          unfold inR at b_t32; rw [← ht33] at b_t32
          obtain ⟨t34, ht35⟩ : ∃ q, q = gi M20 77 8 := ⟨_, rfl⟩
          have b_t34 := (H21.1.int sc_77 (i := 8) (by decide) (by decide) rfl).2
          unfold inR at b_t34; rw [← ht35] at b_t34
          rw [← ht31] at q23
          rw [← ht33] at q24
          rw [← ht33] at q25
          rw [← ht35] at q27
          have kc3 := q26
          have c84 : C3 84 (suF K s (x4 + 1) 0) M20 := fun j a b => (kc3 j a b).2.1
          have c83 : C3 83 (caF K s (x4 + 1) 0) M20 := fun j a b => (kc3 j a b).1
          have c85 : C3 85 (onF K s (x4 + 1) 0) M20 := fun j a b => (kc3 j a b).2.2
          have ksc : SC K s (x4 + 1) 0 s := ⟨by omega, ⟨by omega, fun _ _ _ => rfl⟩, by omega⟩
          have kwh := q27 ksc (by omega)
          have km := ((h1.fr f29 rfl)).many H21
          have kbt : bt t32 s := by rw [q24]; exact (stF_bt _ (by omega) s (by omega) (by omega)).mpr ⟨by omega, ksc⟩
          clear q27 q25
          refine s_blx (lv' := [(8, vI 0), (0, vR 77), (1, vI text), (2, vI s), (3, vI x3), (4, vI x4), (5, vI x5), (6, vL x6)]) (st' := [vI x4, vI x3, vI text, vR 77]) B247_58_63 rfl ?_
          have g36 : gi M20 77 9 = t30 := ht31.symm
          have g37 : gi M20 77 6 = t32 := ht33.symm
          have g38 : gi M20 77 8 = t34 := ht35.symm
          refine r_vI (c := 77) (args := [vI text, vI x3, vI x4]) (rest := []) (pc' := 66) D247_63 rfl ck_11_virtual_434 TE246 rfl (Nat.le_of_ble_eq_true rfl) ⟨Nat.le_of_ble_eq_true rfl, Nat.le_of_ble_eq_true rfl⟩ sc_77 ⟨rfl, by decide⟩ H21.1 (dp_0 hd rfl) (k246k E (dp_n hd rfl) H21 text x3 x4 K s t32 t34 0 (suF K s (x4 + 1) 0) (caF K s (x4 + 1) 0) (onF K s (x4 + 1) 0) ((h0.fr f29 rfl)) ((h1.fr f29 rfl)) ((h2.fr f29 rfl)) (c84) (c83) (c85) (by omega) (by omega) (by omega) (by omega) (by omega) (by omega) (kbt) (by omega) (by omega) (by omega) (by omega) (by omega) (by omega) (by omega)) ?_
          intro v39 M40 q45
          obtain ⟨H41, f42, q43, q44⟩ := q45
          have f46 := f29.tr (f42.up rfl)
          have hp47 := c84.fr f42 (by decide)
          have hp48 := c83.fr f42 (by decide)
          have hp49 := c85.fr f42 (by decide)
          have klg := q43
          refine s_blx (lv' := [(5, vI v39), (8, vI 0), (0, vR 77), (1, vI text), (2, vI s), (3, vI x3), (4, vI x4), (6, vL x6)]) (st' := [vR 77]) B247_66_69 rfl ?_
          refine r_gfix (r := 101) (pc' := 72) D247_69 rfl gf_11_90_77 H41.1 ?_
          refine s_blx (lv' := [(5, vI v39), (8, vI 0), (0, vR 77), (1, vI text), (2, vI s), (3, vI x3), (4, vI x4), (6, vL x6)]) (st' := [vI v39, vI x4, vR 101]) B247_72_76 rfl ?_
          refine r_norm ?_
          intro z50 r51 _; unfold inR at r51
          refine r_iast (pc' := 77) D247_76 rfl sc_101 H41 (by omega) (by unfold inR; omega) trivial ?_
          intro M52 u53 H54 p55
          have f56 := f46.wr u53 rfl
          have hp57 := hp47.wr u53 (by decide)
          have hp58 := hp48.wr u53 (by decide)
          have hp59 := hp49.wr u53 (by decide)
          refine s_blx (lv' := [(4, vI (x4 + 1)), (5, vI v39), (8, vI 0), (0, vR 77), (1, vI text), (2, vI s), (3, vI x3), (6, vL x6)]) (st' := [vI v39, vI x3, vR 77]) B247_77_84 rfl ?_
          have kord := ((h1.fr f56 rfl)) 473
          have g60 : gi M52 78 473 = gi N 78 473 := (u53.gi_ne (by omega) (Or.inl (by decide))).trans ((f42.g rfl).trans ((f22.g rfl).trans (rfl)))
          have g61 : gi M52 77 9 = t30 := (u53.gi_ne (by omega) (Or.inl (by decide))).trans ((f42.g rfl).trans (ht31.symm))
          refine r_vI (c := 77) (args := [vI x3, vI v39]) (rest := []) (pc' := 87) D247_84 rfl ck_11_virtual_240 TE188 rfl (Nat.le_of_ble_eq_true rfl) ⟨Nat.le_of_ble_eq_true rfl, Nat.le_of_ble_eq_true rfl⟩ sc_77 ⟨rfl, by decide⟩ H54.1 (dp_0 hd rfl) (k188f E (dp_n hd rfl) H54 x3 v39 (K 473) 0 (suF K s (x4 + 1) 0) (caF K s (x4 + 1) 0) (onF K s (x4 + 1) 0) ((h0.fr f56 rfl)) (hp57) (hp58) (hp59) (by omega) (by omega) (by omega) (by omega) (by omega) (by omega) (by omega)) ?_
          intro v62 M63 q71
          obtain ⟨H64, f65, q66, q67, q68, q69, q70⟩ := q71
          have f72 := f56.tr (f65.up rfl)
          have hp73 := hp57.fr f65 (by decide)
          have hp74 := hp58.fr f65 (by decide)
          have hp75 := hp59.fr f65 (by decide)
          obtain ⟨t76, ht77⟩ : ∃ q, q = gi M63 77 14 := ⟨_, rfl⟩
          have b_t76 := H64.2 77 14 0 1110 rfl
          rw [← ht77] at b_t76
          rw [← ht77] at q69
          rw [← ht77] at q70
          have kst : K (135 + 16 * s) ≤ x4 → v39 = 4 ∨ mu (K 473) (suF K s (K (135 + 16 * s)) 1) t76 = mu (K 473) (suF K s (K (135 + 16 * s)) 1) x3 - 1 := by first | exact fun h => absurd h (by omega) | (intro h; have y0 := q68; have yv : v62 = 1 := (by have y1 : v62 ≠ 0 := (fun z => y0 z klg); omega); have y3 := q69 yv; have z1 := klg; rw [kl2] at y3 z1; rcases y3 with e | e | e; exact absurd ((LG_0 e).mp z1) (by omega); exact Or.inl e; exact Or.inr e)
          refine s_blx (lv' := [(4, vI (x4 + 1)), (5, vI v39), (8, vI 0), (0, vR 77), (1, vI text), (2, vI s), (3, vI x3), (6, vL x6)]) (st' := [vR 77]) B247_87_89 rfl ?_
          refine r_gint (ki := 14) (pc' := 92) D247_89 rfl gf_11_215_77 rfl H64.1 ?_
          intro w78 e79 r80
          have e81 : t76 = w78 := (e79.trans (ht77.symm)).symm
          subst e81
          refine s_blx (lv' := [(3, vI t76), (4, vI (x4 + 1)), (5, vI v39), (8, vI 0), (0, vR 77), (1, vI text), (2, vI s), (6, vL x6)]) (st' := [vI 4, vI v39, vL x6]) B247_92_98 rfl ?_
          refine r_norm2 ?_
          intro z82 r83 _; unfold inR at r83
          refine r_icmp (tgt := 111) (pc' := 101) D247_98 rfl rfl (by unfold inR; omega) (fun (c84 : z82 ≠ 4) => ?_) (fun (c84 : ¬ (z82 ≠ 4)) => ?_)
          · refine s_blx (lv' := [(3, vI t76), (4, vI (x4 + 1)), (5, vI v39), (8, vI 0), (0, vR 77), (1, vI text), (2, vI s), (6, vL x6)]) (st' := [vR 77, vL x6]) B247_111_112 rfl ?_
            refine r_gint (ki := 15) (pc' := 115) D247_112 rfl gf_11_218_77 rfl H64.1 ?_
            intro w85 e86 r87
            unfold inR at r87
            refine s_blx (lv' := [(3, vI t76), (4, vI (x4 + 1)), (5, vI v39), (8, vI 0), (0, vR 77), (1, vI text), (2, vI s), (6, vL x6)]) (st' := [vI t76, vR 77, vI w85, vL x6]) B247_115_117 rfl ?_
            refine r_vIp (c := 77) (args := [vI t76]) (rest := [vI w85, vL x6]) (pc' := 120) D247_117 rfl ck_11_virtual_246 TE190 rfl (Nat.le_of_ble_eq_true rfl) ⟨Nat.le_of_ble_eq_true rfl, Nat.le_of_ble_eq_true rfl⟩ sc_77 ⟨rfl, by decide⟩ H64.1 (dp_0 hd rfl) (k190 E (dp_n hd rfl) H64 t76 (by omega)) ?_
            intro v88 q91
            have q90 := q91
            refine s_blx (lv' := [(3, vI t76), (4, vI (x4 + 1)), (5, vI v39), (8, vI 0), (0, vR 77), (1, vI text), (2, vI s), (6, vL x6)]) (st' := [vI (w85 + v88), vL x6]) B247_120_121 rfl ?_
            refine r_norm ?_
            intro z92 r93 _; unfold inR at r93
            refine r_i2l (pc' := 122) D247_121 rfl (by unfold inR; omega) ?_
            refine s_blx (lv' := [(6, vL (x6 + z92)), (3, vI t76), (4, vI (x4 + 1)), (5, vI v39), (8, vI 0), (0, vR 77), (1, vI text), (2, vI s)]) (st' := []) B247_122_125 rfl ?_
            refine r_goto (tgt := 11) D247_125 rfl ?_
            refine r_loc (lv' := [(0, vR 77), (1, vI text), (2, vI s), (3, vI t76), (4, vI (x4 + 1)), (5, vI v39), (6, vL (x6 + z92))]) ⟨rfl, rfl, rfl, rfl, rfl, rfl, rfl, trivial⟩ rfl rfl ?_
            exact ih t76 (x4 + 1) v39 (x6 + z92) M63 H64 f72 (by omega) (by omega) (by omega) (by omega) (by omega) (by omega) (by omega) (by omega) (by omega)
          · refine s_blx (lv' := [(3, vI t76), (4, vI (x4 + 1)), (5, vI v39), (8, vI 0), (0, vR 77), (1, vI text), (2, vI s), (6, vL x6)]) (st' := [vI s, vI t76, vR 77, vL x6]) B247_101_104 rfl ?_
            refine r_vIp (c := 77) (args := [vI t76, vI s]) (rest := [vL x6]) (pc' := 107) D247_104 rfl ck_11_virtual_243 TE191 rfl (Nat.le_of_ble_eq_true rfl) ⟨Nat.le_of_ble_eq_true rfl, Nat.le_of_ble_eq_true rfl⟩ sc_77 ⟨rfl, by decide⟩ H64.1 (dp_0 hd rfl) (k191 E (dp_n hd rfl) H64 t76 s (by omega) (by omega)) ?_
            intro v94 q97
            have q96 := q97
            refine r_i2l (pc' := 108) D247_107 rfl (by unfold inR; omega) ?_
            refine r_goto (tgt := 122) D247_108 rfl ?_
            refine s_blx (lv' := [(6, vL (x6 + v94)), (3, vI t76), (4, vI (x4 + 1)), (5, vI v39), (8, vI 0), (0, vR 77), (1, vI text), (2, vI s)]) (st' := []) B247_122_125 rfl ?_
            refine r_goto (tgt := 11) D247_125 rfl ?_
            refine r_loc (lv' := [(0, vR 77), (1, vI text), (2, vI s), (3, vI t76), (4, vI (x4 + 1)), (5, vI v39), (6, vL (x6 + v94))]) ⟨rfl, rfl, rfl, rfl, rfl, rfl, rfl, trivial⟩ rfl rfl ?_
            exact ih t76 (x4 + 1) v39 (x6 + v94) M63 H64 f72 (by omega) (by omega) (by omega) (by omega) (by omega) (by omega) (by omega) (by omega) (by omega)
        · exfalso; omega
      · refine s_blx (lv' := [(0, vR 77), (1, vI text), (2, vI s), (3, vI x3), (4, vI x4), (5, vI x5), (6, vL x6)]) (st' := [vI 1]) B247_27_28 rfl ?_
        refine r_goto (tgt := 32) D247_28 rfl ?_
        refine s_blx (lv' := [(8, vI 1), (0, vR 77), (1, vI text), (2, vI s), (3, vI x3), (4, vI x4), (5, vI x5), (6, vL x6)]) (st' := [vI 1, vI s, vR 77]) B247_32_38 rfl ?_
        refine r_ifc (tgt := 49) (pc' := 41) D247_38 rfl rfl (by unfold inR; omega) (fun (c98 : 1 = 0) => ?_) (fun (c98 : ¬ (1 = 0)) => ?_)
        · exfalso; omega
        · refine s_blx (lv' := [(8, vI 1), (0, vR 77), (1, vI text), (2, vI s), (3, vI x3), (4, vI x4), (5, vI x5), (6, vL x6)]) (st' := [vI s, vR 77, vI s, vR 77]) B247_41_43 rfl ?_
          refine r_vIp (c := 77) (args := [vI s]) (rest := [vI s, vR 77]) (pc' := 46) D247_43 rfl ck_11_virtual_144 TE156 rfl (Nat.le_of_ble_eq_true rfl) ⟨Nat.le_of_ble_eq_true rfl, Nat.le_of_ble_eq_true rfl⟩ sc_77 ⟨rfl, by decide⟩ HN.1 (dp_0 hd rfl) (k156f E (dp_n hd rfl) HN s K ((h1.fr fN rfl)) (by omega)) ?_
          intro v99 q103
          obtain ⟨q101, q102⟩ := q103
          have kl2 := q102
          refine r_goto (tgt := 53) D247_46 rfl ?_
          refine s_blx (lv' := [(8, vI 1), (0, vR 77), (1, vI text), (2, vI s), (3, vI x3), (4, vI x4), (5, vI x5), (6, vL x6)]) (st' := [vI 1, vI v99, vI s, vR 77]) B247_53_55 rfl ?_
          refine r_vV (c := 77) (args := [vI s, vI v99, vI 1]) (rest := []) (pc' := 58) D247_55 rfl ck_11_virtual_253 TE183 rfl (Nat.le_of_ble_eq_true rfl) ⟨Nat.le_of_ble_eq_true rfl, Nat.le_of_ble_eq_true rfl⟩ sc_77 ⟨rfl, by decide⟩ HN.1 (dp_0 hd rfl) (k183f E (dp_n hd rfl) HN s v99 1 K (by omega) ((h1.fr fN rfl)) (by omega) (by omega)) ?_
          intro M105 q113
          obtain ⟨H106, f107, q108, q109, q110, q111, q112⟩ := q113
          have f114 := fN.tr (f107.up rfl)
          obtain ⟨t115, ht116⟩ : ∃ q, q = gi M105 77 9 := ⟨_, rfl⟩
          have b_t115 := H106.2 77 9 0 1 rfl
          rw [← ht116] at b_t115
          obtain ⟨t117, ht118⟩ : ∃ q, q = gi M105 77 6 := ⟨_, rfl⟩
          have b_t117 := (H106.1.int sc_77 (i := 6) (by decide) (by decide) rfl).2
          unfold inR at b_t117; rw [← ht118] at b_t117
          obtain ⟨t119, ht120⟩ : ∃ q, q = gi M105 77 8 := ⟨_, rfl⟩
          have b_t119 := (H106.1.int sc_77 (i := 8) (by decide) (by decide) rfl).2
          unfold inR at b_t119; rw [← ht120] at b_t119
          rw [← ht116] at q108
          rw [← ht118] at q109
          rw [← ht118] at q110
          rw [← ht120] at q112
          have kc3 := q111
          have c84 : C3 84 (suF K s v99 1) M105 := fun j a b => (kc3 j a b).2.1
          have c83 : C3 83 (caF K s v99 1) M105 := fun j a b => (kc3 j a b).1
          have c85 : C3 85 (onF K s v99 1) M105 := fun j a b => (kc3 j a b).2.2
          have ksc : SC K s v99 1 s := ⟨by omega, ⟨by omega, fun _ _ _ => rfl⟩, by omega⟩
          have kwh := q112 ksc (by omega)
          have km := ((h1.fr f114 rfl)).many H106
          have kbt : bt t117 s := by rw [q109]; exact (stF_bt _ (by omega) s (by omega) (by omega)).mpr ⟨by omega, ksc⟩
          clear q112 q110
          refine s_blx (lv' := [(8, vI 1), (0, vR 77), (1, vI text), (2, vI s), (3, vI x3), (4, vI x4), (5, vI x5), (6, vL x6)]) (st' := [vI x4, vI x3, vI text, vR 77]) B247_58_63 rfl ?_
          have g121 : gi M105 77 9 = t115 := ht116.symm
          have g122 : gi M105 77 6 = t117 := ht118.symm
          have g123 : gi M105 77 8 = t119 := ht120.symm
          refine r_vI (c := 77) (args := [vI text, vI x3, vI x4]) (rest := []) (pc' := 66) D247_63 rfl ck_11_virtual_434 TE246 rfl (Nat.le_of_ble_eq_true rfl) ⟨Nat.le_of_ble_eq_true rfl, Nat.le_of_ble_eq_true rfl⟩ sc_77 ⟨rfl, by decide⟩ H106.1 (dp_0 hd rfl) (k246k E (dp_n hd rfl) H106 text x3 x4 K s t117 t119 1 (suF K s v99 1) (caF K s v99 1) (onF K s v99 1) ((h0.fr f114 rfl)) ((h1.fr f114 rfl)) ((h2.fr f114 rfl)) (c84) (c83) (c85) (by omega) (by omega) (by omega) (by omega) (by omega) (by omega) (kbt) (by omega) (by omega) (by omega) (by omega) (by omega) (by omega) (by omega)) ?_
          intro v124 M125 q130
          obtain ⟨H126, f127, q128, q129⟩ := q130
          have f131 := f114.tr (f127.up rfl)
          have hp132 := c84.fr f127 (by decide)
          have hp133 := c83.fr f127 (by decide)
          have hp134 := c85.fr f127 (by decide)
          have klg := q128
          refine s_blx (lv' := [(5, vI v124), (8, vI 1), (0, vR 77), (1, vI text), (2, vI s), (3, vI x3), (4, vI x4), (6, vL x6)]) (st' := [vR 77]) B247_66_69 rfl ?_
          refine r_gfix (r := 101) (pc' := 72) D247_69 rfl gf_11_90_77 H126.1 ?_
          refine s_blx (lv' := [(5, vI v124), (8, vI 1), (0, vR 77), (1, vI text), (2, vI s), (3, vI x3), (4, vI x4), (6, vL x6)]) (st' := [vI v124, vI x4, vR 101]) B247_72_76 rfl ?_
          refine r_norm ?_
          intro z135 r136 _; unfold inR at r136
          refine r_iast (pc' := 77) D247_76 rfl sc_101 H126 (by omega) (by unfold inR; omega) trivial ?_
          intro M137 u138 H139 p140
          have f141 := f131.wr u138 rfl
          have hp142 := hp132.wr u138 (by decide)
          have hp143 := hp133.wr u138 (by decide)
          have hp144 := hp134.wr u138 (by decide)
          refine s_blx (lv' := [(4, vI (x4 + 1)), (5, vI v124), (8, vI 1), (0, vR 77), (1, vI text), (2, vI s), (3, vI x3), (6, vL x6)]) (st' := [vI v124, vI x3, vR 77]) B247_77_84 rfl ?_
          have kord := ((h1.fr f141 rfl)) 473
          have g145 : gi M137 78 473 = gi N 78 473 := (u138.gi_ne (by omega) (Or.inl (by decide))).trans ((f127.g rfl).trans ((f107.g rfl).trans (rfl)))
          have g146 : gi M137 77 9 = t115 := (u138.gi_ne (by omega) (Or.inl (by decide))).trans ((f127.g rfl).trans (ht116.symm))
          refine r_vI (c := 77) (args := [vI x3, vI v124]) (rest := []) (pc' := 87) D247_84 rfl ck_11_virtual_240 TE188 rfl (Nat.le_of_ble_eq_true rfl) ⟨Nat.le_of_ble_eq_true rfl, Nat.le_of_ble_eq_true rfl⟩ sc_77 ⟨rfl, by decide⟩ H139.1 (dp_0 hd rfl) (k188f E (dp_n hd rfl) H139 x3 v124 (K 473) 1 (suF K s v99 1) (caF K s v99 1) (onF K s v99 1) ((h0.fr f141 rfl)) (hp142) (hp143) (hp144) (by omega) (by omega) (by omega) (by omega) (by omega) (by omega) (by omega)) ?_
          intro v147 M148 q156
          obtain ⟨H149, f150, q151, q152, q153, q154, q155⟩ := q156
          have f157 := f141.tr (f150.up rfl)
          have hp158 := hp142.fr f150 (by decide)
          have hp159 := hp143.fr f150 (by decide)
          have hp160 := hp144.fr f150 (by decide)
          obtain ⟨t161, ht162⟩ : ∃ q, q = gi M148 77 14 := ⟨_, rfl⟩
          have b_t161 := H149.2 77 14 0 1110 rfl
          rw [← ht162] at b_t161
          rw [← ht162] at q154
          rw [← ht162] at q155
          have kst : K (135 + 16 * s) ≤ x4 → v124 = 4 ∨ mu (K 473) (suF K s (K (135 + 16 * s)) 1) t161 = mu (K 473) (suF K s (K (135 + 16 * s)) 1) x3 - 1 := by first | exact fun h => absurd h (by omega) | (intro h; have y0 := q153; have yv : v147 = 1 := (by have y1 : v147 ≠ 0 := (fun z => y0 z klg); omega); have y3 := q154 yv; have z1 := klg; rw [kl2] at y3 z1; rcases y3 with e | e | e; exact absurd ((LG_0 e).mp z1) (by omega); exact Or.inl e; exact Or.inr e)
          refine s_blx (lv' := [(4, vI (x4 + 1)), (5, vI v124), (8, vI 1), (0, vR 77), (1, vI text), (2, vI s), (3, vI x3), (6, vL x6)]) (st' := [vR 77]) B247_87_89 rfl ?_
          refine r_gint (ki := 14) (pc' := 92) D247_89 rfl gf_11_215_77 rfl H149.1 ?_
          intro w163 e164 r165
          have e166 : t161 = w163 := (e164.trans (ht162.symm)).symm
          subst e166
          refine s_blx (lv' := [(3, vI t161), (4, vI (x4 + 1)), (5, vI v124), (8, vI 1), (0, vR 77), (1, vI text), (2, vI s), (6, vL x6)]) (st' := [vI 4, vI v124, vL x6]) B247_92_98 rfl ?_
          refine r_norm2 ?_
          intro z167 r168 _; unfold inR at r168
          refine r_icmp (tgt := 111) (pc' := 101) D247_98 rfl rfl (by unfold inR; omega) (fun (c169 : z167 ≠ 4) => ?_) (fun (c169 : ¬ (z167 ≠ 4)) => ?_)
          · refine s_blx (lv' := [(3, vI t161), (4, vI (x4 + 1)), (5, vI v124), (8, vI 1), (0, vR 77), (1, vI text), (2, vI s), (6, vL x6)]) (st' := [vR 77, vL x6]) B247_111_112 rfl ?_
            refine r_gint (ki := 15) (pc' := 115) D247_112 rfl gf_11_218_77 rfl H149.1 ?_
            intro w170 e171 r172
            unfold inR at r172
            refine s_blx (lv' := [(3, vI t161), (4, vI (x4 + 1)), (5, vI v124), (8, vI 1), (0, vR 77), (1, vI text), (2, vI s), (6, vL x6)]) (st' := [vI t161, vR 77, vI w170, vL x6]) B247_115_117 rfl ?_
            refine r_vIp (c := 77) (args := [vI t161]) (rest := [vI w170, vL x6]) (pc' := 120) D247_117 rfl ck_11_virtual_246 TE190 rfl (Nat.le_of_ble_eq_true rfl) ⟨Nat.le_of_ble_eq_true rfl, Nat.le_of_ble_eq_true rfl⟩ sc_77 ⟨rfl, by decide⟩ H149.1 (dp_0 hd rfl) (k190 E (dp_n hd rfl) H149 t161 (by omega)) ?_
            intro v173 q176
            have q175 := q176
            refine s_blx (lv' := [(3, vI t161), (4, vI (x4 + 1)), (5, vI v124), (8, vI 1), (0, vR 77), (1, vI text), (2, vI s), (6, vL x6)]) (st' := [vI (w170 + v173), vL x6]) B247_120_121 rfl ?_
            refine r_norm ?_
            intro z177 r178 _; unfold inR at r178
            refine r_i2l (pc' := 122) D247_121 rfl (by unfold inR; omega) ?_
            refine s_blx (lv' := [(6, vL (x6 + z177)), (3, vI t161), (4, vI (x4 + 1)), (5, vI v124), (8, vI 1), (0, vR 77), (1, vI text), (2, vI s)]) (st' := []) B247_122_125 rfl ?_
            refine r_goto (tgt := 11) D247_125 rfl ?_
            refine r_loc (lv' := [(0, vR 77), (1, vI text), (2, vI s), (3, vI t161), (4, vI (x4 + 1)), (5, vI v124), (6, vL (x6 + z177))]) ⟨rfl, rfl, rfl, rfl, rfl, rfl, rfl, trivial⟩ rfl rfl ?_
            exact ih t161 (x4 + 1) v124 (x6 + z177) M148 H149 f157 (by omega) (by omega) (by omega) (by omega) (by omega) (by omega) (by omega) (by omega) (by omega)
          · refine s_blx (lv' := [(3, vI t161), (4, vI (x4 + 1)), (5, vI v124), (8, vI 1), (0, vR 77), (1, vI text), (2, vI s), (6, vL x6)]) (st' := [vI s, vI t161, vR 77, vL x6]) B247_101_104 rfl ?_
            refine r_vIp (c := 77) (args := [vI t161, vI s]) (rest := [vL x6]) (pc' := 107) D247_104 rfl ck_11_virtual_243 TE191 rfl (Nat.le_of_ble_eq_true rfl) ⟨Nat.le_of_ble_eq_true rfl, Nat.le_of_ble_eq_true rfl⟩ sc_77 ⟨rfl, by decide⟩ H149.1 (dp_0 hd rfl) (k191 E (dp_n hd rfl) H149 t161 s (by omega) (by omega)) ?_
            intro v179 q182
            have q181 := q182
            refine r_i2l (pc' := 108) D247_107 rfl (by unfold inR; omega) ?_
            refine r_goto (tgt := 122) D247_108 rfl ?_
            refine s_blx (lv' := [(6, vL (x6 + v179)), (3, vI t161), (4, vI (x4 + 1)), (5, vI v124), (8, vI 1), (0, vR 77), (1, vI text), (2, vI s)]) (st' := []) B247_122_125 rfl ?_
            refine r_goto (tgt := 11) D247_125 rfl ?_
            refine r_loc (lv' := [(0, vR 77), (1, vI text), (2, vI s), (3, vI t161), (4, vI (x4 + 1)), (5, vI v124), (6, vL (x6 + v179))]) ⟨rfl, rfl, rfl, rfl, rfl, rfl, rfl, trivial⟩ rfl rfl ?_
            exact ih t161 (x4 + 1) v124 (x6 + v179) M148 H149 f157 (by omega) (by omega) (by omega) (by omega) (by omega) (by omega) (by omega) (by omega) (by omega)
