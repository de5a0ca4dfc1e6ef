
set_option maxRecDepth 4000 in
set_option maxHeartbeats 4000000 in
theorem k207n {base : Nat} {X : Nat → Option mC} {G : Nat → Value} (E : EnvOK base X G) {d : Nat} (hd : 7 ≤ d) {M : mH} (H : HI base M) (w : Int) (now : Int) (N : Int → Int) (h0 : TB M) (h1 : LN M) (h2 : VT M) (h3 : GK M) (h4 : 0 ≤ w ∧ w ≤ 29) (h5 : KN N M) : sOk base X G d T207 [vR 77, vI w, vL now] M (pL (fun v M' => HI base M' ∧ Fr [(77, 7), (77, 8), (77, 9), (77, 10), (77, 14), (77, 15), (77, 16), (77, 28), (78, 0), (83, 0), (84, 0), (85, 0), (86, 0), (87, 0), (93, 0)] M M' ∧ (LN M') ∧ (VT M') ∧ (GK M') ∧ (KN N M'))) := by
  have f0 : Fr [(77, 7), (77, 8), (77, 9), (77, 10), (77, 14), (77, 15), (77, 16), (77, 28), (78, 0), (83, 0), (84, 0), (85, 0), (86, 0), (87, 0), (93, 0)] M M := Fr.rf
  refine sOk.of (show sRn base X G d T207 0 [(0, vR 77), (1, vI w), (2, vL now)] [] M _ from ?_)
  refine s_blx (lv' := [(0, vR 77), (1, vI w), (2, vL now)]) (st' := [vR 77]) B207_0_1 rfl ?_
  refine r_gfix (r := 78) (pc' := 4) D207_1 rfl gf_11_13_77 H.1 ?_
  refine s_blx (lv' := [(0, vR 77), (1, vI w), (2, vL now)]) (st' := [vI (0 + w), vR 78]) B207_4_7 rfl ?_
  refine r_iald (pc' := 8) D207_7 rfl sc_78 H.1 (by omega) ?_
  intro w1 e2 r3
  have b_w1 := H.2 78 (0 + w) 0 9 (rk_load (by omega))
  rw [← e2] at b_w1; clear r3
  have kwas : w1 = N w := by rw [e2, show (0 : Int) + w = w by omega]; exact h5 w (by unfold dAs; omega)
  refine s_blx (lv' := [(4, vI w1), (0, vR 77), (1, vI w), (2, vL now)]) (st' := [vR 77]) B207_8_11 rfl ?_
  refine r_gfix (r := 78) (pc' := 14) D207_11 rfl gf_11_13_77 H.1 ?_
  refine s_blx (lv' := [(4, vI w1), (0, vR 77), (1, vI w), (2, vL now)]) (st' := [vI 0, vI (0 + w), vR 78]) B207_14_18 rfl ?_
  refine r_iast (pc' := 19) D207_18 rfl sc_78 H (by omega) (by unfold inR; omega) (by show s_in (rgK _) _; rw [rk_load (by omega)]; show 0 ≤ 0 ∧ 0 ≤ 9; omega) ?_
  intro M4 u5 H6 p7
  have f8 := f0.wr u5 rfl
  have hp9 := h1.w u5 (by omega) H
  have hp10 := h2.wr u5 (by decide)
  have hp11 := h3.w u5 (by omega) H
  have kn1 := KN.set (j0 := w) (x := 0) h5 (kuw u5 (by omega)) (by omega) (by have q := p7; rw [show (0 : Int) + w = w by omega] at q; exact q)
  refine s_blx (lv' := [(4, vI w1), (0, vR 77), (1, vI w), (2, vL now)]) (st' := [vR 77, vL now]) B207_19_21 rfl ?_
  obtain ⟨t12, ht13⟩ : ∃ q, q = gi M4 77 24 := ⟨_, rfl⟩
  have b_t12 := H6.2 77 24 0 1 rfl
  rw [← ht13] at b_t12
  have g14 : gi M4 77 24 = t12 := ht13.symm
  refine r_vL (c := 77) (args := []) (rest := [vL now]) (pc' := 24) D207_21 rfl ck_11_virtual_283 TE200 rfl (Nat.le_of_ble_eq_true rfl) ⟨Nat.le_of_ble_eq_true rfl, Nat.le_of_ble_eq_true rfl⟩ sc_77 ⟨rfl, by decide⟩ H6.1 (dp_0 hd rfl) (k200k E (dp_n hd rfl) H6 (gi M4 78) t12 ((h0.fr f8 rfl)) (hp9) (fun _ => rfl) (hp10) (by omega) (by omega)) ?_
  intro v15 M16 q21
  obtain ⟨H17, f18, q19, q20⟩ := q21
  have f22 := f8.tr (f18.up rfl)
  have hp23 := hp9.fr f18 (by decide)
  have hp24 := hp11.fr f18 (by decide)
  have hp25 := kn1.fr f18 (by decide)
  refine s_blx (lv' := [(5, vL (now - v15)), (4, vI w1), (0, vR 77), (1, vI w), (2, vL now)]) (st' := [vR 77]) B207_24_28 rfl ?_
  refine r_gfix (r := 78) (pc' := 31) D207_28 rfl gf_11_13_77 H17.1 ?_
  refine s_blx (lv' := [(5, vL (now - v15)), (4, vI w1), (0, vR 77), (1, vI w), (2, vL now)]) (st' := [vI w1, vI (0 + w), vR 78]) B207_31_36 rfl ?_
  refine r_iast (pc' := 37) D207_36 rfl sc_78 H17 (by omega) (by unfold inR; omega) (by show s_in (rgK _) _; rw [rk_load (by omega)]; show 0 ≤ w1 ∧ w1 ≤ 9; omega) ?_
  intro M26 u27 H28 p29
  have f30 := f22.wr u27 rfl
  have hp31 := hp23.w u27 (by omega) H17
  have hp32 := q20.wr u27 (by decide)
  have hp33 := hp24.w u27 (by omega) H17
  have kn2 := KN.back hp25 (kuw u27 (by omega)) (by omega) (by have q := p29; rw [show (0 : Int) + w = w by omega] at q; rw [q]; exact kwas)
  refine s_blx (lv' := [(5, vL (now - v15)), (4, vI w1), (0, vR 77), (1, vI w), (2, vL now)]) (st' := [vL (now - v15)]) B207_37_39 rfl ?_
  exact r_lretL D207_39 rfl (⟨H28, f30, hp31, hp32, hp33, kn2⟩)
set_option maxRecDepth 4000 in
set_option maxHeartbeats 4000000 in
theorem L_k209n {base : Nat} {X : Nat → Option mC} {G : Nat → Value} (E : EnvOK base X G) {d : Nat} (hd : 8 ≤ d) {M : mH} (H : HI base M) (w : Int) (h0 : TB M) (h1 : LN M) (h2 : VT M) (h3 : GK M) (h4 : -2147483648 ≤ w ∧ w ≤ 2147483647) : ∀ mz : Nat, (∀ (x2 x4 x5 x7 : Int) (N : mH), HI base N → Fr [(77, 7), (77, 8), (77, 9), (77, 10), (77, 14), (77, 15), (77, 16), (77, 28), (78, 0), (83, 0), (84, 0), (85, 0), (86, 0), (87, 0), (93, 0)] M N → (LN N) → (VT N) → (GK N) → (KN (gi M 78) N) → ((-1) ≤ x4) → (x4 ≤ 29) → (0 ≤ x7) → (x7 ≤ 30) → ((-1) ≤ w) → (w ≤ (-1)) → (30 - x7) * 1 + 0 < (mz : Int) → sRn base X G d T209 40 [(0, vR 77), (2, vL x2), (4, vI x4), (5, vL x5), (7, vI x7)] [] N (s_Q base (pL (fun v M' => HI base M' ∧ Fr [(77, 7), (77, 8), (77, 9), (77, 10), (77, 14), (77, 15), (77, 16), (77, 28), (78, 0), (83, 0), (84, 0), (85, 0), (86, 0), (87, 0), (93, 0)] M M' ∧ (LN M') ∧ (VT M') ∧ (GK M') ∧ (KN (gi M 78) M'))))) := by
  have f0 : Fr [(77, 7), (77, 8), (77, 9), (77, 10), (77, 14), (77, 15), (77, 16), (77, 28), (78, 0), (83, 0), (84, 0), (85, 0), (86, 0), (87, 0), (93, 0)] M M := Fr.rf
  intro mz
  induction mz with
  | zero => exact fun x2 x4 x5 x7 N _ _ z0 z1 z2 z3 z4 z5 z6 z7 z8 z9 z10 => by omega
  | succ mz ih =>
    intro x2 x4 x5 x7 N HN fN i0 i1 i2 i3 i4 i5 i6 i7 i8 i9 hmu
    refine s_blx (lv' := [(0, vR 77), (2, vL x2), (4, vI x4), (5, vL x5), (7, vI x7)]) (st' := [vI 30, vI x7]) B209_40_44 rfl ?_
    refine r_icmp (tgt := 105) (pc' := 47) D209_44 rfl rfl (by unfold inR; omega) (fun (c33 : 30 ≤ x7) => ?_) (fun (c33 : ¬ (30 ≤ x7)) => ?_)
    · refine s_blx (lv' := [(0, vR 77), (2, vL x2), (4, vI x4), (5, vL x5), (7, vI x7)]) (st' := [vI x4]) B209_105_107 rfl ?_
      refine r_i2l (pc' := 108) D209_107 rfl (by unfold inR; omega) ?_
      exact r_lretL D209_108 rfl (⟨HN, fN, i0, i1, i2, i3⟩)
    · refine s_blx (lv' := [(0, vR 77), (2, vL x2), (4, vI x4), (5, vL x5), (7, vI x7)]) (st' := [vI x7, vR 77]) B209_47_50 rfl ?_
      refine r_vIp (c := 77) (args := [vI x7]) (rest := []) (pc' := 53) D209_50 rfl ck_11_virtual_302 TE208 rfl (Nat.le_of_ble_eq_true rfl) ⟨Nat.le_of_ble_eq_true rfl, Nat.le_of_ble_eq_true rfl⟩ sc_77 ⟨rfl, by decide⟩ HN.1 (dp_0 hd rfl) (k208 E (dp_n hd rfl) HN x7 (by omega)) ?_
      intro v34 q37
      have q36 := q37; clear q37
      refine r_ifc (tgt := 99) (pc' := 56) D209_53 rfl rfl (by unfold inR; omega) (fun (c38 : v34 = 0) => ?_) (fun (c38 : ¬ (v34 = 0)) => ?_)
      · refine s_blx (lv' := [(7, vI (x7 + 1)), (0, vR 77), (2, vL x2), (4, vI x4), (5, vL x5)]) (st' := []) B209_99_102 rfl ?_
        refine r_goto (tgt := 40) D209_102 rfl ?_
        refine r_loc (lv' := [(0, vR 77), (2, vL x2), (4, vI x4), (5, vL x5), (7, vI (x7 + 1))]) ⟨rfl, rfl, rfl, rfl, rfl, trivial⟩ rfl rfl ?_
        exact ih x2 x4 x5 (x7 + 1) N HN fN (i0) (i1) (i2) (i3) (by omega) (by omega) (by omega) (by omega) (by omega) (by omega) (by omega)
      · refine s_blx (lv' := [(0, vR 77), (2, vL x2), (4, vI x4), (5, vL x5), (7, vI x7)]) (st' := [vR 77]) B209_56_57 rfl ?_
        refine r_gfix (r := 78) (pc' := 60) D209_57 rfl gf_11_13_77 HN.1 ?_
        refine s_blx (lv' := [(0, vR 77), (2, vL x2), (4, vI x4), (5, vL x5), (7, vI x7)]) (st' := [vI (0 + x7), vR 78]) B209_60_64 rfl ?_
        refine r_iald (pc' := 65) D209_64 rfl sc_78 HN.1 (by omega) ?_
        intro w39 e40 r41
        have b_w39 := HN.2 78 (0 + x7) 0 9 (rk_load (by omega))
        rw [← e40] at b_w39; clear r41
        refine r_ifc (tgt := 71) (pc' := 68) D209_65 rfl rfl (by unfold inR; omega) (fun (c42 : w39 ≠ 0) => ?_) (fun (c42 : ¬ (w39 ≠ 0)) => ?_)
        · refine s_blx (lv' := [(0, vR 77), (2, vL x2), (4, vI x4), (5, vL x5), (7, vI x7)]) (st' := [vL x2, vI x7, vR 77]) B209_71_75 rfl ?_
          refine r_vL (c := 77) (args := [vI x7, vL x2]) (rest := []) (pc' := 78) D209_75 rfl ck_11_virtual_298 TE207 rfl (Nat.le_of_ble_eq_true rfl) ⟨Nat.le_of_ble_eq_true rfl, Nat.le_of_ble_eq_true rfl⟩ sc_77 ⟨rfl, by decide⟩ HN.1 (dp_0 hd rfl) (k207n E (dp_n hd rfl) HN x7 x2 (gi M 78) ((h0.fr fN rfl)) (i0) (i1) (i2) (by omega) (i3)) ?_
          intro v43 M44 q51
          obtain ⟨H45, f46, q47, q48, q49, q50⟩ := q51
          have f52 := fN.tr (f46.up rfl)
          refine s_blx (lv' := [(8, vL v43), (0, vR 77), (2, vL x2), (4, vI x4), (5, vL x5), (7, vI x7)]) (st' := [vL x5, vL v43]) B209_78_84 rfl ?_
          refine r_lcmp (pc' := 85) D209_84 rfl ?_
          intro z53 r54 r55
          refine r_ifc (tgt := 91) (pc' := 88) D209_85 rfl rfl (by unfold inR; omega) (fun (c56 : 0 < z53) => ?_) (fun (c56 : ¬ (0 < z53)) => ?_)
          · refine s_blx (lv' := [(7, vI (x7 + 1)), (4, vI x7), (5, vL v43), (8, vL v43), (0, vR 77), (2, vL x2)]) (st' := []) B209_91_102 rfl ?_
            refine r_goto (tgt := 40) D209_102 rfl ?_
            refine r_loc (lv' := [(0, vR 77), (2, vL x2), (4, vI x7), (5, vL v43), (7, vI (x7 + 1))]) ⟨rfl, rfl, rfl, rfl, rfl, trivial⟩ rfl rfl ?_
            exact ih x2 x7 v43 (x7 + 1) M44 H45 f52 (q47) (q48) (q49) (q50) (by omega) (by omega) (by omega) (by omega) (by omega) (by omega) (by omega)
          · refine r_goto (tgt := 99) D209_88 rfl ?_
            refine s_blx (lv' := [(7, vI (x7 + 1)), (8, vL v43), (0, vR 77), (2, vL x2), (4, vI x4), (5, vL x5)]) (st' := []) B209_99_102 rfl ?_
            refine r_goto (tgt := 40) D209_102 rfl ?_
            refine r_loc (lv' := [(0, vR 77), (2, vL x2), (4, vI x4), (5, vL x5), (7, vI (x7 + 1))]) ⟨rfl, rfl, rfl, rfl, rfl, trivial⟩ rfl rfl ?_
            exact ih x2 x4 x5 (x7 + 1) M44 H45 f52 (q47) (q48) (q49) (q50) (by omega) (by omega) (by omega) (by omega) (by omega) (by omega) (by omega)
        · refine r_goto (tgt := 99) D209_68 rfl ?_
          refine s_blx (lv' := [(7, vI (x7 + 1)), (0, vR 77), (2, vL x2), (4, vI x4), (5, vL x5)]) (st' := []) B209_99_102 rfl ?_
          refine r_goto (tgt := 40) D209_102 rfl ?_
          refine r_loc (lv' := [(0, vR 77), (2, vL x2), (4, vI x4), (5, vL x5), (7, vI (x7 + 1))]) ⟨rfl, rfl, rfl, rfl, rfl, trivial⟩ rfl rfl ?_
          exact ih x2 x4 x5 (x7 + 1) N HN fN (i0) (i1) (i2) (i3) (by omega) (by omega) (by omega) (by omega) (by omega) (by omega) (by omega)
set_option maxRecDepth 4000 in
set_option maxHeartbeats 4000000 in
theorem k209n {base : Nat} {X : Nat → Option mC} {G : Nat → Value} (E : EnvOK base X G) {d : Nat} (hd : 8 ≤ d) {M : mH} (H : HI base M) (w : Int) (h0 : TB M) (h1 : LN M) (h2 : VT M) (h3 : GK M) (h4 : -2147483648 ≤ w ∧ w ≤ 2147483647) : sOk base X G d T209 [vR 77, vI w] M (pL (fun v M' => HI base M' ∧ Fr [(77, 7), (77, 8), (77, 9), (77, 10), (77, 14), (77, 15), (77, 16), (77, 28), (78, 0), (83, 0), (84, 0), (85, 0), (86, 0), (87, 0), (93, 0)] M M' ∧ (LN M') ∧ (VT M') ∧ (GK M') ∧ (KN (gi M 78) M'))) := by
  have f0 : Fr [(77, 7), (77, 8), (77, 9), (77, 10), (77, 14), (77, 15), (77, 16), (77, 28), (78, 0), (83, 0), (84, 0), (85, 0), (86, 0), (87, 0), (93, 0)] M M := Fr.rf
  refine sOk.of (show sRn base X G d T209 0 [(0, vR 77), (1, vI w)] [] M _ from ?_)
  refine s_blx (lv' := [(0, vR 77), (1, vI w)]) (st' := [vI 29, vI (-1), vI w]) B209_0_4 rfl ?_
  refine r_sIp (args := [vI w, vI (-1), vI 29]) (rest := []) (pc' := 7) D209_4 rfl ck_11_static_123 TE147 rfl (Nat.le_of_ble_eq_true rfl) ⟨Nat.le_of_ble_eq_true rfl, Nat.le_of_ble_eq_true rfl⟩ (by decide) (dp_0 hd rfl) (k147 E (dp_n hd rfl) H w (-1) 29 (by omega) (by omega) (by omega)) ?_
  intro v1 q6
  obtain ⟨q3, q4, q5⟩ := q6
  refine r_ifc (tgt := 14) (pc' := 10) D209_7 rfl rfl (by unfold inR; omega) (fun (c7 : v1 ≠ 0) => ?_) (fun (c7 : ¬ (v1 ≠ 0)) => ?_)
  · refine s_blx (lv' := [(0, vR 77), (1, vI w)]) (st' := [vR 77]) B209_14_15 rfl ?_
    obtain ⟨t8, ht9⟩ : ∃ q, q = gi M 77 24 := ⟨_, rfl⟩
    have b_t8 := H.2 77 24 0 1 rfl
    rw [← ht9] at b_t8
    have g10 : gi M 77 24 = t8 := ht9.symm
    refine r_vL (c := 77) (args := []) (rest := []) (pc' := 18) D209_15 rfl ck_11_virtual_283 TE200 rfl (Nat.le_of_ble_eq_true rfl) ⟨Nat.le_of_ble_eq_true rfl, Nat.le_of_ble_eq_true rfl⟩ sc_77 ⟨rfl, by decide⟩ H.1 (dp_0 hd rfl) (k200k E (dp_n hd rfl) H (gi M 78) t8 (h0) (h1) (fun _ => rfl) (h2) (by omega) (by omega)) ?_
    intro v11 M12 q17
    obtain ⟨H13, f14, q15, q16⟩ := q17
    have f18 := f0.tr (f14.up rfl)
    have hp19 := h1.fr f14 (by decide)
    have hp20 := h3.fr f14 (by decide)
    have hp21 := KN.rf.fr f14 (by decide)
    refine s_blx (lv' := [(2, vL v11), (0, vR 77), (1, vI w)]) (st' := [vI (-1), vI w]) B209_18_21 rfl ?_
    refine r_icmp (tgt := 31) (pc' := 24) D209_21 rfl rfl (by unfold inR; omega) (fun (c22 : w = (-1)) => ?_) (fun (c22 : ¬ (w = (-1))) => ?_)
    · refine s_blx (lv' := [(7, vI 0), (5, vL 0), (4, vI (-1)), (2, vL v11), (0, vR 77), (1, vI w)]) (st' := []) B209_31_40 rfl ?_
      refine r_loc (lv' := [(0, vR 77), (2, vL v11), (4, vI (-1)), (5, vL 0), (7, vI 0)]) ⟨rfl, rfl, rfl, rfl, rfl, trivial⟩ rfl rfl ?_
      exact (L_k209n E hd H w h0 h1 h2 h3 h4 (((30 - 0) * 1 + 0 : Int) + 1).toNat) v11 (-1) 0 0 M12 H13 f18 (hp19) (q16) (hp20) (hp21) (by omega) (by omega) (by omega) (by omega) (by omega) (by omega) (by omega)
    · refine s_blx (lv' := [(2, vL v11), (0, vR 77), (1, vI w)]) (st' := [vL v11, vI w, vR 77]) B209_24_27 rfl ?_
      refine r_vL (c := 77) (args := [vI w, vL v11]) (rest := []) (pc' := 30) D209_27 rfl ck_11_virtual_298 TE207 rfl (Nat.le_of_ble_eq_true rfl) ⟨Nat.le_of_ble_eq_true rfl, Nat.le_of_ble_eq_true rfl⟩ sc_77 ⟨rfl, by decide⟩ H13.1 (dp_0 hd rfl) (k207n E (dp_n hd rfl) H13 w v11 (gi M 78) ((h0.fr f18 rfl)) (hp19) (q16) (hp20) (by omega) (hp21)) ?_
      intro v23 M24 q31
      obtain ⟨H25, f26, q27, q28, q29, q30⟩ := q31
      have f32 := f18.tr (f26.up rfl)
      exact r_lretL D209_30 rfl (⟨H25, f32, q27, q28, q29, q30⟩)
  · refine r_ldc2 (e := (-1)) (pc' := 13) D209_10 rfl cl_11_296 (by decide) ?_
    exact r_lretL D209_13 rfl (⟨H, f0, h1, h2, h3, KN.rf⟩)
set_option maxRecDepth 4000 in
theorem L_k151n {base : Nat} {X : Nat → Option mC} {G : Nat → Value} (E : EnvOK base X G) {d : Nat} (hd : 1 ≤ d) {M : mH} (H : HI base M) (k : Int) (h0 : -2147483648 ≤ k ∧ k ≤ 2147483647) (h1 : LN M) (h2 : GK M) (h3 : IM M) : ∀ mz : Nat, (∀ (x2 : Int) (N : mH), HI base N → Fr [(77, 1), (79, 0), (80, 0)] M N → (∀ j : Int, 0 ≤ j → j < x2 → gi N 79 (6883 * k + j) = gi N 78 j) → (∀ j : Int, 0 ≤ j → (j < 6883 * k ∨ 6883 * k + 6883 ≤ j) → gi N 79 j = gi M 79 j) → (∀ i : Int, gi N 80 i = gi M 80 i) → (0 ≤ k ∧ k ≤ 1) → (0 ≤ x2 ∧ x2 ≤ 6883) → (0 ≤ x2) → (x2 ≤ 6883) → (0 ≤ k) → (k ≤ 1) → (6883 - x2) * 1 + 0 < (mz : Int) → sRn base X G d T151 17 [(0, vR 77), (1, vI k), (2, vI x2)] [] N (s_Q base (pI (fun v M' => HI base M' ∧ Fr [(77, 1), (79, 0), (80, 0)] M M' ∧ (LN M') ∧ (GK M') ∧ (IM M') ∧ (0 ≤ k ∧ k ≤ 1 → v = 0) ∧ (k < 0 ∨ 1 < k → v = -1) ∧ (0 ≤ k ∧ k ≤ 1 → gi M' 80 k = 1) ∧ (∀ i : Int, i ≠ k → gi M' 80 i = gi M 80 i) ∧ (k < 0 ∨ 1 < k → ∀ i : Int, gi M' 80 i = gi M 80 i) ∧ (0 ≤ k ∧ k ≤ 1 → ∀ j : Int, 0 ≤ j → j < 6883 → gi M' 79 (6883 * k + j) = gi M 78 j) ∧ (0 ≤ k ∧ k ≤ 1 → ∀ j : Int, 0 ≤ j → (j < 6883 * k ∨ 6883 * k + 6883 ≤ j) → gi M' 79 j = gi M 79 j) ∧ (k < 0 ∨ 1 < k → ∀ j : Int, gi M' 79 j = gi M 79 j))))) := by
  have f0 : Fr [(77, 1), (79, 0), (80, 0)] M M := Fr.rf
  intro mz
  induction mz with
  | zero => exact fun x2 N _ _ z0 z1 z2 z3 z4 z5 z6 z7 z8 z9 => by omega
  | succ mz ih =>
    intro x2 N HN fN i0 i1 i2 i3 i4 i5 i6 i7 i8 hmu
    refine s_blx (lv' := [(0, vR 77), (1, vI k), (2, vI x2)]) (st' := [vI 6883, vI x2]) B151_17_21 rfl ?_
    refine r_icmp (tgt := 48) (pc' := 24) D151_21 rfl rfl (by unfold inR; omega) (fun (c17 : 6883 ≤ x2) => ?_) (fun (c17 : ¬ (6883 ≤ x2)) => ?_)
    · refine s_blx (lv' := [(0, vR 77), (1, vI k), (2, vI x2)]) (st' := [vR 77]) B151_48_49 rfl ?_
      refine r_gfix (r := 80) (pc' := 52) D151_49 rfl gf_11_20_77 HN.1 ?_
      refine s_blx (lv' := [(0, vR 77), (1, vI k), (2, vI x2)]) (st' := [vI 1, vI k, vR 80]) B151_52_54 rfl ?_
      refine r_zast (pc' := 55) D151_54 rfl sc_80 HN (by omega) (by omega) (show 0 ≤ 1 ∧ 1 ≤ 1 by omega) ?_
      intro M18 u19 H20 p21
      have f22 := fN.wr u19 rfl
      have k8 := u19
      have kim : IM M18 := IM.make (k := k) h3 (by omega) H20 ((h1.fr f22 rfl)) ((h2.fr f22 rfl)) (fun j a b => by rw [k8.gi_ne (by omega) (Or.inl (by decide)), k8.gi_ne (by omega) (Or.inl (by decide))]; exact i0 j a (by omega)) (fun j a b => by rw [k8.gi_ne (by omega) (Or.inl (by decide))]; exact i1 j a b) (fun i hi => by rw [k8.gi_ne (by omega) (Or.inr hi)]; exact i2 i)
      refine s_blx (lv' := [(0, vR 77), (1, vI k), (2, vI x2)]) (st' := [vI 0, vR 77]) B151_55_57 rfl ?_
      refine r_vI (c := 77) (args := [vI 0]) (rest := []) (pc' := 60) D151_57 rfl ck_11_virtual_131 TE149 rfl (Nat.le_of_ble_eq_true rfl) ⟨Nat.le_of_ble_eq_true rfl, Nat.le_of_ble_eq_true rfl⟩ sc_77 ⟨rfl, by decide⟩ H20.1 (dp_0 hd rfl) (k149 E (dp_n hd rfl) H20 0 (by omega)) ?_
      intro v23 M24 q28
      obtain ⟨H25, f26, q27⟩ := q28
      have f29 := f22.tr (f26.up rfl)
      have hp30 := kim.fr f26 (by decide)
      have kf := f26
      have g31 : gi M24 80 k = 1 := (f26.g rfl).trans (p21)
      exact r_iretI D151_60 rfl (⟨H25, f29, (h1.fr f29 rfl), (h2.fr f29 rfl), hp30, by omega, by omega, by omega, fun i hi => by rw [kf.g rfl, k8.gi_ne (by omega) (Or.inr hi)]; exact i2 i, fun h => by exfalso; omega, fun _ j a b => by rw [kf.g rfl, k8.gi_ne (by omega) (Or.inl (by decide)), i0 j a (by omega)]; exact fN.g rfl, fun _ j a b => by rw [kf.g rfl, k8.gi_ne (by omega) (Or.inl (by decide))]; exact i1 j a b, fun h => by exfalso; omega⟩)
    · refine s_blx (lv' := [(0, vR 77), (1, vI k), (2, vI x2)]) (st' := [vR 77]) B151_24_25 rfl ?_
      refine r_gfix (r := 79) (pc' := 28) D151_25 rfl gf_11_17_77 HN.1 ?_
      refine s_blx (lv' := [(0, vR 77), (1, vI k), (2, vI x2)]) (st' := [vR 77, vI ((6883 * k) + x2), vR 79]) B151_28_36 rfl ?_
      refine r_gfix (r := 78) (pc' := 39) D151_36 rfl gf_11_13_77 HN.1 ?_
      refine s_blx (lv' := [(0, vR 77), (1, vI k), (2, vI x2)]) (st' := [vI x2, vR 78, vI ((6883 * k) + x2), vR 79]) B151_39_40 rfl ?_
      refine r_iald (pc' := 41) D151_40 rfl sc_78 HN.1 (by omega) ?_
      intro w32 e33 r34
      unfold inR at r34
      have ke := e33
      refine r_iast (pc' := 42) D151_41 rfl sc_79 HN (by omega) (by unfold inR; omega) (by rw [rg79 (by omega) (by omega), e33]; exact HN.2.sin 78 _) ?_
      intro M35 u36 H37 p38
      have f39 := fN.wr u36 rfl
      have ku := u36
      have kA : gi M35 79 (6883 * k + x2) = gi M35 78 x2 := by rw [p38, ke]; exact (ku.gi_ne (by omega) (Or.inl (by decide))).symm
      refine s_blx (lv' := [(2, vI (x2 + 1)), (0, vR 77), (1, vI k)]) (st' := []) B151_42_45 rfl ?_
      refine r_goto (tgt := 17) D151_45 rfl ?_
      refine r_loc (lv' := [(0, vR 77), (1, vI k), (2, vI (x2 + 1))]) ⟨rfl, rfl, rfl, trivial⟩ rfl rfl ?_
      exact ih (x2 + 1) M35 H37 f39 (fun j h1 h2 => if e : j = x2 then (by rw [e]; exact kA) else (by rw [ku.gi_ne (by omega) (Or.inr (by omega)), ku.gi_ne (by omega) (Or.inl (by decide))]; exact i0 j h1 (by omega))) (fun j h1 h2 => by rw [ku.gi_ne (by omega) (Or.inr (by omega))]; exact i1 j h1 h2) (fun i => by rw [ku.gi_ne (by omega) (Or.inl (by decide))]; exact i2 i) (by omega) (by omega) (by omega) (by omega) (by omega) (by omega) (by omega)
set_option maxRecDepth 4000 in
theorem k151n {base : Nat} {X : Nat → Option mC} {G : Nat → Value} (E : EnvOK base X G) {d : Nat} (hd : 1 ≤ d) {M : mH} (H : HI base M) (k : Int) (h0 : -2147483648 ≤ k ∧ k ≤ 2147483647) (h1 : LN M) (h2 : GK M) (h3 : IM M) : sOk base X G d T151 [vR 77, vI k] M (pI (fun v M' => HI base M' ∧ Fr [(77, 1), (79, 0), (80, 0)] M M' ∧ (LN M') ∧ (GK M') ∧ (IM M') ∧ (0 ≤ k ∧ k ≤ 1 → v = 0) ∧ (k < 0 ∨ 1 < k → v = -1) ∧ (0 ≤ k ∧ k ≤ 1 → gi M' 80 k = 1) ∧ (∀ i : Int, i ≠ k → gi M' 80 i = gi M 80 i) ∧ (k < 0 ∨ 1 < k → ∀ i : Int, gi M' 80 i = gi M 80 i) ∧ (0 ≤ k ∧ k ≤ 1 → ∀ j : Int, 0 ≤ j → j < 6883 → gi M' 79 (6883 * k + j) = gi M 78 j) ∧ (0 ≤ k ∧ k ≤ 1 → ∀ j : Int, 0 ≤ j → (j < 6883 * k ∨ 6883 * k + 6883 ≤ j) → gi M' 79 j = gi M 79 j) ∧ (k < 0 ∨ 1 < k → ∀ j : Int, gi M' 79 j = gi M 79 j))) := by
  have f0 : Fr [(77, 1), (79, 0), (80, 0)] M M := Fr.rf
  refine sOk.of (show sRn base X G d T151 0 [(0, vR 77), (1, vI k)] [] M _ from ?_)
  refine s_blx (lv' := [(0, vR 77), (1, vI k)]) (st' := [vI 1, vI 0, vI k]) B151_0_3 rfl ?_
  refine r_sIp (args := [vI k, vI 0, vI 1]) (rest := []) (pc' := 6) D151_3 rfl ck_11_static_123 TE147 rfl (Nat.le_of_ble_eq_true rfl) ⟨Nat.le_of_ble_eq_true rfl, Nat.le_of_ble_eq_true rfl⟩ (by decide) (dp_0 hd rfl) (k147 E (dp_n hd rfl) H k 0 1 (by omega) (by omega) (by omega)) ?_
  intro v1 q6
  obtain ⟨q3, q4, q5⟩ := q6
  refine r_ifc (tgt := 15) (pc' := 9) D151_6 rfl rfl (by unfold inR; omega) (fun (c7 : v1 ≠ 0) => ?_) (fun (c7 : ¬ (v1 ≠ 0)) => ?_)
  · refine s_blx (lv' := [(2, vI 0), (0, vR 77), (1, vI k)]) (st' := []) B151_15_17 rfl ?_
    refine r_loc (lv' := [(0, vR 77), (1, vI k), (2, vI 0)]) ⟨rfl, rfl, rfl, trivial⟩ rfl rfl ?_
    exact (L_k151n E hd H k h0 h1 h2 h3 (((6883 - 0) * 1 + 0 : Int) + 1).toNat) 0 M H f0 (fun j h1 h2 => by omega) (fun j _ _ => rfl) (fun _ => rfl) (by omega) (by omega) (by omega) (by omega) (by omega) (by omega) (by omega)
  · refine s_blx (lv' := [(0, vR 77), (1, vI k)]) (st' := [vI (-1), vR 77]) B151_9_11 rfl ?_
    refine r_vI (c := 77) (args := [vI (-1)]) (rest := []) (pc' := 14) D151_11 rfl ck_11_virtual_127 TE148 rfl (Nat.le_of_ble_eq_true rfl) ⟨Nat.le_of_ble_eq_true rfl, Nat.le_of_ble_eq_true rfl⟩ sc_77 ⟨rfl, by decide⟩ H.1 (dp_0 hd rfl) (k148 E (dp_n hd rfl) H (-1) (by omega)) ?_
    intro v8 M9 q13
    obtain ⟨H10, f11, q12⟩ := q13
    have f14 := f0.tr (f11.up rfl)
    have hp15 := h3.fr f11 (by decide)
    have kf := f11
    have g16 : gi M9 80 k = gi M 80 k := (f11.g rfl).trans (rfl)
    exact r_iretI D151_14 rfl (⟨H10, f14, (h1.fr f14 rfl), (h2.fr f14 rfl), hp15, by omega, by omega, by omega, fun i _ => kf.g rfl, fun _ i => kf.g rfl, fun h => by exfalso; omega, fun h => by exfalso; omega, fun _ j => kf.g rfl⟩)
set_option maxRecDepth 4000 in
theorem L_k152n {base : Nat} {X : Nat → Option mC} {G : Nat → Value} (E : EnvOK base X G) {d : Nat} (hd : 1 ≤ d) {M : mH} (H : HI base M) (k : Int) (h0 : -2147483648 ≤ k ∧ k ≤ 2147483647) (h1 : LN M) (h2 : GK M) (h3 : IM M) : ∀ mz : Nat, (∀ (x2 : Int) (N : mH), HI base N → Fr [(77, 1), (78, 0)] M N → (∀ j : Int, 0 ≤ j → j < x2 → gi N 78 j = gi N 79 (6883 * k + j)) → (gi N 80 k = 1) → (0 ≤ k ∧ k ≤ 1) → (0 ≤ x2 ∧ x2 ≤ 6883) → (gi N 80 k = gi M 80 k) → (0 ≤ x2) → (x2 ≤ 6883) → (0 ≤ k) → (k ≤ 1) → (6883 - x2) * 1 + 0 < (mz : Int) → sRn base X G d T152 33 [(0, vR 77), (1, vI k), (2, vI x2)] [] N (s_Q base (pI (fun v M' => HI base M' ∧ Fr [(77, 1), (78, 0)] M M' ∧ (LN M') ∧ (GK M') ∧ (-2147483648 ≤ v ∧ v ≤ 2147483647) ∧ (k < 0 ∨ 1 < k → v = -1) ∧ (0 ≤ k ∧ k ≤ 1 → gi M 80 k = 0 → v = -2) ∧ (0 ≤ k ∧ k ≤ 1 → gi M 80 k = 1 → v = 0) ∧ (0 ≤ k ∧ k ≤ 1 → gi M 80 k = 1 → ∀ j : Int, 0 ≤ j → j < 6883 → gi M' 78 j = gi M 79 (6883 * k + j)) ∧ (k < 0 ∨ 1 < k ∨ gi M 80 k = 0 → ∀ j : Int, gi M' 78 j = gi M 78 j))))) := by
  have f0 : Fr [(77, 1), (78, 0)] M M := Fr.rf
  intro mz
  induction mz with
  | zero => exact fun x2 N _ _ z0 z1 z2 z3 z4 z5 z6 z7 z8 z9 => by omega
  | succ mz ih =>
    intro x2 N HN fN i0 i1 i2 i3 i4 i5 i6 i7 i8 hmu
    refine s_blx (lv' := [(0, vR 77), (1, vI k), (2, vI x2)]) (st' := [vI 6883, vI x2]) B152_33_37 rfl ?_
    refine r_icmp (tgt := 64) (pc' := 40) D152_37 rfl rfl (by unfold inR; omega) (fun (c31 : 6883 ≤ x2) => ?_) (fun (c31 : ¬ (6883 ≤ x2)) => ?_)
    · refine s_blx (lv' := [(0, vR 77), (1, vI k), (2, vI x2)]) (st' := [vI 0, vR 77]) B152_64_66 rfl ?_
      have kb := IM.back (((h3.fr fN rfl)) k (by omega) (by omega)) (by omega) HN (fun j a b => i0 j a (by omega))
      refine r_vI (c := 77) (args := [vI 0]) (rest := []) (pc' := 69) D152_66 rfl ck_11_virtual_131 TE149 rfl (Nat.le_of_ble_eq_true rfl) ⟨Nat.le_of_ble_eq_true rfl, Nat.le_of_ble_eq_true rfl⟩ sc_77 ⟨rfl, by decide⟩ HN.1 (dp_0 hd rfl) (k149 E (dp_n hd rfl) HN 0 (by omega)) ?_
      intro v32 M33 q37
      obtain ⟨H34, f35, q36⟩ := q37
      have f38 := fN.tr (f35.up rfl)
      have kl := kb.1.fr f35 (by decide)
      have kg := kb.2.fr f35 (by decide)
      have kf := f35
      exact r_iretI D152_69 rfl (⟨H34, f38, kl, kg, by omega, by omega, by omega, by omega, fun _ _ j a b => by rw [kf.g rfl, i0 j a (by omega)]; exact fN.g rfl, fun h => by exfalso; omega⟩)
    · refine s_blx (lv' := [(0, vR 77), (1, vI k), (2, vI x2)]) (st' := [vR 77]) B152_40_41 rfl ?_
      refine r_gfix (r := 78) (pc' := 44) D152_41 rfl gf_11_13_77 HN.1 ?_
      refine s_blx (lv' := [(0, vR 77), (1, vI k), (2, vI x2)]) (st' := [vR 77, vI x2, vR 78]) B152_44_46 rfl ?_
      refine r_gfix (r := 79) (pc' := 49) D152_46 rfl gf_11_17_77 HN.1 ?_
      refine s_blx (lv' := [(0, vR 77), (1, vI k), (2, vI x2)]) (st' := [vI ((6883 * k) + x2), vR 79, vI x2, vR 78]) B152_49_56 rfl ?_
      refine r_iald (pc' := 57) D152_56 rfl sc_79 HN.1 (by omega) ?_
      intro w39 e40 r41
      unfold inR at r41
      have ke := e40
      refine r_iast (pc' := 58) D152_57 rfl sc_78 HN (by omega) (by unfold inR; omega) (by show s_in (rg 78 _) _; rw [e40]; have q := HN.2.sin 79 (6883 * k + x2); rw [rg79 (by omega) (by omega)] at q; exact q) ?_
      intro M42 u43 H44 p45
      have f46 := fN.wr u43 rfl
      have ku := u43
      have kA : gi M42 78 x2 = gi M42 79 (6883 * k + x2) := by rw [p45, ke]; exact (ku.gi_ne (by omega) (Or.inl (by decide))).symm
      refine s_blx (lv' := [(2, vI (x2 + 1)), (0, vR 77), (1, vI k)]) (st' := []) B152_58_61 rfl ?_
      refine r_goto (tgt := 33) D152_61 rfl ?_
      refine r_loc (lv' := [(0, vR 77), (1, vI k), (2, vI (x2 + 1))]) ⟨rfl, rfl, rfl, trivial⟩ rfl rfl ?_
      have g47 : gi M42 80 k = gi N 80 k := (u43.gi_ne (by omega) (Or.inl (by decide))).trans (rfl)
      exact ih (x2 + 1) M42 H44 f46 (fun j h1 h2 => if e : j = x2 then (by rw [e]; exact kA) else (by rw [ku.gi_ne (by omega) (Or.inr (by omega)), ku.gi_ne (by omega) (Or.inl (by decide))]; exact i0 j h1 (by omega))) (by omega) (by omega) (by omega) (by omega) (by omega) (by omega) (by omega) (by omega) (by omega)
set_option maxRecDepth 4000 in
theorem k152n {base : Nat} {X : Nat → Option mC} {G : Nat → Value} (E : EnvOK base X G) {d : Nat} (hd : 1 ≤ d) {M : mH} (H : HI base M) (k : Int) (h0 : -2147483648 ≤ k ∧ k ≤ 2147483647) (h1 : LN M) (h2 : GK M) (h3 : IM M) : sOk base X G d T152 [vR 77, vI k] M (pI (fun v M' => HI base M' ∧ Fr [(77, 1), (78, 0)] M M' ∧ (LN M') ∧ (GK M') ∧ (-2147483648 ≤ v ∧ v ≤ 2147483647) ∧ (k < 0 ∨ 1 < k → v = -1) ∧ (0 ≤ k ∧ k ≤ 1 → gi M 80 k = 0 → v = -2) ∧ (0 ≤ k ∧ k ≤ 1 → gi M 80 k = 1 → v = 0) ∧ (0 ≤ k ∧ k ≤ 1 → gi M 80 k = 1 → ∀ j : Int, 0 ≤ j → j < 6883 → gi M' 78 j = gi M 79 (6883 * k + j)) ∧ (k < 0 ∨ 1 < k ∨ gi M 80 k = 0 → ∀ j : Int, gi M' 78 j = gi M 78 j))) := by
  have f0 : Fr [(77, 1), (78, 0)] M M := Fr.rf
  refine sOk.of (show sRn base X G d T152 0 [(0, vR 77), (1, vI k)] [] M _ from ?_)
  refine s_blx (lv' := [(0, vR 77), (1, vI k)]) (st' := [vI 1, vI 0, vI k]) B152_0_3 rfl ?_
  refine r_sIp (args := [vI k, vI 0, vI 1]) (rest := []) (pc' := 6) D152_3 rfl ck_11_static_123 TE147 rfl (Nat.le_of_ble_eq_true rfl) ⟨Nat.le_of_ble_eq_true rfl, Nat.le_of_ble_eq_true rfl⟩ (by decide) (dp_0 hd rfl) (k147 E (dp_n hd rfl) H k 0 1 (by omega) (by omega) (by omega)) ?_
  intro v1 q6
  obtain ⟨q3, q4, q5⟩ := q6
  refine r_ifc (tgt := 15) (pc' := 9) D152_6 rfl rfl (by unfold inR; omega) (fun (c7 : v1 ≠ 0) => ?_) (fun (c7 : ¬ (v1 ≠ 0)) => ?_)
  · refine s_blx (lv' := [(0, vR 77), (1, vI k)]) (st' := [vR 77]) B152_15_16 rfl ?_
    refine r_gfix (r := 80) (pc' := 19) D152_16 rfl gf_11_20_77 H.1 ?_
    refine s_blx (lv' := [(0, vR 77), (1, vI k)]) (st' := [vI k, vR 80]) B152_19_20 rfl ?_
    refine r_bald (pc' := 21) D152_20 rfl sc_80 (by decide) H.1 (by omega) ?_
    intro w8 e9 r10
    have b_w8 := H.2 80 (k) 0 1 rfl
    rw [← e9] at b_w8; clear r10
    refine r_ifc (tgt := 31) (pc' := 24) D152_21 rfl rfl (by unfold inR; omega) (fun (c11 : w8 ≠ 0) => ?_) (fun (c11 : ¬ (w8 ≠ 0)) => ?_)
    · refine s_blx (lv' := [(2, vI 0), (0, vR 77), (1, vI k)]) (st' := []) B152_31_33 rfl ?_
      refine r_loc (lv' := [(0, vR 77), (1, vI k), (2, vI 0)]) ⟨rfl, rfl, rfl, trivial⟩ rfl rfl ?_
      have g12 : gi M 80 k = w8 := e9.symm
      exact (L_k152n E hd H k h0 h1 h2 h3 (((6883 - 0) * 1 + 0 : Int) + 1).toNat) 0 M H f0 (fun j h1 h2 => by omega) (by omega) (by omega) (by omega) (by omega) (by omega) (by omega) (by omega) (by omega) (by omega)
    · refine s_blx (lv' := [(0, vR 77), (1, vI k)]) (st' := [vI (-2), vR 77]) B152_24_27 rfl ?_
      refine r_vI (c := 77) (args := [vI (-2)]) (rest := []) (pc' := 30) D152_27 rfl ck_11_virtual_127 TE148 rfl (Nat.le_of_ble_eq_true rfl) ⟨Nat.le_of_ble_eq_true rfl, Nat.le_of_ble_eq_true rfl⟩ sc_77 ⟨rfl, by decide⟩ H.1 (dp_0 hd rfl) (k148 E (dp_n hd rfl) H (-2) (by omega)) ?_
      intro v13 M14 q18
      obtain ⟨H15, f16, q17⟩ := q18
      have f19 := f0.tr (f16.up rfl)
      have hp20 := h1.fr f16 (by decide)
      have hp21 := h2.fr f16 (by decide)
      have kf := f16
      exact r_iretI D152_30 rfl (⟨H15, f19, hp20, hp21, by omega, by omega, by omega, by omega, fun h h2 => by exfalso; omega, fun _ j => kf.g rfl⟩)
  · refine s_blx (lv' := [(0, vR 77), (1, vI k)]) (st' := [vI (-1), vR 77]) B152_9_11 rfl ?_
    refine r_vI (c := 77) (args := [vI (-1)]) (rest := []) (pc' := 14) D152_11 rfl ck_11_virtual_127 TE148 rfl (Nat.le_of_ble_eq_true rfl) ⟨Nat.le_of_ble_eq_true rfl, Nat.le_of_ble_eq_true rfl⟩ sc_77 ⟨rfl, by decide⟩ H.1 (dp_0 hd rfl) (k148 E (dp_n hd rfl) H (-1) (by omega)) ?_
    intro v22 M23 q27
    obtain ⟨H24, f25, q26⟩ := q27
    have f28 := f0.tr (f25.up rfl)
    have hp29 := h1.fr f25 (by decide)
    have hp30 := h2.fr f25 (by decide)
    have kf := f25
    exact r_iretI D152_14 rfl (⟨H24, f28, hp29, hp30, by omega, by omega, by omega, by omega, fun h => by exfalso; omega, fun _ j => kf.g rfl⟩)
