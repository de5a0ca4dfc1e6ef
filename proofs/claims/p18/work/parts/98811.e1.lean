
set_option maxRecDepth 4000 in
theorem k135e {base : Nat} {X : Nat → Option mC} {G : Nat → Value} (E : EnvOK base X G) {d : Nat} (hd : 0 ≤ d) {M : mH} (H : HI base M) : sOk base X G d T135 [vR 0] M (pI (fun v M' => HI base M' ∧ Fr [(0, 4)] M M' ∧ (0 ≤ v ∧ v ≤ 400) ∧ (v = gi M 0 3) ∧ (gi M' 0 3 = 0))) := by
  have f0 : Fr [(0, 4)] M M := Fr.rf
  refine sOk.of (show sRn base X G d T135 0 [(0, vR 0)] [] M _ from ?_)
  refine s_blx (lv' := [(0, vR 0)]) (st' := [vR 0]) B135_0_1 rfl ?_
  refine r_gint (ki := 3) (pc' := 4) D135_1 rfl gf_10_24_0 rfl H.1 ?_
  intro w1 e2 r3
  have b_w1 := H.2 0 (3) 0 400 rfl
  rw [← e2] at b_w1; clear r3
  refine s_blx (lv' := [(1, vI w1), (0, vR 0)]) (st' := [vI 0, vR 0]) B135_4_7 rfl ?_
  refine r_pint (ki := 3) (pc' := 10) D135_7 rfl pf_10_24_0 rfl H (by unfold inR; omega) (show 0 ≤ 0 ∧ 0 ≤ 400 by omega) ?_
  intro M4 u5 H6 p7
  have f8 := f0.wr u5 rfl
  refine s_blx (lv' := [(1, vI w1), (0, vR 0)]) (st' := [vI w1]) B135_10_11 rfl ?_
  have g9 : gi M4 0 3 = 0 := p7
  exact r_iretI D135_11 rfl (⟨H6, f8, by omega, by omega, by omega⟩)
set_option maxRecDepth 4000 in
theorem k110e {base : Nat} {X : Nat → Option mC} {G : Nat → Value} (E : EnvOK base X G) {d : Nat} (hd : 1 ≤ d) {M : mH} (H : HI base M) (a : Int) (b : Int) (c : Int) (d_ : Int) (e : Int) (h0 : -2147483648 ≤ a ∧ a ≤ 2147483647) (h1 : -2147483648 ≤ b ∧ b ≤ 2147483647) (h2 : -2147483648 ≤ c ∧ c ≤ 2147483647) (h3 : -2147483648 ≤ d_ ∧ d_ ≤ 2147483647) (h4 : -2147483648 ≤ e ∧ e ≤ 2147483647) : sOk base X G d T110 [vR 0, vI a, vI b, vI c, vI d_, vI e] M (pI (fun v M' => HI base M' ∧ Fr [(0, 4), (13, 0)] M M' ∧ (-2147483648 ≤ v ∧ v ≤ 2147483647) ∧ (gi M 0 3 ≤ 380 → v = gi M 0 3 + 20 ∧ gi M' 0 3 = gi M 0 3 + 20) ∧ (380 < gi M 0 3 → v = -1 ∧ gi M' 0 3 = gi M 0 3))) := by
  have f0 : Fr [(0, 4), (13, 0)] M M := Fr.rf
  refine sOk.of (show sRn base X G d T110 0 [(0, vR 0), (1, vI a), (2, vI b), (3, vI c), (4, vI d_), (5, vI e)] [] M _ from ?_)
  refine s_blx (lv' := [(0, vR 0), (1, vI a), (2, vI b), (3, vI c), (4, vI d_), (5, vI e)]) (st' := [vR 0]) B110_0_1 rfl ?_
  refine r_gint (ki := 3) (pc' := 4) D110_1 rfl gf_10_24_0 rfl H.1 ?_
  intro w1 e2 r3
  have b_w1 := H.2 0 (3) 0 400 rfl
  rw [← e2] at b_w1; clear r3
  refine s_blx (lv' := [(0, vR 0), (1, vI a), (2, vI b), (3, vI c), (4, vI d_), (5, vI e)]) (st' := [vI 400, vI (w1 + 20)]) B110_4_10 rfl ?_
  refine r_icmp (tgt := 15) (pc' := 13) D110_10 rfl rfl (by unfold inR; omega) (fun (c4 : (w1 + 20) ≤ 400) => ?_) (fun (c4 : ¬ ((w1 + 20) ≤ 400)) => ?_)
  · refine s_blx (lv' := [(0, vR 0), (1, vI a), (2, vI b), (3, vI c), (4, vI d_), (5, vI e)]) (st' := [vI a, vR 0]) B110_15_17 rfl ?_
    have g5 : gi M 0 3 = w1 := e2.symm
    refine r_vV (c := 0) (args := [vI a]) (rest := []) (pc' := 20) D110_17 rfl ck_10_virtual_233 TE136 rfl (Nat.le_of_ble_eq_true rfl) ⟨Nat.le_of_ble_eq_true rfl, Nat.le_of_ble_eq_true rfl⟩ sc_0 ⟨rfl, by decide⟩ H.1 (dp_0 hd rfl) (k136 E (dp_n hd rfl) H a (by omega) (by omega)) ?_
    intro M7 q11
    obtain ⟨H8, f9, q10⟩ := q11
    have f12 := f0.tr (f9.up rfl)
    refine s_blx (lv' := [(0, vR 0), (1, vI a), (2, vI b), (3, vI c), (4, vI d_), (5, vI e)]) (st' := [vI b, vR 0]) B110_20_22 rfl ?_
    refine r_vV (c := 0) (args := [vI b]) (rest := []) (pc' := 25) D110_22 rfl ck_10_virtual_233 TE136 rfl (Nat.le_of_ble_eq_true rfl) ⟨Nat.le_of_ble_eq_true rfl, Nat.le_of_ble_eq_true rfl⟩ sc_0 ⟨rfl, by decide⟩ H8.1 (dp_0 hd rfl) (k136 E (dp_n hd rfl) H8 b (by omega) (by omega)) ?_
    intro M14 q18
    obtain ⟨H15, f16, q17⟩ := q18
    have f19 := f12.tr (f16.up rfl)
    refine s_blx (lv' := [(0, vR 0), (1, vI a), (2, vI b), (3, vI c), (4, vI d_), (5, vI e)]) (st' := [vI c, vR 0]) B110_25_27 rfl ?_
    refine r_vV (c := 0) (args := [vI c]) (rest := []) (pc' := 30) D110_27 rfl ck_10_virtual_233 TE136 rfl (Nat.le_of_ble_eq_true rfl) ⟨Nat.le_of_ble_eq_true rfl, Nat.le_of_ble_eq_true rfl⟩ sc_0 ⟨rfl, by decide⟩ H15.1 (dp_0 hd rfl) (k136 E (dp_n hd rfl) H15 c (by omega) (by omega)) ?_
    intro M21 q25
    obtain ⟨H22, f23, q24⟩ := q25
    have f26 := f19.tr (f23.up rfl)
    refine s_blx (lv' := [(0, vR 0), (1, vI a), (2, vI b), (3, vI c), (4, vI d_), (5, vI e)]) (st' := [vI d_, vR 0]) B110_30_33 rfl ?_
    refine r_vV (c := 0) (args := [vI d_]) (rest := []) (pc' := 36) D110_33 rfl ck_10_virtual_233 TE136 rfl (Nat.le_of_ble_eq_true rfl) ⟨Nat.le_of_ble_eq_true rfl, Nat.le_of_ble_eq_true rfl⟩ sc_0 ⟨rfl, by decide⟩ H22.1 (dp_0 hd rfl) (k136 E (dp_n hd rfl) H22 d_ (by omega) (by omega)) ?_
    intro M28 q32
    obtain ⟨H29, f30, q31⟩ := q32
    have f33 := f26.tr (f30.up rfl)
    refine s_blx (lv' := [(0, vR 0), (1, vI a), (2, vI b), (3, vI c), (4, vI d_), (5, vI e)]) (st' := [vI e, vR 0]) B110_36_39 rfl ?_
    refine r_vV (c := 0) (args := [vI e]) (rest := []) (pc' := 42) D110_39 rfl ck_10_virtual_233 TE136 rfl (Nat.le_of_ble_eq_true rfl) ⟨Nat.le_of_ble_eq_true rfl, Nat.le_of_ble_eq_true rfl⟩ sc_0 ⟨rfl, by decide⟩ H29.1 (dp_0 hd rfl) (k136 E (dp_n hd rfl) H29 e (by omega) (by omega)) ?_
    intro M35 q39
    obtain ⟨H36, f37, q38⟩ := q39
    have f40 := f33.tr (f37.up rfl)
    refine s_blx (lv' := [(0, vR 0), (1, vI a), (2, vI b), (3, vI c), (4, vI d_), (5, vI e)]) (st' := [vR 0]) B110_42_43 rfl ?_
    refine r_gint (ki := 3) (pc' := 46) D110_43 rfl gf_10_24_0 rfl H36.1 ?_
    intro w41 e42 r43
    have b_w41 := H36.2 0 (3) 0 400 rfl
    rw [← e42] at b_w41; clear r43
    have g44 : gi M35 0 3 = w41 := e42.symm
    exact r_iretI D110_46 rfl (⟨H36, f40, by omega, by omega, by omega⟩)
  · refine s_blx (lv' := [(0, vR 0), (1, vI a), (2, vI b), (3, vI c), (4, vI d_), (5, vI e)]) (st' := [vI (-1)]) B110_13_14 rfl ?_
    have g45 : gi M 0 3 = w1 := e2.symm
    exact r_iretI D110_14 rfl (⟨H, f0, by omega, by omega, by omega⟩)
set_option maxRecDepth 4000 in
theorem k111e {base : Nat} {X : Nat → Option mC} {G : Nat → Value} (E : EnvOK base X G) {d : Nat} (hd : 1 ≤ d) {M : mH} (H : HI base M) (n : Int) (h0 : -2147483648 ≤ n ∧ n ≤ 2147483647) : sOk base X G d T111 [vR 0, vI n] M (pI (fun v M' => HI base M' ∧ Fr [(0, 4)] M M' ∧ (-2147483648 ≤ v ∧ v ≤ 2147483647) ∧ (0 ≤ n ∧ n ≤ gi M 0 3 → v = n ∧ gi M' 0 3 = n) ∧ (n < 0 ∨ gi M 0 3 < n → v = -1 ∧ gi M' 0 3 = gi M 0 3))) := by
  have f0 : Fr [(0, 4)] M M := Fr.rf
  refine sOk.of (show sRn base X G d T111 0 [(0, vR 0), (1, vI n)] [] M _ from ?_)
  refine s_blx (lv' := [(0, vR 0), (1, vI n)]) (st' := [vR 0, vI 0, vI n]) B111_0_3 rfl ?_
  refine r_gint (ki := 3) (pc' := 6) D111_3 rfl gf_10_24_0 rfl H.1 ?_
  intro w1 e2 r3
  have b_w1 := H.2 0 (3) 0 400 rfl
  rw [← e2] at b_w1; clear r3
  refine r_sIp (args := [vI n, vI 0, vI w1]) (rest := []) (pc' := 9) D111_6 rfl ck_10_static_102 TE142 rfl (Nat.le_of_ble_eq_true rfl) ⟨Nat.le_of_ble_eq_true rfl, Nat.le_of_ble_eq_true rfl⟩ (by decide) (dp_0 hd rfl) (k142 E (dp_n hd rfl) H n 0 w1 (by omega) (by omega) (by omega)) ?_
  intro v4 q9
  obtain ⟨q6, q7, q8⟩ := q9
  refine r_ifc (tgt := 14) (pc' := 12) D111_9 rfl rfl (by unfold inR; omega) (fun (c10 : v4 ≠ 0) => ?_) (fun (c10 : ¬ (v4 ≠ 0)) => ?_)
  · refine s_blx (lv' := [(0, vR 0), (1, vI n)]) (st' := [vI n, vR 0]) B111_14_16 rfl ?_
    refine r_pint (ki := 3) (pc' := 19) D111_16 rfl pf_10_24_0 rfl H (by unfold inR; omega) (show 0 ≤ n ∧ n ≤ 400 by omega) ?_
    intro M11 u12 H13 p14
    have f15 := f0.wr u12 rfl
    refine s_blx (lv' := [(0, vR 0), (1, vI n)]) (st' := [vI n]) B111_19_20 rfl ?_
    have g16 : gi M11 0 3 = n := p14
    exact r_iretI D111_20 rfl (⟨H13, f15, by omega, by omega, by omega⟩)
  · refine s_blx (lv' := [(0, vR 0), (1, vI n)]) (st' := [vI (-1)]) B111_12_13 rfl ?_
    have g17 : gi M 0 3 = w1 := e2.symm
    exact r_iretI D111_13 rfl (⟨H, f0, by omega, by omega, by omega⟩)
set_option maxRecDepth 4000 in
theorem k101e {base : Nat} {X : Nat → Option mC} {G : Nat → Value} (E : EnvOK base X G) {d : Nat} (hd : 2 ≤ d) {M : mH} (H : HI base M) (a : Int) (b : Int) (c : Int) (h0 : -2147483648 ≤ a ∧ a ≤ 2147483647) (h1 : -2147483648 ≤ b ∧ b ≤ 2147483647) (h2 : -2147483648 ≤ c ∧ c ≤ 2147483647) : sOk base X G d T101 [vR 0, vI a, vI b, vI c] M (pI (fun v M' => HI base M' ∧ Fr [(0, 4), (0, 6), (0, 10), (1, 11), (5, 0), (6, 0), (7, 0), (8, 0)] M M' ∧ (-2147483648 ≤ v ∧ v ≤ 2147483647) ∧ (gi M' 0 9 = 1 ∨ gi M' 0 9 = gi M 0 9) ∧ (gi M' 0 3 = 0))) := by
  have f0 : Fr [(0, 4), (0, 6), (0, 10), (1, 11), (5, 0), (6, 0), (7, 0), (8, 0)] M M := Fr.rf
  refine sOk.of (show sRn base X G d T101 0 [(0, vR 0), (1, vI a), (2, vI b), (3, vI c)] [] M _ from ?_)
  refine s_blx (lv' := [(0, vR 0), (1, vI a), (2, vI b), (3, vI c)]) (st' := [vR 0]) B101_0_1 rfl ?_
  refine r_vI (c := 0) (args := []) (rest := []) (pc' := 4) D101_1 rfl ck_10_virtual_149 TE135 rfl (Nat.le_of_ble_eq_true rfl) ⟨Nat.le_of_ble_eq_true rfl, Nat.le_of_ble_eq_true rfl⟩ sc_0 ⟨rfl, by decide⟩ H.1 (dp_0 hd rfl) (k135e E (dp_n hd rfl) H ) ?_
  intro v1 M2 q8
  obtain ⟨H3, f4, q5, q6, q7⟩ := q8
  have f9 := f0.tr (f4.up rfl)
  refine s_blx (lv' := [(4, vI v1), (0, vR 0), (1, vI a), (2, vI b), (3, vI c)]) (st' := [vI a]) B101_4_7 rfl ?_
  refine r_sIp (args := [vI a]) (rest := []) (pc' := 10) D101_7 rfl ck_10_static_153 TE144 rfl (Nat.le_of_ble_eq_true rfl) ⟨Nat.le_of_ble_eq_true rfl, Nat.le_of_ble_eq_true rfl⟩ (by decide) (dp_0 hd rfl) (k144 E (dp_n hd rfl) H3 a (by omega)) ?_
  intro v10 q14
  obtain ⟨q12, q13⟩ := q14
  refine r_ifc (tgt := 27) (pc' := 13) D101_10 rfl rfl (by unfold inR; omega) (fun (c15 : v10 = 0) => ?_) (fun (c15 : ¬ (v10 = 0)) => ?_)
  · refine s_blx (lv' := [(4, vI v1), (0, vR 0), (1, vI a), (2, vI b), (3, vI c)]) (st' := [vI (-1), vR 0]) B101_27_29 rfl ?_
    refine r_vI (c := 0) (args := [vI (-1)]) (rest := []) (pc' := 32) D101_29 rfl ck_10_virtual_106 TE133 rfl (Nat.le_of_ble_eq_true rfl) ⟨Nat.le_of_ble_eq_true rfl, Nat.le_of_ble_eq_true rfl⟩ sc_0 ⟨rfl, by decide⟩ H3.1 (dp_0 hd rfl) (k133 E (dp_n hd rfl) H3 (-1) (by omega)) ?_
    intro v16 M17 q21
    obtain ⟨H18, f19, q20⟩ := q21
    have f22 := f9.tr (f19.up rfl)
    have g23 : gi M17 0 9 = gi M 0 9 := (f19.g rfl).trans ((f4.g rfl).trans (rfl))
    have g24 : gi M17 0 3 = 0 := (f19.g rfl).trans (q7)
    exact r_iretI D101_32 rfl (⟨H18, f22, by omega, by first | (rw [g23]; omega) | rw [g23], by first | (rw [g24]; omega) | rw [g24]⟩)
  · refine s_blx (lv' := [(4, vI v1), (0, vR 0), (1, vI a), (2, vI b), (3, vI c)]) (st' := [vI b]) B101_13_14 rfl ?_
    refine r_sIp (args := [vI b]) (rest := []) (pc' := 17) D101_14 rfl ck_10_static_153 TE144 rfl (Nat.le_of_ble_eq_true rfl) ⟨Nat.le_of_ble_eq_true rfl, Nat.le_of_ble_eq_true rfl⟩ (by decide) (dp_0 hd rfl) (k144 E (dp_n hd rfl) H3 b (by omega)) ?_
    intro v25 q29
    obtain ⟨q27, q28⟩ := q29
    refine r_ifc (tgt := 27) (pc' := 20) D101_17 rfl rfl (by unfold inR; omega) (fun (c30 : v25 = 0) => ?_) (fun (c30 : ¬ (v25 = 0)) => ?_)
    · refine s_blx (lv' := [(4, vI v1), (0, vR 0), (1, vI a), (2, vI b), (3, vI c)]) (st' := [vI (-1), vR 0]) B101_27_29 rfl ?_
      refine r_vI (c := 0) (args := [vI (-1)]) (rest := []) (pc' := 32) D101_29 rfl ck_10_virtual_106 TE133 rfl (Nat.le_of_ble_eq_true rfl) ⟨Nat.le_of_ble_eq_true rfl, Nat.le_of_ble_eq_true rfl⟩ sc_0 ⟨rfl, by decide⟩ H3.1 (dp_0 hd rfl) (k133 E (dp_n hd rfl) H3 (-1) (by omega)) ?_
      intro v31 M32 q36
      obtain ⟨H33, f34, q35⟩ := q36
      have f37 := f9.tr (f34.up rfl)
      have g38 : gi M32 0 9 = gi M 0 9 := (f34.g rfl).trans ((f4.g rfl).trans (rfl))
      have g39 : gi M32 0 3 = 0 := (f34.g rfl).trans (q7)
      exact r_iretI D101_32 rfl (⟨H33, f37, by omega, by first | (rw [g38]; omega) | rw [g38], by first | (rw [g39]; omega) | rw [g39]⟩)
    · refine s_blx (lv' := [(4, vI v1), (0, vR 0), (1, vI a), (2, vI b), (3, vI c)]) (st' := [vI c]) B101_20_21 rfl ?_
      refine r_sIp (args := [vI c]) (rest := []) (pc' := 24) D101_21 rfl ck_10_static_153 TE144 rfl (Nat.le_of_ble_eq_true rfl) ⟨Nat.le_of_ble_eq_true rfl, Nat.le_of_ble_eq_true rfl⟩ (by decide) (dp_0 hd rfl) (k144 E (dp_n hd rfl) H3 c (by omega)) ?_
      intro v40 q44
      obtain ⟨q42, q43⟩ := q44
      refine r_ifc (tgt := 33) (pc' := 27) D101_24 rfl rfl (by unfold inR; omega) (fun (c45 : v40 ≠ 0) => ?_) (fun (c45 : ¬ (v40 ≠ 0)) => ?_)
      · refine s_blx (lv' := [(4, vI v1), (0, vR 0), (1, vI a), (2, vI b), (3, vI c)]) (st' := [vI v1, vR 0]) B101_33_36 rfl ?_
        refine r_vIp (c := 0) (args := [vI v1]) (rest := []) (pc' := 39) D101_36 rfl ck_10_virtual_156 TE137 rfl (Nat.le_of_ble_eq_true rfl) ⟨Nat.le_of_ble_eq_true rfl, Nat.le_of_ble_eq_true rfl⟩ sc_0 ⟨rfl, by decide⟩ H3.1 (dp_0 hd rfl) (k137k E (dp_n hd rfl) H3 v1 (by omega)) ?_
        intro v46 q51
        obtain ⟨q48, q49, q50⟩ := q51
        have ktc := q50; clear q50
        refine r_ifc (tgt := 49) (pc' := 42) D101_39 rfl rfl (by unfold inR; omega) (fun (c52 : v46 ≠ 0) => ?_) (fun (c52 : ¬ (v46 ≠ 0)) => ?_)
        · refine s_blx (lv' := [(4, vI v1), (0, vR 0), (1, vI a), (2, vI b), (3, vI c)]) (st' := [vR 0]) B101_49_50 rfl ?_
          refine r_gfix (r := 1) (pc' := 53) D101_50 rfl gf_10_10_0 H3.1 ?_
          refine s_blx (lv' := [(4, vI v1), (0, vR 0), (1, vI a), (2, vI b), (3, vI c)]) (st' := [vR 0, vR 1]) B101_53_54 rfl ?_
          refine r_gfix (r := 13) (pc' := 57) D101_54 rfl gf_10_20_0 H3.1 ?_
          refine s_blx (lv' := [(4, vI v1), (0, vR 0), (1, vI a), (2, vI b), (3, vI c)]) (st' := [vI v1, vR 13, vR 1]) B101_57_59 rfl ?_
          refine r_vIp (c := 1) (args := [vR 13, vI v1]) (rest := []) (pc' := 62) D101_59 rfl ck_10_virtual_159 TE64 rfl (Nat.le_of_ble_eq_true rfl) ⟨Nat.le_of_ble_eq_true rfl, Nat.le_of_ble_eq_true rfl⟩ sc_1 ⟨rfl, by decide⟩ H3.1 (dp_0 hd rfl) (k64_1_13 E (dp_n hd rfl) H3 v1 (by omega)) ?_
          intro v53 q56
          have q55 := q56; clear q56
          refine r_ifc (tgt := 72) (pc' := 65) D101_62 rfl rfl (by unfold inR; omega) (fun (c57 : v53 = 0) => ?_) (fun (c57 : ¬ (v53 = 0)) => ?_)
          · refine s_blx (lv' := [(4, vI v1), (0, vR 0), (1, vI a), (2, vI b), (3, vI c)]) (st' := [vR 0]) B101_72_73 rfl ?_
            refine r_gfix (r := 1) (pc' := 76) D101_73 rfl gf_10_10_0 H3.1 ?_
            refine r_gint (ki := 10) (pc' := 79) D101_76 rfl gf_10_163_1 rfl H3.1 ?_
            intro w58 e59 r60
            have b_w58 := H3.2 1 (10) 0 16 rfl
            rw [← e59] at b_w58; clear r60
            refine s_blx (lv' := [(4, vI v1), (0, vR 0), (1, vI a), (2, vI b), (3, vI c)]) (st' := [vI 16, vI w58]) B101_79_81 rfl ?_
            refine r_icmp (tgt := 91) (pc' := 84) D101_81 rfl rfl (by unfold inR; omega) (fun (c61 : w58 < 16) => ?_) (fun (c61 : ¬ (w58 < 16)) => ?_)
            · refine s_blx (lv' := [(4, vI v1), (0, vR 0), (1, vI a), (2, vI b), (3, vI c)]) (st' := [vR 0]) B101_91_92 rfl ?_
              refine r_gfix (r := 1) (pc' := 95) D101_92 rfl gf_10_10_0 H3.1 ?_
              refine s_blx (lv' := [(4, vI v1), (0, vR 0), (1, vI a), (2, vI b), (3, vI c)]) (st' := [vR 0, vR 1]) B101_95_96 rfl ?_
              refine r_gfix (r := 13) (pc' := 99) D101_96 rfl gf_10_20_0 H3.1 ?_
              refine s_blx (lv' := [(4, vI v1), (0, vR 0), (1, vI a), (2, vI b), (3, vI c)]) (st' := [vI v1, vR 13, vR 1]) B101_99_101 rfl ?_
              have g62 : gi M2 1 10 = w58 := e59.symm
              refine r_vI (c := 1) (args := [vR 13, vI v1]) (rest := []) (pc' := 104) D101_101 rfl ck_10_virtual_166 TE60 rfl (Nat.le_of_ble_eq_true rfl) ⟨Nat.le_of_ble_eq_true rfl, Nat.le_of_ble_eq_true rfl⟩ sc_1 ⟨rfl, by decide⟩ H3.1 (dp_0 hd rfl) (k60_1_13k E (dp_n hd rfl) H3 v1 (ktc (by omega)) (by omega) (by omega)) ?_
              intro v63 M64 q68
              obtain ⟨H65, f66, q67⟩ := q68
              have f69 := f9.tr (f66.up rfl)
              refine s_blx (lv' := [(5, vI v63), (4, vI v1), (0, vR 0), (1, vI a), (2, vI b), (3, vI c)]) (st' := [vR 0]) B101_104_107 rfl ?_
              refine r_gfix (r := 1) (pc' := 110) D101_107 rfl gf_10_10_0 H65.1 ?_
              refine s_blx (lv' := [(5, vI v63), (4, vI v1), (0, vR 0), (1, vI a), (2, vI b), (3, vI c)]) (st' := [vI c, vI b, vI a, vI v63, vR 1]) B101_110_115 rfl ?_
              refine r_vV (c := 1) (args := [vI v63, vI a, vI b, vI c]) (rest := []) (pc' := 118) D101_115 rfl ck_10_virtual_170 TE61 rfl (Nat.le_of_ble_eq_true rfl) ⟨Nat.le_of_ble_eq_true rfl, Nat.le_of_ble_eq_true rfl⟩ sc_1 ⟨rfl, by decide⟩ H65.1 (dp_0 hd rfl) (k61_1 E (dp_n hd rfl) H65 v63 a b c (by omega) (by omega) (by omega) (by omega)) ?_
              intro M71 q74
              obtain ⟨H72, f73⟩ := q74
              have f75 := f69.tr (f73.up rfl)
              refine s_blx (lv' := [(5, vI v63), (4, vI v1), (0, vR 0), (1, vI a), (2, vI b), (3, vI c)]) (st' := [vI v63, vR 0]) B101_118_121 rfl ?_
              refine r_vI (c := 0) (args := [vI v63]) (rest := []) (pc' := 124) D101_121 rfl ck_10_virtual_123 TE134 rfl (Nat.le_of_ble_eq_true rfl) ⟨Nat.le_of_ble_eq_true rfl, Nat.le_of_ble_eq_true rfl⟩ sc_0 ⟨rfl, by decide⟩ H72.1 (dp_0 hd rfl) (k134s E (dp_n hd rfl) H72 v63 (by omega)) ?_
              intro v76 M77 q82
              obtain ⟨H78, f79, q80, q81⟩ := q82
              have f83 := f75.tr (f79.up rfl)
              have g84 : gi M77 0 9 = 1 := q81
              have g85 : gi M77 0 3 = 0 := (f79.g rfl).trans ((f73.g rfl).trans ((f66.g rfl).trans (q7)))
              exact r_iretI D101_124 rfl (⟨H78, f83, by omega, by first | (rw [g84]; omega) | rw [g84], by first | (rw [g85]; omega) | rw [g85]⟩)
            · refine s_blx (lv' := [(4, vI v1), (0, vR 0), (1, vI a), (2, vI b), (3, vI c)]) (st' := [vI (-5), vR 0]) B101_84_87 rfl ?_
              refine r_vI (c := 0) (args := [vI (-5)]) (rest := []) (pc' := 90) D101_87 rfl ck_10_virtual_106 TE133 rfl (Nat.le_of_ble_eq_true rfl) ⟨Nat.le_of_ble_eq_true rfl, Nat.le_of_ble_eq_true rfl⟩ sc_0 ⟨rfl, by decide⟩ H3.1 (dp_0 hd rfl) (k133 E (dp_n hd rfl) H3 (-5) (by omega)) ?_
              intro v86 M87 q91
              obtain ⟨H88, f89, q90⟩ := q91
              have f92 := f9.tr (f89.up rfl)
              have g93 : gi M87 0 9 = gi M 0 9 := (f89.g rfl).trans ((f4.g rfl).trans (rfl))
              have g94 : gi M87 0 3 = 0 := (f89.g rfl).trans (q7)
              exact r_iretI D101_90 rfl (⟨H88, f92, by omega, by first | (rw [g93]; omega) | rw [g93], by first | (rw [g94]; omega) | rw [g94]⟩)
          · refine s_blx (lv' := [(4, vI v1), (0, vR 0), (1, vI a), (2, vI b), (3, vI c)]) (st' := [vI (-4), vR 0]) B101_65_68 rfl ?_
            refine r_vI (c := 0) (args := [vI (-4)]) (rest := []) (pc' := 71) D101_68 rfl ck_10_virtual_106 TE133 rfl (Nat.le_of_ble_eq_true rfl) ⟨Nat.le_of_ble_eq_true rfl, Nat.le_of_ble_eq_true rfl⟩ sc_0 ⟨rfl, by decide⟩ H3.1 (dp_0 hd rfl) (k133 E (dp_n hd rfl) H3 (-4) (by omega)) ?_
            intro v95 M96 q100
            obtain ⟨H97, f98, q99⟩ := q100
            have f101 := f9.tr (f98.up rfl)
            have g102 : gi M96 0 9 = gi M 0 9 := (f98.g rfl).trans ((f4.g rfl).trans (rfl))
            have g103 : gi M96 0 3 = 0 := (f98.g rfl).trans (q7)
            exact r_iretI D101_71 rfl (⟨H97, f101, by omega, by first | (rw [g102]; omega) | rw [g102], by first | (rw [g103]; omega) | rw [g103]⟩)
        · refine s_blx (lv' := [(4, vI v1), (0, vR 0), (1, vI a), (2, vI b), (3, vI c)]) (st' := [vI (-6), vR 0]) B101_42_45 rfl ?_
          refine r_vI (c := 0) (args := [vI (-6)]) (rest := []) (pc' := 48) D101_45 rfl ck_10_virtual_106 TE133 rfl (Nat.le_of_ble_eq_true rfl) ⟨Nat.le_of_ble_eq_true rfl, Nat.le_of_ble_eq_true rfl⟩ sc_0 ⟨rfl, by decide⟩ H3.1 (dp_0 hd rfl) (k133 E (dp_n hd rfl) H3 (-6) (by omega)) ?_
          intro v104 M105 q109
          obtain ⟨H106, f107, q108⟩ := q109
          have f110 := f9.tr (f107.up rfl)
          have g111 : gi M105 0 9 = gi M 0 9 := (f107.g rfl).trans ((f4.g rfl).trans (rfl))
          have g112 : gi M105 0 3 = 0 := (f107.g rfl).trans (q7)
          exact r_iretI D101_48 rfl (⟨H106, f110, by omega, by first | (rw [g111]; omega) | rw [g111], by first | (rw [g112]; omega) | rw [g112]⟩)
      · refine s_blx (lv' := [(4, vI v1), (0, vR 0), (1, vI a), (2, vI b), (3, vI c)]) (st' := [vI (-1), vR 0]) B101_27_29 rfl ?_
        refine r_vI (c := 0) (args := [vI (-1)]) (rest := []) (pc' := 32) D101_29 rfl ck_10_virtual_106 TE133 rfl (Nat.le_of_ble_eq_true rfl) ⟨Nat.le_of_ble_eq_true rfl, Nat.le_of_ble_eq_true rfl⟩ sc_0 ⟨rfl, by decide⟩ H3.1 (dp_0 hd rfl) (k133 E (dp_n hd rfl) H3 (-1) (by omega)) ?_
        intro v113 M114 q118
        obtain ⟨H115, f116, q117⟩ := q118
        have f119 := f9.tr (f116.up rfl)
        have g120 : gi M114 0 9 = gi M 0 9 := (f116.g rfl).trans ((f4.g rfl).trans (rfl))
        have g121 : gi M114 0 3 = 0 := (f116.g rfl).trans (q7)
        exact r_iretI D101_32 rfl (⟨H115, f119, by omega, by first | (rw [g120]; omega) | rw [g120], by first | (rw [g121]; omega) | rw [g121]⟩)
set_option maxRecDepth 4000 in
theorem L_k127e {base : Nat} {X : Nat → Option mC} {G : Nat → Value} (E : EnvOK base X G) {d : Nat} (hd : 7 ≤ d) {M : mH} (H : HI base M) (sentence : Int) (h0 : HB base M) (h1 : SF M) (h2 : -2147483648 ≤ sentence ∧ sentence ≤ 2147483647) : ∀ mz : Nat, (∀ (x2 x3 x4 : Int) (N : mH), HI base N → Fr [(0, 4), (0, 10), (20, 16), (20, 17), (20, 18), (21, 0), (22, 0), (23, 0), (24, 0), (25, 0), (26, 0), (27, 0), (28, 0), (29, 0), (30, 0), (31, 0), (32, 0), (33, 0), (34, 0), (35, 0), (58, 2), (58, 3), (58, 4), (58, 6), (59, 0), (60, 0), (61, 0)] M N → (0 ≤ sentence ∧ sentence ≤ 15) → (SF N) → (gi N 0 3 = 0) → (0 ≤ x2) → (x2 ≤ 400) → ((-2147483648) ≤ x3) → (x3 ≤ 2147483647) → (0 ≤ x4) → (x4 ≤ 8) → (0 ≤ sentence) → (sentence ≤ 15) → (8 - x4) * 1 + 0 < (mz : Int) → sRn base X G d T127 27 [(0, vR 0), (1, vI sentence), (2, vI x2), (3, vI x3), (4, vI x4)] [] N (s_Q base (pI (fun v M' => HI base M' ∧ Fr [(0, 4), (0, 10), (20, 16), (20, 17), (20, 18), (21, 0), (22, 0), (23, 0), (24, 0), (25, 0), (26, 0), (27, 0), (28, 0), (29, 0), (30, 0), (31, 0), (32, 0), (33, 0), (34, 0), (35, 0), (58, 2), (58, 3), (58, 4), (58, 6), (59, 0), (60, 0), (61, 0)] M M' ∧ (-2147483648 ≤ v ∧ v ≤ 2147483647) ∧ (SF M') ∧ (gi M' 0 3 = 0))))) := by
  have f0 : Fr [(0, 4), (0, 10), (20, 16), (20, 17), (20, 18), (21, 0), (22, 0), (23, 0), (24, 0), (25, 0), (26, 0), (27, 0), (28, 0), (29, 0), (30, 0), (31, 0), (32, 0), (33, 0), (34, 0), (35, 0), (58, 2), (58, 3), (58, 4), (58, 6), (59, 0), (60, 0), (61, 0)] M M := Fr.rf
  intro mz
  induction mz with
  | zero => exact fun x2 x3 x4 N _ _ z0 z1 z2 z3 z4 z5 z6 z7 z8 z9 z10 z11 => by omega
  | succ mz ih =>
    intro x2 x3 x4 N HN fN i0 i1 i2 i3 i4 i5 i6 i7 i8 i9 i10 hmu
    refine s_blx (lv' := [(0, vR 0), (1, vI sentence), (2, vI x2), (3, vI x3), (4, vI x4)]) (st' := [vR 0, vI x4]) B127_27_30 rfl ?_
    refine r_gfix (r := 1) (pc' := 33) D127_30 rfl gf_10_10_0 HN.1 ?_
    refine r_gint (ki := 12) (pc' := 36) D127_33 rfl gf_10_237_1 rfl HN.1 ?_
    intro w28 e29 r30
    have b_w28 := HN.2 1 (12) 0 8 rfl
    rw [← e29] at b_w28; clear r30
    refine r_icmp (tgt := 83) (pc' := 39) D127_36 rfl rfl (by unfold inR; omega) (fun (c31 : w28 ≤ x4) => ?_) (fun (c31 : ¬ (w28 ≤ x4)) => ?_)
    · refine s_blx (lv' := [(0, vR 0), (1, vI sentence), (2, vI x2), (3, vI x3), (4, vI x4)]) (st' := [vI x3]) B127_83_84 rfl ?_
      exact r_iretI D127_84 rfl (⟨HN, fN, by omega, i1, by omega⟩)
    · refine s_blx (lv' := [(0, vR 0), (1, vI sentence), (2, vI x2), (3, vI x3), (4, vI x4)]) (st' := [vR 0]) B127_39_40 rfl ?_
      refine r_gfix (r := 58) (pc' := 43) D127_40 rfl gf_10_70_0 HN.1 ?_
      refine s_blx (lv' := [(0, vR 0), (1, vI sentence), (2, vI x2), (3, vI x3), (4, vI x4)]) (st' := [vR 0, vR 58]) B127_43_44 rfl ?_
      refine r_gfix (r := 20) (pc' := 47) D127_44 rfl gf_10_44_0 HN.1 ?_
      refine s_blx (lv' := [(0, vR 0), (1, vI sentence), (2, vI x2), (3, vI x3), (4, vI x4)]) (st' := [vR 0, vR 20, vR 58]) B127_47_48 rfl ?_
      refine r_gfix (r := 1) (pc' := 51) D127_48 rfl gf_10_10_0 HN.1 ?_
      refine r_gfix (r := 9) (pc' := 54) D127_51 rfl gf_10_255_1 HN.1 ?_
      refine s_blx (lv' := [(0, vR 0), (1, vI sentence), (2, vI x2), (3, vI x3), (4, vI x4)]) (st' := [vI x4, vR 9, vR 20, vR 58]) B127_54_56 rfl ?_
      have b39 := HN.2 1 12 0 8 rfl
      have g40 : gi N 1 12 = w28 := e29.symm
      obtain ⟨hb32, nh33, nc34, a35, b36, r37, r38⟩ := ((h0.fr fN rfl)) (x4) (by omega) (by omega)
      refine r_aald (v := vR hb32) (pc' := 57) D127_56 rfl sc_9 (by decide) HN.1 (by omega) a35 ?_
      refine s_blx (lv' := [(0, vR 0), (1, vI sentence), (2, vI x2), (3, vI x3), (4, vI x4)]) (st' := [vI sentence, vR (hb32), vR 20, vR 58]) B127_57_58 rfl ?_
      refine r_vI (c := 58) (args := [vR 20, vR (hb32), vI sentence]) (rest := []) (pc' := 61) D127_58 rfl ck_10_virtual_259 TE1 rfl (Nat.le_of_ble_eq_true rfl) ⟨Nat.le_of_ble_eq_true rfl, Nat.le_of_ble_eq_true rfl⟩ sc_58 ⟨rfl, by decide⟩ HN.1 (dp_0 hd rfl) (k1_58_20x E (dp_n hd rfl) HN hb32 sentence nh33 nc34 (b36) (by omega) (by omega) (by omega)) ?_
      intro v41 M42 q46
      obtain ⟨H43, f44, q45⟩ := q46
      have f47 := fN.tr (f44.up rfl)
      have hp48 := i1.fr f44 (by decide)
      have hp49 := b36.fr f44 (by decide)
      refine s_blx (lv' := [(0, vR 0), (1, vI sentence), (2, vI x2), (3, vI x3), (4, vI x4)]) (st' := [vI x2, vR 0]) B127_61_64 rfl ?_
      refine r_vIp (c := 0) (args := [vI x2]) (rest := []) (pc' := 67) D127_64 rfl ck_10_virtual_325 TE140 rfl (Nat.le_of_ble_eq_true rfl) ⟨Nat.le_of_ble_eq_true rfl, Nat.le_of_ble_eq_true rfl⟩ sc_0 ⟨rfl, by decide⟩ H43.1 (dp_0 hd rfl) (k140 E (dp_n hd rfl) H43 x2 (by omega)) ?_
      intro v50 q53
      have q52 := q53; clear q53
      refine r_ifc (tgt := 77) (pc' := 70) D127_67 rfl rfl (by unfold inR; omega) (fun (c54 : v50 = 0) => ?_) (fun (c54 : ¬ (v50 = 0)) => ?_)
      · refine s_blx (lv' := [(4, vI (x4 + 1)), (0, vR 0), (1, vI sentence), (2, vI x2), (3, vI x3)]) (st' := []) B127_77_80 rfl ?_
        refine r_goto (tgt := 27) D127_80 rfl ?_
        refine r_loc (lv' := [(0, vR 0), (1, vI sentence), (2, vI x2), (3, vI x3), (4, vI (x4 + 1))]) ⟨rfl, rfl, rfl, rfl, rfl, trivial⟩ rfl rfl ?_
        have g55 : gi M42 0 3 = gi N 0 3 := (f44.g rfl).trans (rfl)
        exact ih x2 x3 (x4 + 1) M42 H43 f47 (by omega) (hp48) (by omega) (by omega) (by omega) (by omega) (by omega) (by omega) (by omega) (by omega) (by omega) (by omega)
      · refine s_blx (lv' := [(0, vR 0), (1, vI sentence), (2, vI x2), (3, vI x3), (4, vI x4)]) (st' := [vI x4, vI 1, vI x3]) B127_70_74 rfl ?_
        refine r_bin (pc' := 75) D127_74 rfl rfl ?_
        intro z56 r57 _; unfold inR at r57
        refine r_bin (pc' := 76) D127_75 rfl rfl ?_
        intro z58 r59 _; unfold inR at r59
        refine s_blx (lv' := [(4, vI (x4 + 1)), (3, vI z58), (0, vR 0), (1, vI sentence), (2, vI x2)]) (st' := []) B127_76_80 rfl ?_
        refine r_goto (tgt := 27) D127_80 rfl ?_
        refine r_loc (lv' := [(0, vR 0), (1, vI sentence), (2, vI x2), (3, vI z58), (4, vI (x4 + 1))]) ⟨rfl, rfl, rfl, rfl, rfl, trivial⟩ rfl rfl ?_
        have g60 : gi M42 0 3 = gi N 0 3 := (f44.g rfl).trans (rfl)
        exact ih x2 z58 (x4 + 1) M42 H43 f47 (by omega) (hp48) (by omega) (by omega) (by omega) (by omega) (by omega) (by omega) (by omega) (by omega) (by omega) (by omega)
set_option maxRecDepth 4000 in
theorem k127e {base : Nat} {X : Nat → Option mC} {G : Nat → Value} (E : EnvOK base X G) {d : Nat} (hd : 7 ≤ d) {M : mH} (H : HI base M) (sentence : Int) (h0 : HB base M) (h1 : SF M) (h2 : -2147483648 ≤ sentence ∧ sentence ≤ 2147483647) : sOk base X G d T127 [vR 0, vI sentence] M (pI (fun v M' => HI base M' ∧ Fr [(0, 4), (0, 10), (20, 16), (20, 17), (20, 18), (21, 0), (22, 0), (23, 0), (24, 0), (25, 0), (26, 0), (27, 0), (28, 0), (29, 0), (30, 0), (31, 0), (32, 0), (33, 0), (34, 0), (35, 0), (58, 2), (58, 3), (58, 4), (58, 6), (59, 0), (60, 0), (61, 0)] M M' ∧ (-2147483648 ≤ v ∧ v ≤ 2147483647) ∧ (SF M') ∧ (gi M' 0 3 = 0))) := by
  have f0 : Fr [(0, 4), (0, 10), (20, 16), (20, 17), (20, 18), (21, 0), (22, 0), (23, 0), (24, 0), (25, 0), (26, 0), (27, 0), (28, 0), (29, 0), (30, 0), (31, 0), (32, 0), (33, 0), (34, 0), (35, 0), (58, 2), (58, 3), (58, 4), (58, 6), (59, 0), (60, 0), (61, 0)] M M := Fr.rf
  refine sOk.of (show sRn base X G d T127 0 [(0, vR 0), (1, vI sentence)] [] M _ from ?_)
  refine s_blx (lv' := [(0, vR 0), (1, vI sentence)]) (st' := [vR 0]) B127_0_1 rfl ?_
  refine r_vI (c := 0) (args := []) (rest := []) (pc' := 4) D127_1 rfl ck_10_virtual_149 TE135 rfl (Nat.le_of_ble_eq_true rfl) ⟨Nat.le_of_ble_eq_true rfl, Nat.le_of_ble_eq_true rfl⟩ sc_0 ⟨rfl, by decide⟩ H.1 (dp_0 hd rfl) (k135e E (dp_n hd rfl) H ) ?_
  intro v1 M2 q8
  obtain ⟨H3, f4, q5, q6, q7⟩ := q8
  have f9 := f0.tr (f4.up rfl)
  have hp10 := h1.fr f4 (by decide)
  refine s_blx (lv' := [(2, vI v1), (0, vR 0), (1, vI sentence)]) (st' := [vR 0]) B127_4_6 rfl ?_
  refine r_gfix (r := 1) (pc' := 9) D127_6 rfl gf_10_10_0 H3.1 ?_
  refine s_blx (lv' := [(2, vI v1), (0, vR 0), (1, vI sentence)]) (st' := [vI sentence, vR 1]) B127_9_10 rfl ?_
  refine r_vIp (c := 1) (args := [vI sentence]) (rest := []) (pc' := 13) D127_10 rfl ck_10_virtual_186 TE67 rfl (Nat.le_of_ble_eq_true rfl) ⟨Nat.le_of_ble_eq_true rfl, Nat.le_of_ble_eq_true rfl⟩ sc_1 ⟨rfl, by decide⟩ H3.1 (dp_0 hd rfl) (k67_1x E (dp_n hd rfl) H3 sentence (by omega)) ?_
  intro v11 q17
  obtain ⟨q13, q14, q15, q16⟩ := q17
  refine r_ifc (tgt := 18) (pc' := 16) D127_13 rfl rfl (by unfold inR; omega) (fun (c18 : v11 ≠ 0) => ?_) (fun (c18 : ¬ (v11 ≠ 0)) => ?_)
  · refine s_blx (lv' := [(2, vI v1), (0, vR 0), (1, vI sentence)]) (st' := [vR 0]) B127_18_19 rfl ?_
    refine r_vV (c := 0) (args := []) (rest := []) (pc' := 22) D127_19 rfl ck_10_virtual_252 TE138 rfl (Nat.le_of_ble_eq_true rfl) ⟨Nat.le_of_ble_eq_true rfl, Nat.le_of_ble_eq_true rfl⟩ sc_0 ⟨rfl, by decide⟩ H3.1 (dp_0 hd rfl) (k138s E (dp_n hd rfl) H3 (hp10)) ?_
    intro M20 q24
    obtain ⟨H21, f22, q23⟩ := q24
    have f25 := f9.tr (f22.up rfl)
    have ktg : TGd M20 := q23
    have ksf : SF M20 := fun _ => ktg
    refine s_blx (lv' := [(4, vI 0), (3, vI 0), (2, vI v1), (0, vR 0), (1, vI sentence)]) (st' := []) B127_22_27 rfl ?_
    refine r_loc (lv' := [(0, vR 0), (1, vI sentence), (2, vI v1), (3, vI 0), (4, vI 0)]) ⟨rfl, rfl, rfl, rfl, rfl, trivial⟩ rfl rfl ?_
    have g26 : gi M20 0 3 = 0 := (f22.g rfl).trans (q7)
    exact (L_k127e E hd H sentence h0 h1 h2 (((8 - 0) * 1 + 0 : Int) + 1).toNat) v1 0 0 M20 H21 f25 (by omega) (ksf) (by omega) (by omega) (by omega) (by omega) (by omega) (by omega) (by omega) (by omega) (by omega) (by omega)
  · refine s_blx (lv' := [(2, vI v1), (0, vR 0), (1, vI sentence)]) (st' := [vI (-1)]) B127_16_17 rfl ?_
    have g27 : gi M2 0 3 = 0 := q7
    exact r_iretI D127_17 rfl (⟨H3, f9, by omega, hp10, by first | (rw [g27]; omega) | rw [g27]⟩)
