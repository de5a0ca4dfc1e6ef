set_option maxRecDepth 4000 in
theorem k110n {base : Nat} {X : Nat → Option mC} {G : Nat → Value} (E : EnvOK base X G) {d : Nat} (hd : 1 ≤ d) {M : mH} (H : HI base M) (a : Int) (b : Int) (c : Int) (d_ : Int) (e : Int) (h0 : -2147483648 ≤ a ∧ a ≤ 2147483647) (h1 : -2147483648 ≤ b ∧ b ≤ 2147483647) (h2 : -2147483648 ≤ c ∧ c ≤ 2147483647) (h3 : -2147483648 ≤ d_ ∧ d_ ≤ 2147483647) (h4 : -2147483648 ≤ e ∧ e ≤ 2147483647) : sOk base X G d T110 [vR 0, vI a, vI b, vI c, vI d_, vI e] M (pI (fun v M' => HI base M' ∧ Fr [(0, 4), (13, 0)] M M' ∧ (-2147483648 ≤ v ∧ v ≤ 2147483647) ∧ (gi M 0 3 ≤ 380 → v = gi M 0 3 + 20 ∧ gi M' 0 3 = gi M 0 3 + 20) ∧ (380 < gi M 0 3 → v = -1 ∧ gi M' 0 3 = gi M 0 3) ∧ (gi M 0 3 ≤ 380 → ∀ i : Int, 0 ≤ i → gi M' 13 i = fdN (gi M 13) (gi M 0 3) a b c d_ e 20 i) ∧ (380 < gi M 0 3 → Fr [(0, 4)] M M'))) := by
  have f0 : Fr [(0, 4), (13, 0)] M M := Fr.rf
  refine sOk.of (show sRn base X G d T110 0 [(0, vR 0), (1, vI a), (2, vI b), (3, vI c), (4, vI d_), (5, vI e)] [] M _ from ?_)
  refine s_blx (lv' := [(0, vR 0), (1, vI a), (2, vI b), (3, vI c), (4, vI d_), (5, vI e)]) (st' := [vR 0]) B110_0_1 rfl ?_
  refine r_gint (ki := 3) (pc' := 4) D110_1 rfl gf_10_24_0 rfl H.1 ?_
  intro w1 e2 r3
  have b_w1 := H.2 0 (3) 0 400 rfl
  rw [← e2] at b_w1; clear r3
  refine s_blx (lv' := [(0, vR 0), (1, vI a), (2, vI b), (3, vI c), (4, vI d_), (5, vI e)]) (st' := [vI 400, vI (w1 + 20)]) B110_4_10 rfl ?_
  refine r_icmp (tgt := 15) (pc' := 13) D110_10 rfl rfl (by unfold inR; omega) (fun (c4 : (w1 + 20) ≤ 400) => ?_) (fun (c4 : ¬ ((w1 + 20) ≤ 400)) => ?_)
  · refine s_blx (lv' := [(0, vR 0), (1, vI a), (2, vI b), (3, vI c), (4, vI d_), (5, vI e)]) (st' := [vI a, vR 0]) B110_15_17 rfl ?_
    have g5 : gi M 0 3 = w1 := e2.symm
    refine r_vV (c := 0) (args := [vI a]) (rest := []) (pc' := 20) D110_17 rfl ck_10_virtual_233 TE136 rfl (Nat.le_of_ble_eq_true rfl) ⟨Nat.le_of_ble_eq_true rfl, Nat.le_of_ble_eq_true rfl⟩ sc_0 ⟨rfl, by decide⟩ H.1 (dp_0 hd rfl) (k136n E (dp_n hd rfl) H a (by omega) (by omega)) ?_
    intro M7 q12
    obtain ⟨H8, f9, q10, q11⟩ := q12
    have f13 := f0.tr (f9.up rfl)
    have k1 := q11
    have t1 := q10
    refine s_blx (lv' := [(0, vR 0), (1, vI a), (2, vI b), (3, vI c), (4, vI d_), (5, vI e)]) (st' := [vI b, vR 0]) B110_20_22 rfl ?_
    refine r_vV (c := 0) (args := [vI b]) (rest := []) (pc' := 25) D110_22 rfl ck_10_virtual_233 TE136 rfl (Nat.le_of_ble_eq_true rfl) ⟨Nat.le_of_ble_eq_true rfl, Nat.le_of_ble_eq_true rfl⟩ sc_0 ⟨rfl, by decide⟩ H8.1 (dp_0 hd rfl) (k136n E (dp_n hd rfl) H8 b (by omega) (by omega)) ?_
    intro M15 q20
    obtain ⟨H16, f17, q18, q19⟩ := q20
    have f21 := f13.tr (f17.up rfl)
    have k2 := q19
    have t2 := q18
    refine s_blx (lv' := [(0, vR 0), (1, vI a), (2, vI b), (3, vI c), (4, vI d_), (5, vI e)]) (st' := [vI c, vR 0]) B110_25_27 rfl ?_
    refine r_vV (c := 0) (args := [vI c]) (rest := []) (pc' := 30) D110_27 rfl ck_10_virtual_233 TE136 rfl (Nat.le_of_ble_eq_true rfl) ⟨Nat.le_of_ble_eq_true rfl, Nat.le_of_ble_eq_true rfl⟩ sc_0 ⟨rfl, by decide⟩ H16.1 (dp_0 hd rfl) (k136n E (dp_n hd rfl) H16 c (by omega) (by omega)) ?_
    intro M23 q28
    obtain ⟨H24, f25, q26, q27⟩ := q28
    have f29 := f21.tr (f25.up rfl)
    have k3 := q27
    have t3 := q26
    refine s_blx (lv' := [(0, vR 0), (1, vI a), (2, vI b), (3, vI c), (4, vI d_), (5, vI e)]) (st' := [vI d_, vR 0]) B110_30_33 rfl ?_
    refine r_vV (c := 0) (args := [vI d_]) (rest := []) (pc' := 36) D110_33 rfl ck_10_virtual_233 TE136 rfl (Nat.le_of_ble_eq_true rfl) ⟨Nat.le_of_ble_eq_true rfl, Nat.le_of_ble_eq_true rfl⟩ sc_0 ⟨rfl, by decide⟩ H24.1 (dp_0 hd rfl) (k136n E (dp_n hd rfl) H24 d_ (by omega) (by omega)) ?_
    intro M31 q36
    obtain ⟨H32, f33, q34, q35⟩ := q36
    have f37 := f29.tr (f33.up rfl)
    have k4 := q35
    have t4 := q34
    refine s_blx (lv' := [(0, vR 0), (1, vI a), (2, vI b), (3, vI c), (4, vI d_), (5, vI e)]) (st' := [vI e, vR 0]) B110_36_39 rfl ?_
    refine r_vV (c := 0) (args := [vI e]) (rest := []) (pc' := 42) D110_39 rfl ck_10_virtual_233 TE136 rfl (Nat.le_of_ble_eq_true rfl) ⟨Nat.le_of_ble_eq_true rfl, Nat.le_of_ble_eq_true rfl⟩ sc_0 ⟨rfl, by decide⟩ H32.1 (dp_0 hd rfl) (k136n E (dp_n hd rfl) H32 e (by omega) (by omega)) ?_
    intro M39 q44
    obtain ⟨H40, f41, q42, q43⟩ := q44
    have f45 := f37.tr (f41.up rfl)
    have k5 := q43
    have t5 := q42
    refine s_blx (lv' := [(0, vR 0), (1, vI a), (2, vI b), (3, vI c), (4, vI d_), (5, vI e)]) (st' := [vR 0]) B110_42_43 rfl ?_
    refine r_gint (ki := 3) (pc' := 46) D110_43 rfl gf_10_24_0 rfl H40.1 ?_
    intro w46 e47 r48
    have b_w46 := H40.2 0 (3) 0 400 rfl
    rw [← e47] at b_w46; clear r48
    have g49 : gi M39 0 3 = w46 := e47.symm
    exact r_iretI D110_46 rfl (⟨H40, f45, by omega, by omega, by omega, fun _ => pu5 k1 (by rw [t1] at k2; rw [show gi M 0 3 + 8 = gi M 0 3 + 4 + 4 by omega]; exact k2) (by rw [t2, t1] at k3; rw [show gi M 0 3 + 8 = gi M 0 3 + 4 + 4 by omega, show gi M 0 3 + 12 = gi M 0 3 + 4 + 4 + 4 by omega]; exact k3) (by rw [t3, t2, t1] at k4; rw [show gi M 0 3 + 12 = gi M 0 3 + 4 + 4 + 4 by omega, show gi M 0 3 + 16 = gi M 0 3 + 4 + 4 + 4 + 4 by omega]; exact k4) (by rw [t4, t3, t2, t1] at k5; rw [show gi M 0 3 + 16 = gi M 0 3 + 4 + 4 + 4 + 4 by omega, show gi M 0 3 + 20 = gi M 0 3 + 4 + 4 + 4 + 4 + 4 by omega]; exact k5), fun h => by exfalso; omega⟩)
  · refine s_blx (lv' := [(0, vR 0), (1, vI a), (2, vI b), (3, vI c), (4, vI d_), (5, vI e)]) (st' := [vI (-1)]) B110_13_14 rfl ?_
    have g50 : gi M 0 3 = w1 := e2.symm
    exact r_iretI D110_14 rfl (⟨H, f0, by omega, by omega, by omega, fun h => by exfalso; omega, fun _ => Fr.rf⟩)
