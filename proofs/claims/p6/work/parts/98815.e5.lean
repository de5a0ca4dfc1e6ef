
set_option maxRecDepth 4000 in
theorem k211e {base : Nat} {X : Nat → Option mC} {G : Nat → Value} (E : EnvOK base X G) {d : Nat} (hd : 1 ≤ d) {M : mH} (H : HI base M) (n : Int) (h0 : -2147483648 ≤ n ∧ n ≤ 2147483647) : sOk base X G d T211 [vR 77, vI n] M (pI (fun v M' => HI base M' ∧ Fr [(77, 32)] M M' ∧ (-2147483648 ≤ v ∧ v ≤ 2147483647) ∧ (0 ≤ n ∧ n ≤ gi M 77 31 → v = n ∧ gi M' 77 31 = n) ∧ (n < 0 ∨ gi M 77 31 < n → v = -1 ∧ gi M' 77 31 = gi M 77 31))) := by
  have f0 : Fr [(77, 32)] M M := Fr.rf
  refine sOk.of (show sRn base X G d T211 0 [(0, vR 77), (1, vI n)] [] M _ from ?_)
  refine s_blx (lv' := [(0, vR 77), (1, vI n)]) (st' := [vR 77, vI 0, vI n]) B211_0_3 rfl ?_
  refine r_gint (ki := 31) (pc' := 6) D211_3 rfl gf_11_151_77 rfl H.1 ?_
  intro w1 e2 r3
  have b_w1 := H.2 77 (31) 0 400 rfl
  rw [← e2] at b_w1; clear r3
  refine r_sIp (args := [vI n, vI 0, vI w1]) (rest := []) (pc' := 9) D211_6 rfl ck_11_static_123 TE147 rfl (Nat.le_of_ble_eq_true rfl) ⟨Nat.le_of_ble_eq_true rfl, Nat.le_of_ble_eq_true rfl⟩ (by decide) (dp_0 hd rfl) (k147 E (dp_n hd rfl) H n 0 w1 (by omega) (by omega) (by omega)) ?_
  intro v4 q9
  obtain ⟨q6, q7, q8⟩ := q9
  refine r_ifc (tgt := 14) (pc' := 12) D211_9 rfl rfl (by unfold inR; omega) (fun (c10 : v4 ≠ 0) => ?_) (fun (c10 : ¬ (v4 ≠ 0)) => ?_)
  · refine s_blx (lv' := [(0, vR 77), (1, vI n)]) (st' := [vI n, vR 77]) B211_14_16 rfl ?_
    refine r_pint (ki := 31) (pc' := 19) D211_16 rfl pf_11_151_77 rfl H (by unfold inR; omega) (show 0 ≤ n ∧ n ≤ 400 by omega) ?_
    intro M11 u12 H13 p14
    have f15 := f0.wr u12 rfl
    refine s_blx (lv' := [(0, vR 77), (1, vI n)]) (st' := [vI n]) B211_19_20 rfl ?_
    have g16 : gi M11 77 31 = n := p14
    exact r_iretI D211_20 rfl (⟨H13, f15, by omega, by omega, by omega⟩)
  · refine s_blx (lv' := [(0, vR 77), (1, vI n)]) (st' := [vI (-1)]) B211_12_13 rfl ?_
    have g17 : gi M 77 31 = w1 := e2.symm
    exact r_iretI D211_13 rfl (⟨H, f0, by omega, by omega, by omega⟩)
