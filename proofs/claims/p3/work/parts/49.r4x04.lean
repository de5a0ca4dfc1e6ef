set_option maxRecDepth 4000 in
theorem k170x {base : Nat} {X : Nat → Option mC} {G : Nat → Value} (E : EnvOK base X G) {d : Nat} (hd : 1 ≤ d) {M : mH} (H : HI base M) (s : Int) (like : Int) (n : Int) (h0 : 0 ≤ s ∧ s ≤ 15) (h1 : 0 ≤ like ∧ like ≤ 15) (h2 : 0 ≤ n ∧ n ≤ 8) : sOk base X G d T170 [vR 77, vI s, vI like, vI n] M (pI (fun v M' => M' = M ∧ (v = 0 ∨ v = 1) ∧ (like = s → n ≤ gi M 78 (135 + 16 * s) → v = 1) ∧ (v = 1 → n ≤ gi M 78 (135 + 16 * s)))) := by
  refine sOk.of (show sRn base X G d T170 0 [(0, vR 77), (1, vI s), (2, vI like), (3, vI n)] [] M _ from ?_)
  refine s_blx (lv' := [(0, vR 77), (1, vI s), (2, vI like), (3, vI n)]) (st' := [vI s, vR 77]) B170_0_2 rfl ?_
  refine r_vIp (c := 77) (args := [vI s]) (rest := []) (pc' := 5) D170_2 rfl ck_11_virtual_144 TE156 rfl (Nat.le_of_ble_eq_true rfl) ⟨Nat.le_of_ble_eq_true rfl, Nat.le_of_ble_eq_true rfl⟩ sc_77 ⟨rfl, by decide⟩ H.1 (dp_0 hd rfl) (k156x E (dp_n hd rfl) H s (by omega)) ?_
  intro v1 q5
  obtain ⟨q3, q4⟩ := q5
  refine s_blx (lv' := [(0, vR 77), (1, vI s), (2, vI like), (3, vI n)]) (st' := [vI n, vI v1]) B170_5_6 rfl ?_
  refine r_icmp (tgt := 13) (pc' := 9) D170_6 rfl rfl (by unfold inR; omega) (fun (c6 : v1 < n) => ?_) (fun (c6 : ¬ (v1 < n)) => ?_)
  · refine s_blx (lv' := [(5, vI 0), (4, vI 0), (0, vR 77), (1, vI s), (2, vI like), (3, vI n)]) (st' := []) B170_13_19 rfl ?_
    refine r_loc (lv' := [(0, vR 77), (1, vI s), (2, vI like), (3, vI n), (4, vI 0), (5, vI 0)]) ⟨rfl, rfl, rfl, rfl, rfl, rfl, trivial⟩ rfl rfl ?_
    exact (L_k170x E hd H s like n h0 h1 h2 (((8 - 0) * 1 + 0 : Int) + 1).toNat) 0 0 (by omega) (by omega) (by omega) (by omega) (by omega) (by omega) (by omega)
  · refine s_blx (lv' := [(0, vR 77), (1, vI s), (2, vI like), (3, vI n)]) (st' := [vI 1]) B170_9_10 rfl ?_
    refine r_goto (tgt := 14) D170_10 rfl ?_
    refine s_blx (lv' := [(5, vI 0), (4, vI 1), (0, vR 77), (1, vI s), (2, vI like), (3, vI n)]) (st' := []) B170_14_19 rfl ?_
    refine r_loc (lv' := [(0, vR 77), (1, vI s), (2, vI like), (3, vI n), (4, vI 1), (5, vI 0)]) ⟨rfl, rfl, rfl, rfl, rfl, rfl, trivial⟩ rfl rfl ?_
    exact (L_k170x E hd H s like n h0 h1 h2 (((8 - 0) * 1 + 0 : Int) + 1).toNat) 1 0 (by omega) (by omega) (by omega) (by omega) (by omega) (by omega) (by omega)
