set_option maxRecDepth 4000 in
theorem L_k170x {base : Nat} {X : Nat → Option mC} {G : Nat → Value} (E : EnvOK base X G) {d : Nat} (hd : 1 ≤ d) {M : mH} (H : HI base M) (s : Int) (like : Int) (n : Int) (h0 : 0 ≤ s ∧ s ≤ 15) (h1 : 0 ≤ like ∧ like ≤ 15) (h2 : 0 ≤ n ∧ n ≤ 8) : ∀ mz : Nat, (∀ (x4 x5 : Int), (like = s → n ≤ gi M 78 (135 + 16 * s) → x4 = 1) → (x4 = 1 → n ≤ gi M 78 (135 + 16 * s)) → (0 ≤ x4) → (x4 ≤ 1) → (0 ≤ x5) → (x5 ≤ 8) → (8 - x5) * 1 + 0 < (mz : Int) → sRn base X G d T170 19 [(0, vR 77), (1, vI s), (2, vI like), (3, vI n), (4, vI x4), (5, vI x5)] [] M (s_Q base (pI (fun v M' => M' = M ∧ (v = 0 ∨ v = 1) ∧ (like = s → n ≤ gi M 78 (135 + 16 * s) → v = 1) ∧ (v = 1 → n ≤ gi M 78 (135 + 16 * s)))))) := by
  intro mz
  induction mz with
  | zero => exact fun x4 x5 z0 z1 z2 z3 z4 z5 z6 => by omega
  | succ mz ih =>
    intro x4 x5 i0 i1 i2 i3 i4 i5 hmu
    refine s_blx (lv' := [(0, vR 77), (1, vI s), (2, vI like), (3, vI n), (4, vI x4), (5, vI x5)]) (st' := [vI n, vI x5]) B170_19_22 rfl ?_
    refine r_icmp (tgt := 60) (pc' := 25) D170_22 rfl rfl (by unfold inR; omega) (fun (c7 : n ≤ x5) => ?_) (fun (c7 : ¬ (n ≤ x5)) => ?_)
    · refine s_blx (lv' := [(0, vR 77), (1, vI s), (2, vI like), (3, vI n), (4, vI x4), (5, vI x5)]) (st' := [vI x4]) B170_60_62 rfl ?_
      exact r_zretI D170_62 rfl (by omega) (⟨rfl, by omega, by omega, by omega⟩)
    · refine s_blx (lv' := [(0, vR 77), (1, vI s), (2, vI like), (3, vI n), (4, vI x4), (5, vI x5)]) (st' := [vI x4]) B170_25_27 rfl ?_
      refine r_ifc (tgt := 60) (pc' := 30) D170_27 rfl rfl (by unfold inR; omega) (fun (c8 : x4 = 0) => ?_) (fun (c8 : ¬ (x4 = 0)) => ?_)
      · refine s_blx (lv' := [(0, vR 77), (1, vI s), (2, vI like), (3, vI n), (4, vI x4), (5, vI x5)]) (st' := [vI x4]) B170_60_62 rfl ?_
        exact r_zretI D170_62 rfl (by omega) (⟨rfl, by omega, by omega, by omega⟩)
      · refine s_blx (lv' := [(0, vR 77), (1, vI s), (2, vI like), (3, vI n), (4, vI x4), (5, vI x5)]) (st' := [vI x5, vI s, vR 77]) B170_30_34 rfl ?_
        refine r_vIp (c := 77) (args := [vI s, vI x5]) (rest := []) (pc' := 37) D170_34 rfl ck_11_virtual_147 TE157 rfl (Nat.le_of_ble_eq_true rfl) ⟨Nat.le_of_ble_eq_true rfl, Nat.le_of_ble_eq_true rfl⟩ sc_77 ⟨rfl, by decide⟩ H.1 (dp_0 hd rfl) (k157x E (dp_n hd rfl) H s x5 (by omega) (by omega)) ?_
        intro v9 q13
        obtain ⟨q11, q12⟩ := q13
        have kw1 := q12
        refine s_blx (lv' := [(0, vR 77), (1, vI s), (2, vI like), (3, vI n), (4, vI x4), (5, vI x5)]) (st' := [vI x5, vI like, vR 77, vI v9]) B170_37_41 rfl ?_
        refine r_vIp (c := 77) (args := [vI like, vI x5]) (rest := [vI v9]) (pc' := 44) D170_41 rfl ck_11_virtual_147 TE157 rfl (Nat.le_of_ble_eq_true rfl) ⟨Nat.le_of_ble_eq_true rfl, Nat.le_of_ble_eq_true rfl⟩ sc_77 ⟨rfl, by decide⟩ H.1 (dp_0 hd rfl) (k157x E (dp_n hd rfl) H like x5 (by omega) (by omega)) ?_
        intro v14 q18
        obtain ⟨q16, q17⟩ := q18
        have kw2 : like = s → v14 = gi M 78 (135 + 16 * s + 1 + x5) := fun h => by rw [q17, h]
        refine r_icmp (tgt := 51) (pc' := 47) D170_44 rfl rfl (by unfold inR; omega) (fun (c19 : v9 ≠ v14) => ?_) (fun (c19 : ¬ (v9 ≠ v14)) => ?_)
        · refine s_blx (lv' := [(5, vI (x5 + 1)), (4, vI 0), (0, vR 77), (1, vI s), (2, vI like), (3, vI n)]) (st' := []) B170_51_57 rfl ?_
          refine r_goto (tgt := 19) D170_57 rfl ?_
          refine r_loc (lv' := [(0, vR 77), (1, vI s), (2, vI like), (3, vI n), (4, vI 0), (5, vI (x5 + 1))]) ⟨rfl, rfl, rfl, rfl, rfl, rfl, trivial⟩ rfl rfl ?_
          exact ih 0 (x5 + 1) (by omega) (by omega) (by omega) (by omega) (by omega) (by omega) (by omega)
        · refine s_blx (lv' := [(0, vR 77), (1, vI s), (2, vI like), (3, vI n), (4, vI x4), (5, vI x5)]) (st' := [vI 1]) B170_47_48 rfl ?_
          refine r_goto (tgt := 52) D170_48 rfl ?_
          refine s_blx (lv' := [(5, vI (x5 + 1)), (4, vI 1), (0, vR 77), (1, vI s), (2, vI like), (3, vI n)]) (st' := []) B170_52_57 rfl ?_
          refine r_goto (tgt := 19) D170_57 rfl ?_
          refine r_loc (lv' := [(0, vR 77), (1, vI s), (2, vI like), (3, vI n), (4, vI 1), (5, vI (x5 + 1))]) ⟨rfl, rfl, rfl, rfl, rfl, rfl, trivial⟩ rfl rfl ?_
          exact ih 1 (x5 + 1) (by omega) (by omega) (by omega) (by omega) (by omega) (by omega) (by omega)
