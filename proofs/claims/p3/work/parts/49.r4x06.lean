set_option maxRecDepth 4000 in
theorem L_k193x {base : Nat} {X : Nat → Option mC} {G : Nat → Value} (E : EnvOK base X G) {d : Nat} (hd : 2 ≤ d) {M : mH} (H : HI base M) (s : Int) (n : Int) (h0 : 0 ≤ s ∧ s ≤ 15) (h1 : 0 ≤ n ∧ n ≤ 8) (h2 : 1 ≤ gi M 78 (135 + 16 * s + 12 + gi M 78 474)) (h3 : n ≤ gi M 78 (135 + 16 * s)) : ∀ mz : Nat, (∀ (x3 : Int), (0 ≤ x3 ∧ x3 ≤ s) → (0 ≤ x3) → (x3 ≤ 16) → (s - x3) * 1 + 0 < (mz : Int) → sRn base X G d T193 2 [(0, vR 77), (1, vI s), (2, vI n), (3, vI x3)] [] M (s_Q base (pI (fun v M' => M' = M ∧ (0 ≤ v ∧ v ≤ s))))) := by
  intro mz
  induction mz with
  | zero => exact fun x3 z0 z1 z2 z3 => by omega
  | succ mz ih =>
    intro x3 i0 i1 i2 hmu
    refine s_blx (lv' := [(0, vR 77), (1, vI s), (2, vI n), (3, vI x3)]) (st' := [vI x3, vR 77]) B193_2_4 rfl ?_
    refine r_vIp (c := 77) (args := [vI x3]) (rest := []) (pc' := 7) D193_4 rfl ck_11_virtual_138 TE159 rfl (Nat.le_of_ble_eq_true rfl) ⟨Nat.le_of_ble_eq_true rfl, Nat.le_of_ble_eq_true rfl⟩ sc_77 ⟨rfl, by decide⟩ H.1 (dp_0 hd rfl) (k159x E (dp_n hd rfl) H x3 (by omega)) ?_
    intro v1 q5
    obtain ⟨q3, q4⟩ := q5
    have ku := q4
    have kv : x3 = s → v1 = gi M 78 (135 + 16 * s + 12 + gi M 78 474) := fun h => by rw [ku, h]
    have kl : x3 = s → gi M 78 (135 + 16 * x3) = gi M 78 (135 + 16 * s) := fun h => by rw [h]
    refine r_ifc (tgt := 20) (pc' := 10) D193_7 rfl rfl (by unfold inR; omega) (fun (c6 : v1 ≤ 0) => ?_) (fun (c6 : ¬ (v1 ≤ 0)) => ?_)
    · refine s_blx (lv' := [(3, vI (x3 + 1)), (0, vR 77), (1, vI s), (2, vI n)]) (st' := []) B193_20_23 rfl ?_
      refine r_goto (tgt := 2) D193_23 rfl ?_
      refine r_loc (lv' := [(0, vR 77), (1, vI s), (2, vI n), (3, vI (x3 + 1))]) ⟨rfl, rfl, rfl, rfl, trivial⟩ rfl rfl ?_
      exact ih (x3 + 1) (by omega) (by omega) (by omega) (by omega)
    · refine s_blx (lv' := [(0, vR 77), (1, vI s), (2, vI n), (3, vI x3)]) (st' := [vI n, vI s, vI x3, vR 77]) B193_10_14 rfl ?_
      refine r_vIp (c := 77) (args := [vI x3, vI s, vI n]) (rest := []) (pc' := 17) D193_14 rfl ck_11_virtual_158 TE170 rfl (Nat.le_of_ble_eq_true rfl) ⟨Nat.le_of_ble_eq_true rfl, Nat.le_of_ble_eq_true rfl⟩ sc_77 ⟨rfl, by decide⟩ H.1 (dp_0 hd rfl) (k170x E (dp_n hd rfl) H x3 s n (by omega) (by omega) (by omega)) ?_
      intro v7 q12
      obtain ⟨q9, q10, q11⟩ := q12
      refine r_ifc (tgt := 26) (pc' := 20) D193_17 rfl rfl (by unfold inR; omega) (fun (c13 : v7 ≠ 0) => ?_) (fun (c13 : ¬ (v7 ≠ 0)) => ?_)
      · refine s_blx (lv' := [(0, vR 77), (1, vI s), (2, vI n), (3, vI x3)]) (st' := [vI x3]) B193_26_27 rfl ?_
        exact r_iretI D193_27 rfl (⟨rfl, by omega⟩)
      · refine s_blx (lv' := [(3, vI (x3 + 1)), (0, vR 77), (1, vI s), (2, vI n)]) (st' := []) B193_20_23 rfl ?_
        refine r_goto (tgt := 2) D193_23 rfl ?_
        refine r_loc (lv' := [(0, vR 77), (1, vI s), (2, vI n), (3, vI (x3 + 1))]) ⟨rfl, rfl, rfl, rfl, trivial⟩ rfl rfl ?_
        exact ih (x3 + 1) (by omega) (by omega) (by omega) (by omega)
