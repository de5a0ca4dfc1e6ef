set_option maxRecDepth 4000 in
theorem L_k185f {base : Nat} {X : Nat → Option mC} {G : Nat → Value} (E : EnvOK base X G) {d : Nat} (hd : 1 ≤ d) {M : mH} (H : HI base M) (slot : Int) (o : Int) (h0 : gi M 78 473 = o) (h1 : 0 ≤ slot ∧ slot ≤ 2) : ∀ mz : Nat, (∀ (x2 : Int), (0 ≤ x2 ∧ x2 ≤ 2) → (1 ≤ x2 → sl o 0 ≠ slot) → (2 ≤ x2 → sl o 1 ≠ slot) → (0 ≤ x2) → (x2 ≤ 3) → (2 - x2) * 1 + 0 < (mz : Int) → sRn base X G d T185 2 [(0, vR 77), (1, vI slot), (2, vI x2)] [] M (s_Q base (pI (fun v M' => M' = M ∧ (0 ≤ v ∧ v ≤ 2) ∧ sl o v = slot)))) := by
  intro mz
  induction mz with
  | zero => exact fun x2 z0 z1 z2 z3 z4 z5 => by omega
  | succ mz ih =>
    intro x2 i0 i1 i2 i3 i4 hmu
    refine s_blx (lv' := [(0, vR 77), (1, vI slot), (2, vI x2)]) (st' := [vI x2, vR 77]) B185_2_4 rfl ?_
    have g1 : gi M 78 473 = o := h0
    refine r_vIp (c := 77) (args := [vI x2]) (rest := []) (pc' := 7) D185_4 rfl ck_11_virtual_206 TE182 rfl (Nat.le_of_ble_eq_true rfl) ⟨Nat.le_of_ble_eq_true rfl, Nat.le_of_ble_eq_true rfl⟩ sc_77 ⟨rfl, by decide⟩ H.1 (dp_0 hd rfl) (k182f E (dp_n hd rfl) H x2 o (by omega) (by omega)) ?_
    intro v2 q6
    obtain ⟨q4, q5⟩ := q6
    have ko := H.2 78 473 0 5 (rk_order (by omega))
    have kp := sl_perm (o := o) (s := slot) (by omega) (by omega)
    have k0 : x2 = 0 → v2 = sl o 0 := fun h => by rw [q5, h]
    have k1 : x2 = 1 → v2 = sl o 1 := fun h => by rw [q5, h]
    have k2 : x2 = 2 → v2 = sl o 2 := fun h => by rw [q5, h]
    have kq := q5
    refine s_blx (lv' := [(0, vR 77), (1, vI slot), (2, vI x2)]) (st' := [vI slot, vI v2]) B185_7_8 rfl ?_
    refine r_icmp (tgt := 17) (pc' := 11) D185_8 rfl rfl (by unfold inR; omega) (fun (c7 : v2 = slot) => ?_) (fun (c7 : ¬ (v2 = slot)) => ?_)
    · refine s_blx (lv' := [(0, vR 77), (1, vI slot), (2, vI x2)]) (st' := [vI x2]) B185_17_18 rfl ?_
      exact r_iretI D185_18 rfl (⟨rfl, by omega, by rw [← kq]; omega⟩)
    · refine s_blx (lv' := [(2, vI (x2 + 1)), (0, vR 77), (1, vI slot)]) (st' := []) B185_11_14 rfl ?_
      refine r_goto (tgt := 2) D185_14 rfl ?_
      refine r_loc (lv' := [(0, vR 77), (1, vI slot), (2, vI (x2 + 1))]) ⟨rfl, rfl, rfl, trivial⟩ rfl rfl ?_
      exact ih (x2 + 1) (by omega) (by omega) (by omega) (by omega) (by omega) (by omega)
