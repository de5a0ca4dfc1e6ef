set_option maxRecDepth 4000 in
theorem k137n {base : Nat} {X : Nat → Option mC} {G : Nat → Value} (E : EnvOK base X G) {d : Nat} (hd : 1 ≤ d) {M : mH} (H : HI base M) (length : Int) (h0 : 0 ≤ length ∧ length ≤ 400) : sOk base X G d T137 [vR 0, vI length] M (pI (fun v M' => M' = M ∧ (v = 0 ∨ v = 1) ∧ (v = 1 → 1 ≤ length ∧ length ≤ 8) ∧ (v = 1 → TC length M) ∧ (v = 0 → ¬ RWok length M))) := by
  refine sOk.of (show sRn base X G d T137 0 [(0, vR 0), (1, vI length)] [] M _ from ?_)
  refine s_blx (lv' := [(0, vR 0), (1, vI length)]) (st' := [vI 8, vI 1, vI length]) B137_0_4 rfl ?_
  refine r_sIp (args := [vI length, vI 1, vI 8]) (rest := []) (pc' := 7) D137_4 rfl ck_10_static_102 TE142 rfl (Nat.le_of_ble_eq_true rfl) ⟨Nat.le_of_ble_eq_true rfl, Nat.le_of_ble_eq_true rfl⟩ (by decide) (dp_0 hd rfl) (k142 E (dp_n hd rfl) H length 1 8 (by omega) (by omega) (by omega)) ?_
  intro v1 q6
  obtain ⟨q3, q4, q5⟩ := q6
  refine r_ifc (tgt := 12) (pc' := 10) D137_7 rfl rfl (by unfold inR; omega) (fun (c7 : v1 ≠ 0) => ?_) (fun (c7 : ¬ (v1 ≠ 0)) => ?_)
  · refine s_blx (lv' := [(2, vI 0), (0, vR 0), (1, vI length)]) (st' := []) B137_12_14 rfl ?_
    refine r_loc (lv' := [(0, vR 0), (1, vI length), (2, vI 0)]) ⟨rfl, rfl, rfl, trivial⟩ rfl rfl ?_
    exact (L_k137n E hd H length h0 (((8 - 0) * 1 + 0 : Int) + 1).toNat) 0 (TC.zero) (by omega) (by omega) (by omega) (by omega) (by omega) (by omega) (by omega)
  · refine s_blx (lv' := [(0, vR 0), (1, vI length)]) (st' := [vI 0]) B137_10_11 rfl ?_
    exact r_zretI D137_11 rfl (by omega) (⟨rfl, by omega, by omega, fun h => absurd h (by omega), fun _ h => by have p := h.1; have q := h.2.1; omega⟩)
