
set_option maxRecDepth 4000 in
theorem k129e {base : Nat} {X : Nat → Option mC} {G : Nat → Value} (E : EnvOK base X G) {d : Nat} (hd : 3 ≤ d) {M : mH} (H : HI base M) (k : Int) (h0 : -2147483648 ≤ k ∧ k ≤ 2147483647) (h1 : HB base M) (h2 : HN base M) (h3 : IMG base M) : sOk base X G d T129 [vR 0, vI k] M (pI (fun v M' => ImP base M M' ∧ (0 ≤ k ∧ k ≤ 1 → v = 0) ∧ (k < 0 ∨ 1 < k → v = -1) ∧ gi M' 0 3 = gi M 0 3 ∧ (0 ≤ k ∧ k ≤ 1 → hv M' 12 k.toNat ≠ .null) ∧ ∀ i : Nat, (i : Int) ≠ k → hv M' 12 i = hv M 12 i)) := by
  have f0 : Fr [(0, 6)] M M := Fr.rf
  refine sOk.of (show sRn base X G d T129 0 [(0, vR 0), (1, vI k)] [] M _ from ?_)
  refine s_blx (lv' := [(0, vR 0), (1, vI k)]) (st' := [vI 1, vI 0, vI k]) B129_0_3 rfl ?_
  refine r_sIp (args := [vI k, vI 0, vI 1]) (rest := []) (pc' := 6) D129_3 rfl ck_10_static_102 TE142 rfl (Nat.le_of_ble_eq_true rfl) ⟨Nat.le_of_ble_eq_true rfl, Nat.le_of_ble_eq_true rfl⟩ (by decide) (dp_0 hd rfl) (k142 E (dp_n hd rfl) H k 0 1 (by omega) (by omega) (by omega)) ?_
  intro v1 q6
  obtain ⟨q3, q4, q5⟩ := q6
  refine r_ifc (tgt := 15) (pc' := 9) D129_6 rfl rfl (by unfold inR; omega) (fun (c7 : v1 ≠ 0) => ?_) (fun (c7 : ¬ (v1 ≠ 0)) => ?_)
  · refine s_blx (lv' := [(0, vR 0), (1, vI k)]) (st' := [vR 0]) B129_15_16 rfl ?_
    refine r_gfix (r := 12) (pc' := 19) D129_16 rfl gf_10_16_0 H.1 ?_
    refine s_blx (lv' := [(0, vR 0), (1, vI k)]) (st' := [vI k, vR 12]) B129_19_20 rfl ?_
    refine r_loc (lv' := [(0, vR 0), (1, vI k)]) ⟨rfl, rfl, trivial⟩ rfl rfl ?_
    exact u129q E (by omega) H h1 h2 h3 (by omega) (fun M' a b1 b2 b3 => ⟨a, fun _ => rfl, fun _ => by omega, b3, fun _ => b2, fun i hi => b1 i (by omega)⟩)
  · refine s_blx (lv' := [(0, vR 0), (1, vI k)]) (st' := [vI (-1), vR 0]) B129_9_11 rfl ?_
    refine r_vI (c := 0) (args := [vI (-1)]) (rest := []) (pc' := 14) D129_11 rfl ck_10_virtual_106 TE133 rfl (Nat.le_of_ble_eq_true rfl) ⟨Nat.le_of_ble_eq_true rfl, Nat.le_of_ble_eq_true rfl⟩ sc_0 ⟨rfl, by decide⟩ H.1 (dp_0 hd rfl) (k133 E (dp_n hd rfl) H (-1) (by omega)) ?_
    intro v8 M9 q13
    obtain ⟨H10, f11, q12⟩ := q13
    have f14 := f0.tr (f11.up rfl)
    exact r_iretI D129_14 rfl (⟨ImP.no H h1 h2 h3 H10 f14, fun _ => by omega, fun _ => by omega, f14.g rfl, fun _ => by exfalso; omega, fun i _ => (f14.2.2 12).2.2 i rfl⟩)
set_option maxRecDepth 4000 in
theorem k130e {base : Nat} {X : Nat → Option mC} {G : Nat → Value} (E : EnvOK base X G) {d : Nat} (hd : 3 ≤ d) {M : mH} (H : HI base M) (k : Int) (h0 : -2147483648 ≤ k ∧ k ≤ 2147483647) (h1 : HB base M) (h2 : HN base M) (h3 : IMG base M) : sOk base X G d T130 [vR 0, vI k] M (pI (fun v M' => ImP base M M' ∧ gi M' 0 3 = gi M 0 3 ∧ (∀ i, hv M' 12 i = hv M 12 i) ∧ (k < 0 ∨ 1 < k → v = -1) ∧ (0 ≤ k ∧ k ≤ 1 → hv M 12 k.toNat = .null → v = -2) ∧ (0 ≤ k ∧ k ≤ 1 → hv M 12 k.toNat ≠ .null → v = 0))) := by
  have f0 : Fr [(0, 6)] M M := Fr.rf
  refine sOk.of (show sRn base X G d T130 0 [(0, vR 0), (1, vI k)] [] M _ from ?_)
  refine s_blx (lv' := [(0, vR 0), (1, vI k)]) (st' := [vI 1, vI 0, vI k]) B130_0_3 rfl ?_
  refine r_sIp (args := [vI k, vI 0, vI 1]) (rest := []) (pc' := 6) D130_3 rfl ck_10_static_102 TE142 rfl (Nat.le_of_ble_eq_true rfl) ⟨Nat.le_of_ble_eq_true rfl, Nat.le_of_ble_eq_true rfl⟩ (by decide) (dp_0 hd rfl) (k142 E (dp_n hd rfl) H k 0 1 (by omega) (by omega) (by omega)) ?_
  intro v1 q6
  obtain ⟨q3, q4, q5⟩ := q6
  refine r_ifc (tgt := 15) (pc' := 9) D130_6 rfl rfl (by unfold inR; omega) (fun (c7 : v1 ≠ 0) => ?_) (fun (c7 : ¬ (v1 ≠ 0)) => ?_)
  · refine s_blx (lv' := [(0, vR 0), (1, vI k)]) (st' := [vR 0]) B130_15_16 rfl ?_
    refine r_gfix (r := 12) (pc' := 19) D130_16 rfl gf_10_16_0 H.1 ?_
    refine s_blx (lv' := [(0, vR 0), (1, vI k)]) (st' := [vI k, vR 12]) B130_19_20 rfl ?_
    refine r_loc (lv' := [(0, vR 0), (1, vI k)]) ⟨rfl, rfl, trivial⟩ rfl rfl ?_
    exact u130q E (by omega) H h1 h2 h3 (by omega) (fun v M' a b1 b2 b3 b4 => ⟨a, b2, b1, fun _ => by exfalso; omega, fun _ => b3, fun _ => b4⟩)
  · refine s_blx (lv' := [(0, vR 0), (1, vI k)]) (st' := [vI (-1), vR 0]) B130_9_11 rfl ?_
    refine r_vI (c := 0) (args := [vI (-1)]) (rest := []) (pc' := 14) D130_11 rfl ck_10_virtual_106 TE133 rfl (Nat.le_of_ble_eq_true rfl) ⟨Nat.le_of_ble_eq_true rfl, Nat.le_of_ble_eq_true rfl⟩ sc_0 ⟨rfl, by decide⟩ H.1 (dp_0 hd rfl) (k133 E (dp_n hd rfl) H (-1) (by omega)) ?_
    intro v8 M9 q13
    obtain ⟨H10, f11, q12⟩ := q13
    have f14 := f0.tr (f11.up rfl)
    exact r_iretI D130_14 rfl (⟨ImP.no H h1 h2 h3 H10 f14, f14.g rfl, fun i => (f14.2.2 12).2.2 i rfl, fun _ => by omega, fun _ => by exfalso; omega, fun _ => by exfalso; omega⟩)
