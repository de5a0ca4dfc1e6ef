set_option maxRecDepth 4000 in
set_option maxHeartbeats 4000000 in
theorem k160k {base : Nat} {X : Nat → Option mC} {G : Nat → Value} (E : EnvOK base X G) {d : Nat} (hd : 2 ≤ d) {M : mH} (H : HI base M) (s : Int) (K : Int → Int) (h0 : KK K M) (h1 : -2147483648 ≤ s ∧ s ≤ 2147483647) : sOk base X G d T160 [vR 77, vI s] M (pI (fun v M' => M' = M ∧ (v = 0 ∨ v = 1) ∧ (v = 1 → 0 ≤ s ∧ s < K 469 ∧ s ≤ 15 ∧ 1 ≤ K (135 + 16 * s + 12 + K 474)))) := by
  refine sOk.of (show sRn base X G d T160 0 [(0, vR 77), (1, vI s)] [] M _ from ?_)
  refine s_blx (lv' := [(0, vR 77), (1, vI s)]) (st' := [vI s, vR 77]) B160_0_2 rfl ?_
  refine r_vIp (c := 77) (args := [vI s]) (rest := []) (pc' := 5) D160_2 rfl ck_11_virtual_134 TE154 rfl (Nat.le_of_ble_eq_true rfl) ⟨Nat.le_of_ble_eq_true rfl, Nat.le_of_ble_eq_true rfl⟩ sc_77 ⟨rfl, by decide⟩ H.1 (dp_0 hd rfl) (k154k E (dp_n hd rfl) H s K (h0) (by omega)) ?_
  intro v1 q5
  obtain ⟨q3, q4⟩ := q5
  refine r_ifc (tgt := 20) (pc' := 8) D160_5 rfl rfl (by unfold inR; omega) (fun (c6 : v1 = 0) => ?_) (fun (c6 : ¬ (v1 = 0)) => ?_)
  · refine s_blx (lv' := [(0, vR 77), (1, vI s)]) (st' := [vI 0]) B160_20_21 rfl ?_
    exact r_zretI D160_21 rfl (by omega) (⟨rfl, by omega, by omega⟩)
  · refine s_blx (lv' := [(0, vR 77), (1, vI s)]) (st' := [vI s, vR 77]) B160_8_10 rfl ?_
    refine r_vIp (c := 77) (args := [vI s]) (rest := []) (pc' := 13) D160_10 rfl ck_11_virtual_138 TE159 rfl (Nat.le_of_ble_eq_true rfl) ⟨Nat.le_of_ble_eq_true rfl, Nat.le_of_ble_eq_true rfl⟩ sc_77 ⟨rfl, by decide⟩ H.1 (dp_0 hd rfl) (k159f E (dp_n hd rfl) H s K (h0) (by omega)) ?_
    intro v7 q11
    obtain ⟨q9, q10⟩ := q11
    refine r_ifc (tgt := 20) (pc' := 16) D160_13 rfl rfl (by unfold inR; omega) (fun (c12 : v7 ≤ 0) => ?_) (fun (c12 : ¬ (v7 ≤ 0)) => ?_)
    · refine s_blx (lv' := [(0, vR 77), (1, vI s)]) (st' := [vI 0]) B160_20_21 rfl ?_
      exact r_zretI D160_21 rfl (by omega) (⟨rfl, by omega, by omega⟩)
    · refine s_blx (lv' := [(0, vR 77), (1, vI s)]) (st' := [vI 1]) B160_16_17 rfl ?_
      refine r_goto (tgt := 21) D160_17 rfl ?_
      exact r_zretI D160_21 rfl (by omega) (⟨rfl, by omega, by omega⟩)
