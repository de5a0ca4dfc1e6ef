set_option maxRecDepth 4000 in
set_option maxHeartbeats 4000000 in
theorem k248k {base : Nat} {X : Nat → Option mC} {G : Nat → Value} (E : EnvOK base X G) {d : Nat} (hd : 70 ≤ d) {M : mH} (H : HI base M) (text : Int) (s : Int) (K : Int → Int) (h0 : TB M) (h1 : KK K M) (h2 : GK M) (h3 : -2147483648 ≤ text ∧ text ≤ 2147483647) (h4 : -2147483648 ≤ s ∧ s ≤ 2147483647) : sOk base X G d T248 [vR 77, vI text, vI s] M (pI (fun v M' => HI base M' ∧ Fr [(77, 7), (77, 8), (77, 9), (77, 10), (77, 14), (77, 15), (77, 16), (77, 41), (77, 42), (77, 43), (77, 46), (77, 47), (77, 49), (83, 0), (84, 0), (85, 0), (100, 0), (101, 0), (102, 0)] M M' ∧ (-2147483648 ≤ v ∧ v ≤ 2147483647))) := by
  have f0 : Fr [(77, 7), (77, 8), (77, 9), (77, 10), (77, 14), (77, 15), (77, 16), (77, 41), (77, 42), (77, 43), (77, 46), (77, 47), (77, 49), (83, 0), (84, 0), (85, 0), (100, 0), (101, 0), (102, 0)] M M := Fr.rf
  refine sOk.of (show sRn base X G d T248 0 [(0, vR 77), (1, vI text), (2, vI s)] [] M _ from ?_)
  refine s_blx (lv' := [(0, vR 77), (1, vI text), (2, vI s)]) (st' := [vI text, vR 77]) B248_0_2 rfl ?_
  refine r_vIp (c := 77) (args := [vI text]) (rest := []) (pc' := 5) D248_2 rfl ck_11_virtual_443 TE155 rfl (Nat.le_of_ble_eq_true rfl) ⟨Nat.le_of_ble_eq_true rfl, Nat.le_of_ble_eq_true rfl⟩ sc_77 ⟨rfl, by decide⟩ H.1 (dp_0 hd rfl) (k155k E (dp_n hd rfl) H text K (h1) (by omega)) ?_
  intro v1 q5
  obtain ⟨q3, q4⟩ := q5
  refine r_ifc (tgt := 16) (pc' := 8) D248_5 rfl rfl (by unfold inR; omega) (fun (c6 : v1 = 0) => ?_) (fun (c6 : ¬ (v1 = 0)) => ?_)
  · refine s_blx (lv' := [(0, vR 77), (1, vI text), (2, vI s)]) (st' := [vI (-1)]) B248_16_17 rfl ?_
    exact r_iretI D248_17 rfl (⟨H, f0, by omega⟩)
  · refine s_blx (lv' := [(0, vR 77), (1, vI text), (2, vI s)]) (st' := [vI s, vR 77]) B248_8_10 rfl ?_
    refine r_vIp (c := 77) (args := [vI s]) (rest := []) (pc' := 13) D248_10 rfl ck_11_virtual_164 TE160 rfl (Nat.le_of_ble_eq_true rfl) ⟨Nat.le_of_ble_eq_true rfl, Nat.le_of_ble_eq_true rfl⟩ sc_77 ⟨rfl, by decide⟩ H.1 (dp_0 hd rfl) (k160k E (dp_n hd rfl) H s K (h1) (by omega)) ?_
    intro v7 q11
    obtain ⟨q9, q10⟩ := q11
    refine r_ifc (tgt := 18) (pc' := 16) D248_13 rfl rfl (by unfold inR; omega) (fun (c12 : v7 ≠ 0) => ?_) (fun (c12 : ¬ (v7 ≠ 0)) => ?_)
    · refine s_blx (lv' := [(0, vR 77), (1, vI text), (2, vI s)]) (st' := [vI s, vI text, vR 77]) B248_18_21 rfl ?_
      refine r_vL (c := 77) (args := [vI text, vI s]) (rest := []) (pc' := 24) D248_21 rfl ck_11_virtual_446 TE247 rfl (Nat.le_of_ble_eq_true rfl) ⟨Nat.le_of_ble_eq_true rfl, Nat.le_of_ble_eq_true rfl⟩ sc_77 ⟨rfl, by decide⟩ H.1 (dp_0 hd rfl) (k247k E (dp_n hd rfl) H text s K (h0) (h1) (h2) (by omega) (by omega) (by omega) (by omega) (by omega)) ?_
      intro v13 M14 q17
      obtain ⟨H15, f16⟩ := q17
      have f18 := f0.tr (f16.up rfl)
      refine r_l2i (pc' := 25) D248_24 rfl ?_
      refine r_norm ?_
      intro z19 r20 _; unfold inR at r20
      refine s_blx (lv' := [(3, vI z19), (0, vR 77), (1, vI text), (2, vI s)]) (st' := [vR 77, vR 77]) B248_25_28 rfl ?_
      refine r_gint (ki := 45) (pc' := 31) D248_28 rfl gf_11_437_77 rfl H15.1 ?_
      intro w21 e22 r23
      have b_w21 := H15.2 77 (45) 0 24 rfl
      rw [← e22] at b_w21; clear r23
      refine r_pint (ki := 48) (pc' := 34) D248_31 rfl pf_11_450_77 rfl H15 (by unfold inR; omega) (show 0 ≤ w21 ∧ w21 ≤ 24 by omega) ?_
      intro M24 u25 H26 p27
      have f28 := f18.wr u25 rfl
      refine s_blx (lv' := [(4, vI 0), (3, vI z19), (0, vR 77), (1, vI text), (2, vI s)]) (st' := []) B248_34_37 rfl ?_
      refine r_loc (lv' := [(0, vR 77), (3, vI z19), (4, vI 0)]) ⟨rfl, rfl, rfl, trivial⟩ rfl rfl ?_
      exact (L_k248k E hd H text s K h0 h1 h2 h3 h4 (((24 - 0) * 1 + 0 : Int) + 1).toNat) z19 0 M24 H26 f28 (by omega) (by omega) (by omega) (by omega) (by omega) (by omega) (by omega) (by omega) (by omega)
    · refine s_blx (lv' := [(0, vR 77), (1, vI text), (2, vI s)]) (st' := [vI (-1)]) B248_16_17 rfl ?_
      exact r_iretI D248_17 rfl (⟨H, f0, by omega⟩)
