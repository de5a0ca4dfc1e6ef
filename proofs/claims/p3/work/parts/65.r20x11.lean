set_option maxRecDepth 4000 in
set_option maxHeartbeats 4000000 in
theorem k250k {base : Nat} {X : Nat → Option mC} {G : Nat → Value} (E : EnvOK base X G) {d : Nat} (hd : 70 ≤ d) {M : mH} (H : HI base M) (text : Int) (K : Int → Int) (h0 : TB M) (h1 : KK K M) (h2 : GK M) (h3 : -2147483648 ≤ text ∧ text ≤ 2147483647) : sOk base X G d T250 [vR 77, vI text] M (pL (fun v M' => HI base M' ∧ Fr [(77, 7), (77, 8), (77, 9), (77, 10), (77, 14), (77, 15), (77, 16), (77, 41), (77, 42), (77, 43), (77, 46), (77, 47), (83, 0), (84, 0), (85, 0), (100, 0), (101, 0)] M M')) := by
  have f0 : Fr [(77, 7), (77, 8), (77, 9), (77, 10), (77, 14), (77, 15), (77, 16), (77, 41), (77, 42), (77, 43), (77, 46), (77, 47), (83, 0), (84, 0), (85, 0), (100, 0), (101, 0)] M M := Fr.rf
  refine sOk.of (show sRn base X G d T250 0 [(0, vR 77), (1, vI text)] [] M _ from ?_)
  refine s_blx (lv' := [(0, vR 77), (1, vI text)]) (st' := [vI text, vR 77]) B250_0_2 rfl ?_
  refine r_vIp (c := 77) (args := [vI text]) (rest := []) (pc' := 5) D250_2 rfl ck_11_virtual_443 TE155 rfl (Nat.le_of_ble_eq_true rfl) ⟨Nat.le_of_ble_eq_true rfl, Nat.le_of_ble_eq_true rfl⟩ sc_77 ⟨rfl, by decide⟩ H.1 (dp_0 hd rfl) (k155k E (dp_n hd rfl) H text K (h1) (by omega)) ?_
  intro v1 q5
  obtain ⟨q3, q4⟩ := q5
  refine r_ifc (tgt := 12) (pc' := 8) D250_5 rfl rfl (by unfold inR; omega) (fun (c6 : v1 ≠ 0) => ?_) (fun (c6 : ¬ (v1 ≠ 0)) => ?_)
  · refine s_blx (lv' := [(4, vI 0), (2, vL 0), (0, vR 77), (1, vI text)]) (st' := []) B250_12_17 rfl ?_
    refine r_loc (lv' := [(0, vR 77), (1, vI text), (2, vL 0), (4, vI 0)]) ⟨rfl, rfl, rfl, rfl, trivial⟩ rfl rfl ?_
    exact (L_k250k E hd H text K h0 h1 h2 h3 (((16 - 0) * 1 + 0 : Int) + 1).toNat) 0 0 M H f0 (by omega) (by omega) (by omega) (by omega) (by omega) (by omega) (by omega)
  · refine r_ldc2 (e := (-1)) (pc' := 11) D250_8 rfl cl_11_296 (by decide) ?_
    exact r_lretL D250_11 rfl (⟨H, f0⟩)
