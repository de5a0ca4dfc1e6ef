set_option maxRecDepth 4000 in
theorem L_k71_1_13n {base : Nat} {X : Nat → Option mC} {G : Nat → Value} (E : EnvOK base X G) {d : Nat} (hd : 0 ≤ d) {M : mH} (H : HI base M) (sentence : Int) (at_ : Int) (n : Int) (h0 : 0 ≤ sentence ∧ sentence ≤ 15) (h1 : 0 ≤ at_ ∧ at_ ≤ 120) (h2 : 0 ≤ n ∧ n ≤ 8) : ∀ mz : Nat, (∀ (x5 : Int), (BW 13 sentence at_ x5 M) → (0 ≤ x5 ∧ x5 ≤ n) → (0 ≤ x5) → (x5 ≤ 8) → (8 - x5) * 1 + 0 < (mz : Int) → sRn base X G d T71 3 [(0, vR 1), (1, vI sentence), (2, vR 13), (3, vI at_), (4, vI n), (5, vI x5)] [] M (s_Q base (pI (fun v M' => M' = M ∧ (v = 0 ∨ v = 1) ∧ (v = 1 → BW 13 sentence at_ n M) ∧ (v = 0 → ¬ BW 13 sentence at_ n M))))) := by
  intro mz
  induction mz with
  | zero => exact fun x5 z0 z1 z2 z3 z4 => by omega
  | succ mz ih =>
    intro x5 i0 i1 i2 i3 hmu
    refine s_blx (lv' := [(0, vR 1), (1, vI sentence), (2, vR 13), (3, vI at_), (4, vI n), (5, vI x5)]) (st' := [vI n, vI x5]) B71_3_7 rfl ?_
    refine r_icmp (tgt := 39) (pc' := 10) D71_7 rfl rfl (by unfold inR; omega) (fun (c1 : n ≤ x5) => ?_) (fun (c1 : ¬ (n ≤ x5)) => ?_)
    · refine s_blx (lv' := [(0, vR 1), (1, vI sentence), (2, vR 13), (3, vI at_), (4, vI n), (5, vI x5)]) (st' := [vI 1]) B71_39_40 rfl ?_
      exact r_zretI D71_40 rfl (by omega) (⟨rfl, by omega, fun _ => i0.mono (by omega), fun h => absurd h (by omega)⟩)
    · refine s_blx (lv' := [(0, vR 1), (1, vI sentence), (2, vR 13), (3, vI at_), (4, vI n), (5, vI x5)]) (st' := [vR 1]) B71_10_11 rfl ?_
      refine r_gfix (r := 5) (pc' := 14) D71_11 rfl gf_8_31_1 H.1 ?_
      refine s_blx (lv' := [(0, vR 1), (1, vI sentence), (2, vR 13), (3, vI at_), (4, vI n), (5, vI x5)]) (st' := [vI ((sentence * 8) + x5), vR 5]) B71_14_21 rfl ?_
      refine r_iald (pc' := 22) D71_21 rfl sc_5 H.1 (by omega) ?_
      intro w2 e3 r4
      have b_w2 := H.2 5 ((sentence * 8) + x5) 0 29 rfl
      rw [← e3] at b_w2; clear r4
      refine s_blx (lv' := [(0, vR 1), (1, vI sentence), (2, vR 13), (3, vI at_), (4, vI n), (5, vI x5)]) (st' := [vI (at_ + x5), vR 13, vI w2]) B71_22_27 rfl ?_
      refine r_iald (pc' := 28) D71_27 rfl sc_13 H.1 (by omega) ?_
      intro w5 e6 r7
      have b_w5 := H.2 13 (at_ + x5) 0 255 rfl
      rw [← e6] at b_w5; clear r7
      refine r_icmp (tgt := 33) (pc' := 31) D71_28 rfl rfl (by unfold inR; omega) (fun (c8 : w2 = w5) => ?_) (fun (c8 : ¬ (w2 = w5)) => ?_)
      · refine s_blx (lv' := [(5, vI (x5 + 1)), (0, vR 1), (1, vI sentence), (2, vR 13), (3, vI at_), (4, vI n)]) (st' := []) B71_33_36 rfl ?_
        refine r_goto (tgt := 3) D71_36 rfl ?_
        refine r_loc (lv' := [(0, vR 1), (1, vI sentence), (2, vR 13), (3, vI at_), (4, vI n), (5, vI (x5 + 1))]) ⟨rfl, rfl, rfl, rfl, rfl, rfl, trivial⟩ rfl rfl ?_
        exact ih (x5 + 1) (i0.next (by omega)) (by omega) (by omega) (by omega) (by omega)
      · refine s_blx (lv' := [(0, vR 1), (1, vI sentence), (2, vR 13), (3, vI at_), (4, vI n), (5, vI x5)]) (st' := [vI 0]) B71_31_32 rfl ?_
        exact r_zretI D71_32 rfl (by omega) (⟨rfl, by omega, fun h => absurd h (by omega), fun _ h => by have q := h x5 (by omega) (by omega); omega⟩)
