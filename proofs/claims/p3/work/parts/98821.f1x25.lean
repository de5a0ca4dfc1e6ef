set_option maxRecDepth 4000 in
theorem L_k137n {base : Nat} {X : Nat → Option mC} {G : Nat → Value} (E : EnvOK base X G) {d : Nat} (hd : 1 ≤ d) {M : mH} (H : HI base M) (length : Int) (h0 : 0 ≤ length ∧ length ≤ 400) : ∀ mz : Nat, (∀ (x2 : Int), (TC x2 M) → (1 ≤ length ∧ length ≤ 8) → (0 ≤ x2 ∧ x2 ≤ length) → (0 ≤ x2) → (x2 ≤ 8) → (1 ≤ length) → (length ≤ 8) → (8 - x2) * 1 + 0 < (mz : Int) → sRn base X G d T137 14 [(0, vR 0), (1, vI length), (2, vI x2)] [] M (s_Q base (pI (fun v M' => M' = M ∧ (v = 0 ∨ v = 1) ∧ (v = 1 → 1 ≤ length ∧ length ≤ 8) ∧ (v = 1 → TC length M) ∧ (v = 0 → ¬ RWok length M))))) := by
  intro mz
  induction mz with
  | zero => exact fun x2 z0 z1 z2 z3 z4 z5 z6 z7 => by omega
  | succ mz ih =>
    intro x2 i0 i1 i2 i3 i4 i5 i6 hmu
    refine s_blx (lv' := [(0, vR 0), (1, vI length), (2, vI x2)]) (st' := [vI length, vI x2]) B137_14_16 rfl ?_
    refine r_icmp (tgt := 38) (pc' := 19) D137_16 rfl rfl (by unfold inR; omega) (fun (c8 : length ≤ x2) => ?_) (fun (c8 : ¬ (length ≤ x2)) => ?_)
    · refine s_blx (lv' := [(0, vR 0), (1, vI length), (2, vI x2)]) (st' := [vI 1]) B137_38_39 rfl ?_
      exact r_zretI D137_39 rfl (by omega) (⟨rfl, by omega, by omega, fun _ => i0.mono (by omega), fun h => absurd h (by omega)⟩)
    · refine s_blx (lv' := [(0, vR 0), (1, vI length), (2, vI x2)]) (st' := [vR 0]) B137_19_20 rfl ?_
      refine r_gfix (r := 13) (pc' := 23) D137_20 rfl gf_10_20_0 H.1 ?_
      refine s_blx (lv' := [(0, vR 0), (1, vI length), (2, vI x2)]) (st' := [vI x2, vR 13]) B137_23_24 rfl ?_
      refine r_iald (pc' := 25) D137_24 rfl sc_13 H.1 (by omega) ?_
      intro w9 e10 r11
      have b_w9 := H.2 13 (x2) 0 255 rfl
      rw [← e10] at b_w9; clear r11
      refine s_blx (lv' := [(0, vR 0), (1, vI length), (2, vI x2)]) (st' := [vI 30, vI w9]) B137_25_27 rfl ?_
      refine r_icmp (tgt := 32) (pc' := 30) D137_27 rfl rfl (by unfold inR; omega) (fun (c12 : w9 < 30) => ?_) (fun (c12 : ¬ (w9 < 30)) => ?_)
      · refine s_blx (lv' := [(2, vI (x2 + 1)), (0, vR 0), (1, vI length)]) (st' := []) B137_32_35 rfl ?_
        refine r_goto (tgt := 14) D137_35 rfl ?_
        refine r_loc (lv' := [(0, vR 0), (1, vI length), (2, vI (x2 + 1))]) ⟨rfl, rfl, rfl, trivial⟩ rfl rfl ?_
        exact ih (x2 + 1) (i0.next (by omega)) (by omega) (by omega) (by omega) (by omega) (by omega) (by omega) (by omega)
      · refine s_blx (lv' := [(0, vR 0), (1, vI length), (2, vI x2)]) (st' := [vI 0]) B137_30_31 rfl ?_
        exact r_zretI D137_31 rfl (by omega) (⟨rfl, by omega, by omega, fun h => absurd h (by omega), fun _ h => by have q := h.2.2 x2 (by omega) (by omega); omega⟩)
