set_option maxRecDepth 4000 in
theorem L_k64_1_13n {base : Nat} {X : Nat → Option mC} {G : Nat → Value} (E : EnvOK base X G) {d : Nat} (hd : 1 ≤ d) {M : mH} (H : HI base M) (length : Int) (h0 : 0 ≤ length ∧ length ≤ 8) : ∀ mz : Nat, (∀ (x3 : Int), (NR length x3 M) → (0 ≤ x3 ∧ x3 ≤ 16) → (0 ≤ x3) → (x3 ≤ 16) → (16 - x3) * 1 + 0 < (mz : Int) → sRn base X G d T64 2 [(0, vR 1), (1, vR 13), (2, vI length), (3, vI x3)] [] M (s_Q base (pI (fun v M' => M' = M ∧ (v = 0 ∨ v = 1) ∧ (v = 1 → HR length M) ∧ (v = 0 → ¬ HR length M))))) := by
  intro mz
  induction mz with
  | zero => exact fun x3 z0 z1 z2 z3 z4 => by omega
  | succ mz ih =>
    intro x3 i0 i1 i2 i3 hmu
    refine s_blx (lv' := [(0, vR 1), (1, vR 13), (2, vI length), (3, vI x3)]) (st' := [vR 1, vI x3]) B64_2_4 rfl ?_
    refine r_gint (ki := 10) (pc' := 7) D64_4 rfl gf_8_43_1 rfl H.1 ?_
    intro w1 e2 r3
    have b_w1 := H.2 1 (10) 0 16 rfl
    rw [← e2] at b_w1; clear r3
    refine r_icmp (tgt := 39) (pc' := 10) D64_7 rfl rfl (by unfold inR; omega) (fun (c4 : w1 ≤ x3) => ?_) (fun (c4 : ¬ (w1 ≤ x3)) => ?_)
    · refine s_blx (lv' := [(0, vR 1), (1, vR 13), (2, vI length), (3, vI x3)]) (st' := [vI 0]) B64_39_40 rfl ?_
      exact r_zretI D64_40 rfl (by omega) (⟨rfl, by omega, fun h => absurd h (by omega), fun _ h => by obtain ⟨k, p, q, r⟩ := h; exact i0 k p (by omega) r⟩)
    · refine s_blx (lv' := [(0, vR 1), (1, vR 13), (2, vI length), (3, vI x3)]) (st' := [vR 1]) B64_10_11 rfl ?_
      refine r_gfix (r := 6) (pc' := 14) D64_11 rfl gf_8_34_1 H.1 ?_
      refine s_blx (lv' := [(0, vR 1), (1, vR 13), (2, vI length), (3, vI x3)]) (st' := [vI x3, vR 6]) B64_14_15 rfl ?_
      refine r_iald (pc' := 16) D64_15 rfl sc_6 H.1 (by omega) ?_
      intro w5 e6 r7
      have b_w5 := H.2 6 (x3) 0 8 rfl
      rw [← e6] at b_w5; clear r7
      refine s_blx (lv' := [(0, vR 1), (1, vR 13), (2, vI length), (3, vI x3)]) (st' := [vI length, vI w5]) B64_16_17 rfl ?_
      refine r_icmp (tgt := 33) (pc' := 20) D64_17 rfl rfl (by unfold inR; omega) (fun (c8 : w5 ≠ length) => ?_) (fun (c8 : ¬ (w5 ≠ length)) => ?_)
      · refine s_blx (lv' := [(3, vI (x3 + 1)), (0, vR 1), (1, vR 13), (2, vI length)]) (st' := []) B64_33_36 rfl ?_
        refine r_goto (tgt := 2) D64_36 rfl ?_
        refine r_loc (lv' := [(0, vR 1), (1, vR 13), (2, vI length), (3, vI (x3 + 1))]) ⟨rfl, rfl, rfl, rfl, trivial⟩ rfl rfl ?_
        exact ih (x3 + 1) (i0.next (by first | exact fun h => (by have q := h.1; omega) | exact fun h => kb0 (by omega) h.2)) (by omega) (by omega) (by omega) (by omega)
      · refine s_blx (lv' := [(0, vR 1), (1, vR 13), (2, vI length), (3, vI x3)]) (st' := [vI length, vI 0, vR 13, vI x3, vR 1]) B64_20_25 rfl ?_
        refine r_vIp (c := 1) (args := [vI x3, vR 13, vI 0, vI length]) (rest := []) (pc' := 28) D64_25 rfl ck_8_virtual_76 TE71 rfl (Nat.le_of_ble_eq_true rfl) ⟨Nat.le_of_ble_eq_true rfl, Nat.le_of_ble_eq_true rfl⟩ sc_1 ⟨rfl, by decide⟩ H.1 (dp_0 hd rfl) (k71_1_13n E (dp_n hd rfl) H x3 0 length (by omega) (by omega) (by omega)) ?_
        intro v9 q14
        obtain ⟨q11, q12, q13⟩ := q14
        have kb1 := q12
        have kb0 := q13
        refine r_ifc (tgt := 33) (pc' := 31) D64_28 rfl rfl (by unfold inR; omega) (fun (c15 : v9 = 0) => ?_) (fun (c15 : ¬ (v9 = 0)) => ?_)
        · refine s_blx (lv' := [(3, vI (x3 + 1)), (0, vR 1), (1, vR 13), (2, vI length)]) (st' := []) B64_33_36 rfl ?_
          refine r_goto (tgt := 2) D64_36 rfl ?_
          refine r_loc (lv' := [(0, vR 1), (1, vR 13), (2, vI length), (3, vI (x3 + 1))]) ⟨rfl, rfl, rfl, rfl, trivial⟩ rfl rfl ?_
          exact ih (x3 + 1) (i0.next (by first | exact fun h => (by have q := h.1; omega) | exact fun h => kb0 (by omega) h.2)) (by omega) (by omega) (by omega) (by omega)
        · refine s_blx (lv' := [(0, vR 1), (1, vR 13), (2, vI length), (3, vI x3)]) (st' := [vI 1]) B64_31_32 rfl ?_
          exact r_zretI D64_32 rfl (by omega) (⟨rfl, by omega, fun _ => ⟨x3, by omega, by omega, by omega, kb1 (by omega)⟩, fun h => absurd h (by omega)⟩)
