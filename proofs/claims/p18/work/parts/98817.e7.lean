/-! Images and the tape. -/
section
variable {base : Nat} {X : Nat → Option mC} {G : Nat → Value} {d : Nat}
set_option maxRecDepth 4000 in
theorem v129q (E : EnvOK base X G) (hd : 2 ≤ d) {Mz : mH} (H : HI base Mz) (hB : HB base Mz) (hN : HN base Mz) {k : Int} (hk : 0 ≤ k ∧ k ≤ 1) {c : Nat} (hc : 111 ≤ c) (hv12 : hv Mz 12 k.toNat = .ref (base + c)) (hs : StS base c Mz) (hI : ∀ k', k' < 2 → k' ≠ k.toNat → hv Mz 12 k' = .null ∨ ∃ c', hv Mz 12 k' = .ref (base + c') ∧ IsSt base c' Mz) {P : Int → mH → Prop} (hP : ∀ M', HI base M' → HB base M' → HN base M' → IMG base M' → M'.1 = Mz.1 → M'.2.1 = Mz.2.1 → (∀ c, 12 < c → c < 111 → sameC c Mz M') → (∀ r, IsRow r Mz → IsRow r M') → gi M' 0 9 = 1 → (∀ i, hv M' 12 i = hv Mz 12 i) → gi M' 0 3 = gi Mz 0 3 → P 0 M') : sRn base X G d T129 37 [(0, vR 0), (1, vI k)] [] Mz (s_Q base (pI P)) := by
  refine s_blx (lv' := [(0, vR 0), (1, vI k)]) (st' := [vR 0]) B129_37_38 rfl ?_
  refine r_gfix (r := 12) (pc' := 41) D129_38 rfl gf_10_16_0 H.1 ?_
  refine s_blx (lv' := [(0, vR 0), (1, vI k)]) (st' := [vI k, vR 12]) B129_41_42 rfl ?_
  refine r_aald (v := vR c) (pc' := 43) D129_42 rfl sc_12 (by decide) H.1 (by omega) hv12 ?_
  refine s_blx (lv' := [(0, vR 0), (1, vI k)]) (st' := [vR 0, vR c]) B129_43_44 rfl ?_
  refine r_gfix (r := 1) (pc' := 47) D129_44 rfl gf_10_10_0 H.1 ?_
  refine r_callD (c := c) (args := [vR 1]) (rest := []) (pc' := 50) D129_47 rfl ck_10_virtual_331 TE58 rfl (Nat.le_of_ble_eq_true rfl) ⟨Nat.le_of_ble_eq_true rfl, Nat.le_of_ble_eq_true rfl⟩ (by have := hs.1; omega) (hs.2.1 0 _ rfl).1 (by decide) (by omega) (k58 (StS.one H hN) hs (Or.inl (by omega))) ?_
  rintro v M4 ⟨rfl, P4⟩
  obtain ⟨H4, B4, N4, I4, s4, r4⟩ := img_ok H hB hN hc hs hv12 hI P4
  show sRn _ _ _ _ _ 50 [(0, vR 0), (1, vI k)] [] _ _
  refine s_blx (lv' := [(0, vR 0), (1, vI k)]) (st' := [vI 0, vR 0]) B129_50_52 rfl ?_
  refine r_vI (c := 0) (args := [vI 0]) (rest := []) (pc' := 55) D129_52 rfl ck_10_virtual_123 TE134 rfl (Nat.le_of_ble_eq_true rfl) ⟨Nat.le_of_ble_eq_true rfl, Nat.le_of_ble_eq_true rfl⟩ sc_0 ⟨rfl, by decide⟩ H4.1 (dp_0 hd rfl) (k134s E (dp_n hd rfl) H4 0 (by omega)) ?_
  intro v M5 q
  obtain ⟨H5, f5, e5, g5⟩ := q
  subst e5
  obtain ⟨B5, N5, I5, s5, r5⟩ := acc_ok H4 B4 N4 I4 f5
  exact r_iretI D129_55 rfl (hP M5 H5 B5 N5 I5 (by rw [f5.1, P4.1]) (by rw [f5.2.1, P4.2.1]) (fun c a b => (s4 c b).tr (s5 c a b)) (fun r hr => r5 r (r4 r hr)) g5 (fun i => by rw [(f5.2.2 12).2.2 i rfl, (s4 12 (by decide)).2.2]) (by rw [f5.g rfl, (s4 0 (by decide)).gi]))
set_option maxRecDepth 4000 in
theorem u129q (E : EnvOK base X G) (hd : 3 ≤ d) {M : mH} (H : HI base M) (hB : HB base M) (hN : HN base M) (hI : IMG base M) {k : Int} (hk : 0 ≤ k ∧ k ≤ 1) {P : Int → mH → Prop} (hP : ∀ M', ImP base M M' → (∀ i, i ≠ k.toNat → hv M' 12 i = hv M 12 i) → hv M' 12 k.toNat ≠ .null → gi M' 0 3 = gi M 0 3 → P 0 M') : sRn base X G d T129 20 [(0, vR 0), (1, vI k)] [vI k, vR 12] M (s_Q base (pI P)) := by
  have hM := H.m
  rcases hI k.toNat (by omega) with hnull | ⟨c, hc12, hSt⟩
  · refine r_aald (v := vN) (pc' := 21) D129_20 rfl sc_12 (by decide) H.1 (by omega) hnull ?_
    refine r_ifnonnull (q := none) (tgt := 37) (pc' := 24) D129_21 rfl rfl (fun hq_ => absurd hq_ (by simp)) (fun hq_ => ?_)
    refine s_blx (lv' := [(0, vR 0), (1, vI k)]) (st' := [vR 0]) B129_24_25 rfl ?_
    refine r_gfix (r := 12) (pc' := 28) D129_25 rfl gf_10_16_0 H.1 ?_
    refine s_blx (lv' := [(0, vR 0), (1, vI k)]) (st' := [vI k, vR 12]) B129_28_29 rfl ?_
    refine p_new [(4, 0, 0), (4, 0, 0), (1, 0, 0), (4, 0, 0), (1, 0, 0), (1, 0, 0), (4, 0, 0), (4, 0, 0), (4, 0, 0), (4, 0, 0), (1, 0, 0), (4, 0, 0), (1, 0, 0), (4, 0, 0), (1, 0, 0), (4, 0, 0)] (pc' := 32) D129_29 rfl nw_10_7 rfl (Ps.nil (base := base) (M := M)) pd_7 0 rfl (fun M1 P1 => ?_)
    show sRn _ _ _ _ _ 32 _ [vR M.1, vI k, vR 12] _ _
    refine s_blx (lv' := [(0, vR 0), (1, vI k)]) (st' := [vR M.1, vR M.1, vI k, vR 12]) B129_32_33 rfl ?_
    refine r_calls (args := [vR M.1]) (rest := [vR M.1, vI k, vR 12]) (pc' := 36) D129_33 rfl ck_10_special_9 TE57 rfl (Nat.le_of_ble_eq_true rfl) ⟨Nat.le_of_ble_eq_true rfl, Nat.le_of_ble_eq_true rfl⟩ (by decide) (by omega) (c57 E (by omega) P1 rfl) ?_
    rintro v M2 ⟨rfl, P2⟩
    show sRn _ _ _ _ _ 36 [(0, vR 0), (1, vI k)] [vR M.1, vI k, vR 12] _ _
    have hs2 := StS.ofPs P2
    have n2 : M2.1 = M.1 + 11 := P2.1
    have l2 : M2.2.1 = M.2.1 + 493 := P2.2.1
    have s2 := P2.2.2.1
    have H2 : HI base M2 := H.of (by omega) (fun c hc => s2 c (by omega))
    have B2 := hB.alloc (by omega) hM s2
    have N2 := hN.alloc (by omega) hM s2
    refine r_aastS (pc' := 37) D129_36 rfl H2 (by omega) (hs2.2.1 0 _ rfl).1 hk ?_
    intro M3 u3 H3
    have hle3 : M2.1 ≤ M3.1 := by rw [u3.n1]; exact Nat.le_refl _
    have hs3 : StS base M.1 M3 := by
      obtain ⟨h1, h2, h3, h4, h5⟩ := hs2
      have s : ∀ r, M.1 ≤ r → sameC r M2 M3 := fun r hr => u3.same (by omega)
      refine ⟨by rw [u3.n1]; exact h1, fun j z hz => ?_, fun k r hr => ?_, fun k hk => ?_, fun i hi => ?_⟩
      · have sj := s (M.1 + j) (by omega)
        rw [sj.1, sj.2.1]; exact h2 j z hz
      · rw [(s M.1 (Nat.le_refl _)).2.2]; exact h3 k r hr
      · rw [(s M.1 (Nat.le_refl _)).2.2]; exact h4 k hk
      · rw [(s (M.1 + 8) (by omega)).2.2]
        rcases h5 i hi with q | ⟨x, q1, q2, q3⟩
        · exact Or.inl q
        · exact Or.inr ⟨x, q1, by rw [u3.n1]; exact q2, by rw [u3.k]; exact q3⟩
    refine v129q E (by omega) H3 (B2.wr u3 ⟨by decide, by decide, Or.inl (by decide)⟩) (N2.wr u3 (by decide)) hk hM u3.eq hs3 (fun k' hk' hne => ?_) (fun M' a1 a2 a3 a4 a5 a6 a7 a8 a9 b1 b2 => hP M' ⟨a1, a2, a3, a4, ⟨by rw [a5, u3.n1, n2]; omega, by rw [a5, u3.n1, n2]; omega⟩, by rw [a6, u3.n2, l2]; omega, fun c x y => ((s2 c (by omega)).tr (u3.same (by omega))).tr (a7 c x y), fun r hr => a8 r ((hr.of (by omega) (s2 r hr.2.1)).wr u3 (Or.inl (by decide))), Or.inl a9⟩ (fun i hi => by rw [b1, u3.ne (Or.inr hi), (s2 12 (by omega)).2.2]) (by rw [b1, u3.eq]; intro h; cases h) (by rw [b2, (u3.same (by decide)).gi, (s2 0 (by omega)).gi]))
    rw [u3.ne (Or.inr hne), (s2 12 (by omega)).2.2]
    rcases hI k' hk' with q | ⟨c', a, b⟩
    · exact Or.inl q
    · refine Or.inr ⟨c', a, ?_⟩
      have b2 := b.of (M' := M2) (by omega) (fun r x y => s2 r (by have := b.2.1.1; omega)) (fun hb nh nc hh => hh.of (by omega) (fun r x y => s2 r (by have := hh.2.1; omega))) (fun r hr q => (s2 r hr).1.trans q)
      exact b2.of hle3 (fun r x y => u3.same (by have := b.1; omega)) (fun hb nh nc hh => hh.wr u3 (by decide)) (fun r hr q => (u3.k r).trans q)
  · refine r_aald (v := vR c) (pc' := 21) D129_20 rfl sc_12 (by decide) H.1 (by omega) hc12 ?_
    refine r_ifnonnull (q := some (.inl c)) (tgt := 37) (pc' := 24) D129_21 rfl rfl (fun hq_ => ?_) (fun hq_ => absurd hq_ (by simp))
    exact v129q E (by omega) H hB hN hk hSt.1 hc12 hSt.2.1 (fun k' hk' _ => hI k' hk') (fun M' a1 a2 a3 a4 a5 a6 a7 a8 a9 b1 b2 => hP M' ⟨a1, a2, a3, a4, ⟨by omega, by omega⟩, by omega, a7, a8, Or.inl a9⟩ (fun i _ => b1 i) (by rw [b1, hc12]; intro h; cases h) b2)
set_option maxRecDepth 4000 in
theorem u130q (E : EnvOK base X G) (hd : 2 ≤ d) {M : mH} (H : HI base M) (hB : HB base M) (hN : HN base M) (hI : IMG base M) {k : Int} (hk : 0 ≤ k ∧ k ≤ 1) {P : Int → mH → Prop} (hP : ∀ v M', ImP base M M' → (∀ i, hv M' 12 i = hv M 12 i) → gi M' 0 3 = gi M 0 3 → (hv M 12 k.toNat = .null → v = -2) → (hv M 12 k.toNat ≠ .null → v = 0) → P v M') : sRn base X G d T130 20 [(0, vR 0), (1, vI k)] [vI k, vR 12] M (s_Q base (pI P)) := by
  have hM := H.m
  rcases hI k.toNat (by omega) with hnull | ⟨c, hc12, hSt⟩
  · refine r_aald (v := vN) (pc' := 21) D130_20 rfl sc_12 (by decide) H.1 (by omega) hnull ?_
    refine r_ifnonnull (q := none) (tgt := 31) (pc' := 24) D130_21 rfl rfl (fun hq_ => absurd hq_ (by simp)) (fun hq_ => ?_)
    refine s_blx (lv' := [(0, vR 0), (1, vI k)]) (st' := [vI (-2), vR 0]) B130_24_27 rfl ?_
    refine r_vI (c := 0) (args := [vI (-2)]) (rest := []) (pc' := 30) D130_27 rfl ck_10_virtual_106 TE133 rfl (Nat.le_of_ble_eq_true rfl) ⟨Nat.le_of_ble_eq_true rfl, Nat.le_of_ble_eq_true rfl⟩ sc_0 ⟨rfl, by decide⟩ H.1 (dp_0 hd rfl) (k133 E (dp_n hd rfl) H (-2) (by omega)) ?_
    intro v M5 q
    obtain ⟨H5, f5, e5⟩ := q
    obtain ⟨B5, N5, I5, s5, r5⟩ := acc_ok H hB hN hI (f5.up rfl)
    exact r_iretI D130_30 rfl (hP _ M5 ⟨H5, B5, N5, I5, ⟨by rw [f5.1]; omega, by rw [f5.1]; omega⟩, by rw [f5.2.1]; omega, s5, r5, Or.inr (f5.g rfl)⟩ (fun i => (f5.2.2 12).2.2 i rfl) (f5.g rfl) (fun _ => e5) (fun h => absurd hnull h))
  · refine r_aald (v := vR c) (pc' := 21) D130_20 rfl sc_12 (by decide) H.1 (by omega) hc12 ?_
    refine r_ifnonnull (q := some (.inl c)) (tgt := 31) (pc' := 24) D130_21 rfl rfl (fun hq_ => ?_) (fun hq_ => absurd hq_ (by simp))
    refine s_blx (lv' := [(0, vR 0), (1, vI k)]) (st' := [vR 0]) B130_31_32 rfl ?_
    refine r_gfix (r := 1) (pc' := 35) D130_32 rfl gf_10_10_0 H.1 ?_
    refine s_blx (lv' := [(0, vR 0), (1, vI k)]) (st' := [vR 0, vR 1]) B130_35_36 rfl ?_
    refine r_gfix (r := 12) (pc' := 39) D130_36 rfl gf_10_16_0 H.1 ?_
    refine s_blx (lv' := [(0, vR 0), (1, vI k)]) (st' := [vI k, vR 12, vR 1]) B130_39_40 rfl ?_
    refine r_aald (v := vR c) (pc' := 41) D130_40 rfl sc_12 (by decide) H.1 (by omega) hc12 ?_
    refine r_callv (c := 1) (args := [vR c]) (rest := []) (pc' := 44) D130_41 rfl ck_10_virtual_331 TE58 rfl (Nat.le_of_ble_eq_true rfl) ⟨Nat.le_of_ble_eq_true rfl, Nat.le_of_ble_eq_true rfl⟩ sc_1 ⟨rfl, by decide⟩ H.1 (by omega) (k58 hSt.2.1 (StS.one H hN) (Or.inr (by have := hSt.1; omega))) ?_
    rintro v M4 ⟨rfl, P4⟩
    obtain ⟨H4, B4, N4⟩ := back_ok H hSt P4
    have hle : M.1 ≤ M4.1 := by rw [P4.1]; exact Nat.le_refl _
    have s4 : ∀ r, 11 < r → sameC r M M4 := fun r hr => P4.same (by omega)
    have I4 : IMG base M4 := hI.of hle (s4 12 (by decide)).2.2 (fun c' r hs x y => s4 r (by have := hs.1; omega)) (fun hb nh nc hh => hh.of hle (fun r x y => s4 r (by have := hh.1; omega))) (fun r hr q => (P4.2.2.1 r).1.trans q)
    show sRn _ _ _ _ _ 44 [(0, vR 0), (1, vI k)] [] _ _
    refine s_blx (lv' := [(0, vR 0), (1, vI k)]) (st' := [vI 0, vR 0]) B130_44_46 rfl ?_
    refine r_vI (c := 0) (args := [vI 0]) (rest := []) (pc' := 49) D130_46 rfl ck_10_virtual_123 TE134 rfl (Nat.le_of_ble_eq_true rfl) ⟨Nat.le_of_ble_eq_true rfl, Nat.le_of_ble_eq_true rfl⟩ sc_0 ⟨rfl, by decide⟩ H4.1 (dp_0 hd rfl) (k134s E (dp_n hd rfl) H4 0 (by omega)) ?_
    intro v M5 q
    obtain ⟨H5, f5, e5, g5⟩ := q
    obtain ⟨B5, N5, I5, s5, r5⟩ := acc_ok H4 B4 N4 I4 f5
    exact r_iretI D130_49 rfl (hP _ M5 ⟨H5, B5, N5, I5, ⟨by rw [f5.1, P4.1]; omega, by rw [f5.1, P4.1]; omega⟩, by rw [f5.2.1, P4.2.1]; omega, fun c a b => (s4 c (by omega)).tr (s5 c a b), fun r hr => r5 r (hr.of hle (s4 r (by have := hr.1; omega))), Or.inl g5⟩ (fun i => by rw [(f5.2.2 12).2.2 i rfl, (s4 12 (by decide)).2.2]) (by rw [f5.g rfl, (P4.same (r := 0) (by omega)).gi]) (fun h => by rw [hc12] at h; cases h) (fun _ => e5))
end
