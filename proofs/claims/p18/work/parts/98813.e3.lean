/-! habit, and the tape. -/
section
variable {base : Nat} {X : Nat → Option mC} {G : Nat → Value}
theorem z112 (E : EnvOK base X G) {d : Nat} (hd : 60 ≤ d) {M : mH} (H : HI base M) (hB : HB base M) (hN : HN base M) {len : Int} (hlen : 0 ≤ len ∧ len ≤ 400) {n0 : Int} (hn : gi M 1 12 = n0) (hn7 : 0 ≤ n0 ∧ n0 ≤ 7) {P : Int → mH → Prop} (hP : ∀ v M', HI base M' → HB base M' → HN base M' → Fx [(0, 5), (0, 6), (0, 10), (1, 13), (9, 0), (14, 3), (14, 4), (14, 5), (14, 8), (14, 10), (14, 11), (15, 0), (16, 0), (17, 0), (18, 0), (19, 0)] 4 427 M M' → (gi M' 0 9 = 1 ∨ gi M' 0 9 = gi M 0 9) → gi M' 0 3 = gi M 0 3 → P v M') : sRn base X G d T112 33 [(0, vR 0), (1, vI len)] [vI len, vR 13, vR 14] M (s_Q base (pI P)) := by
  have hl : shL.length = 111 := rfl
  have hM := H.1.1
  refine r_callv (c := 14) (args := [vR 13, vI len]) (rest := []) (pc' := 36) D112_33 rfl ck_10_virtual_240 TE17 rfl (Nat.le_of_ble_eq_true rfl) ⟨Nat.le_of_ble_eq_true rfl, Nat.le_of_ble_eq_true rfl⟩ sc_14 ⟨rfl, by decide⟩ H.1 (dp_0 hd rfl) (k17_14_13x E (dp_n hd rfl) H len hlen) ?_
  intro v M1 p
  obtain ⟨q, hq, hor⟩ := p
  subst hq
  rcases hor with ⟨hv, H1, f1⟩ | ⟨M2, f2, H2, hR⟩
  · subst hv
    refine m_Rn.imp (k112en E (by omega) H1 len (hB.fr f1 rfl) (hN.fr f1 rfl) hlen) ?_
    rintro r M' ⟨v', e1, v, e2, H', f', hB', hN', hS, hT⟩
    have g0 : gi M1 0 9 = gi M 0 9 := f1.g rfl
    have g3 : gi M1 0 3 = gi M 0 3 := f1.g rfl
    exact ⟨v', e1, v, e2, hP v M' H' hB' hN' (((f1.x.up rfl).tr (f'.x.up rfl)).more) (by rw [← g0]; exact hS) (by rw [hT, g3])⟩
  · have hx := hR.x
    obtain ⟨H1, hv, m1, l1, s1, n, u, ih, hn12, hu⟩ := hR
    subst hv
    have hB2 := hB.fr f2 rfl
    have hN2 := hN.fr f2 rfl
    have hM2 := H2.1.1
    have hB1 := hB2.alloc (by omega) (by omega) s1
    have hN1 := hN2.alloc (by omega) (by omega) s1
    have g : gi M1 1 12 = n0 := by rw [(s1 1 (by omega)).gi, f2.g rfl, hn]
    have g0 : gi M1 0 9 = gi M 0 9 := by rw [(s1 0 (by omega)).gi, f2.g rfl]
    have g3 : gi M1 0 3 = gi M 0 3 := by rw [(s1 0 (by omega)).gi, f2.g rfl]
    refine m_Rn.imp (k112er E (by omega) H1 len M2.1 n u n0 hB1 hN1 hlen ih g hn7 hn12) ?_
    rintro r M' ⟨v', e1, v, e2, H', f', hB', hN', hS, hT⟩
    exact ⟨v', e1, v, e2, hP v M' H' hB' hN' ((((f2.x.up rfl).tr (hx.up rfl)).tr (f'.x.up rfl)).more) (by rw [← g0]; exact hS) (by rw [hT, g3])⟩
end
