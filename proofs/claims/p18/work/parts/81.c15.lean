/-! habit of the class. -/
theorem Fx.more {L : List (Nat × Nat)} {a b a' b' : Nat} {M0 M : mH} (h : Fx L a b M0 M) (ha : a ≤ a' := by decide) (hb : b ≤ b' := by decide) : Fx L a' b' M0 M := ⟨⟨h.1.1, by have := h.1.2; omega⟩, by have := h.2.1; omega, h.2.2⟩
section
variable {base : Nat} {X : Nat → Option mC} {G : Nat → Value}
theorem D112_33 : decode T112.2.2.1 33 = .ok (.invokevirtual 240, 3) := by decide +kernel
theorem ck_10_virtual_240 : m_call 10 (.invokevirtual 240) = some (0, 17, 2) := by decide +kernel
theorem u112 (E : EnvOK base X G) {d : Nat} (hd : 60 ≤ d) {M : mH} (H : HI base M) (hB : HB base M) {len : Int} (hlen : 0 ≤ len ∧ len ≤ 400) {n0 : Int} (hn : gi M 1 12 = n0) (hn7 : 0 ≤ n0 ∧ n0 ≤ 7) {P : Int → mH → Prop} (hP : ∀ v M', HI base M' → HB base M' → Fx [(0, 5), (0, 6), (0, 10), (1, 13), (9, 0), (14, 3), (14, 4), (14, 5), (14, 8), (14, 10), (14, 11), (15, 0), (16, 0), (17, 0), (18, 0), (19, 0)] 4 427 M M' → P v M') : sRn base X G d T112 33 [(0, vR 0), (1, vI len)] [vI len, vR 13, vR 14] M (s_Q base (pI P)) := by
  have hl : shL.length = 111 := rfl
  have hM := H.1.1
  refine r_callv (c := 14) (args := [vR 13, vI len]) (rest := []) (pc' := 36) D112_33 rfl ck_10_virtual_240 TE17 rfl (Nat.le_of_ble_eq_true rfl) ⟨Nat.le_of_ble_eq_true rfl, Nat.le_of_ble_eq_true rfl⟩ sc_14 ⟨rfl, by decide⟩ H.1 (dp_0 hd rfl) (k17_14_13x E (dp_n hd rfl) H len hlen) ?_
  intro v M1 p
  obtain ⟨q, hq, hor⟩ := p
  subst hq
  rcases hor with ⟨hv, H1, f1⟩ | ⟨M2, f2, H2, hR⟩
  · subst hv
    refine m_Rn.imp (k112tn E (by omega) H1 len (hB.fr f1 rfl) hlen) ?_
    rintro r M' ⟨v', e1, v, e2, H', f', hB'⟩
    exact ⟨v', e1, v, e2, hP v M' H' hB' (((f1.x.up rfl).tr (f'.x.up rfl)).more)⟩
  · have hx := hR.x
    obtain ⟨H1, hv, m1, l1, s1, n, u, ih, hn12, hu⟩ := hR
    subst hv
    have hB2 := hB.fr f2 rfl
    have hM2 := H2.1.1
    have hB1 := hB2.alloc (by omega) (by omega) s1
    have g : gi M1 1 12 = n0 := by rw [(s1 1 (by omega)).gi, f2.g rfl, hn]
    refine m_Rn.imp (k112tr E (by omega) H1 len M2.1 n u n0 hB1 hlen ih g hn7 hn12) ?_
    rintro r M' ⟨v', e1, v, e2, H', f', hB'⟩
    exact ⟨v', e1, v, e2, hP v M' H' hB' ((((f2.x.up rfl).tr (hx.up rfl)).tr (f'.x.up rfl)).more)⟩
end
