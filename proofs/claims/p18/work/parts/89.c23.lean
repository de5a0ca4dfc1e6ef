/-! A frame that lets rows change and things be made. -/
noncomputable def Fz (L : List (Nat × Nat)) (M0 M : mH) : Prop := M0.1 ≤ M.1 ∧ (∀ c, c < M0.1 → hk M c = hk M0 c ∧ hz M c = hz M0 c ∧ ∀ i, s_md L c i = false → (c < 111 ∨ hk M0 c ≠ 1001) → hv M c i = hv M0 c i) ∧ ∀ r, IsRow r M0 → IsRow r M
theorem Fz.rf {L : List (Nat × Nat)} {M : mH} : Fz L M M := ⟨Nat.le_refl _, fun _ _ => ⟨rfl, rfl, fun _ _ _ => rfl⟩, fun _ h => h⟩
theorem Fz.tr {L : List (Nat × Nat)} {M0 M1 M2 : mH} (h : Fz L M0 M1) (k : Fz L M1 M2) : Fz L M0 M2 := by
  obtain ⟨h1, h2, h3⟩ := h
  obtain ⟨k1, k2, k3⟩ := k
  refine ⟨by omega, fun c hc => ?_, fun r hr => k3 r (h3 r hr)⟩
  obtain ⟨p1, p2, p3⟩ := h2 c hc
  obtain ⟨q1, q2, q3⟩ := k2 c (by omega)
  exact ⟨q1.trans p1, q2.trans p2, fun i hi hcc => (q3 i hi (by rw [p1]; exact hcc)).trans (p3 i hi hcc)⟩
theorem Fz.up {L L' : List (Nat × Nat)} {M0 M : mH} (h : Fz L M0 M) (k : s_sub L L' = true) : Fz L' M0 M := ⟨h.1, fun c hc => ⟨(h.2.1 c hc).1, (h.2.1 c hc).2.1, fun i hi hcc => (h.2.1 c hc).2.2 i (s_sub_ok k c i hi) hcc⟩, h.2.2⟩
theorem Fq.z {L : List (Nat × Nat)} {M0 M : mH} (h : Fq L M0 M) : Fz L M0 M := ⟨by rw [h.1]; exact Nat.le_refl _, fun c _ => h.2.2.1 c, h.2.2.2⟩
theorem Fz.wr {L : List (Nat × Nat)} {M0 M M' : mH} (h : Fz L M0 M) {c i : Nat} {v : Value} (k : Wr M c i v M') (hm : (s_md L c i && decide (c < 111)) = true) : Fz L M0 M' := by
  rw [Bool.and_eq_true, decide_eq_true_eq] at hm
  obtain ⟨h1, h2, h3⟩ := h
  refine ⟨by rw [k.n1]; exact h1, fun c' hc' => ⟨(k.k c').trans (h2 c' hc').1, (k.z c').trans (h2 c' hc').2.1, fun j hj hcc => ?_⟩, fun r hr => (h3 r hr).wr k (Or.inl hm.2)⟩
  rw [k.ne]
  · exact (h2 c' hc').2.2 j hj hcc
  · by_cases e : c' = c
    · subst e
      right
      intro e2
      subst e2
      rw [hm.1] at hj
      cases hj
    · exact Or.inl e
theorem Fz.nw {L : List (Nat × Nat)} {M0 M M' : mH} {x : mC} (h : Fz L M0 M) (w : Nw M x M') : Fz L M0 M' := by
  obtain ⟨h1, h2, h3⟩ := h
  refine ⟨by rw [w.n1]; omega, fun c hc => ?_, fun r hr => (h3 r hr).of (by rw [w.n1]; omega) (w.same (by have := (h3 r hr).2.1; omega))⟩
  have s := w.same (c := c) (by omega)
  obtain ⟨p1, p2, p3⟩ := h2 c hc
  exact ⟨s.1.trans p1, s.2.1.trans p2, fun i hi hcc => (s.2.2 i).trans (p3 i hi hcc)⟩
theorem Fz.g {L : List (Nat × Nat)} {M0 M : mH} (h : Fz L M0 M) {c : Nat} {i : Int} (hM : 111 ≤ M0.1) (k : (!s_md L c i.toNat && decide (c < 111)) = true) : gi M c i = gi M0 c i := by
  rw [Bool.and_eq_true, decide_eq_true_eq] at k
  unfold gi
  rw [(h.2.1 c (by omega)).2.2 _ (by simpa using k.1) (Or.inl k.2)]
theorem Fz.hv {L : List (Nat × Nat)} {M0 M : mH} (h : Fz L M0 M) {c : Nat} (hM : 111 ≤ M0.1) (hc : c < 111) (k : ∀ i, s_md L c i = false) (i : Nat) : hv M c i = hv M0 c i := (h.2.1 c (by omega)).2.2 i (k i) (Or.inl hc)
theorem IsHab.fz {base hb : Nat} {nh nc : Int} {L : List (Nat × Nat)} {M M' : mH} (h : IsHab base hb nh nc M) (f : Fz L M M') (hl : s_al L (fun c => decide (c < 111)) = true) : IsHab base hb nh nc M' := by
  have a := h.1
  have b := h.2.1
  refine h.of f.1 (fun r r1 r2 => ?_)
  obtain ⟨p1, p2, p3⟩ := f.2.1 r (by omega)
  refine ⟨p1, p2, fun i => p3 i (s_al_ok hl (by simp; omega)) (Or.inr ?_)⟩
  have hk0 : hk M r = 3 ∨ hk M r = 1000 := by
    have e : r = hb ∨ r = hb + 1 ∨ r = hb + 2 ∨ r = hb + 3 := by omega
    rcases e with rfl | rfl | rfl | rfl
    · exact Or.inl h.2.2.1
    · exact Or.inr h.2.2.2.2.2.1.1
    · exact Or.inr h.2.2.2.2.2.2.1.1
    · exact Or.inr h.ic.2.2.1.1
  omega
