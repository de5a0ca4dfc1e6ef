/-! The reference's images keep what is kept. -/
noncomputable def LI (k : Int) (M : mH) : Prop := ∀ s : Int, 0 ≤ s → s < gi M 79 (6883 * k + 469) → 1 ≤ gi M 79 (6883 * k + (135 + 16 * s))
noncomputable def GI (k : Int) (M : mH) : Prop := ∀ t : Int, 0 ≤ t → t < gi M 79 (6883 * k + 471) → AC 79 (6883 * k + (483 + 400 * t)) (gi M 79 (6883 * k + (475 + t))) M
noncomputable def IM (M : mH) : Prop := ∀ k : Int, k = 0 ∨ k = 1 → gi M 80 k = 1 → LI k M ∧ GI k M
theorem IM.fr {L : List (Nat × Nat)} {M M' : mH} (h : IM M) (f : Fr L M M') (hc : s_al L (fun c => c != 79 && c != 80) = true) : IM M' := by
  have e1 : ∀ i : Int, gi M' 79 i = gi M 79 i := fun _ => f.g (s_al_ok hc (by simp))
  have e2 : ∀ i : Int, gi M' 80 i = gi M 80 i := fun _ => f.g (s_al_ok hc (by simp))
  intro k hk h1
  rw [e2] at h1
  obtain ⟨a, b⟩ := h k hk h1
  refine ⟨fun s q1 q2 => ?_, fun t q1 q2 => ?_⟩
  · rw [e1] at q2 ⊢; exact a s q1 q2
  · rw [e1] at q2 ⊢; exact (b t q1 q2).of (fun j _ _ => e1 _)
theorem IM.wr {M M' : mH} {c i : Nat} {v : Value} (h : IM M) (u : Wr M c i v M') (hc : c ≠ 79 ∧ c ≠ 80) : IM M' := by
  have e1 : ∀ i : Int, gi M' 79 i = gi M 79 i := fun j => by unfold gi; rw [u.ne (Or.inl (Ne.symm hc.1))]
  have e2 : ∀ i : Int, gi M' 80 i = gi M 80 i := fun j => by unfold gi; rw [u.ne (Or.inl (Ne.symm hc.2))]
  intro k hk h1
  rw [e2] at h1
  obtain ⟨a, b⟩ := h k hk h1
  refine ⟨fun s q1 q2 => ?_, fun t q1 q2 => ?_⟩
  · rw [e1] at q2 ⊢; exact a s q1 q2
  · rw [e1] at q2 ⊢; exact (b t q1 q2).of (fun j _ _ => e1 _)
/-- what is kept is made an image -/
theorem IM.make {base : Nat} {M N : mH} {k : Int} (h : IM M) (hk : k = 0 ∨ k = 1) (HN : HI base N) (hl : LN N) (hg : GK N) (hc : ∀ j : Int, 0 ≤ j → j < 6883 → gi N 79 (6883 * k + j) = gi N 78 j)
    (ho : ∀ j : Int, 0 ≤ j → (j < 6883 * k ∨ 6883 * k + 6883 ≤ j) → gi N 79 j = gi M 79 j) (h8 : ∀ i : Int, i ≠ k → gi N 80 i = gi M 80 i) : IM N := by
  have hm := HN.2 78 469 0 16 (rk_many (by omega))
  have ht := HN.2 78 471 0 8 (rk_told (by omega))
  intro k' hk' h1
  by_cases e : k' = k
  · subst e
    refine ⟨fun s q1 q2 => ?_, fun t q1 q2 => ?_⟩
    · rw [hc 469 (by omega) (by omega)] at q2
      rw [hc _ (by omega) (by omega)]
      exact hl s q1 q2
    · rw [hc 471 (by omega) (by omega)] at q2
      have hz := HN.2 78 (475 + t) 0 400 (rk_sizes (by omega))
      rw [hc (475 + t) (by omega) (by omega)]
      obtain ⟨F, f0, f1, f2⟩ := hg t q1 q2
      refine ⟨F, f0, fun j a b => ?_, f2⟩
      rw [show 6883 * k' + (483 + 400 * t) + j = 6883 * k' + (483 + 400 * t + j) by omega, hc _ (by omega) (by omega)]
      exact f1 j a b
  · rw [h8 k' e] at h1
    obtain ⟨a, b⟩ := h k' hk' h1
    have h9 : ∀ j : Int, 0 ≤ j → j < 6883 → gi N 79 (6883 * k' + j) = gi M 79 (6883 * k' + j) := fun j q1 q2 => ho _ (by omega) (by omega)
    have hm2 := HN.2 79 (6883 * k' + 469) 0 16 (by rw [rg79 hk' (by omega)]; exact rk_many (by omega))
    have ht2 := HN.2 79 (6883 * k' + 471) 0 8 (by rw [rg79 hk' (by omega)]; exact rk_told (by omega))
    refine ⟨fun s q1 q2 => ?_, fun t q1 q2 => ?_⟩
    · rw [h9 469 (by omega) (by omega)] at q2 hm2
      rw [h9 _ (by omega) (by omega)]
      exact a s q1 q2
    · rw [h9 471 (by omega) (by omega)] at q2 ht2
      have hz := HN.2 79 (6883 * k' + (475 + t)) 0 400 (by rw [rg79 hk' (by omega)]; exact rk_sizes (by omega))
      rw [h9 (475 + t) (by omega) (by omega)] at hz ⊢
      refine (b t q1 q2).of (fun j a b => ?_)
      rw [show 6883 * k' + (483 + 400 * t) + j = 6883 * k' + (483 + 400 * t + j) by omega]
      exact h9 _ (by omega) (by omega)
/-- an image is kept again -/
theorem IM.back {base : Nat} {N : mH} {k : Int} (h : LI k N ∧ GI k N) (hk : k = 0 ∨ k = 1) (HN : HI base N) (hc : ∀ j : Int, 0 ≤ j → j < 6883 → gi N 78 j = gi N 79 (6883 * k + j)) : LN N ∧ GK N := by
  have hm := HN.2 78 469 0 16 (rk_many (by omega))
  have ht := HN.2 78 471 0 8 (rk_told (by omega))
  obtain ⟨a, b⟩ := h
  refine ⟨fun s q1 q2 => ?_, fun t q1 q2 => ?_⟩
  · have q3 := q2
    rw [hc 469 (by omega) (by omega)] at q3
    rw [hc _ (by omega) (by omega)]
    exact a s q1 q3
  · have q3 := q2
    rw [hc 471 (by omega) (by omega)] at q3
    have hz := HN.2 78 (475 + t) 0 400 (rk_sizes (by omega))
    rw [hc (475 + t) (by omega) (by omega)] at hz ⊢
    obtain ⟨F, f0, f1, f2⟩ := b t q1 q3
    refine ⟨F, f0, fun j a b => ?_, f2⟩
    rw [hc _ (by omega) (by omega), show 6883 * k + (483 + 400 * t + j) = 6883 * k + (483 + 400 * t) + j by omega]
    exact f1 j a b
