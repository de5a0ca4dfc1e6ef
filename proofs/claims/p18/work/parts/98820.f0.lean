/-! The state of both sides as numbers: N at all places of kept but those of the TEXTS, T the tape's bytes, whether there are images and what they hold, how long the tape is. -/
noncomputable def dAs (j : Int) : Prop := 0 ≤ j ∧ j < 475 ∧ j ≠ 471
/-- where the class keeps it: which cell behind the State, which slot -/
noncomputable def slA (j : Int) : Nat × Int := if j < 90 then (1, j) else if j < 99 then (2, j - 90) else if j < 135 then (3, j - 99) else if j < 391 then (if (j - 135) % 16 = 0 then (5, (j - 135) / 16) else if (j - 135) % 16 < 9 then (4, 8 * ((j - 135) / 16) + ((j - 135) % 16 - 1)) else if (j - 135) % 16 < 12 then (6, 3 * ((j - 135) / 16) + ((j - 135) % 16 - 9)) else (7, 4 * ((j - 135) / 16) + ((j - 135) % 16 - 12))) else if j < 409 then (9, j - 391) else if j < 469 then (10, j - 409) else if j = 469 then (0, 10) else if j = 470 then (0, 4) else if j = 472 then (0, 14) else if j = 473 then (0, 2) else (0, 5)
theorem slA_w {j : Int} (h : 0 ≤ j ∧ j < 90) : slA j = (1, j) := by unfold slA; rw [if_pos h.2]
theorem slA_t {j : Int} (h : 90 ≤ j ∧ j < 99) : slA j = (2, j - 90) := by unfold slA; rw [if_neg (by omega), if_pos h.2]
theorem slA_o {j : Int} (h : 99 ≤ j ∧ j < 135) : slA j = (3, j - 99) := by unfold slA; rw [if_neg (by omega), if_neg (by omega), if_pos h.2]
theorem slA_l {q : Int} (h : 0 ≤ q ∧ q < 16) : slA (135 + 16 * q) = (5, q) := by
  unfold slA
  rw [if_neg (by omega), if_neg (by omega), if_neg (by omega), if_pos (by omega), if_pos (by omega)]
  exact Prod.ext rfl (by dsimp only; omega)
theorem slA_r {q i : Int} (h : 0 ≤ q ∧ q < 16) (hi : 0 ≤ i ∧ i < 8) : slA (136 + 16 * q + i) = (4, 8 * q + i) := by
  unfold slA
  rw [if_neg (by omega), if_neg (by omega), if_neg (by omega), if_pos (by omega), if_neg (by omega), if_pos (by omega)]
  exact Prod.ext rfl (by dsimp only; omega)
theorem slA_v {q i : Int} (h : 0 ≤ q ∧ q < 16) (hi : 0 ≤ i ∧ i < 3) : slA (144 + 16 * q + i) = (6, 3 * q + i) := by
  unfold slA
  rw [if_neg (by omega), if_neg (by omega), if_neg (by omega), if_pos (by omega), if_neg (by omega), if_neg (by omega), if_pos (by omega)]
  exact Prod.ext rfl (by dsimp only; omega)
theorem slA_g {q i : Int} (h : 0 ≤ q ∧ q < 16) (hi : 0 ≤ i ∧ i < 4) : slA (147 + 16 * q + i) = (7, 4 * q + i) := by
  unfold slA
  rw [if_neg (by omega), if_neg (by omega), if_neg (by omega), if_pos (by omega), if_neg (by omega), if_neg (by omega), if_neg (by omega)]
  exact Prod.ext rfl (by dsimp only; omega)
theorem slA_b {j : Int} (h : 391 ≤ j ∧ j < 409) : slA j = (9, j - 391) := by unfold slA; rw [if_neg (by omega), if_neg (by omega), if_neg (by omega), if_neg (by omega), if_pos h.2]
theorem slA_c {j : Int} (h : 409 ≤ j ∧ j < 469) : slA j = (10, j - 409) := by unfold slA; rw [if_neg (by omega), if_neg (by omega), if_neg (by omega), if_neg (by omega), if_neg (by omega), if_pos h.2]
theorem slA_469 : slA 469 = (0, 10) := by decide
theorem slA_470 : slA 470 = (0, 4) := by decide
theorem slA_472 : slA 472 = (0, 14) := by decide
theorem slA_473 : slA 473 = (0, 2) := by decide
theorem slA_474 : slA 474 = (0, 5) := by decide
theorem slA_in {j : Int} (h : dAs j) : (0 ≤ j ∧ j < 90 ∧ slA j = (1, j)) ∨ (90 ≤ j ∧ j < 99 ∧ slA j = (2, j - 90)) ∨ (99 ≤ j ∧ j < 135 ∧ slA j = (3, j - 99)) ∨ (∃ q : Int, 0 ≤ q ∧ q < 16 ∧ j = 135 + 16 * q ∧ slA j = (5, q)) ∨ (∃ q i : Int, 0 ≤ q ∧ q < 16 ∧ 0 ≤ i ∧ i < 8 ∧ j = 136 + 16 * q + i ∧ slA j = (4, 8 * q + i)) ∨ (∃ q i : Int, 0 ≤ q ∧ q < 16 ∧ 0 ≤ i ∧ i < 3 ∧ j = 144 + 16 * q + i ∧ slA j = (6, 3 * q + i)) ∨ (∃ q i : Int, 0 ≤ q ∧ q < 16 ∧ 0 ≤ i ∧ i < 4 ∧ j = 147 + 16 * q + i ∧ slA j = (7, 4 * q + i)) ∨ (391 ≤ j ∧ j < 409 ∧ slA j = (9, j - 391)) ∨ (409 ≤ j ∧ j < 469 ∧ slA j = (10, j - 409)) ∨ (j = 469 ∧ slA j = (0, 10)) ∨ (j = 470 ∧ slA j = (0, 4)) ∨ (j = 472 ∧ slA j = (0, 14)) ∨ (j = 473 ∧ slA j = (0, 2)) ∨ (j = 474 ∧ slA j = (0, 5)) := by
  obtain ⟨h0, h1, h2⟩ := h
  by_cases c1 : j < 90
  · exact Or.inl ⟨h0, c1, slA_w ⟨h0, c1⟩⟩
  refine Or.inr ?_
  by_cases c2 : j < 99
  · exact Or.inl ⟨by omega, c2, slA_t ⟨by omega, c2⟩⟩
  refine Or.inr ?_
  by_cases c3 : j < 135
  · exact Or.inl ⟨by omega, c3, slA_o ⟨by omega, c3⟩⟩
  refine Or.inr ?_
  by_cases c4 : j < 391
  · have q1 : 0 ≤ (j - 135) / 16 ∧ (j - 135) / 16 < 16 := by omega
    by_cases r0 : (j - 135) % 16 = 0
    · have e : 135 + 16 * ((j - 135) / 16) = j := by omega
      have w := slA_l q1
      rw [e] at w
      exact Or.inl ⟨_, q1.1, q1.2, e.symm, w⟩
    refine Or.inr ?_
    by_cases r1 : (j - 135) % 16 < 9
    · have e : 136 + 16 * ((j - 135) / 16) + ((j - 135) % 16 - 1) = j := by omega
      have i1 : 0 ≤ (j - 135) % 16 - 1 ∧ (j - 135) % 16 - 1 < 8 := by omega
      have w := slA_r q1 i1
      rw [e] at w
      exact Or.inl ⟨_, _, q1.1, q1.2, i1.1, i1.2, e.symm, w⟩
    refine Or.inr ?_
    by_cases r2 : (j - 135) % 16 < 12
    · have e : 144 + 16 * ((j - 135) / 16) + ((j - 135) % 16 - 9) = j := by omega
      have i1 : 0 ≤ (j - 135) % 16 - 9 ∧ (j - 135) % 16 - 9 < 3 := by omega
      have w := slA_v q1 i1
      rw [e] at w
      exact Or.inl ⟨_, _, q1.1, q1.2, i1.1, i1.2, e.symm, w⟩
    refine Or.inr (Or.inl ?_)
    have e : 147 + 16 * ((j - 135) / 16) + ((j - 135) % 16 - 12) = j := by omega
    have i1 : 0 ≤ (j - 135) % 16 - 12 ∧ (j - 135) % 16 - 12 < 4 := by omega
    have w := slA_g q1 i1
    rw [e] at w
    exact ⟨_, _, q1.1, q1.2, i1.1, i1.2, e.symm, w⟩
  refine Or.inr (Or.inr (Or.inr (Or.inr ?_)))
  by_cases c5 : j < 409
  · exact Or.inl ⟨by omega, c5, slA_b ⟨by omega, c5⟩⟩
  refine Or.inr ?_
  by_cases c6 : j < 469
  · exact Or.inl ⟨by omega, c6, slA_c ⟨by omega, c6⟩⟩
  refine Or.inr ?_
  by_cases d1 : j = 469
  · exact Or.inl ⟨d1, by rw [d1]; exact slA_469⟩
  refine Or.inr ?_
  by_cases d2 : j = 470
  · exact Or.inl ⟨d2, by rw [d2]; exact slA_470⟩
  refine Or.inr ?_
  by_cases d3 : j = 472
  · exact Or.inl ⟨d3, by rw [d3]; exact slA_472⟩
  refine Or.inr ?_
  by_cases d4 : j = 473
  · exact Or.inl ⟨d4, by rw [d4]; exact slA_473⟩
  have d5 : j = 474 := by omega
  exact Or.inr ⟨d5, by rw [d5]; exact slA_474⟩
noncomputable def szA (a : Nat) : Int := if a = 1 then 90 else if a = 2 then 9 else if a = 3 then 36 else if a = 4 then 128 else if a = 5 then 16 else if a = 6 then 48 else if a = 7 then 64 else if a = 9 then 18 else 60
theorem slA_ok {j : Int} (h : dAs j) : (1 ≤ (slA j).1 ∧ (slA j).1 ≤ 10 ∧ (slA j).1 ≠ 8 ∧ 0 ≤ (slA j).2 ∧ (slA j).2 < szA (slA j).1) ∨ ((slA j).1 = 0 ∧ ((slA j).2 = 2 ∨ (slA j).2 = 4 ∨ (slA j).2 = 5 ∨ (slA j).2 = 10 ∨ (slA j).2 = 14)) := by
  rcases slA_in h with ⟨a, b, e⟩ | ⟨a, b, e⟩ | ⟨a, b, e⟩ | ⟨q, a, b, -, e⟩ | ⟨q, i, a, b, c, d, -, e⟩ | ⟨q, i, a, b, c, d, -, e⟩ | ⟨q, i, a, b, c, d, -, e⟩ | ⟨a, b, e⟩ | ⟨a, b, e⟩ | ⟨a, e⟩ | ⟨a, e⟩ | ⟨a, e⟩ | ⟨a, e⟩ | ⟨a, e⟩ <;> rw [e]
  · exact Or.inl ⟨(show (1 : Nat) ≤ 1 by decide), (show 1 ≤ 10 by decide), (show 1 ≠ 8 by decide), a, b⟩
  · exact Or.inl ⟨(show (1 : Nat) ≤ 2 by decide), (show 2 ≤ 10 by decide), (show 2 ≠ 8 by decide), (show (0 : Int) ≤ _ by omega), by show j - 90 < 9; omega⟩
  · exact Or.inl ⟨(show (1 : Nat) ≤ 3 by decide), (show 3 ≤ 10 by decide), (show 3 ≠ 8 by decide), (show (0 : Int) ≤ _ by omega), by show j - 99 < 36; omega⟩
  · exact Or.inl ⟨(show (1 : Nat) ≤ 5 by decide), (show 5 ≤ 10 by decide), (show 5 ≠ 8 by decide), a, b⟩
  · exact Or.inl ⟨(show (1 : Nat) ≤ 4 by decide), (show 4 ≤ 10 by decide), (show 4 ≠ 8 by decide), (show (0 : Int) ≤ _ by omega), by show 8 * q + i < 128; omega⟩
  · exact Or.inl ⟨(show (1 : Nat) ≤ 6 by decide), (show 6 ≤ 10 by decide), (show 6 ≠ 8 by decide), (show (0 : Int) ≤ _ by omega), by show 3 * q + i < 48; omega⟩
  · exact Or.inl ⟨(show (1 : Nat) ≤ 7 by decide), (show 7 ≤ 10 by decide), (show 7 ≠ 8 by decide), (show (0 : Int) ≤ _ by omega), by show 4 * q + i < 64; omega⟩
  · exact Or.inl ⟨(show (1 : Nat) ≤ 9 by decide), (show 9 ≤ 10 by decide), (show 9 ≠ 8 by decide), (show (0 : Int) ≤ _ by omega), by show j - 391 < 18; omega⟩
  · exact Or.inl ⟨(show (1 : Nat) ≤ 10 by decide), (show 10 ≤ 10 by decide), (show 10 ≠ 8 by decide), (show (0 : Int) ≤ _ by omega), by show j - 409 < 60; omega⟩
  · exact Or.inr ⟨rfl, Or.inr (Or.inr (Or.inr (Or.inl rfl)))⟩
  · exact Or.inr ⟨rfl, Or.inr (Or.inl rfl)⟩
  · exact Or.inr ⟨rfl, Or.inr (Or.inr (Or.inr (Or.inr rfl)))⟩
  · exact Or.inr ⟨rfl, Or.inl rfl⟩
  · exact Or.inr ⟨rfl, Or.inr (Or.inr (Or.inl rfl))⟩
noncomputable def ivA (p : Nat × Int) : Int := if p.1 = 1 then p.2 else if p.1 = 2 then p.2 + 90 else if p.1 = 3 then p.2 + 99 else if p.1 = 5 then 135 + 16 * p.2 else if p.1 = 4 then 136 + 16 * (p.2 / 8) + p.2 % 8 else if p.1 = 6 then 144 + 16 * (p.2 / 3) + p.2 % 3 else if p.1 = 7 then 147 + 16 * (p.2 / 4) + p.2 % 4 else if p.1 = 9 then p.2 + 391 else if p.1 = 10 then p.2 + 409 else if p.2 = 10 then 469 else if p.2 = 4 then 470 else if p.2 = 14 then 472 else if p.2 = 2 then 473 else 474
theorem ivA_slA {j : Int} (h : dAs j) : ivA (slA j) = j := by
  rcases slA_in h with ⟨a, b, e⟩ | ⟨a, b, e⟩ | ⟨a, b, e⟩ | ⟨q, a, b, f, e⟩ | ⟨q, i, a, b, c, d, f, e⟩ | ⟨q, i, a, b, c, d, f, e⟩ | ⟨q, i, a, b, c, d, f, e⟩ | ⟨a, b, e⟩ | ⟨a, b, e⟩ | ⟨a, e⟩ | ⟨a, e⟩ | ⟨a, e⟩ | ⟨a, e⟩ | ⟨a, e⟩ <;> rw [e]
  · rfl
  · show j - 90 + 90 = j; omega
  · show j - 99 + 99 = j; omega
  · show 135 + 16 * q = j; omega
  · show 136 + 16 * ((8 * q + i) / 8) + (8 * q + i) % 8 = j; omega
  · show 144 + 16 * ((3 * q + i) / 3) + (3 * q + i) % 3 = j; omega
  · show 147 + 16 * ((4 * q + i) / 4) + (4 * q + i) % 4 = j; omega
  · show j - 391 + 391 = j; omega
  · show j - 409 + 409 = j; omega
  · rw [a]; rfl
  · rw [a]; rfl
  · rw [a]; rfl
  · rw [a]; rfl
  · rw [a]; rfl
theorem slA_inj {j i : Int} (h : dAs j) (h' : dAs i) (e : slA j = slA i) : j = i := by
  rw [← ivA_slA h, ← ivA_slA h', e]
theorem slA_nn {j : Int} (h : dAs j) : 0 ≤ (slA j).2 ∧ (slA j).1 ≤ 10 := by
  rcases slA_ok h with ⟨a, b, c, d, e⟩ | ⟨a, b⟩ <;> omega
noncomputable def cS (c : Nat) (M : mH) (j : Int) : Int := gi M (c + (slA j).1) (slA j).2
/-- SENTENCES that are not there are empty -/
noncomputable def ZN (N : Int → Int) : Prop := ∀ j : Int, 135 ≤ j → 135 + 16 * N 469 ≤ j → j < 391 → N j = 0
theorem ZN.upd {N : Int → Int} {j0 x : Int} (h : ZN N) (h1 : j0 < 135 ∨ 391 ≤ j0 ∨ j0 < 135 + 16 * N 469) (h2 : j0 ≠ 469) : ZN (updN N j0 x) := by
  intro j a b c
  rw [updN_ne (fun e => h2 e.symm)] at b
  rw [updN_ne (by omega)]
  exact h j a b c
theorem cS_at {c a : Nat} {M : mH} {j ii : Int} (e : slA j = (a, ii)) : cS c M j = gi M (c + a) ii := by unfold cS; rw [e]
/-- a slot of the state is set -/
theorem cS_set {M M1 : mH} {j0 x : Int} (h0 : dAs j0) (u : Wr M (1 + (slA j0).1) ((slA j0).2).toNat (.int (Int32.ofInt x)) M1) (hx : inR x) {j : Int} (h : dAs j) : cS 1 M1 j = updN (cS 1 M) j0 x j := by
  unfold updN
  split
  · next e =>
    subst e
    unfold cS
    rw [u.gi_eq (slA_nn h).1, vi_int hx]
  · next e =>
    unfold cS
    refine u.gi_ne (slA_nn h0).1 ?_
    by_cases c1 : (slA j).1 = (slA j0).1
    · refine Or.inr (fun c2 => e (slA_inj h h0 (Prod.ext c1 c2)))
    · exact Or.inl (by omega)
theorem StS.sm {base c : Nat} {M M' : mH} (h : StS base c M) (hn : M.1 ≤ M'.1) (sm : ∀ r, c ≤ r → r ≤ c + 10 → sameC r M M') (hk' : ∀ r, r < M.1 → hk M r = 3 → hk M' r = 3) : StS base c M' := by
  obtain ⟨h1, h2, h3, h4, h5⟩ := h
  have s0 := sm c (Nat.le_refl _) (by omega)
  refine ⟨by omega, fun j z hz => ?_, fun k x hx => by rw [s0.2.2]; exact h3 k x hx, fun k hk => by rw [s0.2.2]; exact h4 k hk, fun i hi => ?_⟩
  · have hl : j < 11 := (List.getElem?_eq_some_iff.mp hz).1
    have sj := sm (c + j) (by omega) (by omega)
    rw [sj.1, sj.2.1]; exact h2 j z hz
  · rw [(sm (c + 8) (by omega) (by omega)).2.2]
    rcases h5 i hi with y | ⟨x, q1, q2, q3⟩
    · exact Or.inl y
    · exact Or.inr ⟨x, q1, Nat.lt_of_lt_of_le q2 hn, hk' x q2 q3⟩
noncomputable def IX (base k : Nat) (a : Int) (I : Int → Int) (M : mH) : Prop := (a = 0 ∧ hv M 12 k = .null) ∨ (a = 1 ∧ ∃ c, hv M 12 k = .ref (base + c) ∧ 111 ≤ c ∧ StS base c M ∧ ∀ j, dAs j → cS c M j = I j)
noncomputable def CSx (base : Nat) (s : Int) (T N : Int → Int) (a0 : Int) (I0 : Int → Int) (a1 : Int) (I1 : Int → Int) (M : mH) : Prop := gi M 0 3 = s ∧ (∀ i : Int, 0 ≤ i → i < 400 → gi M 13 i = T i) ∧ (∀ j, dAs j → cS 1 M j = N j) ∧ IX base 0 a0 I0 M ∧ IX base 1 a1 I1 M ∧ (∀ c, hv M 12 0 = .ref (base + c) → hv M 12 1 = .ref (base + c) → False) ∧ ZN N ∧ ZN I0 ∧ ZN I1
noncomputable def RSx (s : Int) (T N : Int → Int) (a0 : Int) (I0 : Int → Int) (a1 : Int) (I1 : Int → Int) (M : mH) : Prop := gi M 77 31 = s ∧ (∀ i : Int, 0 ≤ i → i < 400 → gi M 95 i % 256 = T i) ∧ (∀ j, dAs j → gi M 78 j = N j) ∧ gi M 80 0 = a0 ∧ (a0 = 1 → ∀ j, dAs j → gi M 79 j = I0 j) ∧ gi M 80 1 = a1 ∧ (a1 = 1 → ∀ j, dAs j → gi M 79 (6883 + j) = I1 j)
/-- what leaves the images alone -/
noncomputable def ImK (base : Nat) (M M' : mH) : Prop := (∀ i, hv M' 12 i = hv M 12 i) ∧ M.1 ≤ M'.1 ∧ (∀ c r, 111 ≤ c → StS base c M → c ≤ r → r ≤ c + 10 → sameC r M M') ∧ ∀ r, r < M.1 → hk M r = 3 → hk M' r = 3
section
variable {base : Nat} {s s' a0 a1 : Int} {T T' N N' I0 I1 : Int → Int} {M M' M1 : mH} {L : List (Nat × Nat)}
theorem cS.sm {c : Nat} (e : ∀ r, c ≤ r → r ≤ c + 10 → sameC r M M') {j : Int} (h : dAs j) : cS c M' j = cS c M j := by
  unfold cS
  exact (e _ (by omega) (by have := (slA_nn h).2; omega)).gi _
theorem IX.keep {k : Nat} {a : Int} {I : Int → Int} (h : IX base k a I M) (hn : M.1 ≤ M'.1) (e : hv M' 12 k = hv M 12 k) (sm : ∀ c', StS base c' M → 111 ≤ c' → hv M 12 k = .ref (base + c') → ∀ r, c' ≤ r → r ≤ c' + 10 → sameC r M M') (hkk : ∀ r, r < M.1 → hk M r = 3 → hk M' r = 3) : IX base k a I M' := by
  rcases h with ⟨a, b⟩ | ⟨a, c, p, q, r, t⟩
  · exact Or.inl ⟨a, by rw [e]; exact b⟩
  · exact Or.inr ⟨a, c, by rw [e]; exact p, q, r.sm hn (sm c r q p) hkk, fun j hj => by rw [cS.sm (sm c r q p) hj]; exact t j hj⟩
theorem CSx.gen (h : CSx base s T N a0 I0 a1 I1 M) (k : ImK base M M') (g : gi M' 0 3 = s') (hT : ∀ i : Int, 0 ≤ i → i < 400 → gi M' 13 i = T' i) (hN : ∀ j, dAs j → cS 1 M' j = N' j) (z : ZN N') : CSx base s' T' N' a0 I0 a1 I1 M' := by
  obtain ⟨h1, h2, h3, h4, h5, h6, h7, h8, h9⟩ := h
  obtain ⟨k1, k2, k3, k4⟩ := k
  exact ⟨g, hT, hN, h4.keep k2 (k1 0) (fun c' a b _ r x y => k3 c' r b a x y) k4, h5.keep k2 (k1 1) (fun c' a b _ r x y => k3 c' r b a x y) k4, fun c a b => h6 c (by rw [← k1]; exact a) (by rw [← k1]; exact b), z, h8, h9⟩
theorem ImK.fz (hM : 111 ≤ M.1) (f : Fz L M M') (hc : s_al L (fun c => decide (c < 111) && c != 12) = true) : ImK base M M' := by
  refine ⟨fun i => (f.2.1 12 (by omega)).2.2 i (s_al_ok hc (by simp)) (Or.inl (by decide)), f.1, ?_, fun r hr q => (f.2.1 r hr).1.trans q⟩
  intro c r x y z w
  have hlt := y.1
  obtain ⟨a, b, d⟩ := f.2.1 r (by omega)
  refine ⟨a, b, fun i => d i (s_al_ok hc (by simp; omega)) (Or.inr ?_)⟩
  intro q
  rcases y.kd z w with ⟨-, t⟩ | ⟨-, t | t⟩ <;> (rw [q] at t; cases t)
theorem ImK.wr {c i : Nat} {v : Value} (u : Wr M c i v M') (hc : c < 111 ∧ c ≠ 12) : ImK base M M' :=
  ⟨fun i => u.ne (Or.inl (Ne.symm hc.2)), by rw [u.n1]; exact Nat.le_refl _, fun c' r x _ y _ => u.same (by omega), fun r _ q => (u.k r).trans q⟩
noncomputable def oxN (L : List (Nat × Nat)) : Bool := s_al L (fun c => decide (c < 111) && c != 12) && s_al L (fun c => !(decide (2 ≤ c) && decide (c ≤ 11) && c != 9)) && !s_md L 1 2 && !s_md L 1 4 && !s_md L 1 5 && !s_md L 1 10 && !s_md L 1 14
theorem oxN_cS (hM : 111 ≤ M.1) (f : Fz L M M') (hc : oxN L = true) {j : Int} (hj : dAs j) : cS 1 M' j = cS 1 M j := by
  unfold oxN at hc
  simp only [Bool.and_eq_true, Bool.not_eq_true'] at hc
  obtain ⟨⟨⟨⟨⟨⟨_, q1⟩, q2⟩, q4⟩, q5⟩, q10⟩, q14⟩ := hc
  unfold cS
  rcases slA_ok hj with ⟨a, b, c, -, -⟩ | ⟨a, b⟩
  · refine f.gs hM (by omega) (fun i => s_al_ok q1 ?_) _
    have e1 : decide (2 ≤ 1 + (slA j).1) = true := decide_eq_true (by omega)
    have e2 : decide (1 + (slA j).1 ≤ 11) = true := decide_eq_true (by omega)
    have e3 : (1 + (slA j).1 != 9) = true := by simp; omega
    simp only [e1, e2, e3]
    rfl
  · rw [a]
    have fl : ∀ k : Nat, s_md L 1 k = false → gi M' 1 ((k : Nat) : Int) = gi M 1 ((k : Nat) : Int) := fun k q => f.g hM (by rw [show (((k : Nat) : Int)).toNat = k by omega, q]; rfl)
    show gi M' 1 (slA j).2 = gi M 1 (slA j).2
    rcases b with b | b | b | b | b <;> rw [b]
    · exact fl 2 q2
    · exact fl 4 q4
    · exact fl 5 q5
    · exact fl 10 q10
    · exact fl 14 q14
theorem oxN_im (hM : 111 ≤ M.1) (f : Fz L M M') (hc : oxN L = true) : ImK base M M' := by
  unfold oxN at hc
  simp only [Bool.and_eq_true] at hc
  exact ImK.fz hM f hc.1.1.1.1.1.1
/-- the tape is another one -/
theorem CSx.fed (h : CSx base s T N a0 I0 a1 I1 M) (hM : 111 ≤ M.1) (f : Fz L M M') (hc : oxN L = true) (g : gi M' 0 3 = s') (hT : ∀ i : Int, 0 ≤ i → i < 400 → gi M' 13 i = T' i) : CSx base s' T' N a0 I0 a1 I1 M' :=
  h.gen (oxN_im hM f hc) g hT (fun j hj => (oxN_cS hM f hc hj).trans (h.2.2.1 j hj)) h.2.2.2.2.2.2.1
noncomputable def oxP (L : List (Nat × Nat)) : Bool := oxN L && s_al L (fun c => c != 13)
/-- the tape's length alone is another one -/
theorem CSx.tape (h : CSx base s T N a0 I0 a1 I1 M) (hM : 111 ≤ M.1) (f : Fz L M M') (hc : oxP L = true) (g : gi M' 0 3 = s') : CSx base s' T N a0 I0 a1 I1 M' := by
  unfold oxP at hc
  rw [Bool.and_eq_true] at hc
  exact h.fed hM f hc.1 g (fun i a b => (f.gs hM (by decide) (fun i => s_al_ok hc.2 (by simp)) i).trans (h.2.1 i a b))
noncomputable def oxS (L : List (Nat × Nat)) : Bool := oxP L && !s_md L 0 3
/-- what leaves the state's numbers alone -/
theorem CSx.fz (h : CSx base s T N a0 I0 a1 I1 M) (hM : 111 ≤ M.1) (f : Fz L M M') (hc : oxS L = true) : CSx base s T N a0 I0 a1 I1 M' := by
  unfold oxS at hc
  rw [Bool.and_eq_true, Bool.not_eq_true'] at hc
  exact h.tape hM f hc.1 ((f.g hM (by rw [show ((3 : Int)).toNat = 3 from rfl, hc.2]; rfl)).trans h.1)
/-- a slot of the class's state is set -/
theorem CSx.wr {j0 x ii : Int} {c i a : Nat} (h : CSx base s T N a0 I0 a1 I1 M) (u : Wr M c i (.int (Int32.ofInt x)) M1) (h0 : dAs j0) (e : slA j0 = (a, ii)) (hc : 1 + a = c) (hi : ii.toNat = i) (hx : inR x) (z : ZN (updN N j0 x)) : CSx base s T (updN N j0 x) a0 I0 a1 I1 M1 := by
  have e1 : 1 + (slA j0).1 = c := by rw [e]; exact hc
  have e2 : ((slA j0).2).toNat = i := by rw [e]; exact hi
  subst e1
  subst e2
  have hb := (slA_nn h0).2
  refine h.gen (ImK.wr u ⟨by omega, by omega⟩) (by rw [(u.same (by omega)).gi]; exact h.1) (fun i a b => by rw [(u.same (by omega)).gi]; exact h.2.1 i a b) (fun j hj => ?_) z
  rw [cS_set h0 u hx hj]
  unfold updN
  split
  · rfl
  · exact h.2.2.1 j hj
theorem RSx.gen (h : RSx s T N a0 I0 a1 I1 M) (e79 : ∀ i : Int, gi M' 79 i = gi M 79 i) (e80 : ∀ i : Int, gi M' 80 i = gi M 80 i) (g : gi M' 77 31 = s') (hT : ∀ i : Int, 0 ≤ i → i < 400 → gi M' 95 i % 256 = T' i) (hN : ∀ j, dAs j → gi M' 78 j = N' j) : RSx s' T' N' a0 I0 a1 I1 M' := by
  obtain ⟨h1, h2, h3, h4, h5, h6, h7⟩ := h
  exact ⟨g, hT, hN, by rw [e80]; exact h4, fun a j hj => by rw [e79]; exact h5 a j hj, by rw [e80]; exact h6, fun a j hj => by rw [e79]; exact h7 a j hj⟩
theorem RSx.of (h : RSx s T N a0 I0 a1 I1 M) (e : ∀ c, 77 ≤ c → c < 111 → sameC c M M') : RSx s T N a0 I0 a1 I1 M' := by
  have g : ∀ c, 77 ≤ c → c < 111 → ∀ i : Int, gi M' c i = gi M c i := fun c x y i => (e c x y).gi i
  exact h.gen (g 79 (by decide) (by decide)) (g 80 (by decide) (by decide)) (by rw [g 77 (by decide) (by decide)]; exact h.1) (fun i a b => by rw [g 95 (by decide) (by decide)]; exact h.2.1 i a b) (fun j hj => by rw [g 78 (by decide) (by decide)]; exact h.2.2.1 j hj)
noncomputable def oxI (L : List (Nat × Nat)) : Bool := s_al L (fun c => c != 79) && s_al L (fun c => c != 80)
theorem RSx.kn (h : RSx s T N a0 I0 a1 I1 M) (f : Fr L M M') (hc : (oxI L && s_al L (fun c => c != 95)) = true) (g : gi M' 77 31 = s') (hN : ∀ j, dAs j → gi M' 78 j = N' j) : RSx s' T N' a0 I0 a1 I1 M' := by
  unfold oxI at hc
  rw [Bool.and_eq_true, Bool.and_eq_true] at hc
  exact h.gen (fun i => f.g (s_al_ok hc.1.1 (by simp))) (fun i => f.g (s_al_ok hc.1.2 (by simp))) g (fun i a b => by rw [f.g (s_al_ok hc.2 (by simp))]; exact h.2.1 i a b) hN
theorem RSx.fed (h : RSx s T N a0 I0 a1 I1 M) (f : Fr L M M') (hc : (oxI L && s_al L (fun c => c != 78)) = true) (g : gi M' 77 31 = s') (hT : ∀ i : Int, 0 ≤ i → i < 400 → gi M' 95 i % 256 = T' i) : RSx s' T' N a0 I0 a1 I1 M' := by
  unfold oxI at hc
  rw [Bool.and_eq_true, Bool.and_eq_true] at hc
  exact h.gen (fun i => f.g (s_al_ok hc.1.1 (by simp))) (fun i => f.g (s_al_ok hc.1.2 (by simp))) g hT (fun j hj => by rw [f.g (s_al_ok hc.2 (by simp))]; exact h.2.2.1 j hj)
noncomputable def oxR (L : List (Nat × Nat)) : Bool := oxI L && s_al L (fun c => c != 95) && s_al L (fun c => c != 78)
theorem RSx.tape (h : RSx s T N a0 I0 a1 I1 M) (f : Fr L M M') (hc : oxR L = true) (g : gi M' 77 31 = s') : RSx s' T N a0 I0 a1 I1 M' := by
  unfold oxR at hc
  rw [Bool.and_eq_true] at hc
  exact h.kn f hc.1 g (fun j hj => by rw [f.g (s_al_ok hc.2 (by simp))]; exact h.2.2.1 j hj)
theorem RSx.fr (h : RSx s T N a0 I0 a1 I1 M) (f : Fr L M M') (hc : (oxR L && !s_md L 77 31) = true) : RSx s T N a0 I0 a1 I1 M' := by
  rw [Bool.and_eq_true, Bool.not_eq_true'] at hc
  exact h.tape f hc.1 ((f.g (i := 31) hc.2).trans h.1)
/-- a place of kept is set -/
theorem RSx.wr {j0 x : Int} {i : Nat} (h : RSx s T N a0 I0 a1 I1 M) (u : Wr M 78 i (.int (Int32.ofInt x)) M1) (h0 : 0 ≤ j0) (e : j0.toNat = i) (hx : inR x) : RSx s T (updN N j0 x) a0 I0 a1 I1 M1 := by
  subst e
  refine h.gen (fun i => (u.same (by decide)).gi i) (fun i => (u.same (by decide)).gi i) (by rw [(u.same (by decide)).gi]; exact h.1) (fun i a b => by rw [(u.same (by decide)).gi]; exact h.2.1 i a b) (fun j hj => ?_)
  unfold updN
  split
  · next e => rw [e, u.gi_eq h0, vi_int hx]
  · next e => rw [u.gi_ne h0 (Or.inr e)]; exact h.2.2.1 j hj
end
