/-! Rows of the solvers are made when they are first asked for: so many are there, and no more. -/
noncomputable def RN (base Lc : Nat) (hw : Int) (M : mH) : Prop := (∀ p : Int, 1 ≤ p → p < hw → ∃ r : Nat, hv M Lc p.toNat = .ref (base + r) ∧ IsRow r M) ∧ ∀ p : Int, hw ≤ p → p < 145 → hv M Lc p.toNat = .null
theorem RN.rw {base Lc : Nat} {hw n : Int} {M : mH} (h : RN base Lc hw M) (hn : n ≤ hw) : RW base Lc n M := fun p h1 h2 => h.1 p h1 (by omega)
theorem IsRow.of {r : Nat} {M M' : mH} (h : IsRow r M) (hn : M.1 ≤ M'.1) (s : sameC r M M') : IsRow r M' := by
  obtain ⟨h1, h2, h3, h4, h5⟩ := h
  exact ⟨h1, by omega, by rw [s.1]; exact h3, by rw [s.2.1]; exact h4, fun i hi => by rw [s.2.2]; exact h5 i hi⟩
theorem RN.fr {base Lc : Nat} {hw : Int} {L : List (Nat × Nat)} {M M' : mH} (h : RN base Lc hw M) (f : Fr L M M') (hc : (s_al L (fun c => decide (c < 111) && c != Lc)) = true) : RN base Lc hw M' := by
  have hl : s_al L (fun c => decide (c < 111)) = true := by
    unfold s_al at hc ⊢
    rw [List.all_eq_true] at hc ⊢
    intro q hq
    have := hc q hq
    rw [Bool.and_eq_true] at this
    exact this.1
  have e : ∀ i, hv M' Lc i = hv M Lc i := fun i => (f.2.2 Lc).2.2 i (s_al_ok hc (by simp))
  refine ⟨fun p h1 h2 => ?_, fun p h1 h2 => by rw [e]; exact h.2 p h1 h2⟩
  obtain ⟨r, a, b⟩ := h.1 p h1 h2
  exact ⟨r, by rw [e]; exact a, b.of (by rw [f.1]; exact Nat.le_refl _) (f.same hl b.1)⟩
theorem RN.wr {base Lc : Nat} {hw : Int} {M M' : mH} {c i : Nat} {v : Value} (h : RN base Lc hw M) (u : Wr M c i v M') (hc : c < 111 ∧ c ≠ Lc) : RN base Lc hw M' := by
  have e : ∀ i, hv M' Lc i = hv M Lc i := fun i => u.ne (Or.inl (Ne.symm hc.2))
  refine ⟨fun p h1 h2 => ?_, fun p h1 h2 => by rw [e]; exact h.2 p h1 h2⟩
  obtain ⟨r, a, b⟩ := h.1 p h1 h2
  exact ⟨r, by rw [e]; exact a, b.wr u (Or.inl hc.1)⟩
theorem RN.row {base Lc : Nat} {hw : Int} {M M' : mH} {r i : Nat} {x : Int64} (h : RN base Lc hw M) (u : Wr M r i (.long x) M') (hr : IsRow r M) (hL : Lc < 111) : RN base Lc hw M' := by
  have e : ∀ i, hv M' Lc i = hv M Lc i := fun i => u.ne (Or.inl (by have := hr.1; omega))
  refine ⟨fun p h1 h2 => ?_, fun p h1 h2 => by rw [e]; exact h.2 p h1 h2⟩
  obtain ⟨q, a, b⟩ := h.1 p h1 h2
  exact ⟨q, by rw [e]; exact a, b.wr u (Or.inr ⟨x, rfl⟩)⟩
theorem RN.fq {base Lc : Nat} {hw : Int} {L : List (Nat × Nat)} {M M' : mH} (h : RN base Lc hw M) (f : Fq L M M') (hc : (s_al L (fun c => c != Lc) && decide (Lc < 111)) = true) : RN base Lc hw M' := by
  rw [Bool.and_eq_true, decide_eq_true_eq] at hc
  have e : ∀ i, hv M' Lc i = hv M Lc i := fun i => (f.2.2.1 Lc).2.2 i (s_al_ok hc.1 (by simp)) (Or.inl hc.2)
  refine ⟨fun p h1 h2 => ?_, fun p h1 h2 => by rw [e]; exact h.2 p h1 h2⟩
  obtain ⟨r, a, b⟩ := h.1 p h1 h2
  exact ⟨r, by rw [e]; exact a, f.2.2.2 r b⟩
/-- another thing is made -/
theorem RN.nw {base Lc : Nat} {hw : Int} {M M' : mH} {x : mC} (h : RN base Lc hw M) (w : Nw M x M') (hM : 111 ≤ M.1) (hL : Lc < 111) : RN base Lc hw M' := by
  have e : ∀ i, hv M' Lc i = hv M Lc i := (w.same (by omega)).2.2
  refine ⟨fun p h1 h2 => ?_, fun p h1 h2 => by rw [e]; exact h.2 p h1 h2⟩
  obtain ⟨r, a, b⟩ := h.1 p h1 h2
  exact ⟨r, by rw [e]; exact a, b.of (by rw [w.n1]; omega) (w.same (by have := b.2.1; omega))⟩
/-- a row is made and kept -/
theorem RN.grow {base Lc : Nat} {hw : Int} {M M1 M2 : mH} (h : RN base Lc hw M) (hM : 111 ≤ M.1) (hL : Lc < 111) (h0 : 1 ≤ hw) (w : Nw M (1001, 1111, fun _ => .long 0) M1) (u : Wr M1 Lc hw.toNat (.ref (base + M.1)) M2) : RN base Lc (hw + 1) M2 := by
  have h1 := h.nw w hM hL
  have row : IsRow M.1 M1 := ⟨hM, by rw [w.n1]; omega, by unfold hk; rw [w.at], by unfold hz; rw [w.at], fun i _ => ⟨0, by unfold hv; rw [w.at]⟩⟩
  refine ⟨fun p p1 p2 => ?_, fun p p1 p2 => ?_⟩
  · by_cases e : p = hw
    · subst e
      exact ⟨M.1, u.eq, row.wr u (Or.inl hL)⟩
    · obtain ⟨r, a, b⟩ := h1.1 p p1 (by omega)
      exact ⟨r, by rw [u.ne (Or.inr (by omega))]; exact a, b.wr u (Or.inl hL)⟩
  · rw [u.ne (Or.inr (by omega))]
    exact h1.2 p (by omega) p2
section
variable {base : Nat} {X : Nat → Option mC} {G : Nat → Value} {d : Nat} {t : mT} {pc pc' : Nat} {lv : sL} {st : List mV} {M : mH} {Q : Option Value → mH → Prop}
theorem r_aastL {c r : Nat} {e : Int} (hd : decode t.2.2.1 pc = .ok (.aastore, 1)) (hn : pc + 1 = pc') (hc : shL[c]? = some (1005, 145, [0])) (hrg : ∀ i, rg c i = none) (H : HI base M) (hr : r < M.1) (hk1 : hk M r = 1001) (he : 0 ≤ e ∧ e ≤ 144) (h : ∀ M', Wr M c e.toNat (.ref (base + r)) M' → HI base M' → sRn base X G d t pc' lv st M' Q) : sRn base X G d t pc lv (vR r :: vI e :: vR c :: st) M Q := by
  obtain ⟨g1, g2, -⟩ := H.1.2 c _ hc
  refine r_sv (w := .ref (base + r)) hd hn rfl (H.1.lt hc) (by rw [g1]; rfl) ?_ ⟨he.1, by rw [g2]; show e < (145 : Int); omega, by omega⟩ (fun M' u => h M' u ⟨H.1.wr u (fun q hq => ?_), H.2.wr u he.1 (fun lo hi hh => by rw [hrg] at hh; cases hh)⟩)
  · rw [g1]
    show (match m_own base M (base + r) with
      | some x => if x.1 = 1001 then some (Value.ref (base + r)) else none
      | none => none) = _
    rw [m_own_own hr]
    dsimp only
    rw [if_pos (show (M.2.2 r).1 = 1001 from hk1)]
  · cases hc.symm.trans hq
    exact Or.inr ⟨_, rfl⟩
end
theorem rg_37 (i : Int) : rg 37 i = none := rfl
theorem rg_56 (i : Int) : rg 56 i = none := rfl
