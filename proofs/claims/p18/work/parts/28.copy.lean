/-! System.arraycopy between int arrays of the fixed cells. -/
noncomputable def Cp (M : mH) (s sp dd dp n : Nat) (M' : mH) : Prop := M' = (M.1, M.2.1, fun j => if j = dd then (hk M dd, hz M dd, va_cpy (M.2.2 s).2.2 (M.2.2 dd).2.2 sp dp n) else M.2.2 j)
section
variable {M M' M0 : mH} {s sp dd dp n : Nat}
theorem Cp.n1 (h : Cp M s sp dd dp n M') : M'.1 = M.1 := by rw [h]
theorem Cp.n2 (h : Cp M s sp dd dp n M') : M'.2.1 = M.2.1 := by rw [h]
theorem Cp.k (h : Cp M s sp dd dp n M') (c : Nat) : hk M' c = hk M c := by
  rw [h]; unfold hk; dsimp only
  split
  · next e => rw [e]
  · rfl
theorem Cp.z (h : Cp M s sp dd dp n M') (c : Nat) : hz M' c = hz M c := by
  rw [h]; unfold hz; dsimp only
  split
  · next e => rw [e]
  · rfl
theorem Cp.eq (h : Cp M s sp dd dp n M') (i : Nat) : hv M' dd i = if dp ≤ i ∧ i < dp + n then hv M s (sp + (i - dp)) else hv M dd i := by
  rw [h]; unfold hv; dsimp only
  rw [if_pos rfl]; rfl
theorem Cp.ne (h : Cp M s sp dd dp n M') {c : Nat} (hc : c ≠ dd) (i : Nat) : hv M' c i = hv M c i := by
  rw [h]; unfold hv; dsimp only
  rw [if_neg hc]
theorem Cp.gi_ne (h : Cp M s sp dd dp n M') {c : Nat} (hc : c ≠ dd) (i : Int) : gi M' c i = gi M c i := by
  unfold gi; rw [h.ne hc]
theorem Cp.gi_in (h : Cp M s sp dd dp n M') {i : Int} (h0 : (dp : Int) ≤ i) (h1 : i < (dp : Int) + n) : gi M' dd i = gi M s ((sp : Int) + (i - dp)) := by
  unfold gi
  rw [if_pos (by omega), if_pos (by omega), h.eq, if_pos (by omega)]
  congr 2
  omega
theorem Cp.gi_out (h : Cp M s sp dd dp n M') {i : Int} (h0 : i < (dp : Int) ∨ (dp : Int) + n ≤ i) : gi M' dd i = gi M dd i := by
  unfold gi
  split
  · rw [h.eq, if_neg (by omega)]
  · rfl
theorem Fr.cp {L : List (Nat × Nat)} (h : Fr L M0 M) (k : Cp M s sp dd dp n M') (hm : ∀ i, s_md L dd i = true) : Fr L M0 M' := by
  refine ⟨k.n1.trans h.1, k.n2.trans h.2.1, fun c => ⟨(k.k c).trans (h.2.2 c).1, (k.z c).trans (h.2.2 c).2.1, fun i hi => ?_⟩⟩
  by_cases e : c = dd
  · subst e; rw [hm i] at hi; cases hi
  · rw [k.ne e]; exact (h.2.2 c).2.2 i hi
theorem HI.cp {base ns nd : Nat} (H : HI base M) (k : Cp M s sp dd dp n M') (hcs : shL[s]? = some (1000, ns, [1])) (hcd : shL[dd]? = some (1000, nd, [1])) (hb : sp + n ≤ ns) (hin : ∀ j : Int, 0 ≤ j → j < n → s_in (rg dd (dp + j)) (gi M s (sp + j))) : HI base M' := by
  refine ⟨⟨by rw [k.n1]; exact H.1.1, fun c q hc => ?_⟩, fun c i lo hi hr => ?_⟩
  · obtain ⟨h1, h2, h3⟩ := H.1.2 c q hc
    refine ⟨by rw [k.k]; exact h1, by rw [k.z]; exact h2, fun i hi => ?_⟩
    by_cases e : c = dd
    · subst e
      cases hcd.symm.trans hc
      rw [k.eq]
      split
      · obtain ⟨-, -, g3⟩ := H.1.2 s _ hcs
        exact g3 (sp + (i - dp)) (by show _ < ns; omega)
      · exact h3 i hi
    · rw [k.ne e]; exact h3 i hi
  · by_cases e : c = dd
    · subst e
      by_cases hi2 : (dp : Int) ≤ i ∧ i < (dp : Int) + n
      · rw [k.gi_in hi2.1 hi2.2]
        have := hin (i - dp) (by omega) (by omega)
        rw [show (dp : Int) + (i - dp) = i by omega] at this
        exact s_in_ok this lo hi hr
      · rw [k.gi_out (by omega)]
        exact H.2 c i lo hi hr
    · rw [k.gi_ne e]; exact H.2 c i lo hi hr
end
section
variable {base : Nat} {X : Nat → Option mC} {G : Nat → Value} {d : Nat} {t : mT} {pc pc' : Nat} {lv : sL} {st : List mV} {M : mH} {Q : Option Value → mH → Prop}
theorem r_acpy {i s dd ns nd : Nat} {sp dp n : Int} (hd : decode t.2.2.1 pc = .ok (.invokestatic i, 3)) (hn : pc + 3 = pc') (hkk : m_call t.1 (.invokestatic i) = none) (hs : m_sp t.1 i = some 1) (h1 : s_sz st ≤ 8) (hcs : shL[s]? = some (1000, ns, [1])) (hcd : shL[dd]? = some (1000, nd, [1])) (H : HI base M) (hb : 0 ≤ sp ∧ 0 ≤ dp ∧ 0 ≤ n ∧ sp + n ≤ (ns : Int) ∧ dp + n ≤ (nd : Int) ∧ sp + n ≤ 2147483647 ∧ dp + n ≤ 2147483647)
    (hin : ∀ j : Int, 0 ≤ j → j < n → s_in (rg dd (dp + j)) (gi M s (sp + j))) (h : ∀ M', Cp M s sp.toNat dd dp.toNat n.toNat M' → HI base M' → sRn base X G d t pc' lv st M' Q) : sRn base X G d t pc lv (vI n :: vI dp :: vR dd :: vI sp :: vR s :: st) M Q := by
  subst hn
  obtain ⟨g1, g2, -⟩ := H.1.2 s _ hcs
  obtain ⟨g3, g4, -⟩ := H.1.2 dd _ hcd
  have e1 : (Int32.ofInt sp).toInt = sp := s_i32 (by unfold inR; omega)
  have e2 : (Int32.ofInt dp).toInt = dp := s_i32 (by unfold inR; omega)
  have e3 : (Int32.ofInt n).toInt = n := s_i32 (by unfold inR; omega)
  have e1' : (Int32.ofInt sp).toNatClampNeg = sp.toNat := by show (Int32.ofInt sp).toInt.toNat = _; rw [e1]
  have e2' : (Int32.ofInt dp).toNatClampNeg = dp.toNat := by show (Int32.ofInt dp).toInt.toNat = _; rw [e2]
  have e3' : (Int32.ofInt n).toNatClampNeg = n.toNat := by show (Int32.ofInt n).toInt.toNat = _; rw [e3]
  have hcp : Cp M s sp.toNat dd dp.toNat n.toNat (m_put base M (base + dd) (hk M dd, hz M dd, va_cpy (M.2.2 s).2.2 (M.2.2 dd).2.2 sp.toNat dp.toNat n.toNat)) := by
    unfold Cp m_put
    rw [Nat.add_sub_cancel_left]
  have hHI := H.cp hcp hcs hcd (by omega) (fun j h0 h1 => by
    have := hin j h0 (by omega)
    rw [show ((dp.toNat : Nat) : Int) = dp by omega, show ((sp.toNat : Nat) : Int) = sp by omega]
    exact this)
  refine m_Rn.step (z := (pc + 3, em_l base lv, em_s base st, m_put base M (base + dd) (hk M dd, hz M dd, va_cpy (M.2.2 s).2.2 (M.2.2 dd).2.2 sp.toNat dp.toNat n.toNat))) hd rfl hkk ?_ (h _ hcp hHI)
  unfold m_step
  have hsm := s_sm (base := base) h1
  have k1 : (M.2.2 s).1 = 1000 := g1
  have k2 : (M.2.2 dd).1 = 1000 := g3
  have k3 : (M.2.2 s).2.1 = ns := g2
  have k4 : (M.2.2 dd).2.1 = nd := g4
  have e : m_spc base X t.1 pc (em_l base lv) (em_s base (vI n :: vI dp :: vR dd :: vI sp :: vR s :: st)) M (.invokestatic i) = some (pc + 3, em_l base lv, em_s base st, m_put base M (base + dd) (hk M dd, hz M dd, va_cpy (M.2.2 s).2.2 (M.2.2 dd).2.2 sp.toNat dp.toNat n.toNat)) := by
    simp only [m_spc, hs, em_s, List.map_cons, em, m_cp, m_at_own (H.1.lt hcs), m_own_own (H.1.lt hcd), e1, e2, e3, e1', e2', e3', k1, k2, k3, k4]
    unfold em_s at hsm
    rw [if_pos ⟨trivial, by decide, by decide, hb.1, hb.2.1, hb.2.2.1, hb.2.2.2.1, hb.2.2.2.2.1, hsm⟩]
    simp only [hk, hz, k2, k4]
  rw [e]
  rfl
end
