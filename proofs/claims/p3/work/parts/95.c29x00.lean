/-! The State's constructor: two tables are read. -/
section
variable {base : Nat} {X : Nat → Option mC} {G : Nat → Value} {d : Nat} {t : mT} {pc pc' : Nat} {lv : sL} {st : List mV} {M : mH} {Q : Option Value → mH → Prop}
theorem r_acpyX {i u ns dd : Nat} {f : Nat → Value} {n : Int} (hd : decode t.2.2.1 pc = .ok (.invokestatic i, 3)) (hn : pc + 3 = pc') (hkk : m_call t.1 (.invokestatic i) = none) (hs : m_sp t.1 i = some 1) (h1 : s_sz st ≤ 8) (hu : u < base) (hX : X u = some (1000, ns, f)) (hcd : dd < M.1 ∧ hk M dd = 1000) (hb : 0 ≤ n ∧ n ≤ (ns : Int) ∧ n ≤ (hz M dd : Int) ∧ n ≤ 2147483647)
    (h : ∀ M', M' = (M.1, M.2.1, fun j => if j = dd then (hk M dd, hz M dd, va_cpy f (M.2.2 dd).2.2 0 0 n.toNat) else M.2.2 j) → sRn base X G d t pc' lv st M' Q) : sRn base X G d t pc lv (vI n :: vI 0 :: vR dd :: vI 0 :: vA u :: st) M Q := by
  subst hn
  have e1 : (Int32.ofInt 0).toInt = 0 := rfl
  have e3 : (Int32.ofInt n).toInt = n := s_i32 (by unfold inR; omega)
  have e1' : (Int32.ofInt 0).toNatClampNeg = 0 := rfl
  have e3' : (Int32.ofInt n).toNatClampNeg = n.toNat := s_clamp (by unfold inR; omega) hb.1
  have hat : m_at base X M u = some (1000, ns, f) := by unfold m_at; rw [if_pos hu, hX]
  have hcp : m_put base M (base + dd) (hk M dd, hz M dd, va_cpy f (M.2.2 dd).2.2 0 0 n.toNat) = (M.1, M.2.1, fun j => if j = dd then (hk M dd, hz M dd, va_cpy f (M.2.2 dd).2.2 0 0 n.toNat) else M.2.2 j) := by
    unfold m_put
    rw [Nat.add_sub_cancel_left]
  refine m_Rn.step (z := (pc + 3, em_l base lv, em_s base st, m_put base M (base + dd) (hk M dd, hz M dd, va_cpy f (M.2.2 dd).2.2 0 0 n.toNat))) hd rfl hkk ?_ (h _ hcp)
  unfold m_step
  have hsm := s_sm (base := base) h1
  have k2 : (M.2.2 dd).1 = 1000 := hcd.2
  have b5 : (0 : Int) + n ≤ ((M.2.2 dd).2.1 : Int) := by have := hb.2.2.1; unfold hz at this; omega
  have b4 : (0 : Int) + n ≤ (ns : Int) := by omega
  have e : m_spc base X t.1 pc (em_l base lv) (em_s base (vI n :: vI 0 :: vR dd :: vI 0 :: vA u :: st)) M (.invokestatic i) = some (pc + 3, em_l base lv, em_s base st, m_put base M (base + dd) (hk M dd, hz M dd, va_cpy f (M.2.2 dd).2.2 0 0 n.toNat)) := by
    simp only [m_spc, hs, em_s, List.map_cons, em, m_cp, hat, m_own_own hcd.1, e1, e3, e1', e3', k2]
    unfold em_s at hsm
    rw [if_pos ⟨trivial, by decide, by decide, by decide, by decide, hb.1, b4, b5, hsm⟩]
    simp only [hk, hz, k2]
  rw [e]
  rfl
variable {M0 : mH} {sh : List dC}
theorem p_len {j : Nat} {q : dC} {ni : Int} (hd : decode t.2.2.1 pc = .ok (.arraylength, 1)) (hn : pc + 1 = pc') (P : Ps base sh M0 M) (hq : sh[j]? = some q) (hk1 : 1000 ≤ q.1) (hi : (q.2.1 : Int) = ni) (h : sRn base X G d t pc' lv (vI ni :: st) M Q) : sRn base X G d t pc lv (vR (M0.1 + j) :: st) M Q := by
  obtain ⟨a, b, -⟩ := P.2.2.2 j q hq
  refine r_lenv (w := vR (M0.1 + j)) (x := M.2.2 (M0.1 + j)) hd hn rfl (m_at_own (P.lt (List.getElem?_eq_some_iff.mp hq).1)) (by show 1000 ≤ hk M _; rw [a]; exact hk1) ?_
  rw [show ((M.2.2 (M0.1 + j)).2.1 : Int) = ni from by show ((hz M (M0.1 + j) : Nat) : Int) = ni; rw [b]; exact hi]
  exact h
theorem p_iast {e w : Int} {j : Nat} {q : dC} (hd : decode t.2.2.1 pc = .ok (.iastore, 1)) (hn : pc + 1 = pc') (P : Ps base sh M0 M) (hq : sh[j]? = some q) (hk1 : q.1 = 1000) (he : 0 ≤ e ∧ e < (q.2.1 : Int) ∧ e ≤ 1000000)
    (h : ∀ M', Wr M (M0.1 + j) e.toNat (.int (Int32.ofInt w)) M' → sRn base X G d t pc' lv st M' Q) : sRn base X G d t pc lv (vI w :: vI e :: vR (M0.1 + j) :: st) M Q := by
  obtain ⟨a, b, -⟩ := P.2.2.2 j q hq
  refine r_sv (v := vI w) (w := .int (Int32.ofInt w)) hd hn rfl (P.lt (List.getElem?_eq_some_iff.mp hq).1) (by rw [a, hk1]; rfl) ?_ ⟨he.1, by rw [b]; exact he.2.1, by omega⟩ h
  rw [a, hk1]
  rfl
/-- what was made, copied into -/
theorem Ps.cpX {base : Nat} {sh sh' : List dC} {M0 M M' : mH} {j n : Nat} {q : dC} {f : Nat → Value} (h : Ps base sh M0 M) (hq : sh[j]? = some q) (hn : n = q.2.1) (u : M' = (M.1, M.2.1, fun r => if r = M0.1 + j then (hk M (M0.1 + j), hz M (M0.1 + j), va_cpy f (M.2.2 (M0.1 + j)).2.2 0 0 n) else M.2.2 r)) (cs : List dK) (hv' : ∀ i, i < n → tK base M0.1 (kc (q.1, q.2.1, cs) i) (f i)) (e : sh.set j (q.1, q.2.1, cs) = sh') : Ps base sh' M0 M' := by
  subst e
  obtain ⟨h1, h2, h3, h4⟩ := h
  have hjl : j < sh.length := (List.getElem?_eq_some_iff.mp hq).1
  have hne : ∀ c, c ≠ M0.1 + j → sameC c M M' := fun c hc => by
    rw [u]; unfold sameC hk hz hv; dsimp only; rw [if_neg hc]; exact ⟨rfl, rfl, fun _ => rfl⟩
  have hn1 : M'.1 = M.1 := by rw [u]
  have hn2 : M'.2.1 = M.2.1 := by rw [u]
  have hat : M'.2.2 (M0.1 + j) = (hk M (M0.1 + j), hz M (M0.1 + j), va_cpy f (M.2.2 (M0.1 + j)).2.2 0 0 n) := by rw [u]; dsimp only; rw [if_pos rfl]
  refine ⟨by rw [hn1, h1]; simp, ?_, fun c hc' => (h3 c hc').tr (hne c (by omega)), fun j' q' hq' => ?_⟩
  · rw [hn2, h2, List.map_set]
    have : (sh.map (fun q => q.2.1)).set j q.2.1 = sh.map (fun q => q.2.1) := by
      apply List.ext_getElem?
      intro k
      rw [List.getElem?_set]
      split
      · next hk => subst hk; rw [if_pos (by simpa using hjl), List.getElem?_map, hq]; rfl
      · rfl
    rw [this]
  · by_cases ej : j' = j
    · subst ej
      rw [List.getElem?_set_self hjl] at hq'
      cases hq'
      obtain ⟨a, b, c⟩ := h4 j' q hq
      refine ⟨by show (M'.2.2 _).1 = _; rw [hat]; exact a, by show (M'.2.2 _).2.1 = _; rw [hat]; exact b, fun i => ?_⟩
      show (_ → tK _ _ _ ((M'.2.2 (M0.1 + j')).2.2 i)) ∧ (_ → vi ((M'.2.2 (M0.1 + j')).2.2 i) = 0)
      rw [hat]
      show (_ → tK _ _ _ (va_cpy f (M.2.2 (M0.1 + j')).2.2 0 0 n i)) ∧ (_ → vi (va_cpy f (M.2.2 (M0.1 + j')).2.2 0 0 n i) = 0)
      unfold va_cpy
      refine ⟨fun hi => ?_, fun hi => ?_⟩
      · rw [if_pos (by have : i < q.2.1 := hi; omega)]
        have := hv' i (by have : i < q.2.1 := hi; omega)
        rw [show 0 + (i - 0) = i by omega]
        exact this
      · rw [if_neg (by have : q.2.1 ≤ i := hi; omega)]
        exact (c i).2 hi
    · rw [List.getElem?_set_ne (Ne.symm ej)] at hq'
      have s := hne (M0.1 + j') (by omega)
      obtain ⟨a, b, c⟩ := h4 j' q' hq'
      refine ⟨by rw [s.1]; exact a, by rw [s.2.1]; exact b, ?_⟩
      rw [show hv M' (M0.1 + j') = hv M (M0.1 + j') from funext s.2.2]
      exact c
end
theorem tk1 {base m0 : Nat} {a b a' b' : Int} {w : Value} (h : tK base m0 (1, a, b) w) (h1 : a' ≤ a) (h2 : b ≤ b') : tK base m0 (1, a', b') w := by
  obtain ⟨x, e, p, q⟩ := h
  exact ⟨x, e, Int.le_trans h1 p, Int.le_trans q h2⟩
/-! What a new State holds. -/
def updN (N : Int → Int) (i x : Int) : Int → Int := fun j => if j = i then x else N j
theorem updN_eq {N : Int → Int} {i x : Int} : updN N i x i = x := by unfold updN; rw [if_pos rfl]
theorem updN_ne {N : Int → Int} {i x j : Int} (h : j ≠ i) : updN N i x j = N j := by unfold updN; rw [if_neg h]
def lpN (x : Int) : Int → Int := fun j => if 0 ≤ j ∧ j < x then 1 else if 30 ≤ j ∧ j < 30 + x then 5 else 0
/-- what is kept at first -/
def i_N : Int → Int := updN (updN (updN (updN (updN (updN (updN (updN (updN (lpN 30) 90 6) 91 3) 92 1) 93 1) 94 20) 95 10) 96 4) 97 2) 98 5
def wF (k : Nat) : Int := if k < 30 then 1 else if k < 60 then 5 else 0
def tF (k : Nat) : Int := if k = 0 then 6 else if k = 1 then 3 else if k = 2 then 1 else if k = 3 then 1 else if k = 4 then 20 else if k = 5 then 10 else if k = 6 then 4 else if k = 7 then 2 else if k = 8 then 5 else 0
def wC : List dK := [(1, 1, 1), (1, 1, 1), (1, 1, 1), (1, 1, 1), (1, 1, 1), (1, 1, 1), (1, 1, 1), (1, 1, 1), (1, 1, 1), (1, 1, 1), (1, 1, 1), (1, 1, 1), (1, 1, 1), (1, 1, 1), (1, 1, 1), (1, 1, 1), (1, 1, 1), (1, 1, 1), (1, 1, 1), (1, 1, 1), (1, 1, 1), (1, 1, 1), (1, 1, 1), (1, 1, 1), (1, 1, 1), (1, 1, 1), (1, 1, 1), (1, 1, 1), (1, 1, 1), (1, 1, 1), (1, 5, 5), (1, 5, 5), (1, 5, 5), (1, 5, 5), (1, 5, 5), (1, 5, 5), (1, 5, 5), (1, 5, 5), (1, 5, 5), (1, 5, 5), (1, 5, 5), (1, 5, 5), (1, 5, 5), (1, 5, 5), (1, 5, 5), (1, 5, 5), (1, 5, 5), (1, 5, 5), (1, 5, 5), (1, 5, 5), (1, 5, 5), (1, 5, 5), (1, 5, 5), (1, 5, 5), (1, 5, 5), (1, 5, 5), (1, 5, 5), (1, 5, 5), (1, 5, 5), (1, 5, 5), (1, 0, 0), (1, 0, 0), (1, 0, 0), (1, 0, 0), (1, 0, 0), (1, 0, 0), (1, 0, 0), (1, 0, 0), (1, 0, 0), (1, 0, 0), (1, 0, 0), (1, 0, 0), (1, 0, 0), (1, 0, 0), (1, 0, 0), (1, 0, 0), (1, 0, 0), (1, 0, 0), (1, 0, 0), (1, 0, 0), (1, 0, 0), (1, 0, 0), (1, 0, 0), (1, 0, 0), (1, 0, 0), (1, 0, 0), (1, 0, 0), (1, 0, 0), (1, 0, 0), (1, 0, 0)]
def tC : List dK := [(1, 6, 6), (1, 3, 3), (1, 1, 1), (1, 1, 1), (1, 20, 20), (1, 10, 10), (1, 4, 4), (1, 2, 2), (1, 5, 5)]
