/-! Runs of the pure machine: more fuel does no harm; a rule for a step, a call, an end. -/
section
variable {base : Nat} {X : Nat → Option mC} {G : Nat → Value}
theorem m_run_eq (n d : Nat) (t : mT) (pc : Nat) (lv : mL) (st : List Value) (M : mH) : m_run base X G (n + 1) d t pc lv st M = (match decode t.2.2.1 pc with
    | .error _ => none
    | .ok q => match m_ret t.2.2.2.2 q.1 st with
      | some r => if q.2 = 1 then some (r, M) else none
      | none => match m_call t.1 q.1 with
        | some k => match d with
          | 0 => none
          | d' + 1 => match sy_m[k.2.1]?, m_args k.1 k.2.2 st with
            | some t', some a => if q.2 = 3 ∧ m_sm a.2 = true ∧ (lg_sl a.1).length ≤ t'.2.2.2.1 ∧ t'.2.2.2.1 ≤ 45 ∧ m_recv base G M k.1 t'.1 a.1 = true then (match m_run base X G n d' t' 0 (lv_args 0 a.1) [] M with
                | some z => m_run base X G n (d' + 1) t (pc + 3) lv (z.1.toList ++ a.2) z.2
                | none => none) else none
            | _, _ => none
        | none => match m_step base X G t pc lv st M q.1 q.2 with
          | some z => m_run base X G n d t z.1 z.2.1 z.2.2.1 z.2.2.2
          | none => none) := rfl
theorem m_run_more : ∀ (n d : Nat) (t : mT) (pc : Nat) (lv : mL) (st : List Value) (M : mH) (z : Option Value × mH), m_run base X G n d t pc lv st M = some z → m_run base X G (n + 1) d t pc lv st M = some z := by
  intro n
  induction n with
  | zero => intro d t pc lv st M z h; cases h
  | succ n ih =>
    intro d t pc lv st M z h
    rw [m_run_eq] at h ⊢
    cases hq : decode t.2.2.1 pc with
    | error q => rw [hq] at h; cases h
    | ok q =>
      rw [hq] at h
      dsimp only at h ⊢
      cases hr : m_ret t.2.2.2.2 q.1 st with
      | some r => rw [hr] at h; exact h
      | none =>
        rw [hr] at h
        dsimp only at h ⊢
        cases hk : m_call t.1 q.1 with
        | some k =>
          rw [hk] at h
          dsimp only at h ⊢
          cases d with
          | zero => cases h
          | succ d' =>
            dsimp only at h ⊢
            cases ht : sy_m[k.2.1]? with
            | none => rw [ht] at h; cases h
            | some t' =>
              cases ha : m_args k.1 k.2.2 st with
              | none => rw [ht, ha] at h; cases h
              | some a =>
                rw [ht, ha] at h
                dsimp only at h ⊢
                split at h
                · next hc =>
                  rw [if_pos hc]
                  cases hy : m_run base X G n d' t' 0 (lv_args 0 a.1) [] M with
                  | none => rw [hy] at h; cases h
                  | some y =>
                    rw [hy] at h
                    rw [ih _ _ _ _ _ _ _ hy]
                    exact ih _ _ _ _ _ _ _ h
                · cases h
        | none =>
          rw [hk] at h
          dsimp only at h ⊢
          cases hy : m_step base X G t pc lv st M q.1 q.2 with
          | none => rw [hy] at h; cases h
          | some y =>
            rw [hy] at h
            exact ih _ _ _ _ _ _ _ h
theorem m_run_le {n n' d : Nat} {t : mT} {pc : Nat} {lv : mL} {st : List Value} {M : mH} {z : Option Value × mH} (h : m_run base X G n d t pc lv st M = some z) (hn : n ≤ n') : m_run base X G n' d t pc lv st M = some z := by
  obtain ⟨k, rfl⟩ := Nat.le.dest hn
  induction k with
  | zero => exact h
  | succ k ih => exact m_run_more _ _ _ _ _ _ _ _ (ih (Nat.le_add_right _ _))
/-- the frame at pc ends, with Q of its answer and of the heap -/
noncomputable def m_Rn (base : Nat) (X : Nat → Option mC) (G : Nat → Value) (d : Nat) (t : mT) (pc : Nat) (lv : mL) (st : List Value) (M : mH) (Q : Option Value → mH → Prop) : Prop := ∃ (n : Nat) (r : Option Value) (M' : mH), m_run base X G n d t pc lv st M = some (r, M') ∧ Q r M'
variable {d : Nat} {t : mT} {pc : Nat} {lv : mL} {st : List Value} {M : mH} {Q Q' : Option Value → mH → Prop} {ins : Instr} {len : Nat}
theorem m_Rn.imp (h : m_Rn base X G d t pc lv st M Q) (k : ∀ r M', Q r M' → Q' r M') : m_Rn base X G d t pc lv st M Q' := by
  obtain ⟨n, r, M', h1, h2⟩ := h
  exact ⟨n, r, M', h1, k r M' h2⟩
theorem m_Rn.ret {r : Option Value} (hd : decode t.2.2.1 pc = .ok (ins, 1)) (hr : m_ret t.2.2.2.2 ins st = some r) (h : Q r M) : m_Rn base X G d t pc lv st M Q := by
  refine ⟨1, r, M, ?_, h⟩
  rw [m_run_eq, hd]
  simp only [hr]
  rfl
theorem m_Rn.step {z : mR} (hd : decode t.2.2.1 pc = .ok (ins, len)) (hr : m_ret t.2.2.2.2 ins st = none) (hk : m_call t.1 ins = none) (hz : m_step base X G t pc lv st M ins len = some z) (h : m_Rn base X G d t z.1 z.2.1 z.2.2.1 z.2.2.2 Q) : m_Rn base X G d t pc lv st M Q := by
  obtain ⟨n, r, M', h1, h2⟩ := h
  refine ⟨n + 1, r, M', ?_, h2⟩
  rw [m_run_eq, hd]
  simp only [hr, hk, hz]
  exact h1
theorem m_Rn.call {k : Nat × Nat × Nat} {t' : mT} {a : List Value × List Value} (hd : decode t.2.2.1 pc = .ok (ins, 3)) (hr : m_ret t.2.2.2.2 ins st = none) (hk : m_call t.1 ins = some k) (ht : sy_m[k.2.1]? = some t') (ha : m_args k.1 k.2.2 st = some a) (h1 : m_sm a.2 = true) (h2 : (lg_sl a.1).length ≤ t'.2.2.2.1) (h3 : t'.2.2.2.1 ≤ 45) (h4 : m_recv base G M k.1 t'.1 a.1 = true)
    (h : m_Rn base X G d t' 0 (lv_args 0 a.1) [] M (fun r M1 => m_Rn base X G (d + 1) t (pc + 3) lv (r.toList ++ a.2) M1 Q)) : m_Rn base X G (d + 1) t pc lv st M Q := by
  obtain ⟨n, r, M1, g1, n', r', M', g2, g3⟩ := h
  refine ⟨max n n' + 1, r', M', ?_, g3⟩
  rw [m_run_eq, hd]
  simp only [hr, hk, ht, ha]
  rw [if_pos ⟨trivial, h1, h2, h3, h4⟩, m_run_le g1 (Nat.le_max_left n n')]
  exact m_run_le g2 (Nat.le_max_right n n')
end
theorem dp_0 {m d : Nat} (h : m ≤ d) (q : Nat.ble 1 m = true) : 0 < d := Nat.lt_of_lt_of_le (Nat.le_of_ble_eq_true q) h
theorem dp_n {m n d : Nat} (h : m ≤ d) (q : Nat.ble (n + 1) m = true) : n ≤ d - 1 := Nat.le_sub_one_of_lt (Nat.lt_of_lt_of_le (Nat.le_of_ble_eq_true q) h)
