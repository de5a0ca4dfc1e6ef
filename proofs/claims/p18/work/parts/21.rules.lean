/-! Rules for branches of the pure machine; a straight step is 'refine m_Rn.step d rfl rfl rfl ?_'. -/
section
variable {base : Nat} {X : Nat → Option mC} {G : Nat → Value} {d : Nat} {t : mT} {pc tgt : Nat} {lv : mL} {rest : List Value} {M : mH} {Q : Option Value → mH → Prop} {x y : Int32} {off : Int}
noncomputable def m_cmp (c : Jvm.ClassFile.Cond) (x y : Int32) : Bool := match c with
  | .eq => decide (x = y)
  | .ne => decide (¬ x = y)
  | .lt => decide (x < y)
  | .ge => decide (y ≤ x)
  | .gt => decide (y < x)
  | .le => decide (x ≤ y)
theorem m_Rn.icmp {cd : Jvm.ClassFile.Cond} (hd : decode t.2.2.1 pc = .ok (.if_icmp cd off, 3)) (ht : (pc : Int) + off = (tgt : Int)) (h1 : m_cmp cd x y = true → m_Rn base X G d t tgt lv rest M Q) (h2 : m_cmp cd x y = false → m_Rn base X G d t (pc + 3) lv rest M Q) : m_Rn base X G d t pc lv (.int y :: .int x :: rest) M Q := by
  have e : m_step base X G t pc lv (.int y :: .int x :: rest) M (.if_icmp cd off) 3 = some (if m_cmp cd x y then tgt else pc + 3, lv, rest, M) := by
    have hln : (3 = m_len (.if_icmp cd off) ∨ m_sw (.if_icmp cd off) = true) := Or.inl rfl
    have hto : ((pc : Int) + off).toNat = tgt := by omega
    have hnn : 0 ≤ (pc : Int) + off := by omega
    unfold m_step
    simp only [m_spc, m_stC, m_ii, m_br, m_to, if_pos hnn, hto]
    rw [if_pos hln]
    cases cd <;> rfl
  refine m_Rn.step hd rfl rfl e ?_
  cases hc : m_cmp cd x y
  · exact h2 hc
  · exact h1 hc
theorem m_Rn.ifc {cd : Jvm.ClassFile.Cond} (hd : decode t.2.2.1 pc = .ok (.ifCond cd off, 3)) (ht : (pc : Int) + off = (tgt : Int)) (h1 : m_cmp cd x 0 = true → m_Rn base X G d t tgt lv rest M Q) (h2 : m_cmp cd x 0 = false → m_Rn base X G d t (pc + 3) lv rest M Q) : m_Rn base X G d t pc lv (.int x :: rest) M Q := by
  have e : m_step base X G t pc lv (.int x :: rest) M (.ifCond cd off) 3 = some (if m_cmp cd x 0 then tgt else pc + 3, lv, rest, M) := by
    have hln : (3 = m_len (.ifCond cd off) ∨ m_sw (.ifCond cd off) = true) := Or.inl rfl
    have hto : ((pc : Int) + off).toNat = tgt := by omega
    have hnn : 0 ≤ (pc : Int) + off := by omega
    unfold m_step
    simp only [m_spc, m_stC, m_i, m_br, m_to, if_pos hnn, hto]
    rw [if_pos hln]
    cases cd <;> rfl
  refine m_Rn.step hd rfl rfl e ?_
  cases hc : m_cmp cd x 0
  · exact h2 hc
  · exact h1 hc
theorem m_Rn.goto (hd : decode t.2.2.1 pc = .ok (.goto off, 3)) (ht : (pc : Int) + off = (tgt : Int)) (h : m_Rn base X G d t tgt lv rest M Q) : m_Rn base X G d t pc lv rest M Q := by
  have e : m_step base X G t pc lv rest M (.goto off) 3 = some (tgt, lv, rest, M) := by
    have hln : (3 = m_len (.goto off) ∨ m_sw (.goto off) = true) := Or.inl rfl
    have hto : ((pc : Int) + off).toNat = tgt := by omega
    have hnn : 0 ≤ (pc : Int) + off := by omega
    unfold m_step
    simp only [m_spc, m_stC, m_to, if_pos hnn, hto]
    rw [if_pos hln]
  exact m_Rn.step hd rfl rfl e h
end
