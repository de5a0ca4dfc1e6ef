/-! The pure machine's run. -/
noncomputable abbrev mT : Type := Nat × MethodName × ByteArray × Nat × Option FieldType
noncomputable def m_isR (rt : Option FieldType) : Bool := match rt with
  | some (.object _) => true
  | some (.array _) => true
  | _ => false
noncomputable def m_ret (rt : Option FieldType) (ins : Instr) (st : List Value) : Option (Option Value) := match ins with
  | .return_ => if rt = none ∧ st = [] then some none else none
  | .ireturn => match st with
    | [.int v] => match rt with
      | some t => if narrow t (.int v) = .int v then some (some (.int v)) else none
      | none => none
    | _ => none
  | .lreturn => match st with
    | [.long v] => if rt = some .long then some (some (.long v)) else none
    | _ => none
  | .areturn => match st with
    | [.null] => if m_isR rt = true then some (some .null) else none
    | [.ref a] => if m_isR rt = true then some (some (.ref a)) else none
    | _ => none
  | _ => none
noncomputable def m_call (o : Nat) (ins : Instr) : Option (Nat × Nat × Nat) := match ins with
  | .invokevirtual i => match m_ca o i with
    | some q => if q.1 = 0 ∨ q.1 = 3 then some q else none
    | none => none
  | .invokestatic i => match m_ca o i with
    | some q => if q.1 = 1 ∨ q.1 = 4 then some q else none
    | none => none
  | .invokespecial i => match m_ca o i with
    | some q => if q.1 = 2 ∨ q.1 = 5 then some q else none
    | none => none
  | _ => none
/-- arguments (the receiver first) and what stays on the stack -/
noncomputable def m_args (k na : Nat) (st : List Value) : Option (List Value × List Value) := if k = 1 ∨ k = 4 then (if na ≤ st.length then some ((st.take na).reverse, st.drop na) else none) else match st.drop na with
  | .ref b :: r => some (.ref b :: (st.take na).reverse, r)
  | _ => none
noncomputable def m_recv (base : Nat) (G : Nat → Value) (M : mH) (k o : Nat) (vs : List Value) : Bool := if k = 0 ∨ k = 3 then (match vs with
  | .ref b :: _ => if o = 13 then decide (G 9 = .ref b) else match m_own base M b with
    | some x => x.1 == m_oc o
    | none => false
  | _ => false) else true
noncomputable def m_sw (ins : Instr) : Bool := match ins with
  | .tableswitch _ _ _ _ => true
  | .lookupswitch _ _ => true
  | _ => false
noncomputable def m_step (base : Nat) (X : Nat → Option mC) (G : Nat → Value) (t : mT) (pc : Nat) (lv : mL) (st : List Value) (M : mH) (ins : Instr) (len : Nat) : Option mR := match m_spc base X t.1 pc lv st M ins with
  | some z => if len = 3 then some z else none
  | none => match m_stC pc lv st M ins with
    | some z => if len = m_len ins ∨ m_sw ins = true then some z else none
    | none => if len = m_len ins then (match m_stA t.1 t.2.2.2.1 pc lv st M ins with
      | some z => some z
      | none => match m_stB pc lv st M ins with
        | some z => some z
        | none => m_stD base X G t.1 (t.2.1.name == "<init>") pc lv st M ins) else none
noncomputable def m_run (base : Nat) (X : Nat → Option mC) (G : Nat → Value) : Nat → Nat → mT → Nat → mL → List Value → mH → Option (Option Value × mH)
  | 0, _, _, _, _, _, _ => none
  | n + 1, d, t, pc, lv, st, M => match decode t.2.2.1 pc with
    | .error _ => none
    | .ok q => match m_ret t.2.2.2.2 q.1 st with
      | some r => if q.2 = 1 then some (r, M) else none
      | none => match m_call t.1 q.1 with
        | some k => match d with
          | 0 => none
          | d' + 1 => match sy_m[k.2.1]?, m_args k.1 k.2.2 st with
            | some t', some a => if q.2 = 3 ∧ m_sm a.2 = true ∧ (lg_sl a.1).length ≤ t'.2.2.2.1 ∧ t'.2.2.2.1 ≤ 45 ∧ m_recv base G M k.1 t'.1 a.1 = true then (match m_run base X G n d' t' 0 (lv_args 0 a.1) [] M with
                | some z => m_run base X G n (d' + 1) t (pc + 3) lv (z.1.toList ++ a.2) z.2
                | none => none) else none
            | _, _ => none
        | none => match m_step base X G t pc lv st M q.1 q.2 with
          | some z => m_run base X G n d t z.1 z.2.1 z.2.2.1 z.2.2.2
          | none => none
/-! No cell is ever taken away. -/
theorem m_stA_heap {o nL pc pc' : Nat} {lv lv' : mL} {st st' : List Value} {M M' : mH} {ins : Instr} (h : m_stA o nL pc lv st M ins = some (pc', lv', st', M')) : M' = M := by
  unfold m_stA at h
  split at h <;> (try simp only [m_ldI, m_ldL, m_ldA, m_i, m_l, m_q, m_1] at h) <;> (repeat' split at h) <;> first | (cases h; done) | (cases h; rfl)
theorem m_stB_heap {pc pc' : Nat} {lv lv' : mL} {st st' : List Value} {M M' : mH} {ins : Instr} (h : m_stB pc lv st M ins = some (pc', lv', st', M')) : M' = M := by
  unfold m_stB at h
  split at h <;> (try simp only [m_ii, m_ll, m_li, m_i, m_l] at h) <;> (repeat' split at h) <;> first | (cases h; done) | (cases h; rfl)
theorem m_stC_heap {pc pc' : Nat} {lv lv' : mL} {st st' : List Value} {M M' : mH} {ins : Instr} (h : m_stC pc lv st M ins = some (pc', lv', st', M')) : M' = M := by
  unfold m_stC at h
  split at h <;> (try simp only [m_br, m_to, m_i, m_ii, m_q] at h) <;> (repeat' split at h) <;> first | (cases h; done) | (cases h; rfl)
set_option maxHeartbeats 1000000 in
theorem m_stD_heap {base : Nat} {X : Nat → Option mC} {G : Nat → Value} {o : Nat} {ini : Bool} {pc pc' : Nat} {lv lv' : mL} {st st' : List Value} {M M' : mH} {ins : Instr} (h : m_stD base X G o ini pc lv st M ins = some (pc', lv', st', M')) : M.1 ≤ M'.1 ∧ M.2.1 ≤ M'.2.1 := by
  unfold m_stD at h
  split at h <;> (try simp only [m_r, m_vr, m_i, m_ald, m_ast, m_ir, m_vir] at h) <;> (repeat' split at h) <;> first | (cases h; done) | (cases h; exact ⟨Nat.le_refl _, Nat.le_refl _⟩) | (cases h; exact ⟨Nat.le_succ _, Nat.le_add_right _ _⟩)
set_option maxHeartbeats 1000000 in
theorem m_spc_heap {base : Nat} {X : Nat → Option mC} {o pc pc' : Nat} {lv lv' : mL} {st st' : List Value} {M M' : mH} {ins : Instr} (h : m_spc base X o pc lv st M ins = some (pc', lv', st', M')) : M.1 ≤ M'.1 ∧ M.2.1 ≤ M'.2.1 := by
  unfold m_spc at h
  split at h <;> (try simp only [m_r, m_cp, m_ii, m_ll] at h) <;> (repeat' split at h) <;> first | (cases h; done) | (cases h; exact ⟨Nat.le_refl _, Nat.le_refl _⟩) | (cases h; exact ⟨Nat.le_succ _, Nat.le_add_right _ _⟩)
theorem m_step_heap {base : Nat} {X : Nat → Option mC} {G : Nat → Value} {t : mT} {pc len : Nat} {lv : mL} {st : List Value} {M : mH} {ins : Instr} {z : mR} (h : m_step base X G t pc lv st M ins len = some z) : M.1 ≤ z.2.2.2.1 ∧ M.2.1 ≤ z.2.2.2.2.1 := by
  obtain ⟨pc', lv', st', M'⟩ := z
  show M.1 ≤ M'.1 ∧ M.2.1 ≤ M'.2.1
  unfold m_step at h
  split at h
  · next z hz =>
    split at h
    · cases h; exact m_spc_heap hz
    · cases h
  · split at h
    · next z hz =>
      split at h
      · cases h; rw [m_stC_heap hz]; exact ⟨Nat.le_refl _, Nat.le_refl _⟩
      · cases h
    · split at h
      · split at h
        · next z hz => cases h; rw [m_stA_heap hz]; exact ⟨Nat.le_refl _, Nat.le_refl _⟩
        · split at h
          · next z hz => cases h; rw [m_stB_heap hz]; exact ⟨Nat.le_refl _, Nat.le_refl _⟩
          · exact m_stD_heap h
      · cases h
