/-! Members of the JDK that the machine knows by itself: Object's constructor, System.arraycopy, Math.max and min, clone of an int row. -/
noncomputable def m_sm (r : List Value) : Bool := decide ((r.map fun v => v.category).sum ≤ 8)
noncomputable def m_spc (base : Nat) (X : Nat → Option mC) (o pc : Nat) (lv : mL) (st : List Value) (M : mH) (ins : Instr) : Option mR := match ins with
  | .invokespecial i => if m_sp o i = some 0 then m_r st fun _ r => if m_sm r = true then some (pc + 3, lv, r, M) else none else none
  | .invokestatic i => match m_sp o i with
    | some 1 => m_cp st fun a sp d dp n r => match m_at base X M a, m_own base M d with
      | some x, some y => if x.1 = y.1 ∧ 1000 ≤ x.1 ∧ x.1 ≤ 1003 ∧ 0 ≤ sp.toInt ∧ 0 ≤ dp.toInt ∧ 0 ≤ n.toInt ∧ sp.toInt + n.toInt ≤ x.2.1 ∧ dp.toInt + n.toInt ≤ y.2.1 ∧ m_sm r = true then some (pc + 3, lv, r, m_put base M d (y.1, y.2.1, va_cpy x.2.2 y.2.2 sp.toNatClampNeg dp.toNatClampNeg n.toNatClampNeg)) else none
      | _, _ => none
    | some 2 => m_ii st fun x y r => if m_sm r = true then some (pc + 3, lv, .int (if x < y then y else x) :: r, M) else none
    | some 3 => m_ii st fun x y r => if m_sm r = true then some (pc + 3, lv, .int (if y < x then y else x) :: r, M) else none
    | some 4 => m_ll st fun x y r => if m_sm r = true then some (pc + 3, lv, .long (if y < x then y else x) :: r, M) else none
    | _ => none
  | .invokevirtual i => if m_sp o i = some 5 then m_r st fun a r => match m_own base M a with
    | some x => if x.1 = 1000 ∧ m_sm r = true then some (pc + 3, lv, .ref (base + M.1) :: r, m_new M x) else none
    | none => none
    else none
  | .checkcast i => if o = 18 ∧ i = 317 then m_r st fun a r => match m_own base M a with
    | some x => if x.1 = 1000 then some (pc + 3, lv, .ref a :: r, M) else none
    | none => none
    else none
  | _ => none
