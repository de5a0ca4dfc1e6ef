/-! A PURE MACHINE for the methods that the claim reaches. A heap: how many cells, how many slots in all, the cells (kind, slots, what they hold). Kinds below 1000 are classes of vwCl; 1000 and on arrays by m_ty. Cells below the address base are given and only read (X). G: statics that nobody writes. m_run: what a method returns and the heap behind it, or nothing (it would throw, or wants more fuel n or more depth d). -/
noncomputable abbrev mC : Type := Nat × Nat × (Nat → Value)
noncomputable abbrev mH : Type := Nat × Nat × (Nat → mC)
noncomputable abbrev mL : Type := List (Nat × Value)
noncomputable abbrev mR : Type := Nat × mL × List Value × mH
/-- what an array of kind 1000 + k holds -/
noncomputable def m_ty : Nat → FieldType
  | 0 => .int
  | 1 => .long
  | 2 => .boolean
  | 3 => .byte
  | 4 => .char
  | 5 => .array .long
  | 6 => .object RX8
  | _ => .object RX3
noncomputable def m_lv (lv : mL) (i : Nat) : Option Value := (lv.find? (fun q => q.1 == i)).map (fun q => q.2)
noncomputable def m_set1 (lv : mL) (i : Nat) (v : Value) : mL := (i, v) :: lv.filter (fun q => !(q.1 == i) && !(q.1 + 1 == i && q.2.category == 2))
noncomputable def m_set2 (lv : mL) (i : Nat) (v : Value) : mL := (i, v) :: lv.filter (fun q => !(q.1 == i) && (!(q.1 == i + 1) && !(q.1 + 1 == i && q.2.category == 2)))
section
variable {α : Type}
noncomputable def m_1 (st : List Value) (k : Value → List Value → Option α) : Option α := match st with
  | x :: r => k x r
  | _ => none
noncomputable def m_i (st : List Value) (k : Int32 → List Value → Option α) : Option α := match st with
  | .int x :: r => k x r
  | _ => none
noncomputable def m_ii (st : List Value) (k : Int32 → Int32 → List Value → Option α) : Option α := match st with
  | .int y :: .int x :: r => k x y r
  | _ => none
noncomputable def m_l (st : List Value) (k : Int64 → List Value → Option α) : Option α := match st with
  | .long x :: r => k x r
  | _ => none
noncomputable def m_ll (st : List Value) (k : Int64 → Int64 → List Value → Option α) : Option α := match st with
  | .long y :: .long x :: r => k x y r
  | _ => none
noncomputable def m_li (st : List Value) (k : Int64 → Int32 → List Value → Option α) : Option α := match st with
  | .int y :: .long x :: r => k x y r
  | _ => none
/-- a reference or null on top -/
noncomputable def m_q (st : List Value) (k : Option Nat → List Value → Option α) : Option α := match st with
  | .null :: r => k none r
  | .ref a :: r => k (some a) r
  | _ => none
noncomputable def m_r (st : List Value) (k : Nat → List Value → Option α) : Option α := match st with
  | .ref a :: r => k a r
  | _ => none
/-- an index, and a reference below it -/
noncomputable def m_ir (st : List Value) (k : Int32 → Nat → List Value → Option α) : Option α := match st with
  | .int i :: .ref a :: r => k i a r
  | _ => none
/-- a value, a reference below it -/
noncomputable def m_vr (st : List Value) (k : Value → Nat → List Value → Option α) : Option α := match st with
  | v :: .ref a :: r => k v a r
  | _ => none
/-- a value, an index, a reference -/
noncomputable def m_vir (st : List Value) (k : Value → Int32 → Nat → List Value → Option α) : Option α := match st with
  | v :: .int i :: .ref a :: r => k v i a r
  | _ => none
/-- System.arraycopy's five -/
noncomputable def m_cp (st : List Value) (k : Nat → Int32 → Nat → Int32 → Int32 → List Value → Option α) : Option α := match st with
  | .int n :: .int dp :: .ref d :: .int sp :: .ref s :: r => k s sp d dp n r
  | _ => none
noncomputable def m_to (pc : Nat) (off : Int) (k : Nat → Option α) : Option α := if 0 ≤ (pc : Int) + off then k ((pc : Int) + off).toNat else none
end
/-- the cell at an address -/
noncomputable def m_at (base : Nat) (X : Nat → Option mC) (M : mH) (a : Nat) : Option mC := if a < base then X a else if a - base < M.1 then some (M.2.2 (a - base)) else none
noncomputable def m_own (base : Nat) (M : mH) (a : Nat) : Option mC := if a < base then none else if a - base < M.1 then some (M.2.2 (a - base)) else none
noncomputable def m_put (base : Nat) (M : mH) (a : Nat) (x : mC) : mH := (M.1, M.2.1, fun j => if j = a - base then x else M.2.2 j)
noncomputable def m_new (M : mH) (x : mC) : mH := (M.1 + 1, M.2.1 + x.2.1, fun j => if j = M.1 then x else M.2.2 j)
noncomputable def m_in (i : Int32) (n : Nat) : Bool := decide (0 ≤ i.toInt) && decide (i.toInt < (n : Int))
/-- a place of an array of one of the kinds is read -/
noncomputable def m_ald (base : Nat) (X : Nat → Option mC) (M : mH) (kd : Nat → Bool) (st : List Value) (k : Value → List Value → Option mR) : Option mR :=
  m_ir st fun i a r => match m_at base X M a with
    | none => none
    | some x => if kd x.1 = true ∧ m_in i x.2.1 = true then k (x.2.2 i.toNatClampNeg) r else none
/-- a place of an array is written -/
noncomputable def m_ast (base : Nat) (M : mH) (kd : Nat → Bool) (ok : Nat → Value → Option Value) (st : List Value) (k : mH → List Value → Option mR) : Option mR :=
  m_vir st fun v i a r => match m_own base M a with
    | none => none
    | some x => match ok x.1 v with
      | none => none
      | some w => if kd x.1 = true ∧ m_in i x.2.1 = true then k (m_put base M a (x.1, x.2.1, updV x.2.2 i.toNatClampNeg w)) r else none
/-- what may be stored in an array of kind kd, and as what -/
noncomputable def m_okA (base : Nat) (M : mH) (kd : Nat) (v : Value) : Option Value := match kd, v with
  | 1000, .int x => some (.int x)
  | 1001, .long x => some (.long x)
  | 1002, .int x => some (narrow .boolean (.int x))
  | 1003, .int x => some (narrow .byte (.int x))
  | 1006, .null => some .null
  | 1007, .null => some .null
  | 1005, .ref a => match m_own base M a with
    | some x => if x.1 = 1001 then some (.ref a) else none
    | none => none
  | 1006, .ref a => match m_own base M a with
    | some x => if x.1 = 7 then some (.ref a) else none
    | none => none
  | 1007, .ref a => match m_own base M a with
    | some x => if x.1 = 3 then some (.ref a) else none
    | none => none
  | _, _ => none
/-- the type of field k of class ci -/
noncomputable def m_fty (ci k : Nat) : Option FieldType := match vwCl[ci]? with
  | some q => if k < q.2.2 then parseFieldDescriptor (q.2.1 k).2.2.1 else none
  | none => none
noncomputable def m_fin (ci k : Nat) : Bool := match vwCl[ci]? with
  | some q => (q.2.1 k).2.2.2
  | none => true
noncomputable def m_dflt (ci : Nat) (k : Nat) : Value := match m_fty ci k with
  | some t => defaultValue t
  | none => .null
noncomputable def m_cnt (ci : Nat) : Nat := match vwCl[ci]? with
  | some q => q.2.2
  | none => 0
/-- statics: the class's tables, two of the JDK's that Strings ask for -/
noncomputable def sy_sx : List (Nat × Nat × Nat × Nat) := sy_s ++ [(13, 38, 7, 0), (13, 1053, 8, 0)]
noncomputable def sy_sj : List (String × String × String) := sy_si ++ [("java/lang/String", "COMPACT_STRINGS", "Z"), ("jdk/internal/util/Preconditions", "SIOOBE_FORMATTER", "Ljava/util/function/BiFunction;")]
noncomputable def m_fi (o i : Nat) : Option (Nat × Nat) := (sy_f.find? (fun q => q.1 == o && q.2.1 == i)).map (fun q => q.2.2)
noncomputable def m_st (o i : Nat) : Option Nat := (sy_sx.find? (fun q => q.1 == o && q.2.1 == i)).map (fun q => q.2.2.1)
noncomputable def m_ca (o i : Nat) : Option (Nat × Nat × Nat) := (sy_c.find? (fun q => q.1 == o && q.2.1 == i)).map (fun q => q.2.2)
noncomputable def m_sp (o i : Nat) : Option Nat := (sy_k.find? (fun q => q.1 == o && q.2.1 == i)).map (fun q => q.2.2)
noncomputable def m_nw (o i : Nat) : Option Nat := (sy_n.find? (fun q => q.1 == o && q.2.1 == i)).map (fun q => q.2.2)
noncomputable def m_ci (o i : Nat) : Option Int32 := (sy_i.find? (fun q => q.1 == o && q.2.1 == i)).map (fun q => q.2.2)
noncomputable def m_cl (o i : Nat) : Option Int64 := (sy_l.find? (fun q => q.1 == o && q.2.1 == i)).map (fun q => q.2.2)
/-- arrays of references: the kind by owner and entry -/
noncomputable def m_an (o i : Nat) : Option Nat := match o, i with
  | 7, 11 => some 1005
  | 10, 7 => some 1006
  | 8, 46 => some 1007
  | _, _ => none
noncomputable def m_nk : ArrayType → Option Nat
  | .int => some 1000
  | .long => some 1001
  | .boolean => some 1002
  | .byte => some 1003
  | _ => none
