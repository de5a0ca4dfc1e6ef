/-! The pure machine's steps, in four groups; m_len: the length of each instruction's usual form. -/
noncomputable def m_len (ins : Instr) : Nat := match ins with
  | .bipush _ => 2
  | .ldc _ => 2
  | .iload _ => 2
  | .lload _ => 2
  | .aload _ => 2
  | .istore _ => 2
  | .lstore _ => 2
  | .astore _ => 2
  | .newarray _ => 2
  | .sipush _ => 3
  | .ldc_w _ => 3
  | .ldc2_w _ => 3
  | .iinc _ _ => 3
  | .ifCond _ _ => 3
  | .if_icmp _ _ => 3
  | .if_acmp _ _ => 3
  | .ifnull _ => 3
  | .ifnonnull _ => 3
  | .goto _ => 3
  | .getfield _ => 3
  | .putfield _ => 3
  | .getstatic _ => 3
  | .new _ => 3
  | .anewarray _ => 3
  | .invokevirtual _ => 3
  | .invokespecial _ => 3
  | .invokestatic _ => 3
  | _ => 1
noncomputable def m_ldI (lv : mL) (i : Nat) (k : Int32 → Option mR) : Option mR := match m_lv lv i with
  | some (.int x) => k x
  | _ => none
noncomputable def m_ldL (lv : mL) (i : Nat) (k : Int64 → Option mR) : Option mR := match m_lv lv i with
  | some (.long x) => k x
  | _ => none
noncomputable def m_ldA (lv : mL) (i : Nat) (k : Option Nat → Option mR) : Option mR := match m_lv lv i with
  | some (.ref x) => k (some x)
  | some .null => k none
  | _ => none
/-- constants, locals, the operand stack -/
noncomputable def m_stA (o nL pc : Nat) (lv : mL) (st : List Value) (M : mH) (ins : Instr) : Option mR := match ins with
  | .aconst_null => some (pc + 1, lv, .null :: st, M)
  | .iconst i => some (pc + 1, lv, .int (Int32.ofInt i) :: st, M)
  | .bipush b => some (pc + 2, lv, .int (Int8.ofInt b).toInt32 :: st, M)
  | .sipush b => some (pc + 3, lv, .int (Int16.ofInt b).toInt32 :: st, M)
  | .lconst k => some (pc + 1, lv, .long (Int64.ofNat (k : Nat)) :: st, M)
  | .ldc i => match m_ci o i with
    | some v => some (pc + 2, lv, .int v :: st, M)
    | none => none
  | .ldc_w i => match m_ci o i with
    | some v => some (pc + 3, lv, .int v :: st, M)
    | none => none
  | .ldc2_w i => match m_cl o i with
    | some v => some (pc + 3, lv, .long v :: st, M)
    | none => none
  | .iload_n k => m_ldI lv k fun x => some (pc + 1, lv, .int x :: st, M)
  | .iload k => m_ldI lv k fun x => some (pc + 2, lv, .int x :: st, M)
  | .lload_n k => m_ldL lv k fun x => some (pc + 1, lv, .long x :: st, M)
  | .lload k => m_ldL lv k fun x => some (pc + 2, lv, .long x :: st, M)
  | .aload_n k => m_ldA lv k fun x => some (pc + 1, lv, va_rf x :: st, M)
  | .aload k => m_ldA lv k fun x => some (pc + 2, lv, va_rf x :: st, M)
  | .istore_n k => m_i st fun x r => if (k : Nat) < nL then some (pc + 1, m_set1 lv k (.int x), r, M) else none
  | .istore k => m_i st fun x r => if k < nL then some (pc + 2, m_set1 lv k (.int x), r, M) else none
  | .lstore_n k => m_l st fun x r => if (k : Nat) + 1 < nL then some (pc + 1, m_set2 lv k (.long x), r, M) else none
  | .lstore k => m_l st fun x r => if k + 1 < nL then some (pc + 2, m_set2 lv k (.long x), r, M) else none
  | .astore_n k => m_q st fun x r => if (k : Nat) < nL then some (pc + 1, m_set1 lv k (va_rf x), r, M) else none
  | .astore k => m_q st fun x r => if k < nL then some (pc + 2, m_set1 lv k (va_rf x), r, M) else none
  | .iinc k n => m_ldI lv k fun x => if k < nL then some (pc + 3, m_set1 lv k (.int (x + Int32.ofInt n)), st, M) else none
  | .dup => m_1 st fun x r => if x.category = 1 then some (pc + 1, lv, x :: x :: r, M) else none
  | .pop => m_1 st fun x r => if x.category = 1 then some (pc + 1, lv, r, M) else none
  | .pop2 => m_1 st fun x r => if x.category = 2 then some (pc + 1, lv, r, M) else m_1 r fun y t => if x.category = 1 ∧ y.category = 1 then some (pc + 1, lv, t, M) else none
  | .dup2 => m_1 st fun x r => m_1 r fun y t => if x.category = 1 ∧ y.category = 1 then some (pc + 1, lv, x :: y :: x :: y :: t, M) else none
  | .dup_x1 => m_1 st fun x r => m_1 r fun y t => if x.category = 1 ∧ y.category = 1 then some (pc + 1, lv, x :: y :: x :: t, M) else none
  | _ => none
/-- numbers -/
noncomputable def m_stB (pc : Nat) (lv : mL) (st : List Value) (M : mH) (ins : Instr) : Option mR := match ins with
  | .iadd => m_ii st fun x y r => some (pc + 1, lv, .int (x + y) :: r, M)
  | .isub => m_ii st fun x y r => some (pc + 1, lv, .int (x - y) :: r, M)
  | .imul => m_ii st fun x y r => some (pc + 1, lv, .int (x * y) :: r, M)
  | .iand => m_ii st fun x y r => some (pc + 1, lv, .int (x &&& y) :: r, M)
  | .ior => m_ii st fun x y r => some (pc + 1, lv, .int (x ||| y) :: r, M)
  | .ixor => m_ii st fun x y r => some (pc + 1, lv, .int (x ^^^ y) :: r, M)
  | .idiv => m_ii st fun x y r => if y = 0 then none else some (pc + 1, lv, .int (x / y) :: r, M)
  | .irem => m_ii st fun x y r => if y = 0 then none else some (pc + 1, lv, .int (x - x / y * y) :: r, M)
  | .ishl => m_ii st fun x y r => some (pc + 1, lv, .int (x <<< (y &&& 31)) :: r, M)
  | .ishr => m_ii st fun x y r => some (pc + 1, lv, .int (x >>> (y &&& 31)) :: r, M)
  | .iushr => m_ii st fun x y r => some (pc + 1, lv, .int (x.toUInt32 >>> (y.toUInt32 &&& Int32.toUInt32 31)).toInt32 :: r, M)
  | .ladd => m_ll st fun x y r => some (pc + 1, lv, .long (x + y) :: r, M)
  | .lsub => m_ll st fun x y r => some (pc + 1, lv, .long (x - y) :: r, M)
  | .lmul => m_ll st fun x y r => some (pc + 1, lv, .long (x * y) :: r, M)
  | .land => m_ll st fun x y r => some (pc + 1, lv, .long (x &&& y) :: r, M)
  | .lor => m_ll st fun x y r => some (pc + 1, lv, .long (x ||| y) :: r, M)
  | .ldiv => m_ll st fun x y r => if y = 0 then none else some (pc + 1, lv, .long (x / y) :: r, M)
  | .lshl => m_li st fun x y r => some (pc + 1, lv, .long (x <<< (y.toInt64 &&& 63)) :: r, M)
  | .lshr => m_li st fun x y r => some (pc + 1, lv, .long (x >>> (y.toInt64 &&& 63)) :: r, M)
  | .lushr => m_li st fun x y r => some (pc + 1, lv, .long (x.toUInt64 >>> (y.toInt64.toUInt64 &&& Int64.toUInt64 63)).toInt64 :: r, M)
  | .i2l => m_i st fun x r => some (pc + 1, lv, .long x.toInt64 :: r, M)
  | .l2i => m_l st fun x r => some (pc + 1, lv, .int x.toInt32 :: r, M)
  | .i2b => m_i st fun x r => some (pc + 1, lv, .int x.toInt8.toInt32 :: r, M)
  | .i2c => m_i st fun x r => some (pc + 1, lv, .int (x.toUInt32 % 65536).toInt32 :: r, M)
  | .lcmp => m_ll st fun x y r => some (pc + 1, lv, .int (lg_cmp x y) :: r, M)
  | _ => none
noncomputable def m_br (pc : Nat) (off : Int) (b : Bool) (lv : mL) (st : List Value) (M : mH) : Option mR := m_to pc off fun t => some (if b then t else pc + 3, lv, st, M)
/-- branches -/
noncomputable def m_stC (pc : Nat) (lv : mL) (st : List Value) (M : mH) (ins : Instr) : Option mR := match ins with
  | .goto off => m_to pc off fun t => some (t, lv, st, M)
  | .ifCond c off => m_i st fun x r => m_br pc off (match c with
    | .eq => decide (x = 0)
    | .ne => decide (¬ x = 0)
    | .lt => decide (x < 0)
    | .ge => decide (0 ≤ x)
    | .gt => decide (0 < x)
    | .le => decide (x ≤ 0)) lv r M
  | .if_icmp c off => m_ii st fun x y r => m_br pc off (match c with
    | .eq => decide (x = y)
    | .ne => decide (¬ x = y)
    | .lt => decide (x < y)
    | .ge => decide (y ≤ x)
    | .gt => decide (y < x)
    | .le => decide (x ≤ y)) lv r M
  | .ifnull off => m_q st fun x r => m_br pc off x.isNone lv r M
  | .ifnonnull off => m_q st fun x r => m_br pc off x.isSome lv r M
  | .tableswitch dflt lo hi offs => m_i st fun x r => if x.toInt < lo ∨ hi < x.toInt then m_to pc dflt fun t => some (t, lv, r, M) else match offs[(x.toInt - lo).toNat]? with
    | some off => m_to pc off fun t => some (t, lv, r, M)
    | none => none
  | .lookupswitch dflt ps => m_i st fun x r => if (ps.toList.zip (ps.toList.drop 1)).all (fun (a, next) => a.1 < next.1) = true then m_to pc (Op.lookupswitch.offset ps.toList dflt x.toInt) fun t => some (t, lv, r, M) else none
  | _ => none
/-- the class of an owner of code -/
noncomputable def m_oc (o : Nat) : Nat := [0, 1, 2, 3, 4, 5, 100, 6, 7, 8, 9, 10].getD o 100
/-- the heap -/
noncomputable def m_stD (base : Nat) (X : Nat → Option mC) (G : Nat → Value) (o : Nat) (ini : Bool) (pc : Nat) (lv : mL) (st : List Value) (M : mH) (ins : Instr) : Option mR := match ins with
  | .ldc i => if o = 4 ∧ i = 90 then some (pc + 2, lv, G 9 :: st, M) else none
  | .getfield i => if o = 13 then (m_r st fun a r => if G 9 = .ref a then (if i = 9 then some (pc + 3, lv, G 10 :: r, M) else if i = 15 then some (pc + 3, lv, .int 0 :: r, M) else none) else none) else m_r st fun a r => match m_fi o i, m_own base M a with
    | some q, some x => if x.1 = q.1 ∧ q.2 < x.2.1 then some (pc + 3, lv, x.2.2 q.2 :: r, M) else none
    | _, _ => none
  | .putfield i => m_vr st fun v a r => match m_fi o i, m_own base M a with
    | some q, some x => match m_fty q.1 q.2 with
      | some t => if x.1 = q.1 ∧ q.2 < x.2.1 ∧ narrow t v = v ∧ fits t v = true ∧ (m_fin q.1 q.2 = false ∨ (ini = true ∧ m_oc o = q.1)) then some (pc + 3, lv, r, m_put base M a (x.1, x.2.1, updV x.2.2 q.2 v)) else none
      | none => none
    | _, _ => none
  | .getstatic i => match m_st o i with
    | some g => some (pc + 3, lv, G g :: st, M)
    | none => none
  | .new i => match m_nw o i with
    | some ci => some (pc + 3, lv, .ref (base + M.1) :: st, m_new M (ci, m_cnt ci, m_dflt ci))
    | none => none
  | .newarray t => m_i st fun n r => match m_nk t with
    | some kd => if 0 ≤ n.toInt ∧ n.toInt ≤ 1000000 then some (pc + 2, lv, .ref (base + M.1) :: r, m_new M (kd, n.toNatClampNeg, fun _ => defaultValue (newarray.typeOf t))) else none
    | none => none
  | .anewarray i => m_i st fun n r => match m_an o i with
    | some kd => if 0 ≤ n.toInt ∧ n.toInt ≤ 1000000 then some (pc + 3, lv, .ref (base + M.1) :: r, m_new M (kd, n.toNatClampNeg, fun _ => .null)) else none
    | none => none
  | .arraylength => m_r st fun a r => match m_at base X M a with
    | some x => if 1000 ≤ x.1 then some (pc + 1, lv, .int (Int32.ofNat x.2.1) :: r, M) else none
    | none => none
  | .iaload => m_ald base X M (fun k => k == 1000) st fun v r => some (pc + 1, lv, v :: r, M)
  | .laload => m_ald base X M (fun k => k == 1001) st fun v r => some (pc + 1, lv, v :: r, M)
  | .baload => m_ald base X M (fun k => k == 1002 || k == 1003) st fun v r => some (pc + 1, lv, v :: r, M)
  | .aaload => m_ald base X M (fun k => decide (1005 ≤ k)) st fun v r => some (pc + 1, lv, v :: r, M)
  | .iastore => m_ast base M (fun k => k == 1000) (m_okA base M) st fun M r => some (pc + 1, lv, r, M)
  | .lastore => m_ast base M (fun k => k == 1001) (m_okA base M) st fun M r => some (pc + 1, lv, r, M)
  | .bastore => m_ast base M (fun k => k == 1002 || k == 1003) (m_okA base M) st fun M r => some (pc + 1, lv, r, M)
  | .aastore => m_ast base M (fun k => decide (1005 ≤ k)) (m_okA base M) st fun M r => some (pc + 1, lv, r, M)
  | _ => none
