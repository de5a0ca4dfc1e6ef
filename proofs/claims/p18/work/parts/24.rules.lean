/-! RULES for symbolic runs. -/
noncomputable def s_Q (base : Nat) (P : Option mV → mH → Prop) : Option Value → mH → Prop := fun r M => ∃ v : Option mV, r = v.map (em base) ∧ P v M
/-- a method called with args ends with P of its answer and of the heap -/
noncomputable def sOk (base : Nat) (X : Nat → Option mC) (G : Nat → Value) (d : Nat) (t : mT) (args : List mV) (M : mH) (P : Option mV → mH → Prop) : Prop := m_Rn base X G d t 0 (lv_args 0 (em_s base args)) [] M (s_Q base P)
noncomputable def s_args0 : Nat → List mV → sL
  | _, [] => []
  | i, v :: r => (i, v) :: s_args0 (if s_is2 v then i + 2 else i + 1) r
theorem s_args0_ok (base : Nat) : ∀ (vs : List mV) (i : Nat), lv_args i (em_s base vs) = em_l base (s_args0 i vs)
  | [], _ => rfl
  | v :: r, i => by
    unfold em_s s_args0 em_l
    simp only [List.map_cons, lv_args]
    have ih := s_args0_ok base r (if s_is2 v then i + 2 else i + 1)
    unfold em_s em_l at ih
    rw [← ih]
    have : ((em base v).category = 2) ↔ (s_is2 v = true) := by
      have := s_cat base v
      rw [← this]; simp
    by_cases h : s_is2 v = true
    · rw [if_pos (this.mpr h), if_pos h]
    · rw [if_neg (fun q => h (this.mp q)), if_neg h]
section
variable {base : Nat} {X : Nat → Option mC} {G : Nat → Value} {d : Nat} {t : mT} {pc pc' : Nat} {lv lv' : sL} {st st' : List mV} {M : mH} {Q : Option Value → mH → Prop} {P : Option mV → mH → Prop}
theorem sOk.of {args : List mV} (h : sRn base X G d t 0 (s_args0 0 args) [] M (s_Q base P)) : sOk base X G d t args M P := by
  unfold sOk
  rw [s_args0_ok]
  exact h
theorem sOk.imp {args : List mV} {P' : Option mV → mH → Prop} (h : sOk base X G d t args M P) (k : ∀ v M', P v M' → P' v M') : sOk base X G d t args M P' :=
  m_Rn.imp h (fun r M' q => by obtain ⟨v, e, p⟩ := q; exact ⟨v, e, k v M' p⟩)
/-! ends -/
theorem r_ret (hd : decode t.2.2.1 pc = .ok (.return_, 1)) (hr : t.2.2.2.2 = none) (h : P none M) : sRn base X G d t pc lv [] M (s_Q base P) := by
  refine m_Rn.ret hd (r := none) ?_ ⟨none, rfl, h⟩
  unfold m_ret em_s
  simp [hr]
theorem r_iret {e : Int} (hd : decode t.2.2.1 pc = .ok (.ireturn, 1)) (hr : t.2.2.2.2 = some .int) (h : P (some (vI e)) M) : sRn base X G d t pc lv [vI e] M (s_Q base P) := by
  refine m_Rn.ret hd (r := some (.int (Int32.ofInt e))) ?_ ⟨some (vI e), rfl, h⟩
  simp [m_ret, em_s, em, hr, narrow]
theorem s_b01 {e : Int} (h : e = 0 ∨ e = 1) : narrow .boolean (.int (Int32.ofInt e)) = .int (Int32.ofInt e) := by
  rcases h with rfl | rfl <;> decide
theorem r_zret {e : Int} (hd : decode t.2.2.1 pc = .ok (.ireturn, 1)) (hr : t.2.2.2.2 = some .boolean) (he : e = 0 ∨ e = 1) (h : P (some (vI e)) M) : sRn base X G d t pc lv [vI e] M (s_Q base P) := by
  refine m_Rn.ret hd (r := some (.int (Int32.ofInt e))) ?_ ⟨some (vI e), rfl, h⟩
  simp [m_ret, em_s, em, hr, s_b01 he]
theorem r_lret {e : Int} (hd : decode t.2.2.1 pc = .ok (.lreturn, 1)) (hr : t.2.2.2.2 = some .long) (h : P (some (vL e)) M) : sRn base X G d t pc lv [vL e] M (s_Q base P) := by
  refine m_Rn.ret hd (r := some (.long (Int64.ofInt e))) ?_ ⟨some (vL e), rfl, h⟩
  simp [m_ret, em_s, em, hr]
theorem r_aret {q : Option (Nat ⊕ Nat)} (hd : decode t.2.2.1 pc = .ok (.areturn, 1)) (hr : m_isR t.2.2.2.2 = true) (h : P (some (.inr (.inr q))) M) : sRn base X G d t pc lv [.inr (.inr q)] M (s_Q base P) := by
  refine m_Rn.ret hd (r := some (em base (.inr (.inr q)))) ?_ ⟨some (.inr (.inr q)), rfl, h⟩
  rcases q with _ | c | a <;> simp [m_ret, em_s, em, hr]
/-! branches -/
noncomputable def c_cmp (c : Jvm.ClassFile.Cond) (x y : Int) : Prop := match c with
  | .eq => x = y
  | .ne => x ≠ y
  | .lt => x < y
  | .ge => y ≤ x
  | .gt => y < x
  | .le => x ≤ y
theorem s_lt {a b : Int} (ha : inR a) (hb : inR b) : Int32.ofInt a < Int32.ofInt b ↔ a < b := by
  rw [Int32.lt_iff_toInt_lt, s_i32 ha, s_i32 hb]
theorem s_le {a b : Int} (ha : inR a) (hb : inR b) : Int32.ofInt a ≤ Int32.ofInt b ↔ a ≤ b := by
  rw [Int32.le_iff_toInt_le, s_i32 ha, s_i32 hb]
theorem s_eq {a b : Int} (ha : inR a) (hb : inR b) : Int32.ofInt a = Int32.ofInt b ↔ a = b := by
  rw [← Int32.toInt_inj, s_i32 ha, s_i32 hb]
theorem s_cmp {c : Jvm.ClassFile.Cond} {a b : Int} (ha : inR a) (hb : inR b) : (m_cmp c (Int32.ofInt a) (Int32.ofInt b) = true ↔ c_cmp c a b) := by
  cases c <;> simp [m_cmp, c_cmp, s_lt ha hb, s_lt hb ha, s_le ha hb, s_le hb ha, s_eq ha hb]
theorem r_icmp {cd : Jvm.ClassFile.Cond} {off : Int} {a b : Int} {tgt : Nat} (hd : decode t.2.2.1 pc = .ok (.if_icmp cd off, 3)) (ht : (pc : Int) + off = (tgt : Int)) (hn : pc + 3 = pc') (hr : inR a ∧ inR b)
    (h1 : c_cmp cd a b → sRn base X G d t tgt lv st M Q) (h2 : ¬ c_cmp cd a b → sRn base X G d t pc' lv st M Q) : sRn base X G d t pc lv (vI b :: vI a :: st) M Q := by
  subst hn
  refine m_Rn.icmp (x := Int32.ofInt a) (y := Int32.ofInt b) hd ht (fun q => h1 ((s_cmp hr.1 hr.2).mp q)) (fun q => h2 (fun z => ?_))
  rw [(s_cmp hr.1 hr.2).mpr z] at q
  cases q
theorem r_ifc {cd : Jvm.ClassFile.Cond} {off : Int} {a : Int} {tgt : Nat} (hd : decode t.2.2.1 pc = .ok (.ifCond cd off, 3)) (ht : (pc : Int) + off = (tgt : Int)) (hn : pc + 3 = pc') (hr : inR a)
    (h1 : c_cmp cd a 0 → sRn base X G d t tgt lv st M Q) (h2 : ¬ c_cmp cd a 0 → sRn base X G d t pc' lv st M Q) : sRn base X G d t pc lv (vI a :: st) M Q := by
  subst hn
  have h0 : inR 0 := by unfold inR; omega
  have e0 : (0 : Int32) = Int32.ofInt 0 := by decide
  refine m_Rn.ifc (x := Int32.ofInt a) hd ht (fun q => h1 ?_) (fun q => h2 (fun z => ?_))
  · rw [e0] at q; exact (s_cmp hr h0).mp q
  · rw [e0, (s_cmp hr h0).mpr z] at q
    cases q
theorem r_goto {off : Int} {tgt : Nat} (hd : decode t.2.2.1 pc = .ok (.goto off, 3)) (ht : (pc : Int) + off = (tgt : Int)) (h : sRn base X G d t tgt lv st M Q) : sRn base X G d t pc lv st M Q := m_Rn.goto hd ht h
theorem r_ifnull {q : Option (Nat ⊕ Nat)} {off : Int} {tgt : Nat} (hd : decode t.2.2.1 pc = .ok (.ifnull off, 3)) (ht : (pc : Int) + off = (tgt : Int)) (hn : pc + 3 = pc')
    (h1 : q = none → sRn base X G d t tgt lv st M Q) (h2 : q ≠ none → sRn base X G d t pc' lv st M Q) : sRn base X G d t pc lv (.inr (.inr q) :: st) M Q := by
  subst hn
  have hln : (3 = m_len (.ifnull off) ∨ m_sw (.ifnull off) = true) := Or.inl rfl
  have hto : ((pc : Int) + off).toNat = tgt := by omega
  have hnn : 0 ≤ (pc : Int) + off := by omega
  have e : m_step base X G t pc (em_l base lv) (em_s base (.inr (.inr q) :: st)) M (.ifnull off) 3 = some (if q.isNone then tgt else pc + 3, em_l base lv, em_s base st, M) := by
    unfold m_step
    rcases q with _ | c | a <;> simp only [m_spc, m_stC, em_s, List.map_cons, em, m_q, m_br, m_to, if_pos hnn, hto] <;> rw [if_pos hln] <;> rfl
  refine m_Rn.step hd rfl rfl e ?_
  cases q with
  | none => exact h1 rfl
  | some z => exact h2 (by simp)
theorem r_ifnonnull {q : Option (Nat ⊕ Nat)} {off : Int} {tgt : Nat} (hd : decode t.2.2.1 pc = .ok (.ifnonnull off, 3)) (ht : (pc : Int) + off = (tgt : Int)) (hn : pc + 3 = pc')
    (h1 : q ≠ none → sRn base X G d t tgt lv st M Q) (h2 : q = none → sRn base X G d t pc' lv st M Q) : sRn base X G d t pc lv (.inr (.inr q) :: st) M Q := by
  subst hn
  have hln : (3 = m_len (.ifnonnull off) ∨ m_sw (.ifnonnull off) = true) := Or.inl rfl
  have hto : ((pc : Int) + off).toNat = tgt := by omega
  have hnn : 0 ≤ (pc : Int) + off := by omega
  have e : m_step base X G t pc (em_l base lv) (em_s base (.inr (.inr q) :: st)) M (.ifnonnull off) 3 = some (if q.isSome then tgt else pc + 3, em_l base lv, em_s base st, M) := by
    unfold m_step
    rcases q with _ | c | a <;> simp only [m_spc, m_stC, em_s, List.map_cons, em, m_q, m_br, m_to, if_pos hnn, hto] <;> rw [if_pos hln] <;> rfl
  refine m_Rn.step hd rfl rfl e ?_
  cases q with
  | none => exact h2 rfl
  | some z => exact h1 (by simp)
theorem r_tsw {dflt lo hi : Int} {offs : Array Int} {len : Nat} {a : Int} (hd : decode t.2.2.1 pc = .ok (.tableswitch dflt lo hi offs, len)) (hr : inR a) {tgt : Int → Nat}
    (hlo : ∀ k : Int, lo ≤ k → k ≤ hi → ∃ off, offs[(k - lo).toNat]? = some off ∧ (pc : Int) + off = (tgt k : Int)) {td : Nat} (htd : (pc : Int) + dflt = (td : Int))
    (h1 : ∀ k, lo ≤ k → k ≤ hi → a = k → sRn base X G d t (tgt k) lv st M Q) (h2 : (a < lo ∨ hi < a) → sRn base X G d t td lv st M Q) : sRn base X G d t pc lv (vI a :: st) M Q := by
  have hln : (len = m_len (.tableswitch dflt lo hi offs) ∨ m_sw (.tableswitch dflt lo hi offs) = true) := Or.inr rfl
  by_cases ha : a < lo ∨ hi < a
  · have hto : ((pc : Int) + dflt).toNat = td := by omega
    have hnn : 0 ≤ (pc : Int) + dflt := by omega
    have e : m_step base X G t pc (em_l base lv) (em_s base (vI a :: st)) M (.tableswitch dflt lo hi offs) len = some (td, em_l base lv, em_s base st, M) := by
      unfold m_step
      simp only [m_spc, m_stC, em_s, List.map_cons, em, m_i, s_i32 hr, if_pos ha, m_to, if_pos hnn, hto]
      rw [if_pos hln]
    exact m_Rn.step hd rfl rfl e (h2 ha)
  · obtain ⟨off, ho, hp⟩ := hlo a (by omega) (by omega)
    have hto : ((pc : Int) + off).toNat = tgt a := by omega
    have hnn : 0 ≤ (pc : Int) + off := by omega
    have e : m_step base X G t pc (em_l base lv) (em_s base (vI a :: st)) M (.tableswitch dflt lo hi offs) len = some (tgt a, em_l base lv, em_s base st, M) := by
      unfold m_step
      simp only [m_spc, m_stC, em_s, List.map_cons, em, m_i, s_i32 hr, if_neg ha, ho, m_to, if_pos hnn, hto]
      rw [if_pos hln]
    exact m_Rn.step hd rfl rfl e (h1 a (by omega) (by omega) rfl)
/-! numbers -/
theorem r_norm {e : Int} (h : ∀ z, inR z → Int32.ofInt z = Int32.ofInt e → sRn base X G d t pc lv (vI z :: st) M Q) : sRn base X G d t pc lv (vI e :: st) M Q := by
  have := h (Int32.ofInt e).toInt (inR_toInt _) (Int32.ofInt_toInt _)
  unfold sRn em_s at this ⊢
  simp only [List.map_cons, em, Int32.ofInt_toInt] at this ⊢
  exact this
theorem r_normL {e : Int} (h : ∀ z, inJ z → Int64.ofInt z = Int64.ofInt e → sRn base X G d t pc lv (vL z :: st) M Q) : sRn base X G d t pc lv (vL e :: st) M Q := by
  have := h (Int64.ofInt e).toInt (inJ_toInt _) (Int64.ofInt_toInt _)
  unfold sRn em_s at this ⊢
  simp only [List.map_cons, em, Int64.ofInt_toInt] at this ⊢
  exact this
/-- a step of the second group, its answer any number -/
theorem r_B {ins : Instr} {v : Value} {st0 : List mV} (hd : decode t.2.2.1 pc = .ok (ins, 1)) (h1 : m_ret t.2.2.2.2 ins (em_s base st0) = none) (h2 : m_call t.1 ins = none) (h3 : m_spc base X t.1 pc (em_l base lv) (em_s base st0) M ins = none) (h4 : m_stC pc (em_l base lv) (em_s base st0) M ins = none) (h5 : m_stA t.1 t.2.2.2.1 pc (em_l base lv) (em_s base st0) M ins = none) (h6 : m_len ins = 1)
    (h7 : m_stB pc (em_l base lv) (em_s base st0) M ins = some (pc + 1, em_l base lv, v :: em_s base st, M)) (h : m_Rn base X G d t (pc + 1) (em_l base lv) (v :: em_s base st) M Q) : sRn base X G d t pc lv st0 M Q := by
  refine m_Rn.step (z := (pc + 1, em_l base lv, v :: em_s base st, M)) hd h1 h2 ?_ h
  unfold m_step
  rw [h3, h4]
  dsimp only
  rw [if_pos h6.symm, h5, h7]
theorem s_anyI {z : Int32} (h : ∀ e, inR e → Int32.ofInt e = z → sRn base X G d t pc lv (vI e :: st) M Q) : m_Rn base X G d t pc (em_l base lv) (.int z :: em_s base st) M Q := by
  have := h z.toInt (inR_toInt _) (Int32.ofInt_toInt _)
  unfold sRn em_s at this
  simp only [List.map_cons, em, Int32.ofInt_toInt] at this
  exact this
theorem s_anyL {z : Int64} (h : ∀ e, inJ e → Int64.ofInt e = z → sRn base X G d t pc lv (vL e :: st) M Q) : m_Rn base X G d t pc (em_l base lv) (.long z :: em_s base st) M Q := by
  have := h z.toInt (inJ_toInt _) (Int64.ofInt_toInt _)
  unfold sRn em_s at this
  simp only [List.map_cons, em, Int64.ofInt_toInt] at this
  exact this
/-- two ints, an int as answer of which nothing is known -/
noncomputable def s_bin (ins : Instr) : Option (Int32 → Int32 → Int32) := match ins with
  | .iand => some (fun x y => x &&& y)
  | .ior => some (fun x y => x ||| y)
  | .ixor => some (fun x y => x ^^^ y)
  | .ishl => some (fun x y => x <<< (y &&& 31))
  | .ishr => some (fun x y => x >>> (y &&& 31))
  | .iushr => some (fun x y => (x.toUInt32 >>> (y.toUInt32 &&& Int32.toUInt32 31)).toInt32)
  | _ => none
theorem r_bin {ins : Instr} {f : Int32 → Int32 → Int32} {a b : Int} (hd : decode t.2.2.1 pc = .ok (ins, 1)) (hf : s_bin ins = some f) (hn : pc + 1 = pc')
    (h : ∀ e, inR e → Int32.ofInt e = f (Int32.ofInt a) (Int32.ofInt b) → sRn base X G d t pc' lv (vI e :: st) M Q) : sRn base X G d t pc lv (vI b :: vI a :: st) M Q := by
  subst hn
  unfold s_bin at hf
  split at hf
  all_goals first
    | (cases hf; done)
    | (cases hf; exact r_B (st := st) hd rfl rfl rfl rfl rfl rfl rfl (s_anyI h))
theorem r_i2l {a : Int} (hd : decode t.2.2.1 pc = .ok (.i2l, 1)) (hn : pc + 1 = pc') (ha : inR a) (h : sRn base X G d t pc' lv (vL a :: st) M Q) : sRn base X G d t pc lv (vI a :: st) M Q := by
  subst hn
  refine r_B (st := st) (v := .long (Int32.ofInt a).toInt64) hd rfl rfl rfl rfl rfl rfl rfl ?_
  have : (Int32.ofInt a).toInt64 = Int64.ofInt a := by
    rw [← Int64.ofInt_int32ToInt, s_i32 ha]
  rw [this]
  exact h
theorem r_l2i {a : Int} (hd : decode t.2.2.1 pc = .ok (.l2i, 1)) (hn : pc + 1 = pc') (h : sRn base X G d t pc' lv (vI a :: st) M Q) : sRn base X G d t pc lv (vL a :: st) M Q := by
  subst hn
  refine r_B (st := st) (v := .int (Int64.ofInt a).toInt32) hd rfl rfl rfl rfl rfl rfl rfl ?_
  have : (Int64.ofInt a).toInt32 = Int32.ofInt a := Int64.toInt32_ofInt
  rw [this]
  exact h
theorem r_i2b {a : Int} (hd : decode t.2.2.1 pc = .ok (.i2b, 1)) (hn : pc + 1 = pc') (h : ∀ e, -128 ≤ e → e ≤ 127 → sRn base X G d t pc' lv (vI e :: st) M Q) : sRn base X G d t pc lv (vI a :: st) M Q := by
  subst hn
  refine r_B (st := st) (v := .int (Int32.ofInt a).toInt8.toInt32) hd rfl rfl rfl rfl rfl rfl rfl (s_anyI (fun e _ he => h e ?_ ?_))
  · have h1 : e = (Int32.ofInt a).toInt8.toInt := by
      have := congrArg Int32.toInt he
      rw [s_i32 (by assumption), Int8.toInt_toInt32] at this
      exact this
    rw [h1]; exact Int8.le_toInt _
  · have h1 : e = (Int32.ofInt a).toInt8.toInt := by
      have := congrArg Int32.toInt he
      rw [s_i32 (by assumption), Int8.toInt_toInt32] at this
      exact this
    rw [h1]; have := Int8.toInt_lt (Int32.ofInt a).toInt8; omega
theorem r_lcmp {a b : Int} (hd : decode t.2.2.1 pc = .ok (.lcmp, 1)) (hn : pc + 1 = pc') (h : ∀ e, -1 ≤ e → e ≤ 1 → sRn base X G d t pc' lv (vI e :: st) M Q) : sRn base X G d t pc lv (vL b :: vL a :: st) M Q := by
  subst hn
  refine r_B (st := st) (v := .int (lg_cmp (Int64.ofInt a) (Int64.ofInt b))) hd rfl rfl rfl rfl rfl rfl rfl ?_
  unfold lg_cmp
  split
  · exact h 1 (by omega) (by omega)
  · split
    · exact h 0 (by omega) (by omega)
    · exact h (-1) (by omega) (by omega)
noncomputable def s_binL (ins : Instr) : Option (Int64 → Int64 → Int64) := match ins with
  | .land => some (fun x y => x &&& y)
  | .lor => some (fun x y => x ||| y)
  | _ => none
theorem r_binL {ins : Instr} {f : Int64 → Int64 → Int64} {a b : Int} (hd : decode t.2.2.1 pc = .ok (ins, 1)) (hf : s_binL ins = some f) (hn : pc + 1 = pc')
    (h : ∀ e, inJ e → Int64.ofInt e = f (Int64.ofInt a) (Int64.ofInt b) → sRn base X G d t pc' lv (vL e :: st) M Q) : sRn base X G d t pc lv (vL b :: vL a :: st) M Q := by
  subst hn
  unfold s_binL at hf
  split at hf
  all_goals first
    | (cases hf; done)
    | (cases hf; exact r_B (st := st) hd rfl rfl rfl rfl rfl rfl rfl (s_anyL h))
noncomputable def s_binLI (ins : Instr) : Option (Int64 → Int32 → Int64) := match ins with
  | .lshl => some (fun x y => x <<< (y.toInt64 &&& 63))
  | .lshr => some (fun x y => x >>> (y.toInt64 &&& 63))
  | .lushr => some (fun x y => (x.toUInt64 >>> (y.toInt64.toUInt64 &&& Int64.toUInt64 63)).toInt64)
  | _ => none
theorem r_binLI {ins : Instr} {f : Int64 → Int32 → Int64} {a b : Int} (hd : decode t.2.2.1 pc = .ok (ins, 1)) (hf : s_binLI ins = some f) (hn : pc + 1 = pc')
    (h : ∀ e, inJ e → Int64.ofInt e = f (Int64.ofInt a) (Int32.ofInt b) → sRn base X G d t pc' lv (vL e :: st) M Q) : sRn base X G d t pc lv (vI b :: vL a :: st) M Q := by
  subst hn
  unfold s_binLI at hf
  split at hf
  all_goals first
    | (cases hf; done)
    | (cases hf; exact r_B (st := st) hd rfl rfl rfl rfl rfl rfl rfl (s_anyL h))
theorem s_ne0 {b : Int} (hb : inR b) (h : b ≠ 0) : ¬ (Int32.ofInt b = 0) := by
  intro q
  have h0 : inR 0 := by unfold inR; omega
  exact h ((s_eq hb h0).mp q)
theorem r_idiv {a b : Int} (hd : decode t.2.2.1 pc = .ok (.idiv, 1)) (hn : pc + 1 = pc') (hr : 0 ≤ a ∧ a ≤ 2147483647 ∧ 0 < b ∧ b ≤ 2147483647) (h : sRn base X G d t pc' lv (vI (a / b) :: st) M Q) : sRn base X G d t pc lv (vI b :: vI a :: st) M Q := by
  subst hn
  have hb : inR b := by unfold inR; omega
  have ha : inR a := by unfold inR; omega
  refine r_B (st := st) (v := .int (Int32.ofInt a / Int32.ofInt b)) hd rfl rfl rfl rfl rfl rfl ?_ ?_
  · simp only [m_stB, em_s, List.map_cons, em, m_ii, if_neg (s_ne0 hb (by omega))]
  · have : Int32.ofInt a / Int32.ofInt b = Int32.ofInt (a / b) := by
      rw [← Int.tdiv_eq_ediv_of_nonneg hr.1, Int32.ofInt_tdiv]
      all_goals simp only [Int32.toInt_minValue, Int32.toInt_maxValue]; omega
    rw [this]
    exact h
theorem r_idivX {a b : Int} (hd : decode t.2.2.1 pc = .ok (.idiv, 1)) (hn : pc + 1 = pc') (hb : inR b ∧ b ≠ 0) (h : ∀ e, inR e → sRn base X G d t pc' lv (vI e :: st) M Q) : sRn base X G d t pc lv (vI b :: vI a :: st) M Q := by
  subst hn
  refine r_B (st := st) (v := .int (Int32.ofInt a / Int32.ofInt b)) hd rfl rfl rfl rfl rfl rfl ?_ (s_anyI (fun e he _ => h e he))
  simp only [m_stB, em_s, List.map_cons, em, m_ii, if_neg (s_ne0 hb.1 hb.2)]
theorem r_irem {a b : Int} (hd : decode t.2.2.1 pc = .ok (.irem, 1)) (hn : pc + 1 = pc') (hr : 0 ≤ a ∧ a ≤ 2147483647 ∧ 0 < b ∧ b ≤ 2147483647) (h : sRn base X G d t pc' lv (vI (a % b) :: st) M Q) : sRn base X G d t pc lv (vI b :: vI a :: st) M Q := by
  subst hn
  have hb : inR b := by unfold inR; omega
  have ha : inR a := by unfold inR; omega
  refine r_B (st := st) (v := .int (Int32.ofInt a - Int32.ofInt a / Int32.ofInt b * Int32.ofInt b)) hd rfl rfl rfl rfl rfl rfl ?_ ?_
  · simp only [m_stB, em_s, List.map_cons, em, m_ii, if_neg (s_ne0 hb (by omega))]
  · have e1 : Int32.ofInt a / Int32.ofInt b = Int32.ofInt (a / b) := by
      rw [← Int.tdiv_eq_ediv_of_nonneg hr.1, Int32.ofInt_tdiv]
      all_goals simp only [Int32.toInt_minValue, Int32.toInt_maxValue]; omega
    have e2 : a % b = a - a / b * b := by
      have := Int.emod_add_mul_ediv a b
      rw [Int.mul_comm] at this
      omega
    rw [e1, ← Int32.ofInt_mul, ← Int32.ofInt_sub, ← e2]
    exact h
theorem r_iremX {a b : Int} (hd : decode t.2.2.1 pc = .ok (.irem, 1)) (hn : pc + 1 = pc') (hb : inR b ∧ b ≠ 0) (h : ∀ e, inR e → sRn base X G d t pc' lv (vI e :: st) M Q) : sRn base X G d t pc lv (vI b :: vI a :: st) M Q := by
  subst hn
  refine r_B (st := st) (v := .int (Int32.ofInt a - Int32.ofInt a / Int32.ofInt b * Int32.ofInt b)) hd rfl rfl rfl rfl rfl rfl ?_ (s_anyI (fun e he _ => h e he))
  simp only [m_stB, em_s, List.map_cons, em, m_ii, if_neg (s_ne0 hb.1 hb.2)]
theorem r_ldiv {a b : Int} (hd : decode t.2.2.1 pc = .ok (.ldiv, 1)) (hn : pc + 1 = pc') (hb : inJ b ∧ b ≠ 0) (h : ∀ e, inJ e → sRn base X G d t pc' lv (vL e :: st) M Q) : sRn base X G d t pc lv (vL b :: vL a :: st) M Q := by
  subst hn
  have h0 : ¬ (Int64.ofInt b = 0) := by
    intro q
    have := congrArg Int64.toInt q
    rw [s_i64 hb.1] at this
    exact hb.2 this
  refine r_B (st := st) (v := .long (Int64.ofInt a / Int64.ofInt b)) hd rfl rfl rfl rfl rfl rfl ?_ (s_anyL (fun e he _ => h e he))
  simp only [m_stB, em_s, List.map_cons, em, m_ll, if_neg h0]
/-- constants of the pool -/
theorem r_ldc {i : Nat} {x : Int32} {e : Int} (hd : decode t.2.2.1 pc = .ok (.ldc i, 2)) (hn : pc + 2 = pc') (hc : m_ci t.1 i = some x) (he : x = Int32.ofInt e) (h : sRn base X G d t pc' lv (vI e :: st) M Q) : sRn base X G d t pc lv st M Q := by
  subst hn
  refine m_Rn.step (z := (pc + 2, em_l base lv, em_s base (vI e :: st), M)) hd rfl rfl ?_ h
  unfold m_step
  simp only [m_spc, m_stC, m_stA, hc, he]
  rfl
theorem r_ldcw {i : Nat} {x : Int32} {e : Int} (hd : decode t.2.2.1 pc = .ok (.ldc_w i, 3)) (hn : pc + 3 = pc') (hc : m_ci t.1 i = some x) (he : x = Int32.ofInt e) (h : sRn base X G d t pc' lv (vI e :: st) M Q) : sRn base X G d t pc lv st M Q := by
  subst hn
  refine m_Rn.step (z := (pc + 3, em_l base lv, em_s base (vI e :: st), M)) hd rfl rfl ?_ h
  unfold m_step
  simp only [m_spc, m_stC, m_stA, hc, he]
  rfl
theorem r_ldc2 {i : Nat} {x : Int64} {e : Int} (hd : decode t.2.2.1 pc = .ok (.ldc2_w i, 3)) (hn : pc + 3 = pc') (hc : m_cl t.1 i = some x) (he : x = Int64.ofInt e) (h : sRn base X G d t pc' lv (vL e :: st) M Q) : sRn base X G d t pc lv st M Q := by
  subst hn
  refine m_Rn.step (z := (pc + 3, em_l base lv, em_s base (vL e :: st), M)) hd rfl rfl ?_ h
  unfold m_step
  simp only [m_spc, m_stC, m_stA, hc, he]
  rfl
end
