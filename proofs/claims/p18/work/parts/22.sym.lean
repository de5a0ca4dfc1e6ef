/-! SYMBOLIC RUNS: values as whole numbers. An int e stands for Int32.ofInt e, a long e for Int64.ofInt e; a reference is a cell of the heap's own (vR) or an address (vA). -/
noncomputable abbrev mV : Type := Int ⊕ (Int ⊕ Option (Nat ⊕ Nat))
noncomputable abbrev vI (e : Int) : mV := .inl e
noncomputable abbrev vL (e : Int) : mV := .inr (.inl e)
noncomputable abbrev vN : mV := .inr (.inr none)
noncomputable abbrev vR (c : Nat) : mV := .inr (.inr (some (.inl c)))
noncomputable abbrev vA (a : Nat) : mV := .inr (.inr (some (.inr a)))
noncomputable def em (base : Nat) (v : mV) : Value := match v with
  | .inl e => .int (Int32.ofInt e)
  | .inr (.inl e) => .long (Int64.ofInt e)
  | .inr (.inr none) => .null
  | .inr (.inr (some (.inl c))) => .ref (base + c)
  | .inr (.inr (some (.inr a))) => .ref a
noncomputable abbrev sL : Type := List (Nat × mV)
noncomputable def em_l (base : Nat) (lv : sL) : mL := lv.map (fun q => (q.1, em base q.2))
noncomputable def em_s (base : Nat) (st : List mV) : List Value := st.map (em base)
noncomputable def s_is2 (v : mV) : Bool := match v with
  | .inr (.inl _) => true
  | _ => false
noncomputable def s_lv (lv : sL) (i : Nat) : Option mV := match lv with
  | [] => none
  | q :: r => if q.1 == i then some q.2 else s_lv r i
noncomputable def s_cut1 (i : Nat) (lv : sL) : sL := match lv with
  | [] => []
  | q :: r => if q.1 == i then s_cut1 i r else if q.1 + 1 == i && s_is2 q.2 then s_cut1 i r else q :: s_cut1 i r
noncomputable def s_cut2 (i : Nat) (lv : sL) : sL := match lv with
  | [] => []
  | q :: r => if q.1 == i then s_cut2 i r else if q.1 == i + 1 then s_cut2 i r else if q.1 + 1 == i && s_is2 q.2 then s_cut2 i r else q :: s_cut2 i r
theorem s_cat (base : Nat) (v : mV) : ((em base v).category == 2) = s_is2 v := by
  rcases v with e | e | _ | c | a <;> rfl
theorem s_cat1 {base : Nat} {v : mV} (h : s_is2 v = false) : (em base v).category = 1 := by
  rcases v with e | e | _ | c | a <;> first | rfl | cases h
theorem s_lv_ok {base : Nat} {i : Nat} {v : mV} : ∀ {lv : sL}, s_lv lv i = some v → m_lv (em_l base lv) i = some (em base v)
  | [], h => by cases h
  | q :: r, h => by
    unfold s_lv at h
    unfold m_lv em_l
    simp only [List.map_cons, List.find?_cons]
    split at h
    · next e => rw [e]; cases h; rfl
    · next e =>
      have : (q.1 == i) = false := by simpa using e
      rw [this]
      exact s_lv_ok h
theorem s_cut1_ok (base : Nat) (i : Nat) : ∀ lv : sL, (em_l base lv).filter (fun q => !(q.1 == i) && !(q.1 + 1 == i && q.2.category == 2)) = em_l base (s_cut1 i lv)
  | [] => rfl
  | q :: r => by
    have ih := s_cut1_ok base i r
    unfold s_cut1 em_l
    simp only [List.map_cons, List.filter_cons, s_cat]
    unfold em_l at ih
    cases ha : (q.1 == i) <;> cases hb : (q.1 + 1 == i && s_is2 q.2) <;> simp only [Bool.not_true, Bool.not_false, Bool.and_true, Bool.true_and, Bool.false_and, Bool.and_false, if_true, if_false, List.map_cons, ih, Bool.false_eq_true]
theorem s_cut2_ok (base : Nat) (i : Nat) : ∀ lv : sL, (em_l base lv).filter (fun q => !(q.1 == i) && (!(q.1 == i + 1) && !(q.1 + 1 == i && q.2.category == 2))) = em_l base (s_cut2 i lv)
  | [] => rfl
  | q :: r => by
    have ih := s_cut2_ok base i r
    unfold s_cut2 em_l
    simp only [List.map_cons, List.filter_cons, s_cat]
    unfold em_l at ih
    cases ha : (q.1 == i) <;> cases hc : (q.1 == i + 1) <;> cases hb : (q.1 + 1 == i && s_is2 q.2) <;> simp only [Bool.not_true, Bool.not_false, Bool.and_true, Bool.true_and, Bool.false_and, Bool.and_false, if_true, if_false, List.map_cons, ih, Bool.false_eq_true]
/-- a plain step: constants, locals, the stack, sums -/
noncomputable def s_1 (nL : Nat) (ins : Instr) (lv : sL) (st : List mV) : Option (sL × List mV) := match ins with
  | .aconst_null => some (lv, vN :: st)
  | .iconst i => some (lv, vI i :: st)
  | .bipush b => if -128 ≤ b ∧ b ≤ 127 then some (lv, vI b :: st) else none
  | .sipush b => if -32768 ≤ b ∧ b ≤ 32767 then some (lv, vI b :: st) else none
  | .lconst k => some (lv, vL ((k : Nat) : Int) :: st)
  | .iload_n k => match s_lv lv k with
    | some (.inl e) => some (lv, vI e :: st)
    | _ => none
  | .iload k => match s_lv lv k with
    | some (.inl e) => some (lv, vI e :: st)
    | _ => none
  | .lload_n k => match s_lv lv k with
    | some (.inr (.inl e)) => some (lv, vL e :: st)
    | _ => none
  | .lload k => match s_lv lv k with
    | some (.inr (.inl e)) => some (lv, vL e :: st)
    | _ => none
  | .aload_n k => match s_lv lv k with
    | some (.inr (.inr q)) => some (lv, .inr (.inr q) :: st)
    | _ => none
  | .aload k => match s_lv lv k with
    | some (.inr (.inr q)) => some (lv, .inr (.inr q) :: st)
    | _ => none
  | .istore_n k => match st with
    | .inl e :: r => if (k : Nat) < nL then some ((k, vI e) :: s_cut1 k lv, r) else none
    | _ => none
  | .istore k => match st with
    | .inl e :: r => if k < nL then some ((k, vI e) :: s_cut1 k lv, r) else none
    | _ => none
  | .lstore_n k => match st with
    | .inr (.inl e) :: r => if (k : Nat) + 1 < nL then some ((k, vL e) :: s_cut2 k lv, r) else none
    | _ => none
  | .lstore k => match st with
    | .inr (.inl e) :: r => if k + 1 < nL then some ((k, vL e) :: s_cut2 k lv, r) else none
    | _ => none
  | .astore_n k => match st with
    | .inr (.inr q) :: r => if (k : Nat) < nL then some ((k, .inr (.inr q)) :: s_cut1 k lv, r) else none
    | _ => none
  | .astore k => match st with
    | .inr (.inr q) :: r => if k < nL then some ((k, .inr (.inr q)) :: s_cut1 k lv, r) else none
    | _ => none
  | .iinc k n => match s_lv lv k with
    | some (.inl e) => if k < nL then some ((k, vI (e + n)) :: s_cut1 k lv, st) else none
    | _ => none
  | .dup => match st with
    | x :: r => if s_is2 x then none else some (lv, x :: x :: r)
    | _ => none
  | .pop => match st with
    | x :: r => if s_is2 x then none else some (lv, r)
    | _ => none
  | .pop2 => match st with
    | .inr (.inl _) :: r => some (lv, r)
    | _ => none
  | .dup2 => match st with
    | x :: y :: r => if s_is2 x || s_is2 y then none else some (lv, x :: y :: x :: y :: r)
    | _ => none
  | .dup_x1 => match st with
    | x :: y :: r => if s_is2 x || s_is2 y then none else some (lv, x :: y :: x :: r)
    | _ => none
  | .iadd => match st with
    | .inl y :: .inl x :: r => some (lv, vI (x + y) :: r)
    | _ => none
  | .isub => match st with
    | .inl y :: .inl x :: r => some (lv, vI (x - y) :: r)
    | _ => none
  | .imul => match st with
    | .inl y :: .inl x :: r => some (lv, vI (x * y) :: r)
    | _ => none
  | .ladd => match st with
    | .inr (.inl y) :: .inr (.inl x) :: r => some (lv, vL (x + y) :: r)
    | _ => none
  | .lsub => match st with
    | .inr (.inl y) :: .inr (.inl x) :: r => some (lv, vL (x - y) :: r)
    | _ => none
  | .lmul => match st with
    | .inr (.inl y) :: .inr (.inl x) :: r => some (lv, vL (x * y) :: r)
    | _ => none
  | _ => none
theorem s_i8 {b : Int} (h : -128 ≤ b ∧ b ≤ 127) : (Int8.ofInt b).toInt32 = Int32.ofInt b := by
  apply Int32.toInt_inj.mp
  rw [Int8.toInt_toInt32, Int8.toInt_ofInt_of_le (by omega) (by omega), Int32.toInt_ofInt_of_le (by omega) (by omega)]
theorem s_i16 {b : Int} (h : -32768 ≤ b ∧ b ≤ 32767) : (Int16.ofInt b).toInt32 = Int32.ofInt b := by
  apply Int32.toInt_inj.mp
  rw [Int16.toInt_toInt32, Int16.toInt_ofInt_of_le (by omega) (by omega), Int32.toInt_ofInt_of_le (by omega) (by omega)]
set_option maxHeartbeats 4000000 in
theorem s_1_ok {base : Nat} {X : Nat → Option mC} {G : Nat → Value} {t : mT} {pc : Nat} {lv lv' : sL} {st st' : List mV} {M : mH} {ins : Instr} (h : s_1 t.2.2.2.1 ins lv st = some (lv', st')) :
    m_ret t.2.2.2.2 ins (em_s base st) = none ∧ m_call t.1 ins = none ∧ m_step base X G t pc (em_l base lv) (em_s base st) M ins (m_len ins) = some (pc + m_len ins, em_l base lv', em_s base st', M) := by
  have key : (m_stA t.1 t.2.2.2.1 pc (em_l base lv) (em_s base st) M ins = some (pc + m_len ins, em_l base lv', em_s base st', M) ∨ (m_stA t.1 t.2.2.2.1 pc (em_l base lv) (em_s base st) M ins = none ∧ m_stB pc (em_l base lv) (em_s base st) M ins = some (pc + m_len ins, em_l base lv', em_s base st', M))) ∧ m_ret t.2.2.2.2 ins (em_s base st) = none ∧ m_call t.1 ins = none ∧ m_spc base X t.1 pc (em_l base lv) (em_s base st) M ins = none ∧ m_stC pc (em_l base lv) (em_s base st) M ins = none := by
    unfold s_1 at h
    split at h
    · cases h; exact ⟨Or.inl rfl, rfl, rfl, rfl, rfl⟩
    · cases h; exact ⟨Or.inl rfl, rfl, rfl, rfl, rfl⟩
    · split at h
      · next q => cases h; exact ⟨Or.inl (by simp only [m_stA, s_i8 q, em_s, List.map_cons, em]; rfl), rfl, rfl, rfl, rfl⟩
      · cases h
    · split at h
      · next q => cases h; exact ⟨Or.inl (by simp only [m_stA, s_i16 q, em_s, List.map_cons, em]; rfl), rfl, rfl, rfl, rfl⟩
      · cases h
    · cases h
      refine ⟨Or.inl ?_, rfl, rfl, rfl, rfl⟩
      simp only [m_stA, em_s, List.map_cons, em, Int64.ofInt_eq_ofNat]
      rfl
    · split at h
      · next e he => cases h; exact ⟨Or.inl (by simp only [m_stA, m_ldI, s_lv_ok he, em, em_s, List.map_cons]; rfl), rfl, rfl, rfl, rfl⟩
      · cases h
    · split at h
      · next e he => cases h; exact ⟨Or.inl (by simp only [m_stA, m_ldI, s_lv_ok he, em, em_s, List.map_cons]; rfl), rfl, rfl, rfl, rfl⟩
      · cases h
    · split at h
      · next e he => cases h; exact ⟨Or.inl (by simp only [m_stA, m_ldL, s_lv_ok he, em, em_s, List.map_cons]; rfl), rfl, rfl, rfl, rfl⟩
      · cases h
    · split at h
      · next e he => cases h; exact ⟨Or.inl (by simp only [m_stA, m_ldL, s_lv_ok he, em, em_s, List.map_cons]; rfl), rfl, rfl, rfl, rfl⟩
      · cases h
    · split at h
      · next q he => cases h; exact ⟨Or.inl (by rcases q with _ | c | a <;> (simp only [m_stA, m_ldA, s_lv_ok he, em, em_s, List.map_cons]; rfl)), rfl, rfl, rfl, rfl⟩
      · cases h
    · split at h
      · next q he => cases h; exact ⟨Or.inl (by rcases q with _ | c | a <;> (simp only [m_stA, m_ldA, s_lv_ok he, em, em_s, List.map_cons]; rfl)), rfl, rfl, rfl, rfl⟩
      · cases h
    · split at h
      · next e r =>
        split at h
        · next hk => cases h; exact ⟨Or.inl (by simp only [m_stA, em_s, List.map_cons, em, m_i, if_pos hk, m_set1, s_cut1_ok]; rfl), rfl, rfl, rfl, rfl⟩
        · cases h
      · cases h
    · split at h
      · next e r =>
        split at h
        · next hk => cases h; exact ⟨Or.inl (by simp only [m_stA, em_s, List.map_cons, em, m_i, if_pos hk, m_set1, s_cut1_ok]; rfl), rfl, rfl, rfl, rfl⟩
        · cases h
      · cases h
    · split at h
      · next e r =>
        split at h
        · next hk => cases h; exact ⟨Or.inl (by simp only [m_stA, em_s, List.map_cons, em, m_l, if_pos hk, m_set2, s_cut2_ok]; rfl), rfl, rfl, rfl, rfl⟩
        · cases h
      · cases h
    · split at h
      · next e r =>
        split at h
        · next hk => cases h; exact ⟨Or.inl (by simp only [m_stA, em_s, List.map_cons, em, m_l, if_pos hk, m_set2, s_cut2_ok]; rfl), rfl, rfl, rfl, rfl⟩
        · cases h
      · cases h
    · split at h
      · next q r =>
        split at h
        · next hk => cases h; exact ⟨Or.inl (by rcases q with _ | c | a <;> (simp only [m_stA, em_s, List.map_cons, em, m_q, if_pos hk, m_set1, s_cut1_ok]; rfl)), rfl, rfl, rfl, rfl⟩
        · cases h
      · cases h
    · split at h
      · next q r =>
        split at h
        · next hk => cases h; exact ⟨Or.inl (by rcases q with _ | c | a <;> (simp only [m_stA, em_s, List.map_cons, em, m_q, if_pos hk, m_set1, s_cut1_ok]; rfl)), rfl, rfl, rfl, rfl⟩
        · cases h
      · cases h
    · split at h
      · next e he =>
        split at h
        · next hk => cases h; exact ⟨Or.inl (by simp only [m_stA, m_ldI, s_lv_ok he, em, if_pos hk, m_set1, s_cut1_ok, ← Int32.ofInt_add]; rfl), rfl, rfl, rfl, rfl⟩
        · cases h
      · cases h
    · split at h
      · next x r =>
        split at h
        · cases h
        · next hx => cases h; exact ⟨Or.inl (by simp only [m_stA, em_s, List.map_cons, m_1, if_pos (s_cat1 (base := base) (eq_false_of_ne_true hx))]; rfl), rfl, rfl, rfl, rfl⟩
      · cases h
    · split at h
      · next x r =>
        split at h
        · cases h
        · next hx => cases h; exact ⟨Or.inl (by simp only [m_stA, em_s, List.map_cons, m_1, if_pos (s_cat1 (base := base) (eq_false_of_ne_true hx))]; rfl), rfl, rfl, rfl, rfl⟩
      · cases h
    · split at h
      · next e r => cases h; exact ⟨Or.inl (by simp only [m_stA, em_s, List.map_cons, m_1, em]; rfl), rfl, rfl, rfl, rfl⟩
      · cases h
    · split at h
      · next x y r =>
        split at h
        · cases h
        · next hx =>
          have hx2 := eq_false_of_ne_true hx
          rw [Bool.or_eq_false_iff] at hx2
          cases h; exact ⟨Or.inl (by simp only [m_stA, em_s, List.map_cons, m_1, s_cat1 (base := base) hx2.1, s_cat1 (base := base) hx2.2]; rfl), rfl, rfl, rfl, rfl⟩
      · cases h
    · split at h
      · next x y r =>
        split at h
        · cases h
        · next hx =>
          have hx2 := eq_false_of_ne_true hx
          rw [Bool.or_eq_false_iff] at hx2
          cases h; exact ⟨Or.inl (by simp only [m_stA, em_s, List.map_cons, m_1, s_cat1 (base := base) hx2.1, s_cat1 (base := base) hx2.2]; rfl), rfl, rfl, rfl, rfl⟩
      · cases h
    · split at h
      · next y x r => cases h; exact ⟨Or.inr ⟨rfl, by simp only [m_stB, em_s, List.map_cons, m_ii, em, Int32.ofInt_add]; rfl⟩, rfl, rfl, rfl, rfl⟩
      · cases h
    · split at h
      · next y x r => cases h; exact ⟨Or.inr ⟨rfl, by simp only [m_stB, em_s, List.map_cons, m_ii, em, Int32.ofInt_sub]; rfl⟩, rfl, rfl, rfl, rfl⟩
      · cases h
    · split at h
      · next y x r => cases h; exact ⟨Or.inr ⟨rfl, by simp only [m_stB, em_s, List.map_cons, m_ii, em, Int32.ofInt_mul]; rfl⟩, rfl, rfl, rfl, rfl⟩
      · cases h
    · split at h
      · next y x r => cases h; exact ⟨Or.inr ⟨rfl, by simp only [m_stB, em_s, List.map_cons, m_ll, em, Int64.ofInt_add]; rfl⟩, rfl, rfl, rfl, rfl⟩
      · cases h
    · split at h
      · next y x r => cases h; exact ⟨Or.inr ⟨rfl, by simp only [m_stB, em_s, List.map_cons, m_ll, em, Int64.ofInt_sub]; rfl⟩, rfl, rfl, rfl, rfl⟩
      · cases h
    · split at h
      · next y x r => cases h; exact ⟨Or.inr ⟨rfl, by simp only [m_stB, em_s, List.map_cons, m_ll, em, Int64.ofInt_mul]; rfl⟩, rfl, rfl, rfl, rfl⟩
      · cases h
    · cases h
  obtain ⟨h1, h2, h3, h4, h5⟩ := key
  refine ⟨h2, h3, ?_⟩
  unfold m_step
  rw [h4, h5]
  dsimp only
  rw [if_pos rfl]
  rcases h1 with h1 | ⟨h0, h1⟩
  · rw [h1]
  · rw [h0, h1]
/-- a row of plain steps -/
noncomputable def s_blk (nL : Nat) : List Instr → sL → List mV → Option (sL × List mV)
  | [], lv, st => some (lv, st)
  | i :: r, lv, st => match s_1 nL i lv st with
    | some z => s_blk nL r z.1 z.2
    | none => none
noncomputable def s_dec (c : ByteArray) : Nat → List Instr → Bool
  | _, [] => true
  | pc, i :: r => decide (decode c pc = .ok (i, m_len i)) && s_dec c (pc + m_len i) r
noncomputable def s_end (pc : Nat) : List Instr → Nat
  | [] => pc
  | i :: r => s_end (pc + m_len i) r
noncomputable def sRn (base : Nat) (X : Nat → Option mC) (G : Nat → Value) (d : Nat) (t : mT) (pc : Nat) (lv : sL) (st : List mV) (M : mH) (Q : Option Value → mH → Prop) : Prop := m_Rn base X G d t pc (em_l base lv) (em_s base st) M Q
section
variable {base : Nat} {X : Nat → Option mC} {G : Nat → Value} {d : Nat} {t : mT} {pc pc' : Nat} {lv lv' : sL} {st st' : List mV} {M : mH} {Q : Option Value → mH → Prop}
theorem s_bl : ∀ {L : List Instr} {pc : Nat} {lv : sL} {st : List mV}, s_dec t.2.2.1 pc L = true → s_blk t.2.2.2.1 L lv st = some (lv', st') → sRn base X G d t (s_end pc L) lv' st' M Q → sRn base X G d t pc lv st M Q
  | [], _, _, _, _, h, k => by cases h; exact k
  | i :: r, pc, lv, st, hd, h, k => by
    unfold s_dec at hd
    rw [Bool.and_eq_true] at hd
    unfold s_blk at h
    split at h
    · next z hz =>
      obtain ⟨lv1, st1⟩ := z
      obtain ⟨h1, h2, h3⟩ := s_1_ok (base := base) (X := X) (G := G) (pc := pc) (M := M) hz
      exact m_Rn.step (of_decide_eq_true hd.1) h1 h2 h3 (s_bl hd.2 h k)
    · cases h
end
