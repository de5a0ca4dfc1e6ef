/-! Locals that are not asked for do no harm. -/
noncomputable def lv_nd (lv : mL) : Prop := (lv.map (fun q => q.1)).Nodup
noncomputable def lv_le (a b : mL) : Prop := lv_nd a ∧ lv_nd b ∧ ∀ i v, m_lv a i = some v → m_lv b i = some v
theorem m_lv_cons (q : Nat × Value) (r : mL) (i : Nat) : m_lv (q :: r) i = if q.1 = i then some q.2 else m_lv r i := by
  unfold m_lv
  simp only [List.find?_cons]
  by_cases h : q.1 = i
  · rw [if_pos h]; simp [h]
  · have e : (q.1 == i) = false := by simp [h]
    rw [if_neg h, e]
theorem m_lv_mem : ∀ {lv : mL} {i : Nat} {v : Value}, m_lv lv i = some v → (i, v) ∈ lv
  | [], _, _, h => by cases h
  | q :: r, i, v, h => by
    rw [m_lv_cons] at h
    split at h
    · next e => cases h; subst e; exact List.mem_cons_self
    · exact List.mem_cons_of_mem _ (m_lv_mem h)
theorem m_lv_of_mem : ∀ {lv : mL} {i : Nat} {v : Value}, lv_nd lv → (i, v) ∈ lv → m_lv lv i = some v
  | [], _, _, _, h => by cases h
  | q :: r, i, v, hn, h => by
    rw [m_lv_cons]
    unfold lv_nd at hn
    rw [List.map_cons, List.nodup_cons] at hn
    rcases List.mem_cons.mp h with e | e
    · subst e; rw [if_pos rfl]
    · rw [if_neg]
      · exact m_lv_of_mem hn.2 e
      · intro e2
        exact hn.1 (e2 ▸ List.mem_map.mpr ⟨(i, v), e, rfl⟩)
theorem lv_nd_filter {lv : mL} (p : Nat × Value → Bool) (h : lv_nd lv) : lv_nd (lv.filter p) := by
  unfold lv_nd at h ⊢
  exact h.sublist (List.Sublist.map _ List.filter_sublist)
theorem lv_le_cut {a b : mL} (h : lv_le a b) (i : Nat) (v : Value) (p : Nat × Value → Bool) (hp : ∀ w, p (i, w) = false) : lv_le ((i, v) :: a.filter p) ((i, v) :: b.filter p) := by
  obtain ⟨h1, h2, h3⟩ := h
  have nd : ∀ l : mL, lv_nd l → lv_nd ((i, v) :: l.filter p) := by
    intro l hl
    unfold lv_nd
    rw [List.map_cons, List.nodup_cons]
    refine ⟨fun hm => ?_, lv_nd_filter p hl⟩
    obtain ⟨q, hq, e⟩ := List.mem_map.mp hm
    have := (List.mem_filter.mp hq).2
    obtain ⟨qa, qb⟩ := q
    have e1 : qa = i := e
    subst e1
    rw [hp] at this
    cases this
  refine ⟨nd a h1, nd b h2, fun j w hj => ?_⟩
  rw [m_lv_cons] at hj ⊢
  split at hj
  · next e => rw [if_pos e]; exact hj
  · next e =>
    rw [if_neg e]
    have hm := m_lv_mem hj
    have hf := List.mem_filter.mp hm
    have hb := m_lv_mem (h3 j w (m_lv_of_mem h1 hf.1))
    exact m_lv_of_mem (lv_nd_filter p h2) (List.mem_filter.mpr ⟨hb, hf.2⟩)
theorem lv_le_set1 {a b : mL} (h : lv_le a b) (i : Nat) (v : Value) : lv_le (m_set1 a i v) (m_set1 b i v) := lv_le_cut h i v _ (fun w => by simp)
theorem lv_le_set2 {a b : mL} (h : lv_le a b) (i : Nat) (v : Value) : lv_le (m_set2 a i v) (m_set2 b i v) := lv_le_cut h i v _ (fun w => by simp)
section
variable {base : Nat} {X : Nat → Option mC} {G : Nat → Value}
theorem m_stA_ext {o nL pc : Nat} {a b : mL} {st : List Value} {M : mH} {ins : Instr} {z : mR} (hl : lv_le a b) (h : m_stA o nL pc a st M ins = some z) : ∃ b', m_stA o nL pc b st M ins = some (z.1, b', z.2.2) ∧ lv_le z.2.1 b' := by
  unfold m_stA at h
  split at h
  · cases h; exact ⟨b, rfl, hl⟩
  · cases h; exact ⟨b, rfl, hl⟩
  · cases h; exact ⟨b, rfl, hl⟩
  · cases h; exact ⟨b, rfl, hl⟩
  · cases h; exact ⟨b, rfl, hl⟩
  · split at h
    · next v hv => cases h; exact ⟨b, by simp only [m_stA, hv], hl⟩
    · cases h
  · split at h
    · next v hv => cases h; exact ⟨b, by simp only [m_stA, hv], hl⟩
    · cases h
  · split at h
    · next v hv => cases h; exact ⟨b, by simp only [m_stA, hv], hl⟩
    · cases h
  · unfold m_ldI at h; split at h
    · next x hx => cases h; exact ⟨b, by simp only [m_stA, m_ldI, hl.2.2 _ _ hx], hl⟩
    · cases h
  · unfold m_ldI at h; split at h
    · next x hx => cases h; exact ⟨b, by simp only [m_stA, m_ldI, hl.2.2 _ _ hx], hl⟩
    · cases h
  · unfold m_ldL at h; split at h
    · next x hx => cases h; exact ⟨b, by simp only [m_stA, m_ldL, hl.2.2 _ _ hx], hl⟩
    · cases h
  · unfold m_ldL at h; split at h
    · next x hx => cases h; exact ⟨b, by simp only [m_stA, m_ldL, hl.2.2 _ _ hx], hl⟩
    · cases h
  · unfold m_ldA at h; split at h
    · next x hx => cases h; exact ⟨b, by simp only [m_stA, m_ldA, hl.2.2 _ _ hx], hl⟩
    · next hx => cases h; exact ⟨b, by simp only [m_stA, m_ldA, hl.2.2 _ _ hx], hl⟩
    · cases h
  · unfold m_ldA at h; split at h
    · next x hx => cases h; exact ⟨b, by simp only [m_stA, m_ldA, hl.2.2 _ _ hx], hl⟩
    · next hx => cases h; exact ⟨b, by simp only [m_stA, m_ldA, hl.2.2 _ _ hx], hl⟩
    · cases h
  · obtain ⟨x, r, rfl, h⟩ := m_i_ok h; split at h
    · next q => cases h; exact ⟨m_set1 b _ _, by simp only [m_stA, m_i, if_pos q], lv_le_set1 hl _ _⟩
    · cases h
  · obtain ⟨x, r, rfl, h⟩ := m_i_ok h; split at h
    · next q => cases h; exact ⟨m_set1 b _ _, by simp only [m_stA, m_i, if_pos q], lv_le_set1 hl _ _⟩
    · cases h
  · obtain ⟨x, r, rfl, h⟩ := m_l_ok h; split at h
    · next q => cases h; exact ⟨m_set2 b _ _, by simp only [m_stA, m_l, if_pos q], lv_le_set2 hl _ _⟩
    · cases h
  · obtain ⟨x, r, rfl, h⟩ := m_l_ok h; split at h
    · next q => cases h; exact ⟨m_set2 b _ _, by simp only [m_stA, m_l, if_pos q], lv_le_set2 hl _ _⟩
    · cases h
  · obtain ⟨x, r, rfl, h'⟩ := m_q_ok h; clear h; split at h'
    · next q => cases h'; exact ⟨m_set1 b _ _, by cases x <;> simp only [m_stA, va_rf, m_q, if_pos q], lv_le_set1 hl _ _⟩
    · cases h'
  · obtain ⟨x, r, rfl, h'⟩ := m_q_ok h; clear h; split at h'
    · next q => cases h'; exact ⟨m_set1 b _ _, by cases x <;> simp only [m_stA, va_rf, m_q, if_pos q], lv_le_set1 hl _ _⟩
    · cases h'
  · unfold m_ldI at h; split at h
    · next x hx =>
      split at h
      · next q => cases h; exact ⟨m_set1 b _ _, by simp only [m_stA, m_ldI, hl.2.2 _ _ hx, if_pos q], lv_le_set1 hl _ _⟩
      · cases h
    · cases h
  · obtain ⟨x, r, rfl, h'⟩ := m_1_ok h; clear h; split at h'
    · next q => cases h'; exact ⟨b, by simp only [m_stA, m_1, if_pos q], hl⟩
    · cases h'
  · obtain ⟨x, r, rfl, h'⟩ := m_1_ok h; clear h; split at h'
    · next q => cases h'; exact ⟨b, by simp only [m_stA, m_1, if_pos q], hl⟩
    · cases h'
  · obtain ⟨x, r, rfl, h'⟩ := m_1_ok h; clear h; split at h'
    · next q => cases h'; exact ⟨b, by simp only [m_stA, m_1, if_pos q], hl⟩
    · next q =>
      obtain ⟨y, r, rfl, h2⟩ := m_1_ok h'; clear h'; split at h2
      · next q2 => cases h2; exact ⟨b, by simp only [m_stA, m_1, if_neg q, if_pos q2], hl⟩
      · cases h2
  · obtain ⟨x, r, rfl, h1⟩ := m_1_ok h; clear h; obtain ⟨y, r, rfl, h'⟩ := m_1_ok h1; clear h1; split at h'
    · next q => cases h'; exact ⟨b, by simp only [m_stA, m_1, if_pos q], hl⟩
    · cases h'
  · obtain ⟨x, r, rfl, h1⟩ := m_1_ok h; clear h; obtain ⟨y, r, rfl, h'⟩ := m_1_ok h1; clear h1; split at h'
    · next q => cases h'; exact ⟨b, by simp only [m_stA, m_1, if_pos q], hl⟩
    · cases h'
  · cases h
theorem m_stB_lv (pc : Nat) (a b : mL) (st : List Value) (M : mH) (ins : Instr) : m_stB pc b st M ins = (m_stB pc a st M ins).map (fun z => (z.1, b, z.2.2)) := by
  unfold m_stB
  cases ins <;> first | rfl | (simp only [m_ii, m_ll, m_li, m_i, m_l]; repeat' split) <;> first | rfl | simp_all
theorem m_stC_lv (pc : Nat) (a b : mL) (st : List Value) (M : mH) (ins : Instr) : m_stC pc b st M ins = (m_stC pc a st M ins).map (fun z => (z.1, b, z.2.2)) := by
  unfold m_stC
  cases ins <;> first | rfl | (simp only [m_br, m_to, m_i, m_ii, m_q]; repeat' split) <;> first | rfl | simp_all
theorem m_spc_lv (base : Nat) (X : Nat → Option mC) (o pc : Nat) (a b : mL) (st : List Value) (M : mH) (ins : Instr) : m_spc base X o pc b st M ins = (m_spc base X o pc a st M ins).map (fun z => (z.1, b, z.2.2)) := by
  unfold m_spc
  cases ins <;> first | rfl | (simp only [m_r, m_cp, m_ii, m_ll]; repeat' split) <;> first | rfl | simp_all
theorem m_stD_lv (base : Nat) (X : Nat → Option mC) (G : Nat → Value) (o : Nat) (ini : Bool) (pc : Nat) (a b : mL) (st : List Value) (M : mH) (ins : Instr) : m_stD base X G o ini pc b st M ins = (m_stD base X G o ini pc a st M ins).map (fun z => (z.1, b, z.2.2)) := by
  unfold m_stD
  cases ins <;> first | rfl | (simp only [m_r, m_vr, m_i, m_ald, m_ast, m_ir, m_vir]; repeat' split) <;> first | rfl | simp_all
theorem m_keep {f : mL → Option mR} (hf : ∀ a b, f b = (f a).map (fun z => (z.1, b, z.2.2))) {a : mL} {z : mR} (h : f a = some z) (b : mL) : f b = some (z.1, b, z.2.2) ∧ z.2.1 = a := by
  refine ⟨by rw [hf a b, h]; rfl, ?_⟩
  have := hf a a
  rw [h] at this
  have e := Option.some.inj this
  have e2 : z.2.1 = (z.1, a, z.2.2).2.1 := congrArg (fun q : mR => q.2.1) e
  exact e2
theorem m_keep0 {f : mL → Option mR} (hf : ∀ a b, f b = (f a).map (fun z => (z.1, b, z.2.2))) {a : mL} (h : f a = none) (b : mL) : f b = none := by
  rw [hf a b, h]; rfl
theorem m_stA_none {o nL pc : Nat} {a b : mL} {st : List Value} {M : mH} {ins : Instr} (hn : m_stA o nL pc a st M ins = none) (h : (∃ z, m_stB pc a st M ins = some z) ∨ (∃ ini z, m_stD base X G o ini pc a st M ins = some z)) : m_stA o nL pc b st M ins = none := by
  rcases h with ⟨z, h⟩ | ⟨ini, z, h⟩
  · unfold m_stB at h
    split at h <;> first | rfl | cases h
  · unfold m_stD at h
    split at h <;> first | rfl | (cases h; done) | (simp only [m_stA] at hn ⊢; split at hn <;> first | (cases hn; done) | rfl)
theorem m_step_ext {t : mT} {pc len : Nat} {a b : mL} {st : List Value} {M : mH} {ins : Instr} {z : mR} (hl : lv_le a b) (h : m_step base X G t pc a st M ins len = some z) : ∃ b', m_step base X G t pc b st M ins len = some (z.1, b', z.2.2) ∧ lv_le z.2.1 b' := by
  unfold m_step at h ⊢
  cases h1 : m_spc base X t.1 pc a st M ins with
  | some y =>
    rw [h1] at h
    dsimp only at h
    split at h
    · next q =>
      cases h
      obtain ⟨e1, e2⟩ := m_keep (m_spc_lv base X t.1 pc · · st M ins) h1 b
      rw [e1]
      exact ⟨b, if_pos q, by rw [e2]; exact hl⟩
    · cases h
  | none =>
    rw [h1] at h
    rw [m_keep0 (m_spc_lv base X t.1 pc · · st M ins) h1 b]
    dsimp only at h ⊢
    cases h2 : m_stC pc a st M ins with
    | some y =>
      rw [h2] at h
      dsimp only at h
      split at h
      · next q =>
        cases h
        obtain ⟨e1, e2⟩ := m_keep (m_stC_lv pc · · st M ins) h2 b
        rw [e1]
        exact ⟨b, if_pos q, by rw [e2]; exact hl⟩
      · cases h
    | none =>
      rw [h2] at h
      rw [m_keep0 (m_stC_lv pc · · st M ins) h2 b]
      dsimp only at h ⊢
      split at h
      · next q =>
        rw [if_pos q]
        cases h3 : m_stA t.1 t.2.2.2.1 pc a st M ins with
        | some y =>
          rw [h3] at h
          cases h
          obtain ⟨b', e1, e2⟩ := m_stA_ext hl h3
          rw [e1]
          exact ⟨b', rfl, e2⟩
        | none =>
          rw [h3] at h
          dsimp only at h
          cases h4 : m_stB pc a st M ins with
          | some y =>
            rw [h4] at h
            cases h
            obtain ⟨e1, e2⟩ := m_keep (m_stB_lv pc · · st M ins) h4 b
            rw [m_stA_none (X := X) (G := G) (base := base) h3 (Or.inl ⟨_, h4⟩), e1]
            exact ⟨b, rfl, by rw [e2]; exact hl⟩
          | none =>
            rw [h4] at h
            dsimp only at h
            obtain ⟨e1, e2⟩ := m_keep (m_stD_lv base X G t.1 _ pc · · st M ins) h b
            rw [m_stA_none h3 (Or.inr ⟨_, _, h⟩), m_keep0 (m_stB_lv pc · · st M ins) h4 b]
            dsimp only
            rw [e1]
            exact ⟨b, rfl, by rw [e2]; exact hl⟩
      · cases h
theorem m_run_ext : ∀ (n d : Nat) (t : mT) (pc : Nat) (a b : mL) (st : List Value) (M : mH) (z : Option Value × mH), lv_le a b → m_run base X G n d t pc a st M = some z → m_run base X G n d t pc b st M = some z := by
  intro n
  induction n with
  | zero => intro d t pc a b st M z _ h; cases h
  | succ n ih =>
    intro d t pc a b st M z hl h
    rw [m_run_eq] at h ⊢
    cases hq : decode t.2.2.1 pc with
    | error q => rw [hq] at h; cases h
    | ok q =>
      rw [hq] at h
      dsimp only at h ⊢
      cases hr : m_ret t.2.2.2.2 q.1 st with
      | some r => rw [hr] at h; exact h
      | none =>
        rw [hr] at h
        dsimp only at h ⊢
        cases hk : m_call t.1 q.1 with
        | some k =>
          rw [hk] at h
          dsimp only at h ⊢
          cases d with
          | zero => cases h
          | succ d' =>
            dsimp only at h ⊢
            cases ht : sy_m[k.2.1]? with
            | none => rw [ht] at h; cases h
            | some t' =>
              cases ha : m_args k.1 k.2.2 st with
              | none => rw [ht, ha] at h; cases h
              | some ag =>
                rw [ht, ha] at h
                dsimp only at h ⊢
                split at h
                · next hc =>
                  rw [if_pos hc]
                  cases hy : m_run base X G n d' t' 0 (lv_args 0 ag.1) [] M with
                  | none => rw [hy] at h; cases h
                  | some y =>
                    rw [hy] at h
                    exact ih _ _ _ _ _ _ _ _ hl h
                · cases h
        | none =>
          rw [hk] at h
          dsimp only at h ⊢
          cases hy : m_step base X G t pc a st M q.1 q.2 with
          | none => rw [hy] at h; cases h
          | some y =>
            rw [hy] at h
            obtain ⟨b', e1, e2⟩ := m_step_ext hl hy
            rw [e1]
            exact ih _ _ _ _ _ _ _ _ e2 h
variable {d : Nat} {t : mT} {pc pc' : Nat} {lv lv' : sL} {st st' : List mV} {M : mH} {Q : Option Value → mH → Prop} {P : Option mV → mH → Prop}
noncomputable def s_ext (a b : sL) : Prop := match a with
  | [] => True
  | q :: r => s_lv b q.1 = some q.2 ∧ s_ext r b
noncomputable def s_nd (a : sL) : Bool := match a with
  | [] => true
  | q :: r => (s_lv r q.1).isNone && s_nd r
theorem s_lv_none {i : Nat} : ∀ {a : sL}, s_lv a i = none → i ∉ a.map (fun q => q.1)
  | [], _ => by simp
  | q :: r, h => by
    unfold s_lv at h
    split at h
    · cases h
    · next e =>
      rw [List.map_cons, List.mem_cons]
      intro hm
      rcases hm with e2 | e2
      · exact e (by simp [e2])
      · exact s_lv_none h e2
theorem s_nd_ok : ∀ {a : sL}, s_nd a = true → (a.map (fun q => q.1)).Nodup
  | [], _ => by simp
  | q :: r, h => by
    unfold s_nd at h
    rw [Bool.and_eq_true] at h
    rw [List.map_cons, List.nodup_cons]
    exact ⟨s_lv_none (by simpa using h.1), s_nd_ok h.2⟩
theorem em_nd {a : sL} (h : s_nd a = true) : lv_nd (em_l base a) := by
  unfold lv_nd em_l
  rw [List.map_map]
  exact s_nd_ok h
theorem s_ext_ok : ∀ {a b : sL}, s_ext a b → ∀ i v, m_lv (em_l base a) i = some v → m_lv (em_l base b) i = some v
  | [], _, _, i, v, hi => by cases hi
  | q :: r, b, h, i, v, hi => by
    unfold s_ext at h
    unfold em_l at hi
    rw [List.map_cons, m_lv_cons] at hi
    split at hi
    · next e =>
      cases hi
      have e2 : q.1 = i := e
      rw [← e2]
      exact s_lv_ok h.1
    · exact s_ext_ok h.2 i v hi
/-- locals that are no longer asked for are let go -/
theorem r_loc (hx : s_ext lv' lv) (h1 : s_nd lv' = true) (h2 : s_nd lv = true) (h : sRn base X G d t pc lv' st M Q) : sRn base X G d t pc lv st M Q := by
  obtain ⟨n, r, M', e1, e2⟩ := h
  exact ⟨n, r, M', m_run_ext _ _ _ _ _ _ _ _ _ ⟨em_nd h1, em_nd h2, s_ext_ok hx⟩ e1, e2⟩
/-- the second on the stack -/
theorem r_norm2 {e : Int} {v : mV} (h : ∀ z, inR z → Int32.ofInt z = Int32.ofInt e → sRn base X G d t pc lv (v :: vI z :: st) M Q) : sRn base X G d t pc lv (v :: vI e :: st) M Q := by
  have := h (Int32.ofInt e).toInt (inR_toInt _) (Int32.ofInt_toInt _)
  unfold sRn em_s at this ⊢
  simp only [List.map_cons, em, Int32.ofInt_toInt] at this ⊢
  exact this
/-! blocks with the place behind them; calls by what they answer -/
noncomputable def s_dk (c : ByteArray) (pc : Nat) (L : List Instr) (pc' : Nat) : Bool := s_dec c pc L && (s_end pc L == pc')
theorem s_blx {L : List Instr} (hb : s_dk t.2.2.1 pc L pc' = true) (h : s_blk t.2.2.2.1 L lv st = some (lv', st')) (k : sRn base X G d t pc' lv' st' M Q) : sRn base X G d t pc lv st M Q := by
  unfold s_dk at hb
  rw [Bool.and_eq_true, beq_iff_eq] at hb
  exact s_bl hb.1 h (by rw [hb.2]; exact k)
noncomputable def pI (P : Int → mH → Prop) : Option mV → mH → Prop := fun r M => ∃ v, r = some (vI v) ∧ P v M
noncomputable def pL (P : Int → mH → Prop) : Option mV → mH → Prop := fun r M => ∃ v, r = some (vL v) ∧ P v M
noncomputable def pV (P : mH → Prop) : Option mV → mH → Prop := fun r M => r = none ∧ P M
noncomputable def pA (P : Option (Nat ⊕ Nat) → mH → Prop) : Option mV → mH → Prop := fun r M => ∃ v, r = some (.inr (.inr v)) ∧ P v M
section
variable {ins : Instr} {k : Nat × Nat × Nat} {t' : mT} {c : Nat} {args rest : List mV} {q : sS}
theorem r_sI {P' : Int → mH → Prop} (hd : decode t.2.2.1 pc = .ok (ins, 3)) (hn : pc + 3 = pc') (hkk : m_call t.1 ins = some k) (ht : sy_m[k.2.1]? = some t') (ha : s_args k.1 k.2.2 st = some (args, rest)) (h1 : s_sz rest ≤ 8) (h2 : s_sz args ≤ t'.2.2.2.1 ∧ t'.2.2.2.1 ≤ 45) (h4 : ¬ (k.1 = 0 ∨ k.1 = 3)) (hd0 : 0 < d) (h : sOk base X G (d - 1) t' args M (pI P')) (hh : ∀ v M', P' v M' → sRn base X G d t pc' lv (vI v :: rest) M' Q) : sRn base X G d t pc lv st M Q :=
  r_calls hd hn hkk ht ha h1 h2 h4 hd0 h (fun v M' p => by obtain ⟨v, rfl, p⟩ := p; exact hh v M' p)
theorem r_sL {P' : Int → mH → Prop} (hd : decode t.2.2.1 pc = .ok (ins, 3)) (hn : pc + 3 = pc') (hkk : m_call t.1 ins = some k) (ht : sy_m[k.2.1]? = some t') (ha : s_args k.1 k.2.2 st = some (args, rest)) (h1 : s_sz rest ≤ 8) (h2 : s_sz args ≤ t'.2.2.2.1 ∧ t'.2.2.2.1 ≤ 45) (h4 : ¬ (k.1 = 0 ∨ k.1 = 3)) (hd0 : 0 < d) (h : sOk base X G (d - 1) t' args M (pL P')) (hh : ∀ v M', P' v M' → sRn base X G d t pc' lv (vL v :: rest) M' Q) : sRn base X G d t pc lv st M Q :=
  r_calls hd hn hkk ht ha h1 h2 h4 hd0 h (fun v M' p => by obtain ⟨v, rfl, p⟩ := p; exact hh v M' p)
theorem r_sV {P' : mH → Prop} (hd : decode t.2.2.1 pc = .ok (ins, 3)) (hn : pc + 3 = pc') (hkk : m_call t.1 ins = some k) (ht : sy_m[k.2.1]? = some t') (ha : s_args k.1 k.2.2 st = some (args, rest)) (h1 : s_sz rest ≤ 8) (h2 : s_sz args ≤ t'.2.2.2.1 ∧ t'.2.2.2.1 ≤ 45) (h4 : ¬ (k.1 = 0 ∨ k.1 = 3)) (hd0 : 0 < d) (h : sOk base X G (d - 1) t' args M (pV P')) (hh : ∀ M', P' M' → sRn base X G d t pc' lv rest M' Q) : sRn base X G d t pc lv st M Q :=
  r_calls hd hn hkk ht ha h1 h2 h4 hd0 h (fun v M' p => by obtain ⟨rfl, p⟩ := p; exact hh M' p)
theorem r_vI {P' : Int → mH → Prop} (hd : decode t.2.2.1 pc = .ok (ins, 3)) (hn : pc + 3 = pc') (hkk : m_call t.1 ins = some k) (ht : sy_m[k.2.1]? = some t') (ha : s_args k.1 k.2.2 st = some (vR c :: args, rest)) (h1 : s_sz rest ≤ 8) (h2 : s_sz (vR c :: args) ≤ t'.2.2.2.1 ∧ t'.2.2.2.1 ≤ 45) (hc : shL[c]? = some q) (h4 : q.1 = m_oc t'.1 ∧ t'.1 ≠ 13) (H : Sh base M) (hd0 : 0 < d) (h : sOk base X G (d - 1) t' (vR c :: args) M (pI P')) (hh : ∀ v M', P' v M' → sRn base X G d t pc' lv (vI v :: rest) M' Q) : sRn base X G d t pc lv st M Q :=
  r_callv hd hn hkk ht ha h1 h2 hc h4 H hd0 h (fun v M' p => by obtain ⟨v, rfl, p⟩ := p; exact hh v M' p)
theorem r_vL {P' : Int → mH → Prop} (hd : decode t.2.2.1 pc = .ok (ins, 3)) (hn : pc + 3 = pc') (hkk : m_call t.1 ins = some k) (ht : sy_m[k.2.1]? = some t') (ha : s_args k.1 k.2.2 st = some (vR c :: args, rest)) (h1 : s_sz rest ≤ 8) (h2 : s_sz (vR c :: args) ≤ t'.2.2.2.1 ∧ t'.2.2.2.1 ≤ 45) (hc : shL[c]? = some q) (h4 : q.1 = m_oc t'.1 ∧ t'.1 ≠ 13) (H : Sh base M) (hd0 : 0 < d) (h : sOk base X G (d - 1) t' (vR c :: args) M (pL P')) (hh : ∀ v M', P' v M' → sRn base X G d t pc' lv (vL v :: rest) M' Q) : sRn base X G d t pc lv st M Q :=
  r_callv hd hn hkk ht ha h1 h2 hc h4 H hd0 h (fun v M' p => by obtain ⟨v, rfl, p⟩ := p; exact hh v M' p)
theorem r_vV {P' : mH → Prop} (hd : decode t.2.2.1 pc = .ok (ins, 3)) (hn : pc + 3 = pc') (hkk : m_call t.1 ins = some k) (ht : sy_m[k.2.1]? = some t') (ha : s_args k.1 k.2.2 st = some (vR c :: args, rest)) (h1 : s_sz rest ≤ 8) (h2 : s_sz (vR c :: args) ≤ t'.2.2.2.1 ∧ t'.2.2.2.1 ≤ 45) (hc : shL[c]? = some q) (h4 : q.1 = m_oc t'.1 ∧ t'.1 ≠ 13) (H : Sh base M) (hd0 : 0 < d) (h : sOk base X G (d - 1) t' (vR c :: args) M (pV P')) (hh : ∀ M', P' M' → sRn base X G d t pc' lv rest M' Q) : sRn base X G d t pc lv st M Q :=
  r_callv hd hn hkk ht ha h1 h2 hc h4 H hd0 h (fun v M' p => by obtain ⟨rfl, p⟩ := p; exact hh M' p)
end
theorem r_iretI {e : Int} {P' : Int → mH → Prop} (hd : decode t.2.2.1 pc = .ok (.ireturn, 1)) (hr : t.2.2.2.2 = some .int) (h : P' e M) : sRn base X G d t pc lv [vI e] M (s_Q base (pI P')) := r_iret hd hr ⟨e, rfl, h⟩
theorem r_zretI {e : Int} {P' : Int → mH → Prop} (hd : decode t.2.2.1 pc = .ok (.ireturn, 1)) (hr : t.2.2.2.2 = some .boolean) (he : e = 0 ∨ e = 1) (h : P' e M) : sRn base X G d t pc lv [vI e] M (s_Q base (pI P')) := r_zret hd hr he ⟨e, rfl, h⟩
theorem r_lretL {e : Int} {P' : Int → mH → Prop} (hd : decode t.2.2.1 pc = .ok (.lreturn, 1)) (hr : t.2.2.2.2 = some .long) (h : P' e M) : sRn base X G d t pc lv [vL e] M (s_Q base (pL P')) := r_lret hd hr ⟨e, rfl, h⟩
theorem r_retV {P' : mH → Prop} (hd : decode t.2.2.1 pc = .ok (.return_, 1)) (hr : t.2.2.2.2 = none) (h : P' M) : sRn base X G d t pc lv [] M (s_Q base (pV P')) := r_ret hd hr ⟨rfl, h⟩
/-- what is given: the static tables, the String -/
noncomputable def EnvOK (base : Nat) (X : Nat → Option mC) (G : Nat → Value) : Prop := (∀ (g : Nat) (vs : List Int32), sy_vals[g]? = some vs → ∃ (u : Nat) (f : Nat → Value), G g = .ref u ∧ u < base ∧ X u = some (1000, vs.length, f) ∧ ∀ j, j < vs.length → f j = .int (vs.getD j 0)) ∧ G 7 = .int 1 ∧ (G 8 = .null ∨ ∃ u, G 8 = .ref u) ∧ (∃ (u v : Nat) (f : Nat → Value), G 9 = .ref u ∧ u < base ∧ G 10 = .ref v ∧ v < base ∧ X v = some (1003, 104, f) ∧ ∀ j, j < 104 → f j = .int (sy_str.getD j 0))
theorem r_ialdT {a n : Nat} {f : Nat → Value} {vs : List Int32} {e : Int} (hd : decode t.2.2.1 pc = .ok (.iaload, 1)) (hn : pc + 1 = pc') (hX : X a = some (1000, n, f)) (hlt : a < base) (hf : ∀ j, j < n → f j = .int (vs.getD j 0)) (he : 0 ≤ e ∧ e < (n : Int) ∧ e ≤ 2147483647) (h : ∀ w, w = (vs.getD e.toNat 0).toInt → inR w → sRn base X G d t pc' lv (vI w :: st) M Q) : sRn base X G d t pc lv (vI e :: vA a :: st) M Q :=
  r_ialdA (w := (vs.getD e.toNat 0).toInt) hd hn hX hlt he (by rw [hf _ (by omega), Int32.ofInt_toInt]) (h _ rfl (inR_toInt _))
end
