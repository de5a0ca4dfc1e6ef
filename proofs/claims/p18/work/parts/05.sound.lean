/-! What the helpers' answers say. -/
section
variable {α : Type} {st : List Value} {z : α}
theorem m_1_ok {k : Value → List Value → Option α} (h : m_1 st k = some z) : ∃ x r, st = x :: r ∧ k x r = some z := by
  unfold m_1 at h; split at h
  · exact ⟨_, _, rfl, h⟩
  · cases h
theorem m_i_ok {k : Int32 → List Value → Option α} (h : m_i st k = some z) : ∃ x r, st = .int x :: r ∧ k x r = some z := by
  unfold m_i at h; split at h
  · exact ⟨_, _, rfl, h⟩
  · cases h
theorem m_ii_ok {k : Int32 → Int32 → List Value → Option α} (h : m_ii st k = some z) : ∃ x y r, st = .int y :: .int x :: r ∧ k x y r = some z := by
  unfold m_ii at h; split at h
  · exact ⟨_, _, _, rfl, h⟩
  · cases h
theorem m_l_ok {k : Int64 → List Value → Option α} (h : m_l st k = some z) : ∃ x r, st = .long x :: r ∧ k x r = some z := by
  unfold m_l at h; split at h
  · exact ⟨_, _, rfl, h⟩
  · cases h
theorem m_ll_ok {k : Int64 → Int64 → List Value → Option α} (h : m_ll st k = some z) : ∃ x y r, st = .long y :: .long x :: r ∧ k x y r = some z := by
  unfold m_ll at h; split at h
  · exact ⟨_, _, _, rfl, h⟩
  · cases h
theorem m_li_ok {k : Int64 → Int32 → List Value → Option α} (h : m_li st k = some z) : ∃ x y r, st = .int y :: .long x :: r ∧ k x y r = some z := by
  unfold m_li at h; split at h
  · exact ⟨_, _, _, rfl, h⟩
  · cases h
theorem m_q_ok {k : Option Nat → List Value → Option α} (h : m_q st k = some z) : ∃ x r, st = va_rf x :: r ∧ k x r = some z := by
  unfold m_q at h; split at h
  · exact ⟨none, _, rfl, h⟩
  · exact ⟨some _, _, rfl, h⟩
  · cases h
theorem m_r_ok {k : Nat → List Value → Option α} (h : m_r st k = some z) : ∃ a r, st = .ref a :: r ∧ k a r = some z := by
  unfold m_r at h; split at h
  · exact ⟨_, _, rfl, h⟩
  · cases h
theorem m_ir_ok {k : Int32 → Nat → List Value → Option α} (h : m_ir st k = some z) : ∃ i a r, st = .int i :: .ref a :: r ∧ k i a r = some z := by
  unfold m_ir at h; split at h
  · exact ⟨_, _, _, rfl, h⟩
  · cases h
theorem m_vr_ok {k : Value → Nat → List Value → Option α} (h : m_vr st k = some z) : ∃ v a r, st = v :: .ref a :: r ∧ k v a r = some z := by
  unfold m_vr at h; split at h
  · exact ⟨_, _, _, rfl, h⟩
  · cases h
theorem m_vir_ok {k : Value → Int32 → Nat → List Value → Option α} (h : m_vir st k = some z) : ∃ v i a r, st = v :: .int i :: .ref a :: r ∧ k v i a r = some z := by
  unfold m_vir at h; split at h
  · exact ⟨_, _, _, _, rfl, h⟩
  · cases h
theorem m_cp_ok {k : Nat → Int32 → Nat → Int32 → Int32 → List Value → Option α} (h : m_cp st k = some z) : ∃ a sp d dp n r, st = .int n :: .int dp :: .ref d :: .int sp :: .ref a :: r ∧ k a sp d dp n r = some z := by
  unfold m_cp at h; split at h
  · exact ⟨_, _, _, _, _, _, rfl, h⟩
  · cases h
theorem m_to_ok {pc : Nat} {off : Int} {k : Nat → Option α} (h : m_to pc off k = some z) : ∃ t : Nat, (pc : Int) + off = (t : Int) ∧ k t = some z := by
  unfold m_to at h; split at h
  · next h0 => exact ⟨_, by omega, h⟩
  · cases h
end
theorem m_lv_ok {ls : Array Slot} {nL : Nat} {lv : mL} (hl : lv_has ls nL lv) {i : Nat} {v : Value} (h : m_lv lv i = some v) : ls[i]? = some (.val v) ∧ ∃ k : Nat, lv[k]? = some (i, v) := by
  unfold m_lv at h
  cases hf : lv.find? (fun q => q.1 == i) with
  | none => rw [hf] at h; cases h
  | some q =>
    rw [hf] at h
    have hm := List.mem_of_find?_eq_some hf
    have hq := List.find?_some hf
    have e1 : q.1 = i := by simpa using hq
    have e2 : q.2 = v := Option.some.inj h
    have e : q = (i, v) := by rw [← e1, ← e2]
    rw [e] at hm
    exact ⟨hl.2.2 _ hm, List.getElem?_of_mem hm⟩
theorem m_ldI_ok {lv : mL} {i : Nat} {k : Int32 → Option mR} {z : mR} (h : m_ldI lv i k = some z) : ∃ x, m_lv lv i = some (.int x) ∧ k x = some z := by
  unfold m_ldI at h; split at h
  · next e => exact ⟨_, e, h⟩
  · cases h
theorem m_ldL_ok {lv : mL} {i : Nat} {k : Int64 → Option mR} {z : mR} (h : m_ldL lv i k = some z) : ∃ x, m_lv lv i = some (.long x) ∧ k x = some z := by
  unfold m_ldL at h; split at h
  · next e => exact ⟨_, e, h⟩
  · cases h
theorem m_ldA_ok {lv : mL} {i : Nat} {k : Option Nat → Option mR} {z : mR} (h : m_ldA lv i k = some z) : ∃ x, m_lv lv i = some (va_rf x) ∧ k x = some z := by
  unfold m_ldA at h; split at h
  · next e => exact ⟨some _, e, h⟩
  · next e => exact ⟨none, e, h⟩
  · cases h
section
variable {p : Program} {l : Launch} {e : Env} {R : Room} {s : State} {m : MethodId} {args : Array Value} {below : List Frame} {meth : Method} {c : Code} {H : Heap} {locs : List Loc} {cells slots : Nat} {Q : State → Prop}
variable {cc : ByteArray} {pc pc' : Nat} {ls : Array Slot} {lv lv' : mL} {st st' : List Value} {M M' : mH} {ins : Instr}
set_option maxHeartbeats 4000000 in
theorem m_okB (hx : p.tables.exec = Jvm.exec) (hb : c.code = cc) (hd : decode cc pc = .ok (ins, m_len ins)) (h : m_stB pc lv st M ins = some (pc', lv', st', M')) : lv' = lv ∧ M' = M ∧ (W p l e R s m args below meth c H locs cells slots Q (F0 m pc' ls st') → W p l e R s m args below meth c H locs cells slots Q (F0 m pc ls st)) := by
  cases ins
  case iadd => simp only [m_stB] at h; obtain ⟨x, y, r, rfl, g⟩ := m_ii_ok h; clear h; cases g; exact ⟨rfl, rfl, fun k => lv_iadd hx hb hd k⟩
  case isub => simp only [m_stB] at h; obtain ⟨x, y, r, rfl, g⟩ := m_ii_ok h; clear h; cases g; exact ⟨rfl, rfl, fun k => lv_isub hx hb hd k⟩
  case imul => simp only [m_stB] at h; obtain ⟨x, y, r, rfl, g⟩ := m_ii_ok h; clear h; cases g; exact ⟨rfl, rfl, fun k => lv_imul hx hb hd k⟩
  case iand => simp only [m_stB] at h; obtain ⟨x, y, r, rfl, g⟩ := m_ii_ok h; clear h; cases g; exact ⟨rfl, rfl, fun k => lv_iand hx hb hd k⟩
  case ior => simp only [m_stB] at h; obtain ⟨x, y, r, rfl, g⟩ := m_ii_ok h; clear h; cases g; exact ⟨rfl, rfl, fun k => lv_ior hx hb hd k⟩
  case ixor => simp only [m_stB] at h; obtain ⟨x, y, r, rfl, g⟩ := m_ii_ok h; clear h; cases g; exact ⟨rfl, rfl, fun k => lv_ixor hx hb hd k⟩
  case idiv => simp only [m_stB] at h; obtain ⟨x, y, r, rfl, g⟩ := m_ii_ok h; clear h; split at g <;> cases g; exact ⟨rfl, rfl, fun k => lv_idiv hx hb hd (by assumption) k⟩
  case irem => simp only [m_stB] at h; obtain ⟨x, y, r, rfl, g⟩ := m_ii_ok h; clear h; split at g <;> cases g; exact ⟨rfl, rfl, fun k => lv_irem hx hb hd (by assumption) k⟩
  case ishl => simp only [m_stB] at h; obtain ⟨x, y, r, rfl, g⟩ := m_ii_ok h; clear h; cases g; exact ⟨rfl, rfl, fun k => lv_ishl hx hb hd k⟩
  case ishr => simp only [m_stB] at h; obtain ⟨x, y, r, rfl, g⟩ := m_ii_ok h; clear h; cases g; exact ⟨rfl, rfl, fun k => lv_ishr hx hb hd k⟩
  case iushr => simp only [m_stB] at h; obtain ⟨x, y, r, rfl, g⟩ := m_ii_ok h; clear h; cases g; exact ⟨rfl, rfl, fun k => lv_iushr hx hb hd rfl k⟩
  case ladd => simp only [m_stB] at h; obtain ⟨x, y, r, rfl, g⟩ := m_ll_ok h; clear h; cases g; exact ⟨rfl, rfl, fun k => lv_ladd hx hb hd k⟩
  case lsub => simp only [m_stB] at h; obtain ⟨x, y, r, rfl, g⟩ := m_ll_ok h; clear h; cases g; exact ⟨rfl, rfl, fun k => lv_lsub hx hb hd k⟩
  case lmul => simp only [m_stB] at h; obtain ⟨x, y, r, rfl, g⟩ := m_ll_ok h; clear h; cases g; exact ⟨rfl, rfl, fun k => lv_lmul hx hb hd k⟩
  case land => simp only [m_stB] at h; obtain ⟨x, y, r, rfl, g⟩ := m_ll_ok h; clear h; cases g; exact ⟨rfl, rfl, fun k => lv_land hx hb hd k⟩
  case lor => simp only [m_stB] at h; obtain ⟨x, y, r, rfl, g⟩ := m_ll_ok h; clear h; cases g; exact ⟨rfl, rfl, fun k => lv_lor hx hb hd k⟩
  case ldiv => simp only [m_stB] at h; obtain ⟨x, y, r, rfl, g⟩ := m_ll_ok h; clear h; split at g <;> cases g; exact ⟨rfl, rfl, fun k => lv_ldiv hx hb hd (by assumption) k⟩
  case lshl => simp only [m_stB] at h; obtain ⟨x, y, r, rfl, g⟩ := m_li_ok h; clear h; cases g; exact ⟨rfl, rfl, fun k => lv_lshl hx hb hd rfl k⟩
  case lshr => simp only [m_stB] at h; obtain ⟨x, y, r, rfl, g⟩ := m_li_ok h; clear h; cases g; exact ⟨rfl, rfl, fun k => lv_lshr hx hb hd rfl k⟩
  case lushr => simp only [m_stB] at h; obtain ⟨x, y, r, rfl, g⟩ := m_li_ok h; clear h; cases g; exact ⟨rfl, rfl, fun k => lv_lushr hx hb hd rfl k⟩
  case i2l => simp only [m_stB] at h; obtain ⟨x, r, rfl, g⟩ := m_i_ok h; clear h; cases g; exact ⟨rfl, rfl, fun k => lv_i2l hx hb hd rfl k⟩
  case l2i => simp only [m_stB] at h; obtain ⟨x, r, rfl, g⟩ := m_l_ok h; clear h; cases g; exact ⟨rfl, rfl, fun k => lv_l2i hx hb hd rfl k⟩
  case i2b => simp only [m_stB] at h; obtain ⟨x, r, rfl, g⟩ := m_i_ok h; clear h; cases g; exact ⟨rfl, rfl, fun k => lv_i2b hx hb hd rfl k⟩
  case i2c => simp only [m_stB] at h; obtain ⟨x, r, rfl, g⟩ := m_i_ok h; clear h; cases g; exact ⟨rfl, rfl, fun k => lv_i2c hx hb hd rfl k⟩
  case lcmp => simp only [m_stB] at h; obtain ⟨x, y, r, rfl, g⟩ := m_ll_ok h; clear h; cases g; exact ⟨rfl, rfl, fun k => W.lcmp hx hb hd k⟩
  all_goals cases h
theorem m_br_ok {off : Int} {b : Bool} (h : m_br pc off b lv st M = some (pc', lv', st', M')) : ∃ t : Nat, (pc : Int) + off = (t : Int) ∧ pc' = (if b then t else pc + 3) ∧ lv' = lv ∧ st' = st ∧ M' = M := by
  obtain ⟨t, ht, h⟩ := m_to_ok h
  cases h
  exact ⟨t, ht, rfl, rfl, rfl, rfl⟩
set_option maxHeartbeats 4000000 in
theorem m_okC (hx : p.tables.exec = Jvm.exec) (hb : c.code = cc) {len : Nat} (hd : decode cc pc = .ok (ins, len)) (hlen : len = m_len ins ∨ (∃ a b d f, ins = .tableswitch a b d f) ∨ (∃ a b, ins = .lookupswitch a b)) (h : m_stC pc lv st M ins = some (pc', lv', st', M')) : lv' = lv ∧ M' = M ∧ (W p l e R s m args below meth c H locs cells slots Q (F0 m pc' ls st') → W p l e R s m args below meth c H locs cells slots Q (F0 m pc ls st)) := by
  cases ins
  case goto off =>
    simp only [m_stC] at h
    obtain ⟨t, ht, g⟩ := m_to_ok h; clear h; cases g
    rcases hlen with rfl | ⟨_, _, _, _, q⟩ | ⟨_, _, q⟩ <;> first | (cases q; done) | skip
    exact ⟨rfl, rfl, fun k => lv_goto hx hb hd ht k⟩
  case ifCond cd off =>
    simp only [m_stC] at h
    rcases hlen with rfl | ⟨_, _, _, _, q⟩ | ⟨_, _, q⟩ <;> first | (cases q; done) | skip
    obtain ⟨x, r, rfl, h9⟩ := m_i_ok h
    clear h; have h := h9; clear h9
    obtain ⟨t, ht, rfl, rfl, rfl, rfl⟩ := m_br_ok h; clear h
    refine ⟨rfl, rfl, fun k => ?_⟩
    cases cd
    · exact lv_if_eq hx hb hd ht (fun q => by simpa [q] using k) (fun q => by simpa [q] using k)
    · exact lv_if_ne hx hb hd ht (fun q => by simpa [q] using k) (fun q => by simpa [q] using k)
    · exact lv_if_lt hx hb hd ht (fun q => by simpa [q] using k) (fun q => by simpa [q] using k)
    · exact lv_if_ge hx hb hd ht (fun q => by simpa [q] using k) (fun q => by simpa [q] using k)
    · exact lv_if_gt hx hb hd ht (fun q => by simpa [q] using k) (fun q => by simpa [q] using k)
    · exact lv_if_le hx hb hd ht (fun q => by simpa [q] using k) (fun q => by simpa [q] using k)
  case if_icmp cd off =>
    simp only [m_stC] at h
    rcases hlen with rfl | ⟨_, _, _, _, q⟩ | ⟨_, _, q⟩ <;> first | (cases q; done) | skip
    obtain ⟨x, y, r, rfl, h9⟩ := m_ii_ok h
    clear h; have h := h9; clear h9
    obtain ⟨t, ht, rfl, rfl, rfl, rfl⟩ := m_br_ok h; clear h
    refine ⟨rfl, rfl, fun k => ?_⟩
    cases cd
    · exact lv_icmp_eq hx hb hd ht (fun q => by simpa [q] using k) (fun q => by simpa [q] using k)
    · exact lv_icmp_ne hx hb hd ht (fun q => by simpa [q] using k) (fun q => by simpa [q] using k)
    · exact lv_icmp_lt hx hb hd ht (fun q => by simpa [q] using k) (fun q => by simpa [q] using k)
    · exact lv_icmp_ge hx hb hd ht (fun q => by simpa [q] using k) (fun q => by simpa [q] using k)
    · exact lv_icmp_gt hx hb hd ht (fun q => by simpa [q] using k) (fun q => by simpa [q] using k)
    · exact lv_icmp_le hx hb hd ht (fun q => by simpa [q] using k) (fun q => by simpa [q] using k)
  case ifnull off =>
    simp only [m_stC] at h
    rcases hlen with rfl | ⟨_, _, _, _, q⟩ | ⟨_, _, q⟩ <;> first | (cases q; done) | skip
    obtain ⟨x, r, rfl, h9⟩ := m_q_ok h
    clear h; have h := h9; clear h9
    obtain ⟨t, ht, rfl, rfl, rfl, rfl⟩ := m_br_ok h; clear h
    refine ⟨rfl, rfl, fun k => ?_⟩
    cases x
    · exact lv_ifnullN hx hb hd ht (by simpa using k)
    · exact lv_ifnull hx hb hd (by simpa using k)
  case ifnonnull off =>
    simp only [m_stC] at h
    rcases hlen with rfl | ⟨_, _, _, _, q⟩ | ⟨_, _, q⟩ <;> first | (cases q; done) | skip
    obtain ⟨x, r, rfl, h9⟩ := m_q_ok h
    clear h; have h := h9; clear h9
    obtain ⟨t, ht, rfl, rfl, rfl, rfl⟩ := m_br_ok h; clear h
    refine ⟨rfl, rfl, fun k => ?_⟩
    cases x
    · exact lv_ifnonnullN hx hb hd (by simpa using k)
    · exact lv_ifnonnull hx hb hd ht (by simpa using k)
  case tableswitch dflt lo hi offs =>
    simp only [m_stC] at h
    obtain ⟨x, r, rfl, h9⟩ := m_i_ok h
    clear h; have h := h9; clear h9
    split at h
    · next q =>
      obtain ⟨t, ht, g⟩ := m_to_ok h; clear h; cases g
      exact ⟨rfl, rfl, fun k => lv_tableOut hx hb hd q ht k⟩
    · next q =>
      split at h
      · next off ho =>
        obtain ⟨t, ht, g⟩ := m_to_ok h; clear h; cases g
        exact ⟨rfl, rfl, fun k => lv_tableIn hx hb hd (fun z => q (Or.inl z)) (fun z => q (Or.inr z)) ho ht k⟩
      · cases h
  case lookupswitch dflt ps =>
    simp only [m_stC] at h
    obtain ⟨x, r, rfl, h9⟩ := m_i_ok h
    clear h; have h := h9; clear h9
    split at h
    · next q =>
      obtain ⟨t, ht, g⟩ := m_to_ok h; clear h; cases g
      exact ⟨rfl, rfl, fun k => lv_lookup hx hb hd q rfl ht k⟩
    · cases h
  all_goals cases h
end
