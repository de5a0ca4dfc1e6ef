/-! Constants and locals. -/
theorem m_fd {β : Type} {L : List (Nat × Nat × β)} {o i : Nat} {v : β} (h : (L.find? (fun q => q.1 == o && q.2.1 == i)).map (fun q => q.2.2) = some v) : (o, i, v) ∈ L := by
  cases hf : L.find? (fun q => q.1 == o && q.2.1 == i) with
  | none => rw [hf] at h; cases h
  | some q =>
    rw [hf] at h
    have hm := List.mem_of_find?_eq_some hf
    have hq := List.find?_some hf
    simp only [Bool.and_eq_true, beq_iff_eq] at hq
    obtain ⟨a, b, d⟩ := q
    simp only [Option.map_some, Option.some.injEq] at h
    simp only at hq
    obtain ⟨rfl, rfl⟩ := hq
    subst h
    exact hm
set_option maxRecDepth 20000 in
theorem sy_i_ok : ∀ q ∈ sy_i, Cond.constant (sy_cn q.1) q.2.1 q.2.2 ∈ wsL_law := by decide +kernel
set_option maxRecDepth 20000 in
theorem sy_l_ok : ∀ q ∈ sy_l, Cond.constantLong (sy_cn q.1) q.2.1 q.2.2 ∈ wsL_law := by decide +kernel
section
variable {p : Program} {l : Launch} {e : Env} {R : Room} {s : State} {m : MethodId} {args : Array Value} {below : List Frame} {meth : Method} {c : Code} {H : Heap} {locs : List Loc} {cells slots : Nat} {Q : State → Prop}
variable {cc : ByteArray} {o nL pc pc' : Nat} {ls : Array Slot} {lv lv' : mL} {st st' : List Value} {M M' : mH} {ins : Instr}
set_option maxHeartbeats 4000000 in
theorem m_okS (hx : p.tables.exec = Jvm.exec) (hb : c.code = cc) (hd : decode cc pc = .ok (ins, m_len ins)) (hown : s.vm.findClass (sy_cn o) = some m.cls) (hts : ∀ w ∈ wsL_law, w.before args s = true) (hl : lv_has ls nL lv) (h : m_stA o nL pc lv st M ins = some (pc', lv', st', M')) (kk : ∀ ls' : Array Slot, lv_has ls' nL lv' → W p l e R s m args below meth c H locs cells slots Q (F0 m pc' ls' st')) : M' = M ∧ W p l e R s m args below meth c H locs cells slots Q (F0 m pc ls st) := by
  cases ins
  case aconst_null => simp only [m_stA] at h; cases h; exact ⟨rfl, lv_null hx hb hd (kk ls hl)⟩
  case iconst i => simp only [m_stA] at h; cases h; exact ⟨rfl, lv_iconst hx hb hd rfl (kk ls hl)⟩
  case bipush i => simp only [m_stA] at h; cases h; exact ⟨rfl, lv_bipush hx hb hd rfl (kk ls hl)⟩
  case sipush i => simp only [m_stA] at h; cases h; exact ⟨rfl, lv_sipush hx hb hd rfl (kk ls hl)⟩
  case lconst i => simp only [m_stA] at h; cases h; exact ⟨rfl, lv_lconst hx hb hd rfl (kk ls hl)⟩
  case ldc i =>
    simp only [m_stA] at h
    split at h
    · next v hv => cases h; exact ⟨rfl, lv_ldc hx hb hown (hts _ (sy_i_ok _ (m_fd hv))) hd (kk ls hl)⟩
    · cases h
  case ldc_w i =>
    simp only [m_stA] at h
    split at h
    · next v hv => cases h; exact ⟨rfl, lv_ldcw hx hb hown (hts _ (sy_i_ok _ (m_fd hv))) hd (kk ls hl)⟩
    · cases h
  case ldc2_w i =>
    simp only [m_stA] at h
    split at h
    · next v hv => cases h; exact ⟨rfl, lv_ldc2 hx hb hown (hts _ (sy_l_ok _ (m_fd hv))) hd (kk ls hl)⟩
    · cases h
  case iload_n k => simp only [m_stA] at h; obtain ⟨x, hv, g⟩ := m_ldI_ok h; cases g; exact ⟨rfl, lv_iload_n hx hb hd rfl (m_lv_ok hl hv).1 (kk ls hl)⟩
  case iload k => simp only [m_stA] at h; obtain ⟨x, hv, g⟩ := m_ldI_ok h; cases g; exact ⟨rfl, lv_iload hx hb hd (m_lv_ok hl hv).1 (kk ls hl)⟩
  case lload_n k => simp only [m_stA] at h; obtain ⟨x, hv, g⟩ := m_ldL_ok h; cases g; exact ⟨rfl, lv_lload_n hx hb hd rfl (m_lv_ok hl hv).1 (kk ls hl)⟩
  case lload k => simp only [m_stA] at h; obtain ⟨x, hv, g⟩ := m_ldL_ok h; cases g; exact ⟨rfl, lv_lload hx hb hd (m_lv_ok hl hv).1 (kk ls hl)⟩
  case aload_n k =>
    simp only [m_stA] at h; obtain ⟨x, hv, g⟩ := m_ldA_ok h; cases g
    refine ⟨rfl, ?_⟩
    cases x
    · exact lv_aload_nN hx hb hd rfl (m_lv_ok hl hv).1 (kk ls hl)
    · exact lv_aload_n hx hb hd rfl (m_lv_ok hl hv).1 (kk ls hl)
  case aload k =>
    simp only [m_stA] at h; obtain ⟨x, hv, g⟩ := m_ldA_ok h; cases g
    refine ⟨rfl, ?_⟩
    cases x
    · exact lv_aloadN hx hb hd (m_lv_ok hl hv).1 (kk ls hl)
    · exact lv_aload hx hb hd (m_lv_ok hl hv).1 (kk ls hl)
  case istore_n k => simp only [m_stA] at h; obtain ⟨x, r, rfl, g⟩ := m_i_ok h; clear h; split at g <;> cases g; exact ⟨rfl, lv_istore_n hx hb hd rfl hl (by assumption) rfl kk⟩
  case istore k => simp only [m_stA] at h; obtain ⟨x, r, rfl, g⟩ := m_i_ok h; clear h; split at g <;> cases g; exact ⟨rfl, lv_istore hx hb hd hl (by assumption) rfl kk⟩
  case lstore_n k => simp only [m_stA] at h; obtain ⟨x, r, rfl, g⟩ := m_l_ok h; clear h; split at g <;> cases g; exact ⟨rfl, lv_lstore_n hx hb hd rfl hl (by assumption) rfl kk⟩
  case lstore k => simp only [m_stA] at h; obtain ⟨x, r, rfl, g⟩ := m_l_ok h; clear h; split at g <;> cases g; exact ⟨rfl, lv_lstore hx hb hd hl (by assumption) rfl kk⟩
  case astore_n k =>
    simp only [m_stA] at h; obtain ⟨x, r, rfl, g⟩ := m_q_ok h; clear h; split at g <;> cases g
    refine ⟨rfl, ?_⟩
    cases x
    · exact lv_astore_nN hx hb hd rfl hl (by assumption) rfl kk
    · exact lv_astore_n hx hb hd rfl hl (by assumption) rfl kk
  case astore k =>
    simp only [m_stA] at h; obtain ⟨x, r, rfl, g⟩ := m_q_ok h; clear h; split at g <;> cases g
    refine ⟨rfl, ?_⟩
    cases x
    · exact lv_astoreN hx hb hd hl (by assumption) rfl kk
    · exact lv_astore hx hb hd hl (by assumption) rfl kk
  case iinc k n =>
    simp only [m_stA] at h; obtain ⟨x, hv, g⟩ := m_ldI_ok h; clear h; split at g <;> cases g
    obtain ⟨j, hj⟩ := (m_lv_ok hl hv).2
    exact ⟨rfl, lv_iinc hx hb hd hl hj rfl (by assumption) rfl kk⟩
  case dup => simp only [m_stA] at h; obtain ⟨x, r, rfl, g⟩ := m_1_ok h; clear h; split at g <;> cases g; exact ⟨rfl, lv_dup hx hb hd (by assumption) (kk ls hl)⟩
  case pop => simp only [m_stA] at h; obtain ⟨x, r, rfl, g⟩ := m_1_ok h; clear h; split at g <;> cases g; exact ⟨rfl, lv_pop hx hb hd (by assumption) (kk ls hl)⟩
  case pop2 =>
    simp only [m_stA] at h; obtain ⟨x, r, rfl, g⟩ := m_1_ok h; clear h; split at g
    · cases g; exact ⟨rfl, lv_pop2_2 hx hb hd (by assumption) (kk ls hl)⟩
    · obtain ⟨y, t, rfl, g2⟩ := m_1_ok g
      clear g
      split at g2
      · next q => cases g2; exact ⟨rfl, lv_pop2_11 hx hb hd q.1 q.2 (kk ls hl)⟩
      · cases g2
  case dup2 =>
    simp only [m_stA] at h; obtain ⟨x, r, rfl, g⟩ := m_1_ok h; clear h
    obtain ⟨y, t, rfl, g2⟩ := m_1_ok g
    clear g
    split at g2
    · next q => cases g2; exact ⟨rfl, lv_dup2_11 hx hb hd q.1 q.2 (kk ls hl)⟩
    · cases g2
  case dup_x1 =>
    simp only [m_stA] at h; obtain ⟨x, r, rfl, g⟩ := m_1_ok h; clear h
    obtain ⟨y, t, rfl, g2⟩ := m_1_ok g
    clear g
    split at g2
    · next q => cases g2; exact ⟨rfl, lv_dup_x1 hx hb hd q.1 q.2 (kk ls hl)⟩
    · cases g2
  all_goals cases h
end
