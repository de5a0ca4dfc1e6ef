/-! The heap's steps together, and all steps together. -/
set_option maxRecDepth 100000 in
theorem sy_sf : Cond.fieldLink (sy_cn 13) 9 "java/lang/String" "value" "[B" ∈ wsL_law ∧ Cond.fieldLink (sy_cn 13) 15 "java/lang/String" "coder" "B" ∈ wsL_law := by decide +kernel
section
variable {p : Program} {l : Launch} {e : Env} {R : Room} {s : State} {m : MethodId} {args : Array Value} {below : List Frame} {meth : Method} {c : Code} {H : Heap} {locs : List Loc} {Q : State → Prop}
variable {cc : ByteArray} {o nL pc pc' : Nat} {ls : Array Slot} {lv lv' : mL} {st st' : List Value} {M M' M0 : mH} {ins : Instr} {base : Nat} {X : Nat → Option mC} {G : Nat → Value} {D : va_G} {ini : Bool}
theorem m_ty_ref {k : Nat} (h : 5 ≤ k) : (m_ty k).isReference = true := by
  match k, h with
  | 5, _ => rfl
  | 6, _ => rfl
  | n + 7, _ => rfl
set_option maxHeartbeats 4000000 in
theorem m_okD (hx : p.tables.exec = Jvm.exec) (hb : c.code = cc) (hd : decode cc pc = .ok (ins, m_len ins)) (hown : s.vm.findClass (sy_cn o) = some m.cls) (hts : ∀ w ∈ wsL_law, w.before args s = true) (hini : ini = true → meth.name = "<init>") (hE : m_E base X G D s s.heap) (hW : m_Wd D base s H M locs) (h0 : M0.1 ≤ M.1 ∧ M0.2.1 ≤ M.2.1) (hc : M'.1 - M0.1 ≤ R.cells) (hs : M'.2.1 - M0.2.1 ≤ R.slots) (h : m_stD base X G o ini pc lv st M ins = some (pc', lv', st', M'))
    (kk : ∀ (H' : Heap) (locs' : List Loc), m_Wd D base s H' M' locs' → W p l e R s m args below meth c H' locs' (M'.1 - M0.1) (M'.2.1 - M0.2.1) Q (F0 m pc' ls st')) : lv' = lv ∧ M.1 ≤ M'.1 ∧ M.2.1 ≤ M'.2.1 ∧ W p l e R s m args below meth c H locs (M.1 - M0.1) (M.2.1 - M0.2.1) Q (F0 m pc ls st) := by
  have mk : ∀ {y : mC}, (m_new M y).1 - M0.1 = M.1 - M0.1 + 1 ∧ (m_new M y).2.1 - M0.2.1 = M.2.1 - M0.2.1 + y.2.1 := by
    intro y
    show M.1 + 1 - M0.1 = _ ∧ M.2.1 + y.2.1 - M0.2.1 = _
    omega
  have up : ∀ {y : mC}, M.1 ≤ (m_new M y).1 ∧ M.2.1 ≤ (m_new M y).2.1 := fun {y} => ⟨Nat.le_succ _, Nat.le_add_right _ _⟩
  cases ins
  case ldc i =>
    simp only [m_stD] at h
    split at h
    · next hoi =>
      obtain ⟨rfl, rfl⟩ := hoi
      cases h
      obtain ⟨tx, a, v, h1, h2, h3, h4, h5, h6⟩ := hE.2.2.2.2.2.2.2.2.2
      refine ⟨rfl, Nat.le_refl _, Nat.le_refl _, ?_⟩
      have kk' := kk _ _ hW
      rw [h1] at kk'
      exact va_ldcS hx hb hown h3 hd kk'
    · cases h
  case getfield i =>
    simp only [m_stD] at h
    split at h
    · next ho =>
      subst ho
      obtain ⟨a, r, rfl, g⟩ := m_r_ok h; clear h
      split at g
      · next hG =>
        obtain ⟨tx, a', v, h1, h2, h3, h4, h5, h6⟩ := hE.2.2.2.2.2.2.2.2.2
        cases h1.symm.trans hG
        split at g
        · next hi =>
          subst hi
          cases g
          refine ⟨rfl, Nat.le_refl _, Nat.le_refl _, ?_⟩
          have kk' := kk _ _ hW
          rw [h2] at kk'
          exact vk_getf hx hb h5 hW.2.2.1 hown (hts _ sy_sf.1) (fun _ h => h) hd kk'
        · split at g
          · next hi =>
            subst hi
            cases g
            exact ⟨rfl, Nat.le_refl _, Nat.le_refl _, vk_getf hx hb h6 hW.2.2.1 hown (hts _ sy_sf.2) (fun _ h => h) hd (kk _ _ hW)⟩
          · cases g
      · cases g
    obtain ⟨a, r, rfl, g⟩ := m_r_ok h; clear h
    split at g
    · next q x hq hx' =>
      split at g
      · next hk =>
        cases g
        exact ⟨rfl, Nat.le_refl _, Nat.le_refl _, m_okGet hx hb hown hts hE hW (ci := q.1) (k := q.2) hq hx' hk.1 hd (kk _ _ hW)⟩
      · cases g
    · cases g
  case putfield i =>
    simp only [m_stD] at h
    obtain ⟨v, a, r, rfl, g⟩ := m_vr_ok h; clear h
    split at g
    · next q x hq hx' =>
      split at g
      · next t ht =>
        split at g
        · next hk =>
          cases g
          exact ⟨rfl, Nat.le_refl _, Nat.le_refl _, m_okPut hx hb hown hts hE hW (ci := q.1) (k := q.2) hini hq hx' hk.1 ht hk.2.2.1 hk.2.2.2.1 hk.2.2.2.2 hd kk⟩
        · cases g
      · cases g
    · cases g
  case getstatic i =>
    simp only [m_stD] at h
    split at h
    · next g hg => cases h; exact ⟨rfl, Nat.le_refl _, Nat.le_refl _, m_okStat hx hb hown hts hE hW hg hd (kk _ _ hW)⟩
    · cases h
  case new i =>
    simp only [m_stD] at h
    split at h
    · next ci hn =>
      cases h
      obtain ⟨e1, e2⟩ := mk (y := (ci, m_cnt ci, m_dflt ci))
      rw [e1] at hc kk; rw [e2] at hs kk
      exact ⟨rfl, up.1, up.2, m_okNew hx hb hown hts hE hW hn hc hs hd (fun H' w => kk H' _ w)⟩
    · cases h
  case newarray t =>
    simp only [m_stD] at h
    obtain ⟨n, r, rfl, g⟩ := m_i_ok h; clear h
    split at g
    · next kd hk =>
      split at g
      · next hn =>
        cases g
        obtain ⟨e1, e2⟩ := mk (y := (kd, n.toNatClampNeg, fun _ => defaultValue (newarray.typeOf t)))
        rw [e1] at hc kk; rw [e2] at hs kk
        exact ⟨rfl, up.1, up.2, m_okNewa hx hb hts hW hk hn hc hs hd (fun H' w => kk H' _ w)⟩
      · cases g
    · cases g
  case anewarray i =>
    simp only [m_stD] at h
    obtain ⟨n, r, rfl, g⟩ := m_i_ok h; clear h
    split at g
    · next kd hk =>
      split at g
      · next hn =>
        cases g
        obtain ⟨e1, e2⟩ := mk (y := (kd, n.toNatClampNeg, fun _ => Value.null))
        rw [e1] at hc kk; rw [e2] at hs kk
        exact ⟨rfl, up.1, up.2, m_okAnew hx hb hown hts hE hW hk hn hc hs hd (fun H' w => kk H' _ w)⟩
      · cases g
    · cases g
  case arraylength =>
    simp only [m_stD] at h
    obtain ⟨a, r, rfl, g⟩ := m_r_ok h; clear h
    split at g
    · next x hx' =>
      split at g
      · next hk =>
        cases g
        obtain ⟨cell, q1, q2, q3, q4, q5, q6⟩ := m_arr hE hW hx' hk
        exact ⟨rfl, Nat.le_refl _, Nat.le_refl _, W.alen hx hb q1 q2 q5 rfl rfl hd (kk _ _ hW)⟩
      · cases g
    · cases g
  case iaload =>
    simp only [m_stD] at h
    obtain ⟨i, a, r, x, rfl, hx', hk, hi, g⟩ := m_ald_ok h; clear h; cases g
    have hk : x.1 = 1000 := by simpa using hk
    obtain ⟨cell, q1, q2, q3, q4, q5, q6⟩ := m_arr hE hW hx' (by omega)
    obtain ⟨i1, i2⟩ := m_in_ok hi
    rw [hk] at q2
    exact ⟨rfl, Nat.le_refl _, Nat.le_refl _, W.iald hx hb q1 q2 q3 (by rintro (z | z); exact i1 z; omega) (q6 _ i2) rfl rfl hd (kk _ _ hW)⟩
  case laload =>
    simp only [m_stD] at h
    obtain ⟨i, a, r, x, rfl, hx', hk, hi, g⟩ := m_ald_ok h; clear h; cases g
    have hk : x.1 = 1001 := by simpa using hk
    obtain ⟨cell, q1, q2, q3, q4, q5, q6⟩ := m_arr hE hW hx' (by omega)
    obtain ⟨i1, i2⟩ := m_in_ok hi
    rw [hk] at q2
    exact ⟨rfl, Nat.le_refl _, Nat.le_refl _, W.lald hx hb q1 q2 q3 (by rintro (z | z); exact i1 z; omega) (q6 _ i2) rfl rfl hd (kk _ _ hW)⟩
  case baload =>
    simp only [m_stD] at h
    obtain ⟨i, a, r, x, rfl, hx', hk, hi, g⟩ := m_ald_ok h; clear h; cases g
    have hk : x.1 = 1002 ∨ x.1 = 1003 := by simpa using hk
    obtain ⟨cell, q1, q2, q3, q4, q5, q6⟩ := m_arr hE hW hx' (by omega)
    obtain ⟨i1, i2⟩ := m_in_ok hi
    refine ⟨rfl, Nat.le_refl _, Nat.le_refl _, ?_⟩
    rcases hk with hk | hk <;> rw [hk] at q2
    · exact W.zald hx hb q1 q2 q3 (by rintro (z | z); exact i1 z; omega) (q6 _ i2) rfl rfl hd (kk _ _ hW)
    · exact W.bald hx hb q1 q2 q3 (by rintro (z | z); exact i1 z; omega) (q6 _ i2) rfl rfl hd (kk _ _ hW)
  case aaload =>
    simp only [m_stD] at h
    obtain ⟨i, a, r, x, rfl, hx', hk, hi, g⟩ := m_ald_ok h; clear h; cases g
    have hk : 1005 ≤ x.1 := by simpa using hk
    obtain ⟨cell, q1, q2, q3, q4, q5, q6⟩ := m_arr hE hW hx' (by omega)
    obtain ⟨i1, i2⟩ := m_in_ok hi
    exact ⟨rfl, Nat.le_refl _, Nat.le_refl _, W.aald hx hb q1 q2 (m_ty_ref (by omega)) q3 (by rintro (z | z); exact i1 z; omega) (q6 _ i2) rfl rfl hd (kk _ _ hW)⟩
  case iastore =>
    simp only [m_stD] at h
    obtain ⟨v, i, a, r, x, w, rfl, hx', hw, hk, hi, g⟩ := m_ast_ok h; clear h; cases g
    exact ⟨rfl, Nat.le_refl _, Nat.le_refl _, m_okStore hx hb hE hW (Or.inl ⟨rfl, rfl⟩) hx' hw hk hi hd kk⟩
  case lastore =>
    simp only [m_stD] at h
    obtain ⟨v, i, a, r, x, w, rfl, hx', hw, hk, hi, g⟩ := m_ast_ok h; clear h; cases g
    exact ⟨rfl, Nat.le_refl _, Nat.le_refl _, m_okStore hx hb hE hW (Or.inr (Or.inl ⟨rfl, rfl⟩)) hx' hw hk hi hd kk⟩
  case bastore =>
    simp only [m_stD] at h
    obtain ⟨v, i, a, r, x, w, rfl, hx', hw, hk, hi, g⟩ := m_ast_ok h; clear h; cases g
    exact ⟨rfl, Nat.le_refl _, Nat.le_refl _, m_okStore hx hb hE hW (Or.inr (Or.inr (Or.inl ⟨rfl, rfl⟩))) hx' hw hk hi hd kk⟩
  case aastore =>
    simp only [m_stD] at h
    obtain ⟨v, i, a, r, x, w, rfl, hx', hw, hk, hi, g⟩ := m_ast_ok h; clear h; cases g
    exact ⟨rfl, Nat.le_refl _, Nat.le_refl _, m_okStore hx hb hE hW (Or.inr (Or.inr (Or.inr ⟨rfl, rfl⟩))) hx' hw hk hi hd kk⟩
  all_goals cases h
end
