/-! The JDK's members together. -/
section
variable {p : Program} {l : Launch} {e : Env} {R : Room} {s : State} {m : MethodId} {args : Array Value} {below : List Frame} {meth : Method} {c : Code} {H : Heap} {locs : List Loc} {cells slots : Nat} {Q : State → Prop}
variable {cc : ByteArray} {o nL pc pc' : Nat} {ls : Array Slot} {lv lv' : mL} {st st' rest : List Value} {M M' M0 : mH} {ins : Instr} {base : Nat} {X : Nat → Option mC} {G : Nat → Value} {D : va_G}
set_option maxHeartbeats 2000000 in
theorem m_okClone (hx : p.tables.exec = Jvm.exec) (hb : c.code = cc) (hml : c.maxLocals = ls.size) (hown : s.vm.findClass (sy_cn o) = some m.cls) (hts : ∀ w ∈ wsL_law, w.before args s = true) (hE : m_E base X G D s s.heap) (hW : m_Wd D base s H M locs) (hF : 1 ≤ R.frames) (hL : 64 ≤ R.locals) {i a : Nat} {x : mC} (hi : m_sp o i = some 5) (ha : m_own base M a = some x) (hk : x.1 = 1000) (hr : m_sm rest = true) (hcells : cells + 1 ≤ R.cells) (hslots : slots + x.2.1 ≤ R.slots) (hd : decode cc pc = .ok (.invokevirtual i, 3))
    (kk : ∀ H' : Heap, m_Wd D base s H' (m_new M x) locs → W p l e R s m args below meth c H' locs (cells + 1) (slots + x.2.1) Q (F0 m (pc + 3) ls (.ref (base + M.1) :: rest))) : W p l e R s m args below meth c H locs cells slots Q (F0 m pc ls (.ref a :: rest)) := by
  have hr : (rest.map fun v => v.category).sum ≤ 8 := of_decide_eq_true hr
  have hlk := hts _ (sy_k_ok _ (m_fd hi))
  rcases hW.at ha with ⟨h0, -⟩ | ⟨h0, cA, h1, h2, h3⟩
  · omega
  have hcl := hE.2.2.2.2.2.2.2.2.1
  have hty : m_ty (x.1 - 1000) = .int := by rw [hk]; rfl
  have hnm : s.vm.findClass "[I" = some cA := by have := h2.2.1; rw [hty] at this; exact this
  obtain ⟨c0, t0', f1, f2, f3⟩ := Cond.castable_spec (va_Nw.use (A := args) rfl hcl)
  cases hnm.symm.trans f1
  intro T hT X0
  have hAr := h2.1
  rw [hty] at hAr h3
  obtain ⟨-, kA, hkA, comp, hkind⟩ := State.isArrayOf_alike X0.warmed.alike (hAr 0 (fun _ => .null))
  obtain ⟨-, kS, hkS, compS, hkindS⟩ := hAr 0 (fun _ => .null)
  obtain ⟨vm', X', st⟩ := X0.cloneArray hx hown hlk (hts _ sy_kl.1) (hts _ sy_kl.2.1) (hts _ sy_kl.2.2.1) (hts _ sy_kl.2.2.2.1) (a := a) (cell := arrV cA x.2.1 x.2.2) (by rw [hT]; exact h1) (fun k h => by cases h) (fun h => by cases h) hnm f2 f3
    (fun i v hv => by
      have hk' : T.vm.classes[cA]? = some kA := hkA
      have hk2 : T.vm.classes[(arrV cA x.2.1 x.2.2).cls]? = some kA := hkA
      simpa [State.fitsSlot, State.slotType?, hk2, hkind] using va_fit h3 i v hv)
    (g := F0 m pc ls (.ref a :: rest)) rfl (by rw [hml]) rfl (by rw [hb]; exact hd) hF (by show 2 * 0 + _ + 14 ≤ _; omega) hcells (by rw [arrV_size]; exact hslots) (hloader := Vm.clonesLoader_of_array hkS hkindS)
  rw [arrV_size] at X'
  have hw : m_Wd D base s (H.push (arrV cA x.2.1 x.2.2)) (m_new M x) locs := by
    refine hW.new (by rw [Array.size_push]) (fun q hq => by rw [Array.getElem?_push, if_neg (Nat.ne_of_lt hq)]) (Or.inr ⟨h0, cA, by rw [Array.getElem?_push_size], h2, ?_⟩)
    rw [hty]
    exact h3
  have hheap : ((T.setVm vm').pushCell (arrV cA x.2.1 x.2.2)).heap = H.push (arrV cA x.2.1 x.2.2) := by rw [← hT]; rfl
  obtain ⟨t, b1, b2⟩ := kk _ hw _ hheap X'
  refine ⟨t, st t ?_, b2⟩
  have hsz : (T.setVm vm').heap.size = base + M.1 := by rw [← hW.1, ← hT]; rfl
  rw [← hsz] at b1
  exact b1
set_option maxHeartbeats 2000000 in
theorem m_okK (hx : p.tables.exec = Jvm.exec) (hb : c.code = cc) {len : Nat} (hd : decode cc pc = .ok (ins, len)) (hlen : len = 3) (hml : c.maxLocals = ls.size) (hown : s.vm.findClass (sy_cn o) = some m.cls) (hts : ∀ w ∈ wsL_law, w.before args s = true) (hE : m_E base X G D s s.heap) (hW : m_Wd D base s H M locs) (hF : 1 ≤ R.frames) (hL : 64 ≤ R.locals) (h0 : M0.1 ≤ M.1 ∧ M0.2.1 ≤ M.2.1) (hc : M'.1 - M0.1 ≤ R.cells) (hs : M'.2.1 - M0.2.1 ≤ R.slots) (h : m_spc base X o pc lv st M ins = some (pc', lv', st', M'))
    (kk : ∀ (H' : Heap) (locs' : List Loc), m_Wd D base s H' M' locs' → W p l e R s m args below meth c H' locs' (M'.1 - M0.1) (M'.2.1 - M0.2.1) Q (F0 m pc' ls st')) : lv' = lv ∧ M.1 ≤ M'.1 ∧ M.2.1 ≤ M'.2.1 ∧ W p l e R s m args below meth c H locs (M.1 - M0.1) (M.2.1 - M0.2.1) Q (F0 m pc ls st) := by
  subst hlen
  cases ins
  case invokespecial i =>
    simp only [m_spc] at h
    split at h
    · next hi =>
      obtain ⟨a, r, rfl, g⟩ := m_r_ok h; clear h
      split at g
      · next hr =>
        have hr : (r.map fun v => v.category).sum ≤ 8 := of_decide_eq_true hr
        cases g
        refine ⟨rfl, Nat.le_refl _, Nat.le_refl _, ?_⟩
        refine W.objInit hx hb hown (hts _ (sy_k_ok _ (m_fd hi))) (hts _ sy_kw.1) (hts _ sy_kc.1) rfl (by rw [hml]) rfl hd hF (by show 2 * 0 + _ + 12 ≤ _; omega) ?_
        exact kk _ _ hW
      · cases g
    · cases h
  case invokestatic i =>
    simp only [m_spc] at h
    split at h
    · next hi =>
      obtain ⟨a, sp, d, dp, n, r, rfl, g⟩ := m_cp_ok h; clear h
      split at g
      · next x y ha hy =>
        split at g
        · next hq =>
          cases g
          obtain ⟨a1, a2, a3, a4, a5, a6, a7, a8, a9⟩ := hq
          exact ⟨rfl, Nat.le_refl _, Nat.le_refl _, m_okCopy hx hb hml hown hts hE hW hF hL hi ha hy a1 a2 a3 a4 a5 a6 a7 a8 a9 hd kk⟩
        · cases g
      · cases g
    · next hi =>
      obtain ⟨x, y, r, rfl, g⟩ := m_ii_ok h; clear h
      split at g
      · next hr =>
        cases g
        have hr : (r.map fun v => v.category).sum ≤ 8 := of_decide_eq_true hr
        exact ⟨rfl, Nat.le_refl _, Nat.le_refl _, va_mmax hx hb hml hown (hts _ (sy_k_ok _ (m_fd hi))) (hts _ sy_kw.2.2.2.2.2.1) (hts _ sy_kw.2.2.2.2.1) (hts _ sy_kc.2.1) hF (by omega) hc hs hd (kk _ _ hW)⟩
      · cases g
    · next hi =>
      obtain ⟨x, y, r, rfl, g⟩ := m_ii_ok h; clear h
      split at g
      · next hr =>
        cases g
        have hr : (r.map fun v => v.category).sum ≤ 8 := of_decide_eq_true hr
        exact ⟨rfl, Nat.le_refl _, Nat.le_refl _, va_mmin hx hb hml hown (hts _ (sy_k_ok _ (m_fd hi))) (hts _ sy_kw.2.2.2.2.2.2.1) (hts _ sy_kw.2.2.2.2.1) (hts _ sy_kc.2.2.1) hF (by omega) hc hs hd (kk _ _ hW)⟩
      · cases g
    · next hi =>
      obtain ⟨x, y, r, rfl, g⟩ := m_ll_ok h; clear h
      split at g
      · next hr =>
        cases g
        have hr : (r.map fun v => v.category).sum ≤ 8 := of_decide_eq_true hr
        exact ⟨rfl, Nat.le_refl _, Nat.le_refl _, va_mmin_long hx hb hml hown (hts _ (sy_k_ok _ (m_fd hi))) (hts _ sy_kw.2.2.2.2.2.2.2) (hts _ sy_kw.2.2.2.2.1) (hts _ sy_kc.2.2.2) hF (by omega) hc hs hd (kk _ _ hW)⟩
      · cases g
    · cases h
  case invokevirtual i =>
    simp only [m_spc] at h
    split at h
    · next hi =>
      obtain ⟨a, r, rfl, g⟩ := m_r_ok h; clear h
      split at g
      · next x hx' =>
        split at g
        · next hq =>
          cases g
          have e1 : (m_new M x).1 - M0.1 = M.1 - M0.1 + 1 := by show M.1 + 1 - M0.1 = _; omega
          have e2 : (m_new M x).2.1 - M0.2.1 = M.2.1 - M0.2.1 + x.2.1 := by show M.2.1 + x.2.1 - M0.2.1 = _; omega
          rw [e1] at hc kk; rw [e2] at hs kk
          exact ⟨rfl, Nat.le_succ _, Nat.le_add_right _ _, m_okClone hx hb hml hown hts hE hW hF hL hi hx' hq.1 hq.2 hc hs hd (fun H' w => kk H' _ w)⟩
        · cases g
      · cases g
    · cases h
  case checkcast i =>
    simp only [m_spc] at h
    split at h
    · next hi =>
      obtain ⟨rfl, rfl⟩ := hi
      obtain ⟨a, r, rfl, g⟩ := m_r_ok h; clear h
      split at g
      · next x hx' =>
        split at g
        · next hk =>
          cases g
          refine ⟨rfl, Nat.le_refl _, Nat.le_refl _, ?_⟩
          rcases hW.at hx' with ⟨q0, -⟩ | ⟨q0, cA, q1, q2, q3⟩
          · omega
          have hty : m_ty (x.1 - 1000) = .int := by rw [hk]; rfl
          have hnm : s.vm.findClass "[I" = some cA := by have := q2.2.1; rw [hty] at this; exact this
          intro T hT X0
          obtain ⟨vm', X', st⟩ := X0.checkcastYes hx hown (hts _ sy_kl.2.2.2.2) (by rw [hT]; exact q1) rfl hnm (va_asg _ _) (g := F0 m pc ls (.ref a :: r)) rfl rfl (by rw [hb]; exact hd)
          obtain ⟨t, a1, b1⟩ := kk _ _ hW (T.setVm vm') hT X'
          exact ⟨t, st t a1, b1⟩
        · cases g
      · cases g
    · cases h
  all_goals cases h
end
