/-! Cells are made; statics; lengths. -/
noncomputable def sy_nc (q : Nat × Nat × Nat) : Bool := match vwCl[q.2.2]? with
  | some r => decide (Cond.classLink (sy_cn q.1) q.2.1 r.1 ∈ wsL_law) && decide (Cond.instantiable r.1 r.2.2 ∈ wsL_law) && decide (Cond.initialized r.1 ∈ wsL_law)
  | none => false
set_option maxRecDepth 100000 in
theorem sy_n_all : sy_n.all sy_nc = true := by decide +kernel
theorem sy_n_in {o i ci : Nat} (h : m_nw o i = some ci) : ∃ r : vw_C, vwCl[ci]? = some r ∧ Cond.classLink (sy_cn o) i r.1 ∈ wsL_law ∧ Cond.instantiable r.1 r.2.2 ∈ wsL_law ∧ Cond.initialized r.1 ∈ wsL_law := by
  have hm : (o, i, ci) ∈ sy_n := m_fd h
  have h1 := List.all_eq_true.mp sy_n_all _ hm
  unfold sy_nc at h1
  split at h1
  · next r hr =>
    simp only [Bool.and_eq_true, decide_eq_true_eq] at h1
    exact ⟨r, hr, h1.1.1, h1.1.2, h1.2⟩
  · cases h1
set_option maxRecDepth 100000 in
theorem sy_arr : Cond.arrayClass .int ∈ wsL_law ∧ Cond.arrayClass .long ∈ wsL_law ∧ Cond.arrayClass .boolean ∈ wsL_law ∧ Cond.arrayClass .byte ∈ wsL_law := by decide +kernel
set_option maxRecDepth 100000 in
theorem sy_ani : Cond.classLink RX7 11 "[J" ∈ wsL_law ∧ Cond.classLink RX10 7 RX8 ∈ wsL_law ∧ Cond.classLink RX8 46 RX3 ∈ wsL_law := by decide +kernel
noncomputable def sy_sc (q : Nat × Nat × Nat × Nat) : Bool := match sy_sj[q.2.2.1]? with
  | some z => if q.2.2.2 = 1 then true else decide (Cond.fieldLink (sy_cn q.1) q.2.1 z.1 z.2.1 z.2.2 ∈ wsL_law)
  | none => false
set_option maxRecDepth 100000 in
theorem sy_s_all : sy_sx.all sy_sc = true := by decide +kernel
section
variable {p : Program} {l : Launch} {e : Env} {R : Room} {s : State} {m : MethodId} {args : Array Value} {below : List Frame} {meth : Method} {c : Code} {H : Heap} {locs : List Loc} {cells slots : Nat} {Q : State → Prop}
variable {cc : ByteArray} {o pc : Nat} {ls : Array Slot} {rest : List Value} {M : mH} {base : Nat} {X : Nat → Option mC} {G : Nat → Value} {D : va_G}
theorem m_okNew (hx : p.tables.exec = Jvm.exec) (hb : c.code = cc) (hown : s.vm.findClass (sy_cn o) = some m.cls) (hts : ∀ w ∈ wsL_law, w.before args s = true) (hE : m_E base X G D s s.heap) (hW : m_Wd D base s H M locs) {i ci : Nat} (hn : m_nw o i = some ci) (hcells : cells + 1 ≤ R.cells) (hslots : slots + m_cnt ci ≤ R.slots) (hd : decode cc pc = .ok (.new i, 3))
    (kk : ∀ H' : Heap, m_Wd D base s H' (m_new M (ci, m_cnt ci, m_dflt ci)) locs → W p l e R s m args below meth c H' locs (cells + 1) (slots + m_cnt ci) Q (F0 m (pc + 3) ls (.ref (base + M.1) :: rest))) : W p l e R s m args below meth c H locs cells slots Q (F0 m pc ls rest) := by
  obtain ⟨r, hc, h1, h2, h3⟩ := sy_n_in hn
  have hcnt : m_cnt ci = r.2.2 := by unfold m_cnt; rw [hc]
  rw [hcnt] at hslots kk
  have hKn := hE.1 ci r hc
  obtain ⟨ty, hty⟩ := sy_ty _ _ hc
  refine W.newcK hx hb hown (hts _ h1) (hts _ h2) (hts _ h3) rfl hd hcells hslots hKn.2.1 hW.1 fun H1 kC hkC e1 z1 o1 => kk H1 ?_
  have hz : H1.size = H.size + 1 := by rw [z1, hW.1]
  refine hW.new hz (fun q hq => o1 q (by rw [← hW.1]; exact hq)) (Or.inl ⟨?_, r, hc, rfl, ?_⟩)
  · have := m_cl_lt hc
    show ci < 1000
    omega
  · rw [hW.1]
    refine (u_born ty hts (sy_lay _ _ hc) hKn hkC e1 hty).to fun k hk => ?_
    show defaultValue (ty k) = m_dflt ci k
    unfold m_dflt m_fty
    rw [hc]
    simp only
    rw [if_pos hk, hty k hk]
theorem m_okNewa (hx : p.tables.exec = Jvm.exec) (hb : c.code = cc) (hts : ∀ w ∈ wsL_law, w.before args s = true) (hW : m_Wd D base s H M locs) {t : ArrayType} {kd : Nat} {n : Int32} (hk : m_nk t = some kd) (hn : 0 ≤ n.toInt ∧ n.toInt ≤ 1000000) (hcells : cells + 1 ≤ R.cells) (hslots : slots + n.toNatClampNeg ≤ R.slots) (hd : decode cc pc = .ok (.newarray t, 2))
    (kk : ∀ H' : Heap, m_Wd D base s H' (m_new M (kd, n.toNatClampNeg, fun _ => defaultValue (newarray.typeOf t))) locs → W p l e R s m args below meth c H' locs (cells + 1) (slots + n.toNatClampNeg) Q (F0 m (pc + 2) ls (.ref (base + M.1) :: rest))) : W p l e R s m args below meth c H locs cells slots Q (F0 m pc ls (.int n :: rest)) := by
  have hpos : ¬ n < 0 := fun q => by
    have := Int32.lt_iff_toInt_lt.mp q
    simp at this
    omega
  have hlim : n.toNatClampNeg ≤ 1000000 := by show n.toInt.toNat ≤ 1000000; omega
  have hty : 1000 ≤ kd ∧ newarray.typeOf t = m_ty (kd - 1000) ∧ Cond.arrayClass (newarray.typeOf t) ∈ wsL_law ∧ componentBytes (newarray.typeOf t) ≤ 8 ∧ (∀ C, newarray.typeOf t ≠ .object C) ∧ (∀ C, newarray.typeOf t ≠ .array C) ∧ fits (newarray.typeOf t) (defaultValue (newarray.typeOf t)) = true := by
    cases t <;> cases hk
    · exact ⟨by decide, rfl, sy_arr.2.2.1, by decide, (fun C h => by cases h), (fun C h => by cases h), rfl⟩
    · exact ⟨by decide, rfl, sy_arr.2.2.2, by decide, (fun C h => by cases h), (fun C h => by cases h), rfl⟩
    · exact ⟨by decide, rfl, sy_arr.1, by decide, (fun C h => by cases h), (fun C h => by cases h), rfl⟩
    · exact ⟨by decide, rfl, sy_arr.2.1, by decide, (fun C h => by cases h), (fun C h => by cases h), rfl⟩
  obtain ⟨t1, t2, t3, t4, t5, t6, t7⟩ := hty
  refine va_newaK hx hb (hts _ t3) rfl hd rfl hpos rfl (by
    have := Nat.mul_le_mul hlim t4
    omega) hcells hslots hW.1 fun H1 cA e1 z1 o1 hAr hNm => kk H1 ?_
  refine hW.new (by rw [z1, hW.1]) (fun q hq => o1 q (by rw [← hW.1]; exact hq)) (Or.inr ⟨t1, cA, by rw [hW.1]; exact e1, ?_, fun j _ => ?_⟩)
  · show m_RA s cA (m_ty (kd - 1000))
    rw [← t2]
    obtain ⟨-, kA, hkA, comp, hkind⟩ := hAr 0 (fun _ => .null)
    exact ⟨hAr, hNm, kA, comp, hkA, hkind, fun C q => absurd q (t5 C), fun C q => absurd q (t6 C)⟩
  · show fits (m_ty (kd - 1000)) (defaultValue (newarray.typeOf t)) = true
    rw [← t2]
    exact t7
theorem m_okAnew (hx : p.tables.exec = Jvm.exec) (hb : c.code = cc) (hown : s.vm.findClass (sy_cn o) = some m.cls) (hts : ∀ w ∈ wsL_law, w.before args s = true) (hE : m_E base X G D s s.heap) (hW : m_Wd D base s H M locs) {i kd : Nat} {n : Int32} (hk : m_an o i = some kd) (hn : 0 ≤ n.toInt ∧ n.toInt ≤ 1000000) (hcells : cells + 1 ≤ R.cells) (hslots : slots + n.toNatClampNeg ≤ R.slots) (hd : decode cc pc = .ok (.anewarray i, 3))
    (kk : ∀ H' : Heap, m_Wd D base s H' (m_new M (kd, n.toNatClampNeg, fun _ => .null)) locs → W p l e R s m args below meth c H' locs (cells + 1) (slots + n.toNatClampNeg) Q (F0 m (pc + 3) ls (.ref (base + M.1) :: rest))) : W p l e R s m args below meth c H locs cells slots Q (F0 m pc ls (.int n :: rest)) := by
  have hpos : ¬ n < 0 := fun q => by
    have := Int32.lt_iff_toInt_lt.mp q
    simp at this
    omega
  have hlim : n.toNatClampNeg * 4 ≤ 536870912 := by
    have : n.toNatClampNeg ≤ 1000000 := by show n.toInt.toNat ≤ 1000000; omega
    omega
  have fin : ∀ (ty : FieldType) (cA : ClassId) (kA : Class) (comp : ClassId), 1000 ≤ kd → ty = m_ty (kd - 1000) → fits ty .null = true → s.vm.findClass ("[" ++ ty.toString) = some cA → s.vm.classes[cA]? = some kA → kA.kind = .array comp ty → (∀ C, ty = .object C → s.vm.findClass C = some comp) → (∀ t, ty = .array t → s.vm.findClass (FieldType.array t).toString = some comp) → W p l e R s m args below meth c (H.push { cls := cA, slots := Array.replicate n.toNatClampNeg .null, vm := .none }) locs (cells + 1) (slots + n.toNatClampNeg) Q (F0 m (pc + 3) ls (.ref H.size :: rest)) := by
    intro ty cA kA comp t1 t2 t3 f1 f2 f3 f4 f5
    rw [hW.1]
    refine kk _ (hW.new (by rw [Array.size_push]) (fun q hq => by rw [Array.getElem?_push, if_neg (Nat.ne_of_lt hq)]) (Or.inr ⟨t1, cA, by rw [Array.getElem?_push_size, ← arrV_new], ?_, fun j _ => ?_⟩))
    · show m_RA s cA (m_ty (kd - 1000))
      rw [← t2]
      exact ⟨fun N z => ⟨(fun k h => by cases h), kA, f2, comp, f3⟩, f1, kA, comp, f2, f3, f4, f5⟩
    · show fits (m_ty (kd - 1000)) .null = true
      rw [← t2]
      exact t3
  unfold m_an at hk
  split at hk
  · cases hk
    exact W.anewA (own := RX7) (t := .long) hx hb hown (hts _ sy_ani.1) hE.2.2.2.2.2.2.2.1 rfl hd rfl hpos hlim hcells hslots fun cA kA comp f1 f2 f3 f4 => fin (.array .long) cA kA comp (by decide) rfl rfl f1 f2 f3 (fun C q => by cases q) (fun t q => by cases q; exact f4)
  · cases hk
    exact W.anew (own := RX10) (C := RX8) hx hb hown (hts _ sy_ani.2.1) hE.2.2.2.2.2.1 rfl hd rfl hpos hlim hcells hslots fun cA kA comp f1 f2 f3 f4 => fin (.object RX8) cA kA comp (by decide) rfl rfl f1 f2 f3 (fun C q => by cases q; exact f4) (fun t q => by cases q)
  · cases hk
    exact W.anew (own := RX8) (C := RX3) hx hb hown (hts _ sy_ani.2.2) hE.2.2.2.2.2.2.1 rfl hd rfl hpos hlim hcells hslots fun cA kA comp f1 f2 f3 f4 => fin (.object RX3) cA kA comp (by decide) rfl rfl f1 f2 f3 (fun C q => by cases q; exact f4) (fun t q => by cases q)
  · cases hk
theorem m_okStat (hx : p.tables.exec = Jvm.exec) (hb : c.code = cc) (hown : s.vm.findClass (sy_cn o) = some m.cls) (hts : ∀ w ∈ wsL_law, w.before args s = true) (hE : m_E base X G D s s.heap) (hW : m_Wd D base s H M locs) {i g : Nat} (hg : m_st o i = some g) (hd : decode cc pc = .ok (.getstatic i, 3))
    (kk : W p l e R s m args below meth c H locs cells slots Q (F0 m (pc + 3) ls (G g :: rest))) : W p l e R s m args below meth c H locs cells slots Q (F0 m pc ls rest) := by
  unfold m_st at hg
  cases hq : sy_sx.find? (fun q => q.1 == o && q.2.1 == i) with
  | none => rw [hq] at hg; cases hg
  | some q =>
    rw [hq] at hg
    have hm := List.mem_of_find?_eq_some hq
    have hp := List.find?_some hq
    simp only [Bool.and_eq_true, beq_iff_eq] at hp
    obtain ⟨a, b, g', nst⟩ := q
    simp only at hp
    obtain ⟨rfl, rfl⟩ := hp
    simp only [Option.map_some, Option.some.injEq] at hg
    subst hg
    have h1 := List.all_eq_true.mp sy_s_all _ hm
    unfold sy_sc at h1
    split at h1
    · next z hz =>
      have hZ := hE.2.2.1 _ z hz
      split at h1
      · next hn => exact va_getsN hx hb hZ hW.2.2.1 hown (va_Nw.use rfl (hE.2.2.2.1 _ hm z hz hn)) (fun _ h => h) hd kk
      · exact va_gets hx hb hZ hW.2.2.1 hown (hts _ (of_decide_eq_true h1)) (fun _ h => h) hd kk
    · cases h1
end
