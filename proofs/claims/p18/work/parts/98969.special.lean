noncomputable def sy_kn (w : Nat) : MethodName := match w with
  | 0 => objectInit
  | 1 => arraycopyName
  | 2 => Lib.Math.max.name
  | 3 => Lib.Math.min.name
  | 4 => Lib.MathLoose.min_long.x
  | _ => ⟨"[I", "clone", "()Ljava/lang/Object;"⟩
set_option maxRecDepth 100000 in
theorem sy_k_ok : ∀ q ∈ sy_k, Cond.methodLink (sy_cn q.1) q.2.1 (sy_kn q.2.2) ∈ wsL_law := by decide +kernel
set_option maxRecDepth 100000 in
theorem sy_kw : Cond.instanceMethod objectInit ∈ wsL_law ∧ Cond.native arraycopyName ∈ wsL_law ∧ Cond.static arraycopyName ∈ wsL_law ∧ Cond.initialized "java/lang/System" ∈ wsL_law ∧ Cond.initialized "java/lang/Math" ∈ wsL_law ∧ Cond.static Lib.Math.max.name ∈ wsL_law ∧ Cond.static Lib.Math.min.name ∈ wsL_law ∧ Cond.static Lib.MathLoose.min_long.x ∈ wsL_law := by decide +kernel
set_option maxRecDepth 100000 in
theorem sy_kc : Cond.code objectInit ⟨#[0xb1]⟩ 1 none ∈ wsL_law ∧ Cond.code Lib.Math.max.name Lib.Math.max.code 2 (some .int) ∈ wsL_law ∧ Cond.code Lib.Math.min.name Lib.Math.min.code 2 (some .int) ∈ wsL_law ∧ Cond.code Lib.MathLoose.min_long.x Lib.MathLoose.min_long.code 4 (some .long) ∈ wsL_law := by decide +kernel
set_option maxRecDepth 100000 in
theorem sy_kl : Cond.sameMethod "[I" "java/lang/Object" "clone" "()Ljava/lang/Object;" ∈ wsL_law ∧ Cond.native ⟨"java/lang/Object", "clone", "()Ljava/lang/Object;"⟩ ∈ wsL_law ∧ Cond.instanceMethod ⟨"java/lang/Object", "clone", "()Ljava/lang/Object;"⟩ ∈ wsL_law ∧ Cond.selects "[I" ⟨"[I", "clone", "()Ljava/lang/Object;"⟩ ⟨"java/lang/Object", "clone", "()Ljava/lang/Object;"⟩ ∈ wsL_law ∧ Cond.classLink RJ7 317 "[I" ∈ wsL_law := by decide +kernel
section
variable {p : Program} {l : Launch} {e : Env} {R : Room} {s : State} {m : MethodId} {args : Array Value} {below : List Frame} {meth : Method} {c : Code} {H : Heap} {locs : List Loc} {cells slots : Nat} {Q : State → Prop}
variable {cc : ByteArray} {o nL pc pc' : Nat} {ls : Array Slot} {lv lv' : mL} {st st' rest : List Value} {M M' M0 : mH} {ins : Instr} {base : Nat} {X : Nat → Option mC} {G : Nat → Value} {D : va_G}
theorem m_fitsAt (hE : m_E base X G D s s.heap) (hW : m_Wd D base s H M locs) {a : Nat} {x : mC} (ha : m_at base X M a = some x) (hk : 1000 ≤ x.1) : ∀ j, j < x.2.1 → fits (m_ty (x.1 - 1000)) (x.2.2 j) = true := by
  rcases m_at_ok ha with ⟨-, hX⟩ | ho
  · exact (hE.2.1 a x hX).2.2.2
  · rcases hW.at ho with ⟨h0, -⟩ | ⟨-, cA, -, -, h3⟩
    · omega
    · exact h3
theorem m_nn {z : Int32} (h : 0 ≤ z.toInt) : ¬ z < 0 ∧ z.toInt = (z.toNatClampNeg : Int) := by
  refine ⟨fun q => ?_, ?_⟩
  · have := Int32.lt_iff_toInt_lt.mp q
    simp at this
    omega
  · show z.toInt = ((z.toInt.toNat : Nat) : Int)
    omega
theorem m_prim {k : Nat} (h1 : 1000 ≤ k) (h2 : k ≤ 1003) {v : Value} (h : fits (m_ty (k - 1000)) v = true) : (∃ z, v = .int z) ∨ ∃ z, v = .long z := by
  have ht : ∃ ty : FieldType, m_ty (k - 1000) = ty ∧ (ty = .int ∨ ty = .long ∨ ty = .boolean ∨ ty = .byte) := by
    have : k - 1000 = 0 ∨ k - 1000 = 1 ∨ k - 1000 = 2 ∨ k - 1000 = 3 := by omega
    rcases this with q | q | q | q <;> rw [q]
    · exact ⟨_, rfl, Or.inl rfl⟩
    · exact ⟨_, rfl, Or.inr (Or.inl rfl)⟩
    · exact ⟨_, rfl, Or.inr (Or.inr (Or.inl rfl))⟩
    · exact ⟨_, rfl, Or.inr (Or.inr (Or.inr rfl))⟩
  obtain ⟨ty, e, q⟩ := ht
  rw [e] at h
  rcases q with rfl | rfl | rfl | rfl <;> cases v <;> first | exact Or.inl ⟨_, rfl⟩ | exact Or.inr ⟨_, rfl⟩ | cases h
set_option maxHeartbeats 2000000 in
theorem m_okCopy (hx : p.tables.exec = Jvm.exec) (hb : c.code = cc) (hml : c.maxLocals = ls.size) (hown : s.vm.findClass (sy_cn o) = some m.cls) (hts : ∀ w ∈ wsL_law, w.before args s = true) (hE : m_E base X G D s s.heap) (hW : m_Wd D base s H M locs) (hF : 1 ≤ R.frames) (hL : 64 ≤ R.locals) {i a d : Nat} {sp dp n : Int32} {x y : mC} (hi : m_sp o i = some 1) (ha : m_at base X M a = some x) (hy : m_own base M d = some y) (hk : x.1 = y.1) (hk1 : 1000 ≤ x.1) (hk2 : x.1 ≤ 1003) (h1 : 0 ≤ sp.toInt) (h2 : 0 ≤ dp.toInt) (h3 : 0 ≤ n.toInt) (h4 : sp.toInt + n.toInt ≤ x.2.1) (h5 : dp.toInt + n.toInt ≤ y.2.1) (hr : m_sm rest = true) (hd : decode cc pc = .ok (.invokestatic i, 3))
    (kk : ∀ (H' : Heap) (locs' : List Loc), m_Wd D base s H' (m_put base M d (y.1, y.2.1, va_cpy x.2.2 y.2.2 sp.toNatClampNeg dp.toNatClampNeg n.toNatClampNeg)) locs' → W p l e R s m args below meth c H' locs' cells slots Q (F0 m (pc + 3) ls rest)) : W p l e R s m args below meth c H locs cells slots Q (F0 m pc ls (.int n :: .int dp :: .ref d :: .int sp :: .ref a :: rest)) := by
  have hr : (rest.map fun v => v.category).sum ≤ 8 := of_decide_eq_true hr
  have hlk := hts _ (sy_k_ok _ (m_fd hi))
  obtain ⟨n1, n2⟩ := m_nn h1
  obtain ⟨d1, d2⟩ := m_nn h2
  obtain ⟨l1, l2⟩ := m_nn h3
  have hprim : refKind (m_ty (x.1 - 1000)) = false := by
    have : x.1 = 1000 ∨ x.1 = 1001 ∨ x.1 = 1002 ∨ x.1 = 1003 := by omega
    rcases this with q | q | q | q <;> rw [q] <;> rfl
  obtain ⟨cs, q1, q2, q3, q4, q5, q6⟩ := m_arr hE hW ha hk1
  have hfits := m_fitsAt hE hW ha hk1
  rcases hW.at hy with ⟨h0, -⟩ | ⟨h0, cB, g1, g2, g3⟩
  · omega
  · intro T hT X0
    obtain ⟨qs, k0, hk0, cm0, hkk0⟩ := q2
    obtain ⟨qd, k1, hk1', cm1, hkk1⟩ := g2.1 y.2.1 y.2.2
    rw [← hk] at hkk1
    have hxs : cs.slots.size = cs.slots.size := rfl
    obtain ⟨vm', X', step⟩ := X0.arraycopy hx hown hlk (hts _ sy_kw.2.1) (hts _ sy_kw.2.2.1) (hts _ sy_kw.2.2.2.1) (src := a) (dst := d) (cs := cs) (cd := arrV cB y.2.1 y.2.2) (srcPos := sp) (destPos := dp) (n := n) (by rw [hT]; exact q1) (by rw [hT]; exact g1)
      qs (fun _ h => by cases h) q3 (fun h => by cases h) hk0 hk1' hkk0 hkk1 (by simp [hprim]) n1 d1 l1
      (by omega)
      (by rw [arrV_size]; omega)
      (fun vm₁ _ j hj => by
        have e1 : cs.slots.getD (sp.toNatClampNeg + j) .null = x.2.2 (sp.toNatClampNeg + j) := by
          rw [Array.getD_eq_getD_getElem?, q6 _ (by omega)]
          rfl
        refine ⟨?_, ?_⟩
        · rw [e1]
          exact hfits _ (by omega)
        · rw [e1]
          rcases m_prim hk1 hk2 (hfits (sp.toNatClampNeg + j) (by omega)) with ⟨z, hz⟩ | ⟨z, hz⟩ <;> rw [hz] <;> trivial)
      (g := F0 m pc ls (.int n :: .int dp :: .ref d :: .int sp :: .ref a :: rest)) rfl (by rw [hml]) (rest := rest) rfl (by rw [hb]; exact hd) hF (by
        show 2 * 0 + _ + (nativeFrameWords "java/lang/System" "arraycopy" 5 + 11) ≤ _
        have : nativeFrameWords "java/lang/System" "arraycopy" 5 = 7 := by decide
        omega)
    have e1 : copied cs (arrV cB y.2.1 y.2.2) sp dp n = arrV cB y.2.1 (va_cpy x.2.2 y.2.2 sp.toNatClampNeg dp.toNatClampNeg n.toNatClampNeg) := va_copiedX (fun z => z) cs cB (n0 := x.2.1) x.2.2 y.2.2 q6 (by omega)
    rw [e1] at X' step
    have hl : d < H.size := (Array.getElem?_eq_some_iff.mp g1).1
    have hheap : ((T.setVm vm').setCell d (arrV cB y.2.1 (va_cpy x.2.2 y.2.2 sp.toNatClampNeg dp.toNatClampNeg n.toNatClampNeg))).heap = H.setIfInBounds d (arrV cB y.2.1 (va_cpy x.2.2 y.2.2 sp.toNatClampNeg dp.toNatClampNeg n.toNatClampNeg)) := by rw [← hT]; rfl
    obtain ⟨t, a1, b1⟩ := kk _ _ (hW.put hy (y := (y.1, y.2.1, va_cpy x.2.2 y.2.2 sp.toNatClampNeg dp.toNatClampNeg n.toNatClampNeg)) (H' := H.setIfInBounds d (arrV cB y.2.1 (va_cpy x.2.2 y.2.2 sp.toNatClampNeg dp.toNatClampNeg n.toNatClampNeg))) (by simp) (fun q hq => by simp [Array.getElem?_setIfInBounds, Ne.symm hq]) (Or.inr ⟨h0, cB, by simp [Array.getElem?_setIfInBounds, hl], g2, fun j hj => by
        show fits _ (va_cpy x.2.2 y.2.2 sp.toNatClampNeg dp.toNatClampNeg n.toNatClampNeg j) = true
        unfold va_cpy
        split
        · rw [← hk]; exact hfits _ (by omega)
        · exact g3 j hj⟩) (fun q hq => by
        obtain ⟨z, -, hz⟩ := List.mem_map.mp hq
        rw [← hz])) _ hheap X'
    exact ⟨t, step t a1, b1⟩
end
