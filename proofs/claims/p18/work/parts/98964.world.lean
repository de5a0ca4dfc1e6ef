/-! How the pure heap lies in the machine's heap. -/
/-- an array class, as the tables have it -/
noncomputable def m_RA (U : State) (cA : ClassId) (ty : FieldType) : Prop := ArrOfT U cA ty ∧ U.vm.findClass ("[" ++ ty.toString) = some cA ∧ ∃ (kA : Class) (comp : ClassId), U.vm.classes[cA]? = some kA ∧ kA.kind = .array comp ty ∧ (∀ C, ty = .object C → U.vm.findClass C = some comp) ∧ ∀ t, ty = .array t → U.vm.findClass (FieldType.array t).toString = some comp
theorem m_RA.moved {u U : State} {cA : ClassId} {ty : FieldType} (hvm : u.vm.Alike U.vm) (h : m_RA u cA ty) : m_RA U cA ty := by
  obtain ⟨h1, h2, kA, comp, h3, h4, h5, h6⟩ := h
  obtain ⟨k', hk', he⟩ := hvm.2.2 _ _ h3
  exact ⟨arrOfT_moved hvm h1, by rw [hvm.findClass]; exact h2, k', comp, hk', by rw [he]; exact h4, fun C q => by rw [hvm.findClass]; exact h5 C q, fun t q => by rw [hvm.findClass]; exact h6 t q⟩
noncomputable def m_ce (D : va_G) (U : State) (H : Heap) (a : Nat) (x : mC) : Prop :=
  (x.1 < 1000 ∧ ∃ r : vw_C, vwCl[x.1]? = some r ∧ x.2.1 = r.2.2 ∧ t_OB a (D.1 x.1) r.2.2 (D.2 x.1) H x.2.2) ∨
  (1000 ≤ x.1 ∧ ∃ cA : ClassId, H[a]? = some (arrV cA x.2.1 x.2.2) ∧ m_RA U cA (m_ty (x.1 - 1000)) ∧ ∀ j, j < x.2.1 → fits (m_ty (x.1 - 1000)) (x.2.2 j) = true)
theorem m_ce.kept {D : va_G} {U : State} {H H' : Heap} {a : Nat} {x : mC} (h : m_ce D U H a x) (e : H'[a]? = H[a]?) : m_ce D U H' a x := by
  rcases h with ⟨h0, r, h1, h2, h3⟩ | ⟨h0, cA, h1, h2⟩
  · exact Or.inl ⟨h0, r, h1, h2, h3.kept e⟩
  · exact Or.inr ⟨h0, cA, by rw [e]; exact h1, h2⟩
theorem m_ce.moved {D : va_G} {u U : State} {H : Heap} {a : Nat} {x : mC} (hvm : u.vm.Alike U.vm) (h : m_ce D u H a x) : m_ce D U H a x := by
  rcases h with ⟨h0, r, h1, h2, h3⟩ | ⟨h0, cA, h1, h2, h3⟩
  · exact Or.inl ⟨h0, r, h1, h2, h3⟩
  · exact Or.inr ⟨h0, cA, h1, h2.moved hvm, h3⟩
/-- the pure heap M lies in H from base on; below base nothing has changed since the state s -/
noncomputable def m_Wd (D : va_G) (base : Nat) (s : State) (H : Heap) (M : mH) (locs : List Loc) : Prop := H.size = base + M.1 ∧ (∀ k, k < M.1 → m_ce D s H (base + k) (M.2.2 k)) ∧ va_S (fun q => base ≤ q) s.heap H locs ∧ base ≤ s.heap.size
theorem m_own_ok {base a : Nat} {M : mH} {x : mC} (h : m_own base M a = some x) : ∃ k, a = base + k ∧ k < M.1 ∧ x = M.2.2 k ∧ a - base = k := by
  unfold m_own at h
  split at h
  · cases h
  · split at h
    · next h1 h2 => exact ⟨a - base, by omega, h2, (Option.some.inj h).symm, rfl⟩
    · cases h
theorem m_Wd.at {D : va_G} {base : Nat} {s : State} {H : Heap} {M : mH} {locs : List Loc} (h : m_Wd D base s H M locs) {a : Nat} {x : mC} (ha : m_own base M a = some x) : m_ce D s H a x := by
  obtain ⟨k, rfl, hk, rfl, -⟩ := m_own_ok ha
  exact h.2.1 k hk
theorem m_Wd.put {D : va_G} {base : Nat} {s : State} {H H' : Heap} {M : mH} {locs L : List Loc} (h : m_Wd D base s H M locs) {a : Nat} {x y : mC} (ha : m_own base M a = some x) (e1 : H'.size = H.size) (e2 : ∀ q, q ≠ a → H'[q]? = H[q]?) (hy : m_ce D s H' a y) (hL : ∀ q ∈ L, q.base = a) : m_Wd D base s H' (m_put base M a y) (locs ++ L) := by
  obtain ⟨k, rfl, hk, -, hs⟩ := m_own_ok ha
  obtain ⟨h1, h2, h3, h4⟩ := h
  refine ⟨by rw [e1]; exact h1, fun j hj => ?_, ⟨by rw [e1]; exact h3.1, fun q g1 g2 => ?_, fun q hq => ?_⟩, h4⟩
  · show m_ce D s H' (base + j) (if j = base + k - base then y else M.2.2 j)
    rw [hs]
    split
    · next e => subst e; exact hy
    · next e => exact (h2 j hj).kept (e2 _ (by omega))
  · rw [e2 q (fun e => g2 (by omega))]
    exact h3.2.1 q g1 g2
  · rcases List.mem_append.mp hq with g | g
    · exact h3.2.2 q g
    · rw [hL q g]; exact Nat.le_add_right _ _
theorem m_Wd.new {D : va_G} {base : Nat} {s : State} {H H' : Heap} {M : mH} {locs : List Loc} (h : m_Wd D base s H M locs) {y : mC} (e1 : H'.size = H.size + 1) (e2 : ∀ q, q < H.size → H'[q]? = H[q]?) (hy : m_ce D s H' H.size y) : m_Wd D base s H' (m_new M y) locs := by
  obtain ⟨h1, h2, h3, h4⟩ := h
  refine ⟨by rw [e1, h1]; show base + M.1 + 1 = base + (M.1 + 1); omega, fun j hj => ?_, ⟨by rw [e1]; exact Nat.le_succ_of_le h3.1, fun q g1 g2 => ?_, h3.2.2⟩, h4⟩
  · show m_ce D s H' (base + j) (if j = M.1 then y else M.2.2 j)
    have hj' : j < M.1 + 1 := hj
    split
    · next e => subst e; rw [← h1]; exact hy
    · next e => exact (h2 j (by omega)).kept (e2 _ (by omega))
  · rw [e2 q (Nat.lt_of_lt_of_le g1 h3.1)]
    exact h3.2.1 q g1 g2
/-- arrays over arrays of long -/
noncomputable def m_AL (U : State) : Prop := (Cond.arrayOver (.array .long)).before #[] U = true
theorem m_AL_spec {U : State} (h : m_AL U) : ∃ comp c k, U.vm.findClass (FieldType.array .long).toString = some comp ∧ (U.vm.classes.findIdx? fun (x : Class) => match x.kind with | .array component _ => component == comp | _ => false) = some c ∧ U.vm.classes[c]? = some k ∧ k.kind = .array comp (.array .long) ∧ U.vm.findClass ("[" ++ (FieldType.array .long).toString) = some c := by
  simp only [m_AL, Cond.before, Cond.holds, Cond.value, beq_iff_eq] at h
  cases hc : U.vm.findClass (FieldType.array .long).toString with
  | none => simp [hc] at h
  | some comp =>
    simp only [hc, Option.bind_some, Option.bind_eq_some_iff, Option.map_eq_some_iff] at h
    obtain ⟨c, hi, k, hk, hb⟩ := h
    obtain ⟨hlt, hp, -⟩ := Array.findIdx?_eq_some_iff_getElem.mp hi
    have hkk : U.vm.classes[c] = k := (Array.getElem?_eq_some_iff.mp hk).2
    rw [hkk] at hp
    cases hkind : k.kind with
    | array component ty =>
      rw [hkind] at hb hp
      simp at hb hp
      exact ⟨comp, c, k, rfl, hi, hk, by rw [hkind, hp, hb.1], hb.2⟩
    | _ => rw [hkind] at hb; simp at hb
theorem m_AL.moved {u U : State} (hvm : u.vm.Alike U.vm) (h : m_AL u) : m_AL U := by
  obtain ⟨comp, c, k, h1, h2, h3, h4, h5⟩ := m_AL_spec h
  obtain ⟨k', hk', he⟩ := hvm.2.2 _ _ h3
  have hb : u.vm.bare = U.vm.bare := by first | exact hvm.bare_eq | exact hvm.bare_eq.symm
  have g1 := va_idx_bare u.vm comp
  have g2 := va_idx_bare U.vm comp
  rw [hb] at g1
  have hi : (U.vm.classes.findIdx? fun (x : Class) => match x.kind with | .array component _ => component == comp | _ => false) = some c := g2.symm.trans (g1.trans h2)
  have hkind : k'.kind = .array comp (.array .long) := by rw [he]; exact h4
  have f1 : U.vm.findClass (FieldType.array .long).toString = some comp := by rw [hvm.findClass]; exact h1
  have f2 : U.vm.findClass ("[" ++ (FieldType.array .long).toString) = some c := by rw [hvm.findClass]; exact h5
  unfold m_AL Cond.before Cond.holds
  simp only [Cond.value]
  rw [f1, Option.bind_some]
  refine (congrArg (fun o : Option Nat => (o.bind (fun c => (U.vm.classes[c]?).map fun (k : Class) => match k.kind with | .array _ ty => decide (ty = FieldType.array .long) && decide (U.vm.findClass ("[" ++ (FieldType.array .long).toString) = some c) | _ => false) == some true)) hi).trans ?_
  simp [hk', hkind, f2]
/-- the one String constant: its address G 9, its bytes' G 10 -/
noncomputable def m_St (base : Nat) (G : Nat → Value) (U : State) (H : Heap) : Prop := ∃ (tx : String) (a v : Nat), G 9 = .ref a ∧ G 10 = .ref v ∧ vk_R RX4 90 tx a U ∧ va_O "java/lang/String" a (fun q => base ≤ q) U H ∧ va_OF "java/lang/String" "value" "[B" (.ref v) a (fun q => base ≤ q) U H ∧ va_OF "java/lang/String" "coder" "B" (.int 0) a (fun q => base ≤ q) U H
theorem m_St.go {base : Nat} {G : Nat → Value} {s U : State} {H H' : Heap} (h : m_St base G s H) (hW : s.WarmedH U.vm) (hq : ∀ a : Nat, a < H.size → ¬ base ≤ a → H'[a]? = H[a]?) : m_St base G U H' := by
  obtain ⟨tx, a, v, h1, h2, h3, h4, h5, h6⟩ := h
  exact ⟨tx, a, v, h1, h2, h3.warm hW, (va_O.moved hW.alike h4).kept hq, (va_OF.moved hW.alike h5).kept hq, (va_OF.moved hW.alike h6).kept hq⟩
theorem m_St.same {base : Nat} {G : Nat → Value} {s U : State} {H : Heap} (h : m_St base G s H) (e : s.vm = U.vm) : m_St base G U H := by
  have al : s.vm.Alike U.vm := by rw [e]; exact Vm.Alike.refl _
  obtain ⟨tx, a, v, h1, h2, h3, h4, h5, h6⟩ := h
  exact ⟨tx, a, v, h1, h2, h3.same e.symm, va_O.moved al h4, va_OF.moved al h5, va_OF.moved al h6⟩
/-- what a method finds at its start, beside the pure heap -/
noncomputable def m_E (base : Nat) (X : Nat → Option mC) (G : Nat → Value) (D : va_G) (U : State) (H : Heap) : Prop :=
  (∀ (c : Nat) (q : vw_C), vwCl[c]? = some q → u_Kn U q.1 q.2.1 q.2.2 (D.1 c) (D.2 c)) ∧
  (∀ a x, X a = some x → a < base ∧ 1000 ≤ x.1 ∧ va_T (m_ty (x.1 - 1000)) a x.2.1 x.2.2 (fun q => base ≤ q) U H ∧ ∀ j, j < x.2.1 → fits (m_ty (x.1 - 1000)) (x.2.2 j) = true) ∧
  (∀ (g : Nat) (q : String × String × String), sy_sj[g]? = some q → va_Z q.1 q.2.1 q.2.2 (G g) (fun q => base ≤ q) U H) ∧
  (∀ q ∈ sy_sx, ∀ z : String × String × String, sy_sj[q.2.2.1]? = some z → q.2.2.2 = 1 → va_Nw (.fieldLinkNest (sy_cn q.1) q.2.1 z.1 z.2.1 z.2.2 RX10) U) ∧
  (∀ q ∈ sy_c, ∀ t : Nat × MethodName × ByteArray × Nat × Option FieldType, sy_m[q.2.2.2.1]? = some t → 3 ≤ q.2.2.1 → va_Nw (.methodLinkNest (sy_cn q.1) q.2.1 t.2.1 RX10) U) ∧
  va_AO RX8 U ∧ va_AO RX3 U ∧ m_AL U ∧ va_Nw (.castable "[I" "java/lang/Cloneable") U ∧ m_St base G U H
theorem m_E.go {base : Nat} {X : Nat → Option mC} {G : Nat → Value} {D : va_G} {s U : State} {H H' : Heap} (h : m_E base X G D s H) (hW : s.WarmedH U.vm) (hq : ∀ a : Nat, a < H.size → ¬ base ≤ a → H'[a]? = H[a]?) : m_E base X G D U H' := by
  obtain ⟨h1, h2, h3, h4, h5, h6, h7, h8, h9, h10⟩ := h
  exact ⟨fun c q e => u_Kn_moved hW.alike (h1 c q e), fun a x e => ⟨(h2 a x e).1, (h2 a x e).2.1, ((h2 a x e).2.2.1.moved hW.alike).kept hq, (h2 a x e).2.2.2⟩, fun g q e => ((h3 g q e).moved hW.alike).kept hq, fun q m z e k => va_Nw.warmF hW (h4 q m z e k), fun q m t e k => va_Nw.warmM hW (h5 q m t e k), h6.moved hW.alike, h7.moved hW.alike, h8.moved hW.alike, va_Nw.warmC hW h9, h10.go hW hq⟩
