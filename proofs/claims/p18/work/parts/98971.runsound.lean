/-! The run is the machine's: what m_run answers, the method does. -/
noncomputable def sy_mc (t : Nat × MethodName × ByteArray × Nat × Option FieldType) : Bool := decide (sy_cn t.1 = t.2.1.cls) && plainFor t.2.1 && decide (t.2.1.cls ≠ "java/lang/invoke/MethodHandle") && decide (t.2.1.cls ≠ "java/lang/invoke/VarHandle")
set_option maxRecDepth 100000 in
theorem sy_m_all : sy_m.all sy_mc = true := by decide +kernel
noncomputable def sy_cc (q : Nat × Nat × Nat × Nat × Nat) : Bool := match sy_m[q.2.2.2.1]? with
  | some t => decide ((parseMethodDescriptor t.2.1.desc).map (fun d => d.parameters.length) = some q.2.2.2.2) && (if q.2.2.1 = 1 ∨ q.2.2.1 = 4 then decide (sy_mk[q.2.2.2.1]? = some 1) else if q.2.2.1 = 2 ∨ q.2.2.1 = 5 then decide (sy_mk[q.2.2.2.1]? = some 2) && decide (t.2.1.name = "<init>") && decide (t.2.2.2.2 = none) else decide (sy_mk[q.2.2.2.1]? = some 0))
  | none => false
set_option maxRecDepth 100000 in
theorem sy_c_all : sy_c.all sy_cc = true := by decide +kernel
theorem sy_mi_of {k : Nat} {t : Nat × MethodName × ByteArray × Nat × Option FieldType} (h : sy_m[k]? = some t) : k ∈ sy_mi := by
  have h1 := (List.getElem?_eq_some_iff.mp h).1
  have h2 : sy_m.length = 281 := by decide +kernel
  exact List.mem_range.mpr (by omega)
/-- a method's words: its code, and all -/
noncomputable def m_ws (t : mT) : List Cond := .code t.2.1 t.2.2.1 t.2.2.2.1 t.2.2.2.2 :: wsL_law
theorem m_good {ws : List Cond} (h : ∀ w ∈ ws, w ∈ wsL_law) : GoodIn wsL_law ws := fun w hw => ⟨h w hw, (sy_good w (h w hw)).2⟩
theorem m_ws_in {k : Nat} {t : mT} (h : sy_m[k]? = some t) : ∀ w ∈ m_ws t, w ∈ wsL_law := by
  intro w hw
  rcases List.mem_cons.mp hw with rfl | hw
  · exact sy_t1 (sy_mi_of h) (by unfold sy_w1; rw [h])
  · exact hw
/-- what a method's caller must give, and what it gets -/
noncomputable def m_Cs (D : va_G) (base : Nat) (U : State) (H : Heap) (M : mH) : Prop := H.size = base + M.1 ∧ ∀ k, k < M.1 → m_ce D U H (base + k) (M.2.2 k)
noncomputable def m_P (base : Nat) (X : Nat → Option mC) (G : Nat → Value) (D : va_G) (vs : List Value) (M : mH) : Array Value → State → Prop := fun v U => v = vs.toArray ∧ m_E base X G D U U.heap ∧ m_Cs D base U U.heap M
noncomputable def m_Q (base : Nat) (D : va_G) (r : Option Value) (M : mH) : Array Value → State → Outcome → State → Prop := fun _ st oc t => oc = .returned r ∧ m_Cs D base t t.heap M ∧ va_F (fun q => base ≤ q) st t
theorem m_E.same {base : Nat} {X : Nat → Option mC} {G : Nat → Value} {D : va_G} {s U : State} {H : Heap} (h : m_E base X G D s H) (e : s.vm = U.vm) : m_E base X G D U H := by
  have al : s.vm.Alike U.vm := by rw [e]; exact Vm.Alike.refl _
  obtain ⟨h1, h2, h3, h4, h5, h6, h7, h8, h9, h10⟩ := h
  exact ⟨fun c q k => u_Kn_moved al (h1 c q k), fun a x k => ⟨(h2 a x k).1, (h2 a x k).2.1, (h2 a x k).2.2.1.moved al, (h2 a x k).2.2.2⟩, fun g q k => (h3 g q k).moved al, fun q m z k j => va_Nw.same rfl e (h4 q m z k j), fun q m t k j => va_Nw.same rfl e (h5 q m t k j), h6.moved al, h7.moved al, h8.moved al, va_Nw.same rfl e h9, h10.same e⟩
theorem m_P.blind {base : Nat} {X : Nat → Option mC} {G : Nat → Value} {D : va_G} {vs : List Value} {M : mH} : FrameBlind (m_P base X G D vs M) := by
  intro a U g mk h
  exact ⟨h.1, h.2.1.same rfl, h.2.2.1, fun k hk => (h.2.2.2 k hk).moved (U := U.calling g mk a) (Vm.Alike.refl U.vm)⟩
noncomputable def m_Cx (base : Nat) (X : Nat → Option mC) (G : Nat → Value) (D : va_G) (t : mT) (p : Program) (s : State) (m : MethodId) (args : Array Value) (meth : Method) (c : Code) : Prop := p.tables.exec = Jvm.exec ∧ c.code = t.2.2.1 ∧ c.maxLocals = t.2.2.2.1 ∧ meth.sig.returnType = t.2.2.2.2 ∧ meth.locks = false ∧ (t.2.1.name = "<init>" → meth.name = "<init>") ∧ s.vm.findClass (sy_cn t.1) = some m.cls ∧ (∀ w ∈ wsL_law, w.before args s = true) ∧ m_E base X G D s s.heap
/-- a run's word: the frame at pc comes to the method's end, with what the run answers -/
noncomputable def m_Go (l : Launch) (base : Nat) (X : Nat → Option mC) (G : Nat → Value) (D : va_G) (d : Nat) (t : mT) (pc : Nat) (lv : mL) (st : List Value) (M : mH) (r : Option Value) (M' : mH) : Prop :=
  ∀ (p : Program) (e : Env) (R : Room) (s : State) (m : MethodId) (args : Array Value) (below : List Frame) (meth : Method) (c : Code) (H : Heap) (locs : List Loc) (ls : Array Slot) (M0 : mH), m_Cx base X G D t p s m args meth c → m_Wd D base s H M locs → lv_has ls t.2.2.2.1 lv → M0.1 ≤ M.1 ∧ M0.2.1 ≤ M.2.1 → d + 1 ≤ R.frames → 64 * (d + 1) ≤ R.locals → M'.1 - M0.1 ≤ R.cells → M'.2.1 - M0.2.1 ≤ R.slots →
    W p l e R s m args below meth c H locs (M.1 - M0.1) (M.2.1 - M0.2.1) (MQ below (m_Q base D r M') args s (M'.1 - M0.1) (M'.2.1 - M0.2.1) (fun q => base ≤ q)) (F0 m pc ls st)
noncomputable def m_rm (d cells slots : Nat) : Room := { frames := d + 1, cells := cells, slots := slots, locals := 64 * (d + 1) }
set_option maxHeartbeats 1000000 in
theorem m_met {l : Launch} {base : Nat} {X : Nat → Option mC} {G : Nat → Value} {D : va_G} {d k : Nat} {t : mT} {vs : List Value} {M M' : mH} {r : Option Value} (ht : sy_m[k]? = some t) (hvs : (lg_sl vs).length ≤ t.2.2.2.1) (hg : m_Go l base X G D d t 0 (lv_args 0 vs) [] M r M') : Met l t.2.1 (m_ws t) (m_rm d (M'.1 - M.1) (M'.2.1 - M.2.1)) (m_P base X G D vs M) (m_Q base D r M') (M'.1 - M.1) (M'.2.1 - M.2.1) (fun q => base ≤ q) := by
  have hm := List.all_eq_true.mp sy_m_all _ (List.mem_of_getElem? ht)
  unfold sy_mc at hm
  simp only [Bool.and_eq_true, decide_eq_true_eq] at hm
  refine va_MetF (cc := t.2.2.1) (maxL := t.2.2.2.1) (ret := t.2.2.2.2) hm.1.1.2 rfl ?_
  intro p e s m args below meth c s₁ B hml hv
  obtain ⟨rfl, hE, hC⟩ := hv
  have hts := atoms_spec (ws := m_ws t) B.pre
  have hl := lv_entry vs (n := t.2.2.2.1) hvs
  rw [lg_entry_eq]
  have hown : s.vm.findClass (sy_cn t.1) = some m.cls := by rw [hm.1.1.1]; exact findClass_of_methodNamed B.named
  have h := hg p e (m_rm d (M'.1 - M.1) (M'.2.1 - M.2.1)) s m vs.toArray below meth c s.heap [] _ M ⟨B.exec, B.bytes, hml, B.returns, B.notSynchronized, (fun q => by rw [(name_of_methodNamed B.named B.method).1]; exact q), hown, fun w hw => hts w (List.mem_cons_of_mem _ hw), hE⟩ ⟨hC.1, hC.2, va_S.rf, by rw [hC.1]; exact Nat.le_add_right _ _⟩ hl ⟨Nat.le_refl _, Nat.le_refl _⟩ (Nat.le_refl _) (Nat.le_refl _) (Nat.le_refl _) (Nat.le_refl _)
  rw [Nat.sub_self, Nat.sub_self] at h
  exact h
