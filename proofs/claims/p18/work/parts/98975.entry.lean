/-! THE CLAIM OUT OF A PURE STATEMENT: if the pure machine answers 1 for the law on every script, within the room, the law's walk stands. -/
noncomputable def m_tw (n : String) (vs : List Int32) : List Cond := Cond.arrayOf (.static "GlassBox" n "[I") .int :: Cond.eq (.length (.static "GlassBox" n "[I")) (.int (Int32.ofNat vs.length)) :: (List.range vs.length).map (fun j => Cond.eq (.elem (.static "GlassBox" n "[I") (.int (Int32.ofNat j))) (.int (vs.getD j 0)))
set_option maxRecDepth 100000 in
theorem m_tw_in : ∀ q ∈ sy_si.zip sy_vals, ∀ w ∈ m_tw q.1.2.1 q.2, w ∈ flatC (Jvm.Cond.and given_1 narrow_1) := by decide +kernel
set_option maxRecDepth 100000 in
theorem m_tz_in : ∀ q ∈ sy_si, q.1 = "GlassBox" ∧ q.2.2 = "[I" ∧ Cond.laysStatic q.1 q.2.1 q.2.2 ∈ lw_tbl := by decide +kernel
noncomputable def sy_nf (q : Nat × Nat × Nat × Nat) : Bool := match sy_sj[q.2.2.1]? with
  | some z => if q.2.2.2 = 1 then decide (Cond.fieldLinkNest (sy_cn q.1) q.2.1 z.1 z.2.1 z.2.2 RX10 ∈ lw_tbl) else true
  | none => true
set_option maxRecDepth 100000 in
theorem sy_nf_all : sy_sx.all sy_nf = true := by decide +kernel
noncomputable def sy_nq (q : Nat × Nat × Nat × Nat × Nat) : Bool := if q.2.2.1 < 3 then true else match sy_m[q.2.2.2.1]? with
  | some t => decide (Cond.methodLinkNest (sy_cn q.1) q.2.1 t.2.1 RX10 ∈ lw_tbl)
  | none => true
set_option maxRecDepth 100000 in
theorem sy_nq_all : sy_c.all sy_nq = true := by decide +kernel
set_option maxRecDepth 100000 in
theorem sy_over : Cond.arrayOver (.object RX8) ∈ lw_tbl ∧ Cond.arrayOver (.object RX3) ∈ lw_tbl ∧ Cond.arrayOver (.array .long) ∈ lw_tbl ∧ Cond.castable "[I" "java/lang/Cloneable" ∈ lw_tbl ∧ Cond.initialized "GlassBox" ∈ lw_tbl := by decide +kernel
noncomputable def m_kt : Term := .string RX4 90
noncomputable def m_kv : Term := .field m_kt "java/lang/String" "value" "[B"
noncomputable def m_kw : List Cond := Cond.exactly m_kt "java/lang/String" :: Cond.eq (.field m_kt "java/lang/String" "coder" "B") (.int 0) :: Cond.arrayOf m_kv .byte :: Cond.eq (.length m_kv) (.int (Int32.ofNat 104)) :: Cond.eq (.static "java/lang/String" "COMPACT_STRINGS" "Z") (.int 1) :: Cond.isRef (.static "jdk/internal/util/Preconditions" "SIOOBE_FORMATTER" "Ljava/util/function/BiFunction;") :: (List.range 104).map (fun j => Cond.eq (.elem m_kv (.int (Int32.ofNat j))) (.int (sy_str.getD j 0)))
set_option maxRecDepth 100000 in
theorem m_kw_in : ∀ w ∈ m_kw, w ∈ flatC (Jvm.Cond.and given_1 narrow_1) := by decide +kernel
set_option maxRecDepth 100000 in
theorem m_kl_in : Cond.stringRef RX4 90 "wait say open drop guess mend if or and not known over held head done likely left second who wrong load " ∈ lw_tbl ∧ Cond.laysStatic "java/lang/String" "COMPACT_STRINGS" "Z" ∈ lw_tbl ∧ Cond.laysStatic "jdk/internal/util/Preconditions" "SIOOBE_FORMATTER" "Ljava/util/function/BiFunction;" ∈ lw_tbl ∧ Cond.initialized "java/lang/String" ∈ lw_tbl ∧ Cond.initialized "jdk/internal/util/Preconditions" ∈ lw_tbl := by decide +kernel
noncomputable def t_law : mT := (12, yL_law, code, 4, ret)
/-- the cells that are given -/
noncomputable def m_XP (base : Nat) (s : State) (a : Nat) (x : mC) : Prop := a < base ∧ (x.1 = 1000 ∨ x.1 = 1003) ∧ x.2.1 < 2 ^ 31 ∧ va_T (m_ty (x.1 - 1000)) a x.2.1 x.2.2 (fun q => base ≤ q) s s.heap ∧ ∀ j, j < x.2.1 → fits (m_ty (x.1 - 1000)) (x.2.2 j) = true
noncomputable def m_X (base : Nat) (s : State) (a : Nat) : Option mC := @dite _ (∃ x, m_XP base s a x) (Classical.propDecidable _) (fun h => some (Classical.choose h)) (fun _ => none)
theorem m_X_ok {base : Nat} {s : State} {a : Nat} {x : mC} (h : m_X base s a = some x) : m_XP base s a x := by
  unfold m_X at h
  split at h
  · next q => rw [← Option.some.inj h]; exact Classical.choose_spec q
  · cases h
set_option maxRecDepth 100000 in
theorem m_X_of {base : Nat} {s : State} {a kd N : Nat} {f : Nat → Value} (h : m_XP base s a (kd, N, f)) : ∃ g : Nat → Value, m_X base s a = some (kd, N, g) ∧ ∀ j, j < N → g j = f j := by
  have hx : ∃ x, m_XP base s a x := ⟨_, h⟩
  have e : m_X base s a = some (Classical.choose hx) := by unfold m_X; rw [dif_pos hx]
  have q := Classical.choose_spec hx
  generalize Classical.choose hx = x at e q
  obtain ⟨h0, hkd, hN, ⟨cell, h1, h2, h3, h4, h5, h6, h7⟩, h8⟩ := h
  obtain ⟨q0, q1, q2, ⟨cell', g1, g2, g3, g4, g5, g6, g7⟩, q8⟩ := q
  cases h1.symm.trans g1
  have hn : x.2.1 = N := (nI_eq q2 hN).mp (g5.symm.trans h5)
  have hty : m_ty (x.1 - 1000) = m_ty (kd - 1000) := by
    obtain ⟨-, k1, hk1, c1, hc1⟩ := h2
    obtain ⟨-, k2, hk2, c2, hc2⟩ := g2
    cases hk1.symm.trans hk2
    have := hc1.symm.trans hc2
    injection this with _ e2
    exact e2.symm
  have hk : x.1 = kd := by
    have hkd' : kd = 1000 ∨ kd = 1003 := hkd
    rcases q1 with q1 | q1 <;> rcases hkd' with hkd' | hkd' <;> rw [q1, hkd'] at hty ⊢ <;> cases hty
  refine ⟨x.2.2, ?_, fun j hj => ?_⟩
  · rw [e, ← hk, ← hn]
  · exact Option.some.inj ((g6 j (by omega)).symm.trans (h6 j hj))
/-- statics, the String's address, its bytes' -/
noncomputable def m_G (s : State) (b u v : Nat) (g : Nat) : Value := if g = 9 then .ref u else if g = 10 then .ref v else match sy_sj[g]? with
  | some q => ((Term.static q.1 q.2.1 q.2.2).eval #[Value.ref b] s none [] s).getD .null
  | none => .null
/-- the pure statement -/
noncomputable def m_Goal : Prop := ∀ (base : Nat) (X : Nat → Option mC) (G : Nat → Value) (b L : Nat) (xs : Nat → Int32), L ≤ 3072 → b < base → (∃ f : Nat → Value, X b = some (1000, L, f) ∧ ∀ j, j < L → f j = .int (xs j)) → (∀ (g : Nat) (vs : List Int32), sy_vals[g]? = some vs → ∃ (u : Nat) (f : Nat → Value), G g = .ref u ∧ u < base ∧ X u = some (1000, vs.length, f) ∧ ∀ j, j < vs.length → f j = .int (vs.getD j 0)) → G 7 = .int 1 → (G 8 = .null ∨ ∃ u, G 8 = .ref u) → (∃ (u v : Nat) (f : Nat → Value), G 9 = .ref u ∧ u < base ∧ G 10 = .ref v ∧ v < base ∧ X v = some (1003, 104, f) ∧ ∀ j, j < 104 → f j = .int (sy_str.getD j 0)) →
  ∃ (n d : Nat) (M' : mH), d ≤ 1300 ∧ m_run base X G n d t_law 0 (lv_args 0 [.ref b]) [] (0, 0, fun _ => (0, 0, fun _ => .null)) = some (some (.int 1), M') ∧ M'.1 ≤ 600000 ∧ M'.2.1 ≤ 7302250
theorem m_table {s : State} {b : Nat} (hgv : (Jvm.Cond.and given_1 narrow_1).before #[Value.ref b] s = true) {g : Nat} {q : String × String × String} {vs : List Int32} (hq : sy_si[g]? = some q) (hv : sy_vals[g]? = some vs) : ∃ u : Nat, (Term.static q.1 q.2.1 q.2.2).eval #[Value.ref b] s none [] s = some (.ref u) ∧ va_T .int u vs.length (fun j => .int (vs.getD j 0)) (fun q => s.heap.size ≤ q) s s.heap := by
  have hm : (q, vs) ∈ sy_si.zip sy_vals := by
    refine List.mem_of_getElem? (i := g) ?_
    rw [List.getElem?_zip_eq_some]
    exact ⟨hq, hv⟩
  have hw := m_tw_in _ hm
  have hs := flat_of_before _ hgv
  obtain ⟨e1, e2, -⟩ := m_tz_in q (List.mem_of_getElem? hq)
  have hlen : vs.length < 2 ^ 31 := by
    have key : ∀ vs ∈ sy_vals, vs.length < 2 ^ 31 := by decide
    exact key vs (List.mem_of_getElem? hv)
  rw [e1, e2]
  refine va_Tof (f := fun j => Value.int (vs.getD j 0)) hlen (hs _ (hw _ ?_)) (va_eqt (hs _ (hw _ ?_))) (fun j hj => va_eqt (hs _ (hw _ ?_))) (fun a ha q => absurd ha (Nat.not_lt.mpr q))
  · exact List.mem_cons_self
  · exact List.mem_cons_of_mem _ List.mem_cons_self
  · exact List.mem_cons_of_mem _ (List.mem_cons_of_mem _ (List.mem_map.mpr ⟨j, List.mem_range.mpr hj, rfl⟩))
theorem m_sbn {s u : State} {L : List Loc} {k n k' n' : Nat} (h : s.sameButNew u L k n) (hL : ∀ q ∈ L, s.heap.size ≤ q.base) (hk : k ≤ k') (hn : n ≤ n') : s.sameButNew u [] k' n' := by
  obtain ⟨h1, h2, h3, h4, h5, h6⟩ := h
  refine ⟨h1, h2, by omega, h4, by omega, fun a c hc => ?_⟩
  obtain ⟨c', g1, g2, g3, g4⟩ := h6 a c hc
  refine ⟨c', g1, g2, g3, fun i _ => g4 i fun hm => ?_⟩
  have := hL _ hm
  have hlt : a < s.heap.size := (Array.getElem?_eq_some_iff.mp hc).1
  exact absurd hlt (Nat.not_lt.mpr this)
/-- the String constant, and the JDK's two statics -/
theorem m_strs {s : State} {b : Nat} (hts : ∀ w ∈ lw_tbl, w.before #[Value.ref b] s = true) (hgv : (Jvm.Cond.and given_1 narrow_1).before #[Value.ref b] s = true) : ∃ u v : Nat, m_St s.heap.size (m_G s b u v) s s.heap ∧ va_T .byte v 104 (fun j => .int (sy_str.getD j 0)) (fun q => s.heap.size ≤ q) s s.heap ∧ u < s.heap.size := by
  have hs := fun w (hw : w ∈ m_kw) => flat_of_before _ hgv w (m_kw_in w hw)
  obtain ⟨adK, adV, hS, hev⟩ := vk_Sof (N := 1) (tm := fun _ => m_kt) (len := [104]) (byt := [sy_str]) (A := fun q => s.heap.size ≤ q) (args := #[Value.ref b]) (s := s) (fun i hi => by
      have : i = 0 := by omega
      subst this; show 104 < 2 ^ 31; decide)
    (fun i _ => hs _ List.mem_cons_self) (fun i _ => hs _ (List.mem_cons_of_mem _ List.mem_cons_self)) (fun i _ => hs _ (List.mem_cons_of_mem _ (List.mem_cons_of_mem _ List.mem_cons_self)))
    (fun i hi => by
      have : i = 0 := by omega
      subst this; exact hs _ (List.mem_cons_of_mem _ (List.mem_cons_of_mem _ (List.mem_cons_of_mem _ List.mem_cons_self))))
    (fun i hi j hj => by
      have : i = 0 := by omega
      subst this
      exact hs _ (List.mem_cons_of_mem _ (List.mem_cons_of_mem _ (List.mem_cons_of_mem _ (List.mem_cons_of_mem _ (List.mem_cons_of_mem _ (List.mem_cons_of_mem _ (List.mem_map.mpr ⟨j, List.mem_range.mpr hj, rfl⟩))))))))
    (fun i j hi hj hne => absurd (by omega : i = j) hne) (fun a ha q => absurd ha (Nat.not_lt.mpr q))
  obtain ⟨k1, k2, k3, k4⟩ := hS.1 0 (by omega)
  have hst : (Cond.stringRef RX4 90 "wait say open drop guess mend if or and not known over held head done likely left second who wrong load ").before #[Value.ref b] s = true := hts _ m_kl_in.1
  have hR : vk_R RX4 90 "wait say open drop guess mend if or and not known over held head done likely left second who wrong load " (adK 0) s := vk_R.of (A := #[Value.ref b]) hst (hev 0 (by omega))
  exact ⟨adK 0, adV 0, ⟨_, adK 0, adV 0, rfl, rfl, hR, k1, k3, k2⟩, k4, by obtain ⟨cell, g1, -⟩ := k1; exact (Array.getElem?_eq_some_iff.mp g1).1⟩
theorem m_sj {g : Nat} {q : String × String × String} (h : sy_sj[g]? = some q) : (g < 7 ∧ sy_si[g]? = some q) ∨ (g = 7 ∧ q = ("java/lang/String", "COMPACT_STRINGS", "Z")) ∨ (g = 8 ∧ q = ("jdk/internal/util/Preconditions", "SIOOBE_FORMATTER", "Ljava/util/function/BiFunction;")) := by
  have hl : g < 9 := (List.getElem?_eq_some_iff.mp h).1
  match g, hl, h with
  | 0, _, h => exact Or.inl ⟨by omega, h⟩
  | 1, _, h => exact Or.inl ⟨by omega, h⟩
  | 2, _, h => exact Or.inl ⟨by omega, h⟩
  | 3, _, h => exact Or.inl ⟨by omega, h⟩
  | 4, _, h => exact Or.inl ⟨by omega, h⟩
  | 5, _, h => exact Or.inl ⟨by omega, h⟩
  | 6, _, h => exact Or.inl ⟨by omega, h⟩
  | 7, _, h => exact Or.inr (Or.inl ⟨rfl, (Option.some.inj h).symm⟩)
  | 8, _, h => exact Or.inr (Or.inr ⟨rfl, (Option.some.inj h).symm⟩)
theorem m_G_st {s : State} {b u v g : Nat} {q : String × String × String} {w : Value} (hg : g < 9) (hq : sy_sj[g]? = some q) (hw : (Term.static q.1 q.2.1 q.2.2).eval #[Value.ref b] s none [] s = some w) : m_G s b u v g = w := by
  unfold m_G
  rw [if_neg (by omega), if_neg (by omega), hq]
  simp only
  rw [hw]
  rfl
set_option maxHeartbeats 2000000 in
theorem m_env {s : State} {b u v : Nat} (hts : ∀ w ∈ lw_tbl, w.before #[Value.ref b] s = true) (hgv : (Jvm.Cond.and given_1 narrow_1).before #[Value.ref b] s = true) (hst : m_St s.heap.size (m_G s b u v) s s.heap) : ∃ D : va_G, m_E s.heap.size (m_X s.heap.size s) (m_G s b u v) D s s.heap := by
  have htw : ∀ w ∈ wsL_law, w.before #[Value.ref b] s = true := fun w hw => hts w (sy_good w hw).1
  have hcls : ∀ c : Nat, ∃ (cC : ClassId) (iS : Nat → Nat), ∀ q : vw_C, vwCl[c]? = some q → u_Kn s q.1 q.2.1 q.2.2 cC iS := by
    intro c
    cases hc : vwCl[c]? with
    | none => exact ⟨0, fun _ => 0, fun q h => by cases h⟩
    | some q =>
      have hin : ∃ o i, m_nw o i = some c := by
        have hlt := m_cl_lt hc
        have key : ∀ c, c < 11 → ∃ o i, m_nw o i = some c := by
          intro c hc
          match c, hc with
          | 0, _ => exact ⟨10, 67, rfl⟩
          | 1, _ => exact ⟨10, 77, rfl⟩
          | 2, _ => exact ⟨10, 91, rfl⟩
          | 3, _ => exact ⟨4, 60, rfl⟩
          | 4, _ => exact ⟨10, 34, rfl⟩
          | 5, _ => exact ⟨10, 84, rfl⟩
          | 6, _ => exact ⟨10, 48, rfl⟩
          | 7, _ => exact ⟨10, 7, rfl⟩
          | 8, _ => exact ⟨10, 41, rfl⟩
          | 9, _ => exact ⟨12, 7, rfl⟩
          | 10, _ => exact ⟨12, 10, rfl⟩
          | n + 11, h => omega
        exact key c hlt
      obtain ⟨o, i, hn⟩ := hin
      obtain ⟨r, hr, -, hi, -⟩ := sy_n_in hn
      cases hc.symm.trans hr
      obtain ⟨cC, iS, hK⟩ := u_known (C := q.1) (T := q.2.1) (N := q.2.2) (n := q.2.2) htw (sy_lay _ _ hc) (htw _ hi)
      exact ⟨cC, iS, fun q' h => by cases h; exact hK⟩
  refine ⟨(fun c => Classical.choose (hcls c), fun c => Classical.choose (Classical.choose_spec (hcls c))), ?_, ?_, ?_, ?_, ?_, va_AO.of (hts _ sy_over.1), va_AO.of (hts _ sy_over.2.1), hts _ sy_over.2.2.1, va_Nw.of rfl (hts _ sy_over.2.2.2.1), hst⟩
  · intro c q hq
    exact Classical.choose_spec (Classical.choose_spec (hcls c)) q hq
  · intro a x hx
    obtain ⟨h1, h2, h3, h4, h5⟩ := m_X_ok hx
    exact ⟨h1, by omega, h4, h5⟩
  · intro g q hq
    have hA : ∀ a : Nat, a < s.heap.size → ¬ s.heap.size ≤ a := fun a ha q => absurd ha (Nat.not_lt.mpr q)
    have hs := fun w (hw : w ∈ m_kw) => flat_of_before _ hgv w (m_kw_in w hw)
    rcases m_sj hq with ⟨hlt, hq'⟩ | ⟨rfl, rfl⟩ | ⟨rfl, rfl⟩
    · have hl : g < sy_vals.length := hlt
      obtain ⟨w, hu, -⟩ := m_table hgv hq' (List.getElem?_eq_getElem hl)
      rw [m_G_st (by omega) hq hu]
      obtain ⟨e1, e2, e3⟩ := m_tz_in q (List.mem_of_getElem? hq')
      refine va_Zref (hts _ e3) ?_ hu hA
      rw [e1]
      exact hts _ sy_over.2.2.2.2
    · have hv := va_eqi (hs _ (List.mem_cons_of_mem _ (List.mem_cons_of_mem _ (List.mem_cons_of_mem _ (List.mem_cons_of_mem _ List.mem_cons_self)))))
      rw [m_G_st (by omega) hq hv]
      exact va_Zof (hts _ m_kl_in.2.1) (hts _ m_kl_in.2.2.2.1) hv hA
    · have hr := hs _ (List.mem_cons_of_mem _ (List.mem_cons_of_mem _ (List.mem_cons_of_mem _ (List.mem_cons_of_mem _ (List.mem_cons_of_mem _ List.mem_cons_self)))))
      obtain ⟨w, hw, -⟩ := Cond.isRef_spec hr
      rw [m_G_st (by omega) hq hw]
      exact va_Zof (hts _ m_kl_in.2.2.1) (hts _ m_kl_in.2.2.2.2) hw hA
  · intro q hq z hz hn
    have := List.all_eq_true.mp sy_nf_all q hq
    unfold sy_nf at this
    rw [hz] at this
    simp only at this
    rw [if_pos hn] at this
    exact va_Nw.of rfl (hts _ (of_decide_eq_true this))
  · intro q hq t ht hn
    have := List.all_eq_true.mp sy_nq_all q hq
    unfold sy_nq at this
    rw [if_neg (by omega), ht] at this
    exact va_Nw.of rfl (hts _ (of_decide_eq_true this))
set_option maxRecDepth 100000 in
set_option maxHeartbeats 2000000 in
theorem whole_from (hgoal : m_Goal) {p : Program} {e : Env} {s : State} {m : MethodId} {below : List Frame} {meth : Method} {c : Code} (l : Launch) {b L : Nat} {xs : Nat → Int32} (hL : L ≤ 3072) (C0 : lw_At p s m meth c b L xs) : W p l e room_1 s m #[Value.ref b] below meth c s.heap [] 0 0 (lw_Z below #[Value.ref b] s) (entryFrame m ([Value.ref b] : List Value).toArray 4) := by
  obtain ⟨hx, hb, hr, hml, hown, hts, hX, hbl, hlocks, hgv⟩ := id C0
  obtain ⟨ku, kv, hSt, hSv, hku⟩ := m_strs hts hgv
  obtain ⟨D, hE⟩ := m_env hts hgv hSt
  have hscr : ∃ f : Nat → Value, m_X s.heap.size s b = some (1000, L, f) ∧ ∀ j, j < L → f j = .int (xs j) := by
    obtain ⟨scr, h1, h2, h3, h4, h5⟩ := hX
    obtain ⟨f, e1, e2⟩ := m_X_of (base := s.heap.size) (s := s) (a := b) (kd := 1000) (N := L) (f := fun j => .int (xs j)) ⟨hbl, Or.inl rfl, by show L < 2 ^ 31; omega, ⟨scr, h1, h2, h3, by rw [h4]; exact Nat.le_refl _, by rw [h4], h5, Nat.not_le.mpr hbl⟩, fun j _ => rfl⟩
    exact ⟨f, e1, e2⟩
  have htab : ∀ (g : Nat) (vs : List Int32), sy_vals[g]? = some vs → ∃ (u : Nat) (f : Nat → Value), m_G s b ku kv g = .ref u ∧ u < s.heap.size ∧ m_X s.heap.size s u = some (1000, vs.length, f) ∧ ∀ j, j < vs.length → f j = .int (vs.getD j 0) := by
    intro g vs hv
    have hl : g < sy_si.length := (List.getElem?_eq_some_iff.mp hv).1
    have hq : sy_si[g]? = some sy_si[g] := List.getElem?_eq_getElem hl
    obtain ⟨u, hu, hT⟩ := m_table hgv hq hv
    have hlt7 : g < 7 := hl
    have hq9 : sy_sj[g]? = some sy_si[g] := by unfold sy_sj; rw [List.getElem?_append_left hl]; exact hq
    have hG : m_G s b ku kv g = .ref u := m_G_st (by omega) hq9 hu
    have hlen : vs.length < 2 ^ 31 := by
      have key : ∀ vs ∈ sy_vals, vs.length < 2 ^ 31 := by decide
      exact key vs (List.mem_of_getElem? hv)
    have hlt : u < s.heap.size := by obtain ⟨cell, h1, -⟩ := hT; exact (Array.getElem?_eq_some_iff.mp h1).1
    obtain ⟨f, e1, e2⟩ := m_X_of (base := s.heap.size) (s := s) (a := u) (kd := 1000) (N := vs.length) (f := fun j => .int (vs.getD j 0)) ⟨hlt, Or.inl rfl, hlen, hT, fun j _ => rfl⟩
    exact ⟨u, f, hG, hlt, e1, e2⟩
  have hsk := fun w (hw : w ∈ m_kw) => flat_of_before _ hgv w (m_kw_in w hw)
  have h7 : m_G s b ku kv 7 = .int 1 := m_G_st (by omega) (q := ("java/lang/String", "COMPACT_STRINGS", "Z")) rfl (va_eqi (hsk _ (List.mem_cons_of_mem _ (List.mem_cons_of_mem _ (List.mem_cons_of_mem _ (List.mem_cons_of_mem _ List.mem_cons_self))))))
  have h8 : m_G s b ku kv 8 = .null ∨ ∃ w, m_G s b ku kv 8 = .ref w := by
    have hr := hsk _ (List.mem_cons_of_mem _ (List.mem_cons_of_mem _ (List.mem_cons_of_mem _ (List.mem_cons_of_mem _ (List.mem_cons_of_mem _ List.mem_cons_self)))))
    have hZ : va_Zq "jdk/internal/util/Preconditions" "SIOOBE_FORMATTER" "Ljava/util/function/BiFunction;" (fun q => s.heap.size ≤ q) s s.heap := va_Zqof (hts _ m_kl_in.2.2.1) (hts _ m_kl_in.2.2.2.2) hr (fun a ha q => absurd ha (Nat.not_lt.mpr q))
    cases hv : (Term.static "jdk/internal/util/Preconditions" "SIOOBE_FORMATTER" "Ljava/util/function/BiFunction;").eval #[Value.ref b] s none [] s with
    | none => simp [Cond.before, Cond.holds, Cond.value, hv] at hr
    | some w =>
      have hG := m_G_st (s := s) (b := b) (u := ku) (v := kv) (g := 8) (by omega) (q := ("jdk/internal/util/Preconditions", "SIOOBE_FORMATTER", "Ljava/util/function/BiFunction;")) rfl hv
      simp only [Cond.before, Cond.holds, Cond.value, hv] at hr
      cases w with
      | null => exact Or.inl hG
      | ref w => exact Or.inr ⟨w, hG⟩
      | _ => simp at hr
  have h9 : ∃ (u v : Nat) (f : Nat → Value), m_G s b ku kv 9 = .ref u ∧ u < s.heap.size ∧ m_G s b ku kv 10 = .ref v ∧ v < s.heap.size ∧ m_X s.heap.size s v = some (1003, 104, f) ∧ ∀ j, j < 104 → f j = .int (sy_str.getD j 0) := by
    have hkv : kv < s.heap.size := by obtain ⟨cell, g1, -⟩ := hSv; exact (Array.getElem?_eq_some_iff.mp g1).1
    have hfit : ∀ j, j < 104 → fits .byte (.int (sy_str.getD j 0)) = true := by decide
    obtain ⟨f, e1, e2⟩ := m_X_of (base := s.heap.size) (s := s) (a := kv) (kd := 1003) (N := 104) (f := fun j => .int (sy_str.getD j 0)) ⟨hkv, Or.inr rfl, by show 104 < 2 ^ 31; decide, hSv, hfit⟩
    exact ⟨ku, kv, f, rfl, hku, rfl, hkv, e1, e2⟩
  obtain ⟨n, d, M', hd, hrun, hc, hs⟩ := hgoal s.heap.size (m_X s.heap.size s) (m_G s b ku kv) b L xs hL hbl hscr htab h7 h8 h9
  obtain ⟨-, hgo⟩ := m_walk l s.heap.size (m_X s.heap.size s) (m_G s b ku kv) D n d t_law 0 (lv_args 0 [.ref b]) [] (0, 0, fun _ => (0, 0, fun _ => .null)) (some (.int 1)) M' hrun
  have hl := lv_entry [.ref b] (n := 4) (Nat.le_of_ble_eq_true rfl)
  rw [lg_entry_eq]
  have htw : ∀ w ∈ wsL_law, w.before #[Value.ref b] s = true := fun w hw => hts w (sy_good w hw).1
  have hw := hgo p e room_1 s m #[Value.ref b] below meth c s.heap [] _ (0, 0, fun _ => (0, 0, fun _ => .null)) ⟨hx, hb, hml, hr, hlocks, (fun q => absurd q (by decide)), hown, htw, hE⟩ ⟨rfl, fun k hk => absurd hk (Nat.not_lt_zero k), va_S.rf, Nat.le_refl _⟩ hl ⟨Nat.le_refl _, Nat.le_refl _⟩ (by show d + 1 ≤ 2048; omega) (by show 64 * (d + 1) ≤ 84000; omega) (by show M'.1 - 0 ≤ 600000; omega) (by show M'.2.1 - 0 ≤ 7302250; omega)
  intro T hT X0
  obtain ⟨u, a1, o, b1, b2, hQ, LL, hFE, hLL⟩ := hw T hT X0
  refine ⟨u, a1, o, b1, b2, hQ.1, ?_⟩
  obtain ⟨f1, f2, f3⟩ := hFE
  exact ⟨f1, f2, m_sbn f3 hLL (by show M'.1 - 0 ≤ 600000; omega) (by show M'.2.1 - 0 ≤ 7302250; omega)⟩
