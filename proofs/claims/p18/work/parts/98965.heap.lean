/-! Fields, arrays, new cells. -/
theorem m_cl_all {P : vw_C → Prop} (h0 : P (RX0, TX0, 7)) (h1 : P (RX1, TX1, 4)) (h2 : P (RX2, TX2, 2)) (h3 : P (RX3, TX3, 3)) (h4 : P (RX4, TX4, 11)) (h5 : P (RX5, TX5, 4)) (h6 : P (RX7, TX7, 5)) (h7 : P (RX8, TX8, 16)) (h8 : P (RX9, TX9, 18)) (h9 : P (RX10, TX10, 18)) (h10 : P (RX11, TX11, 59)) : ∀ (c : Nat) (q : vw_C), vwCl[c]? = some q → P q := by
  intro c q h
  have hm := List.mem_of_getElem? h
  simp only [vwCl, List.mem_cons, List.not_mem_nil, or_false] at hm
  rcases hm with rfl | rfl | rfl | rfl | rfl | rfl | rfl | rfl | rfl | rfl | rfl <;> assumption
theorem sy_lay : ∀ (c : Nat) (q : vw_C), vwCl[c]? = some q → ∀ w ∈ u_ws q.1 q.2.1 q.2.2, w ∈ wsL_law := m_cl_all inlX0 inlX1 inlX2 inlX3 inlX4 inlX5 inlX7 inlX8 inlX9 inlX10 inlX11
theorem sy_nm : ∀ (c : Nat) (q : vw_C), vwCl[c]? = some q → ∀ a, a < q.2.2 → ∀ b, b < q.2.2 → a ≠ b → (q.2.1 a).2.1 ≠ (q.2.1 b).2.1 := m_cl_all nmX0 nmX1 nmX2 nmX3 nmX4 nmX5 nmX7 nmX8 nmX9 nmX10 nmX11
theorem sy_ty : ∀ (c : Nat) (q : vw_C), vwCl[c]? = some q → ∃ ty : Nat → FieldType, ∀ k, k < q.2.2 → parseFieldDescriptor (q.2.1 k).2.2.1 = some (ty k) := m_cl_all ⟨_, tyX0_ok⟩ ⟨_, tyX1_ok⟩ ⟨_, tyX2_ok⟩ ⟨_, tyX3_ok⟩ ⟨_, tyX4_ok⟩ ⟨_, tyX5_ok⟩ ⟨_, tyX7_ok⟩ ⟨_, tyX8_ok⟩ ⟨_, tyX9_ok⟩ ⟨_, tyX10_ok⟩ ⟨_, tyX11_ok⟩
noncomputable def sy_fc (q : Nat × Nat × Nat × Nat) : Bool := match vwCl[q.2.2.1]? with
  | some r => decide (q.2.2.2 < r.2.2) && decide ((r.2.1 q.2.2.2).1 = r.1)
  | none => false
set_option maxRecDepth 100000 in
theorem sy_f_all : sy_f.all sy_fc = true := by decide +kernel
theorem m_cl_lt {ci : Nat} {r : vw_C} (h : vwCl[ci]? = some r) : ci < 11 := (List.getElem?_eq_some_iff.mp h).1
theorem sy_f_in {o i ci k : Nat} (h : m_fi o i = some (ci, k)) : ∃ r : vw_C, vwCl[ci]? = some r ∧ k < r.2.2 ∧ (r.2.1 k).1 = r.1 ∧ Cond.fieldLink (sy_cn o) i r.1 (r.2.1 k).2.1 (r.2.1 k).2.2.1 ∈ wsL_law := by
  have hm : (o, i, ci, k) ∈ sy_f := m_fd h
  have h1 := List.all_eq_true.mp sy_f_all _ hm
  unfold sy_fc at h1
  split at h1
  · next r hr =>
    simp only [Bool.and_eq_true, decide_eq_true_eq] at h1
    exact ⟨r, hr, h1.1, h1.2, sy_fok hm (by unfold sy_fw; simp only at hr ⊢; rw [hr])⟩
  · cases h1
theorem m_in_ok {i : Int32} {n : Nat} (h : m_in i n = true) : ¬ i < 0 ∧ i.toNatClampNeg < n := by
  unfold m_in at h
  simp only [Bool.and_eq_true, decide_eq_true_eq] at h
  refine ⟨fun q => ?_, ?_⟩
  · have := Int32.lt_iff_toInt_lt.mp q
    simp at this
    omega
  · show i.toInt.toNat < n
    omega
theorem m_ald_ok {base : Nat} {X : Nat → Option mC} {M : mH} {kd : Nat → Bool} {st : List Value} {k : Value → List Value → Option mR} {z : mR} (h : m_ald base X M kd st k = some z) : ∃ i a r x, st = .int i :: .ref a :: r ∧ m_at base X M a = some x ∧ kd x.1 = true ∧ m_in i x.2.1 = true ∧ k (x.2.2 i.toNatClampNeg) r = some z := by
  obtain ⟨i, a, r, rfl, g⟩ := m_ir_ok h
  clear h
  split at g
  · cases g
  · next x hx =>
    split at g
    · next q => exact ⟨i, a, r, x, rfl, hx, q.1, q.2, g⟩
    · cases g
theorem m_ast_ok {base : Nat} {M : mH} {kd : Nat → Bool} {ok : Nat → Value → Option Value} {st : List Value} {k : mH → List Value → Option mR} {z : mR} (h : m_ast base M kd ok st k = some z) : ∃ v i a r x w, st = v :: .int i :: .ref a :: r ∧ m_own base M a = some x ∧ ok x.1 v = some w ∧ kd x.1 = true ∧ m_in i x.2.1 = true ∧ k (m_put base M a (x.1, x.2.1, updV x.2.2 i.toNatClampNeg w)) r = some z := by
  obtain ⟨v, i, a, r, rfl, g⟩ := m_vir_ok h
  clear h
  split at g
  · cases g
  · next x hx =>
    split at g
    · cases g
    · next w hw =>
      split at g
      · next q => exact ⟨v, i, a, r, x, w, rfl, hx, hw, q.1, q.2, g⟩
      · cases g
theorem m_at_ok {base a : Nat} {X : Nat → Option mC} {M : mH} {x : mC} (h : m_at base X M a = some x) : (a < base ∧ X a = some x) ∨ m_own base M a = some x := by
  unfold m_at at h
  split at h
  · next q => exact Or.inl ⟨q, h⟩
  · next q => right; unfold m_own; rw [if_neg q]; exact h
section
variable {p : Program} {l : Launch} {e : Env} {R : Room} {s : State} {m : MethodId} {args : Array Value} {below : List Frame} {meth : Method} {c : Code} {H : Heap} {locs : List Loc} {cells slots : Nat} {Q : State → Prop}
variable {cc : ByteArray} {o pc : Nat} {ls : Array Slot} {rest : List Value} {M : mH} {base : Nat} {X : Nat → Option mC} {G : Nat → Value} {D : va_G}
/-- an array, made or given -/
theorem m_arr (hE : m_E base X G D s s.heap) (hW : m_Wd D base s H M locs) {a : Nat} {x : mC} (ha : m_at base X M a = some x) (hk : 1000 ≤ x.1) : ∃ cell : Cell, H[a]? = some cell ∧ s.isArrayOf cell (m_ty (x.1 - 1000)) ∧ cell.vm ≠ .unknown ∧ x.2.1 ≤ cell.slots.size ∧ cell.slots.size.toInt32 = Int32.ofNat x.2.1 ∧ ∀ j : Nat, j < x.2.1 → cell.slots[j]? = some (x.2.2 j) := by
  rcases m_at_ok ha with ⟨hb, hX⟩ | ho
  · obtain ⟨-, -, ⟨cell, h1, h2, h3, h4, h5, h6, h7⟩, -⟩ := hE.2.1 a x hX
    refine ⟨cell, ?_, h2, h3, h4, h5, h6⟩
    rw [hW.2.2.1.2.1 a (Array.getElem?_eq_some_iff.mp h1).1 h7]
    exact h1
  · rcases hW.at ho with ⟨h0, -⟩ | ⟨h0, cA, h1, h2, h3⟩
    · omega
    · refine ⟨_, h1, h2.1 _ _, (fun q => by cases q), ?_, ?_, (fun j hj => arrV_read _ _ hj)⟩
      · rw [arrV_size]; exact Nat.le_refl _
      · rw [arrV_size]
theorem m_okGet (hx : p.tables.exec = Jvm.exec) (hb : c.code = cc) (hown : s.vm.findClass (sy_cn o) = some m.cls) (hts : ∀ w ∈ wsL_law, w.before args s = true) (hE : m_E base X G D s s.heap) (hW : m_Wd D base s H M locs) {i ci k a : Nat} {x : mC} (hf : m_fi o i = some (ci, k)) (ha : m_own base M a = some x) (h1 : x.1 = ci) (hd : decode cc pc = .ok (.getfield i, 3))
    (kk : W p l e R s m args below meth c H locs cells slots Q (F0 m (pc + 3) ls (x.2.2 k :: rest))) : W p l e R s m args below meth c H locs cells slots Q (F0 m pc ls (.ref a :: rest)) := by
  obtain ⟨r, hc, hk, hT, hlk⟩ := sy_f_in hf
  subst h1
  rcases hW.at ha with ⟨h0, r', hc', hn, cell, q1, q2, q3, q4⟩ | ⟨h0, -⟩
  · cases hc.symm.trans hc'
    obtain ⟨hS, hfc, kC, hkC, hkind⟩ := hE.1 _ r hc
    obtain ⟨cf, kf, fi, f, hi, hsl⟩ := hS k hk
    refine W.getf hx hb hown (hts _ hlk) (by rw [← hT]; exact hi) (u_facts hfc hkC (u_lays hts (sy_lay _ _ hc) hk) hi).1 q1 (by rw [q3]; exact fun h => by cases h) (v := x.2.2 k) ?_ rfl rfl hd kk
    rw [hsl]
    exact q4 k hk
  · have := m_cl_lt hc
    omega
theorem m_oc_ok {o ci : Nat} {r : vw_C} (h : m_oc o = ci) (hc : vwCl[ci]? = some r) : sy_cn o = r.1 := by
  have hl := m_cl_lt hc
  have key : ∀ o, o < 12 → ∀ r : vw_C, vwCl[m_oc o]? = some r → sy_cn o = r.1 := by
    intro o ho r hr
    match o, ho, hr with
    | 0, _, hr => cases hr; rfl
    | 1, _, hr => cases hr; rfl
    | 2, _, hr => cases hr; rfl
    | 3, _, hr => cases hr; rfl
    | 4, _, hr => cases hr; rfl
    | 5, _, hr => cases hr; rfl
    | 6, _, hr => cases hr
    | 7, _, hr => cases hr; rfl
    | 8, _, hr => cases hr; rfl
    | 9, _, hr => cases hr; rfl
    | 10, _, hr => cases hr; rfl
    | 11, _, hr => cases hr; rfl
    | n + 12, q, _ => omega
  by_cases ho : o < 12
  · exact key o ho r (by rw [h]; exact hc)
  · have : m_oc o = 100 := by
      unfold m_oc
      rw [List.getD_eq_getElem?_getD, List.getElem?_eq_none (by show 12 ≤ o; omega)]
      rfl
    omega
set_option maxHeartbeats 1000000 in
theorem m_okPut (hx : p.tables.exec = Jvm.exec) (hb : c.code = cc) (hown : s.vm.findClass (sy_cn o) = some m.cls) (hts : ∀ w ∈ wsL_law, w.before args s = true) (hE : m_E base X G D s s.heap) (hW : m_Wd D base s H M locs) {i ci k a : Nat} {x : mC} {v : Value} {t : FieldType} {ini : Bool} (hini : ini = true → meth.name = "<init>") (hf : m_fi o i = some (ci, k)) (ha : m_own base M a = some x) (h1 : x.1 = ci) (ht : m_fty ci k = some t) (hn : narrow t v = v) (hfit : fits t v = true) (hfin : m_fin ci k = false ∨ (ini = true ∧ m_oc o = ci)) (hd : decode cc pc = .ok (.putfield i, 3))
    (kk : ∀ (H' : Heap) (locs' : List Loc), m_Wd D base s H' (m_put base M a (x.1, x.2.1, updV x.2.2 k v)) locs' → W p l e R s m args below meth c H' locs' cells slots Q (F0 m (pc + 3) ls rest)) : W p l e R s m args below meth c H locs cells slots Q (F0 m pc ls (v :: .ref a :: rest)) := by
  obtain ⟨r, hc, hk, hT, hlk⟩ := sy_f_in hf
  subst h1
  obtain ⟨ty, hty⟩ := sy_ty _ _ hc
  have hap := va_apart (own := "") (D := D) (cl := vwCl) (tys := []) (ci := x.1) hts (sy_lay _ _ hc) ty hty (sy_nm _ _ hc) ⟨hE.1, fun k q h => by simp at h⟩ hc
  have hdesc : parseFieldDescriptor (r.2.1 k).2.2.1 = some t := by
    unfold m_fty at ht
    rw [hc] at ht
    simp only at ht
    rw [if_pos hk] at ht
    exact ht
  have hfin' : m_fin x.1 k = (r.2.1 k).2.2.2 := by unfold m_fin; rw [hc]
  rcases hW.at ha with ⟨h0, r', hc', hN, cell, q1, q2, q3, q4⟩ | ⟨h0, -⟩
  · cases hc.symm.trans hc'
    obtain ⟨hS, hfc, kC, hkC, hkind⟩ := hE.1 _ r hc
    obtain ⟨cf, kf, fi, f, hi, hsl⟩ := hS k hk
    have hi' : s.fieldFound? r.1 (r.2.1 k).2.1 (r.2.1 k).2.2.1 = some (cf, kf, fi, f) := by rw [← hT]; exact hi
    have hst := (u_facts hfc hkC (u_lays hts (sy_lay _ _ hc) hk) hi).1
    have fin : ∀ H' : Heap, H'[a]? = some (cell.setSlot f.slot v) → H'.size = H.size → (∀ q, q ≠ a → H'[q]? = H[q]?) → W p l e R s m args below meth c H' (locs ++ [⟨a, f.slot⟩]) cells slots Q (F0 m (pc + 3) ls rest) := by
      intro H' e1 e2 e3
      refine kk H' _ (hW.put ha e2 e3 ?_ (fun q hq => by rw [List.mem_singleton.mp hq]))
      left
      rw [hsl] at e1
      exact ⟨h0, r, hc, hN, _, e1, q2, q3, t_set q4 hap hk v⟩
    have hlay := hts _ (sy_lay _ _ hc _ (u_in_lay hk))
    unfold u_lay at hlay
    by_cases hF : (r.2.1 k).2.2.2 = true
    · rw [if_pos hF] at hlay
      rcases hfin with g | ⟨g1, g2⟩
      · rw [hfin', hF] at g; cases g
      · have hcf : m.cls = cf := by
          obtain ⟨_, _, c', _, _, _, -, -, hf', -, -, -, hown2, -⟩ := Cond.laysFinal_spec hlay
          have e1 : c' = cf := by have := hi.symm.trans hf'; simp at this; exact this.1.symm
          rw [hT, ← m_oc_ok g2 hc] at hown2
          rw [← e1]; exact Option.some.inj (hown.symm.trans hown2)
        have h6 := u_fits hfc hkC hkind (Or.inr hlay) hi hdesc hn hfit
        exact W.putFinK hx hb hown (hts _ hlk) hi' hst hcf (hini g1) (by rw [q2]; exact h6) q1 q3 (by rw [hsl]; exact k2_hasslot (q4 k hk)) rfl rfl hd fin
    · rw [if_neg hF] at hlay
      have h6 := u_store hfc hkC hkind hlay hi hdesc hn hfit
      exact W.putK hx hb (f := f) ⟨hown, hts _ hlk, ⟨_, _, _, hi'⟩, hst⟩ (by rw [q2]; exact h6) q1 q3 (by rw [hsl]; exact k2_hasslot (q4 k hk)) rfl rfl hd fin
  · have := m_cl_lt hc
    omega
end
