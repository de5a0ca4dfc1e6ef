/-! Constructors: what has been made since a heap M0, cell by cell. A cell: kind, size, codes of its slots (one code for all, or one each): (1, lo, hi) an int, (2, _, _) a long, (3, r, _) the cell r behind M0, else null. -/
noncomputable abbrev dK : Type := Nat × Int × Int
noncomputable abbrev dC : Type := Nat × Nat × List dK
noncomputable def kc (q : dC) (i : Nat) : dK := if q.2.2.length = 1 then q.2.2.getD 0 (4, 0, 0) else q.2.2.getD i (4, 0, 0)
noncomputable def tK (base m0 : Nat) (k : dK) (v : Value) : Prop := match k.1 with
  | 1 => ∃ x : Int32, v = .int x ∧ k.2.1 ≤ x.toInt ∧ x.toInt ≤ k.2.2
  | 2 => ∃ x : Int64, v = .long x
  | 3 => v = .ref (base + ((m0 : Int) + k.2.1).toNat)
  | _ => v = .null
noncomputable def Pc (base m0 : Nat) (q : dC) (f : Nat → Value) : Prop := ∀ i, (i < q.2.1 → tK base m0 (kc q i) (f i)) ∧ (q.2.1 ≤ i → vi (f i) = 0)
noncomputable def Ps (base : Nat) (sh : List dC) (M0 M : mH) : Prop := M.1 = M0.1 + sh.length ∧ M.2.1 = M0.2.1 + (sh.map (fun q => q.2.1)).sum ∧ (∀ c, c < M0.1 → sameC c M0 M) ∧ ∀ j q, sh[j]? = some q → hk M (M0.1 + j) = q.1 ∧ hz M (M0.1 + j) = q.2.1 ∧ Pc base M0.1 q (hv M (M0.1 + j))
theorem Ps.nil {base : Nat} {M : mH} : Ps base [] M M := ⟨rfl, rfl, fun _ _ => ⟨rfl, rfl, fun _ => rfl⟩, fun j q h => by simp at h⟩
theorem Ps.nw {base : Nat} {sh sh' : List dC} {M0 M M' : mH} {kd n : Nat} {f : Nat → Value} (h : Ps base sh M0 M) (w : Nw M (kd, n, f) M') (cs : List dK) (hf : Pc base M0.1 (kd, n, cs) f) (e : sh ++ [(kd, n, cs)] = sh') : Ps base sh' M0 M' := by
  subst e
  obtain ⟨h1, h2, h3, h4⟩ := h
  refine ⟨by rw [w.n1, h1]; simp; omega, by rw [w.n2, h2]; simp; omega, fun c hc => (h3 c hc).tr (w.same (by omega)), fun j q hq => ?_⟩
  by_cases hj : j < sh.length
  · rw [List.getElem?_append_left hj] at hq
    have s := w.same (c := M0.1 + j) (by omega)
    obtain ⟨a, b, c⟩ := h4 j q hq
    refine ⟨by rw [s.1]; exact a, by rw [s.2.1]; exact b, ?_⟩
    rw [show hv M' (M0.1 + j) = hv M (M0.1 + j) from funext s.2.2]
    exact c
  · rw [List.getElem?_append_right (by omega)] at hq
    have hj0 : j - sh.length = 0 := by
      cases hz : j - sh.length with
      | zero => rfl
      | succ n => rw [hz] at hq; simp at hq
    rw [hj0] at hq
    simp at hq
    subst hq
    have e : M0.1 + j = M.1 := by omega
    rw [e]
    unfold hk hz hv
    rw [w.at]
    exact ⟨rfl, rfl, hf⟩
theorem Ps.wr {base : Nat} {sh sh' : List dC} {M0 M M' : mH} {j i : Nat} {q : dC} {v : Value} (h : Ps base sh M0 M) (hq : sh[j]? = some q) (u : Wr M (M0.1 + j) i v M') (hi : i < q.2.1) (cs : List dK) (hc : ((List.range q.2.1).all fun i' => i' == i || (kc (q.1, q.2.1, cs) i' == kc q i')) = true) (hv' : tK base M0.1 (kc (q.1, q.2.1, cs) i) v) (e : sh.set j (q.1, q.2.1, cs) = sh') : Ps base sh' M0 M' := by
  subst e
  obtain ⟨h1, h2, h3, h4⟩ := h
  have hjl : j < sh.length := (List.getElem?_eq_some_iff.mp hq).1
  have hqe : sh[j] = q := (List.getElem?_eq_some_iff.mp hq).2
  refine ⟨by rw [u.n1, h1]; simp, ?_, fun c hc' => (h3 c hc').tr (u.same (by omega)), fun j' q' hq' => ?_⟩
  · rw [u.n2, h2, List.map_set]
    have : (sh.map (fun q => q.2.1)).set j q.2.1 = sh.map (fun q => q.2.1) := by
      apply List.ext_getElem?
      intro k
      rw [List.getElem?_set]
      split
      · next hk => subst hk; rw [if_pos (by simpa using hjl), List.getElem?_map, hq]; rfl
      · rfl
    rw [this]
  · by_cases ej : j' = j
    · subst ej
      rw [List.getElem?_set_self hjl] at hq'
      cases hq'
      obtain ⟨a, b, c⟩ := h4 j' q hq
      refine ⟨by rw [u.k]; exact a, by rw [u.z]; exact b, fun i' => ⟨fun hi' => ?_, fun hi' => ?_⟩⟩
      · by_cases ei : i' = i
        · subst ei; rw [u.eq]; exact hv'
        · rw [u.ne (Or.inr ei)]
          have := List.all_eq_true.mp hc i' (List.mem_range.mpr hi')
          simp only [Bool.or_eq_true, beq_iff_eq] at this
          rcases this with z | z
          · exact absurd z ei
          · rw [z]; exact (c i').1 hi'
      · rw [u.ne (Or.inr (by show i' ≠ i; have : q.2.1 ≤ i' := hi'; omega))]
        exact (c i').2 hi'
    · rw [List.getElem?_set_ne (Ne.symm ej)] at hq'
      obtain ⟨a, b, c⟩ := h4 j' q' hq'
      refine ⟨by rw [u.k]; exact a, by rw [u.z]; exact b, ?_⟩
      rw [show hv M' (M0.1 + j') = hv M (M0.1 + j') from funext fun i' => u.ne (Or.inl (by omega))]
      exact c
/-- a slot of an array with one code for all -/
theorem Ps.wrA {base : Nat} {sh : List dC} {M0 M M' : mH} {j i : Nat} {q : dC} {v : Value} (h : Ps base sh M0 M) (hq : sh[j]? = some q) (u : Wr M (M0.1 + j) i v M') (hi : i < q.2.1) (hv' : tK base M0.1 (kc q i) v) : Ps base sh M0 M' := by
  have hjl : j < sh.length := (List.getElem?_eq_some_iff.mp hq).1
  refine h.wr hq u hi q.2.2 ?_ hv' ?_
  · rw [List.all_eq_true]
    intro i' _
    show (i' == i || (kc q i' == kc q i')) = true
    simp
  · apply List.ext_getElem?
    intro k
    rw [List.getElem?_set]
    split
    · next hk => subst hk; rw [hq]
    · rfl
/-- codes that say less -/
theorem Ps.wide {base : Nat} {sh sh' : List dC} {M0 M : mH} {j : Nat} {q : dC} (h : Ps base sh M0 M) (hq : sh[j]? = some q) (cs : List dK) (hw : ∀ i w, i < q.2.1 → tK base M0.1 (kc q i) w → tK base M0.1 (kc (q.1, q.2.1, cs) i) w) (e : sh.set j (q.1, q.2.1, cs) = sh') : Ps base sh' M0 M := by
  subst e
  obtain ⟨h1, h2, h3, h4⟩ := h
  have hjl : j < sh.length := (List.getElem?_eq_some_iff.mp hq).1
  refine ⟨by rw [h1]; simp, ?_, h3, fun j' q' hq' => ?_⟩
  · rw [h2, List.map_set]
    have : (sh.map (fun q => q.2.1)).set j q.2.1 = sh.map (fun q => q.2.1) := by
      apply List.ext_getElem?
      intro k
      rw [List.getElem?_set]
      split
      · next hk => subst hk; rw [if_pos (by simpa using hjl), List.getElem?_map, hq]; rfl
      · rfl
    rw [this]
  · by_cases ej : j' = j
    · subst ej
      rw [List.getElem?_set_self hjl] at hq'
      cases hq'
      obtain ⟨a, b, c⟩ := h4 j' q hq
      exact ⟨a, b, fun i => ⟨fun hi => hw i _ hi ((c i).1 hi), (c i).2⟩⟩
    · rw [List.getElem?_set_ne (Ne.symm ej)] at hq'
      exact h4 j' q' hq'
noncomputable def shfK (k : Nat) (c : dK) : dK := if c.1 = 3 then (3, c.2.1 + k, c.2.2) else c
noncomputable def shf (k : Nat) (q : dC) : dC := (q.1, q.2.1, q.2.2.map (shfK k))
theorem kc_shf (k : Nat) (q : dC) (i : Nat) : kc (shf k q) i = shfK k (kc q i) := by
  have e : ∀ (l : List dK) (n : Nat), (l.map (shfK k)).getD n (4, 0, 0) = shfK k (l.getD n (4, 0, 0)) := by
    intro l n
    rw [List.getD_eq_getElem?_getD, List.getD_eq_getElem?_getD, List.getElem?_map]
    cases l[n]? <;> rfl
  unfold kc shf
  simp only [List.length_map, e]
  split <;> rfl
theorem tK_shf {base m0 k : Nat} {c : dK} {v : Value} (h : tK base (m0 + k) c v) : tK base m0 (shfK k c) v := by
  unfold shfK
  split
  · next e =>
    unfold tK at h ⊢
    rw [e] at h
    dsimp only at h ⊢
    rw [h]
    congr 2
    rw [show ((m0 + k : Nat) : Int) = (m0 : Int) + k from by omega]
    congr 1
    omega
  · next e =>
    unfold tK at h ⊢
    split at h
    · exact h
    · exact h
    · next e1 => exact absurd e1 e
    · exact h
theorem Ps.app {base : Nat} {sh sh2 sh' : List dC} {M0 M M' : mH} (h : Ps base sh M0 M) (k : Ps base sh2 M M') (e : sh ++ sh2.map (shf sh.length) = sh') : Ps base sh' M0 M' := by
  subst e
  obtain ⟨h1, h2, h3, h4⟩ := h
  obtain ⟨k1, k2, k3, k4⟩ := k
  refine ⟨by rw [k1, h1]; simp; omega, ?_, fun c hc => (h3 c hc).tr (k3 c (by omega)), fun j q hq => ?_⟩
  · rw [k2, h2, List.map_append, List.sum_append, List.map_map]
    rw [show ((fun q : dC => q.2.1) ∘ shf sh.length) = (fun q : dC => q.2.1) from rfl]
    omega
  · by_cases hj : j < sh.length
    · rw [List.getElem?_append_left hj] at hq
      have s := k3 (M0.1 + j) (by omega)
      obtain ⟨a, b, c⟩ := h4 j q hq
      refine ⟨by rw [s.1]; exact a, by rw [s.2.1]; exact b, ?_⟩
      rw [show hv M' (M0.1 + j) = hv M (M0.1 + j) from funext s.2.2]
      exact c
    · rw [List.getElem?_append_right (by omega), List.getElem?_map] at hq
      cases hz : sh2[j - sh.length]? with
      | none => rw [hz] at hq; simp at hq
      | some q0 =>
        rw [hz] at hq
        simp at hq
        subst hq
        obtain ⟨a, b, c⟩ := k4 _ q0 hz
        rw [show M.1 + (j - sh.length) = M0.1 + j by omega] at a b c
        refine ⟨a, b, fun i => ⟨fun hi => ?_, fun hi => (c i).2 hi⟩⟩
        rw [kc_shf]
        have := (c i).1 hi
        rw [h1] at this
        exact tK_shf this
/-! Rules for what constructors do. -/
section
variable {base : Nat} {X : Nat → Option mC} {G : Nat → Value} {d : Nat} {t : mT} {pc pc' : Nat} {lv : sL} {st : List mV} {M : mH} {Q : Option Value → mH → Prop}
theorem r_newA {n : Int} {ty : ArrayType} {kd : Nat} {dv : Value} (hd : decode t.2.2.1 pc = .ok (.newarray ty, 2)) (hn : pc + 2 = pc') (hk : m_nk ty = some kd) (hv : defaultValue (newarray.typeOf ty) = dv) (h0 : 0 ≤ n ∧ n ≤ 1000000) (h : ∀ M', Nw M (kd, n.toNat, fun _ => dv) M' → sRn base X G d t pc' lv (vR M.1 :: st) M' Q) : sRn base X G d t pc lv (vI n :: st) M Q := by
  subst hn
  have hr : inR n := by unfold inR; omega
  refine m_Rn.step (z := (pc + 2, em_l base lv, em_s base (vR M.1 :: st), m_new M (kd, n.toNat, fun _ => dv))) hd rfl rfl ?_ (h _ rfl)
  have e : m_stD base X G t.1 (t.2.1.name == "<init>") pc (em_l base lv) (em_s base (vI n :: st)) M (.newarray ty) = some (pc + 2, em_l base lv, em_s base (vR M.1 :: st), m_new M (kd, n.toNat, fun _ => dv)) := by
    show (match m_nk ty with
      | some kd => if 0 ≤ (Int32.ofInt n).toInt ∧ (Int32.ofInt n).toInt ≤ 1000000 then some (pc + 2, em_l base lv, Value.ref (base + M.1) :: em_s base st, m_new M (kd, (Int32.ofInt n).toNatClampNeg, fun _ => defaultValue (newarray.typeOf ty))) else none
      | none => none) = _
    rw [hk]
    dsimp only
    rw [s_i32 hr, if_pos h0, s_clamp hr h0.1, hv]
    rfl
  unfold m_step
  simp only [m_spc, m_stC, m_stA, m_stB]
  rw [if_pos (show 2 = m_len (.newarray ty) from rfl), e]
theorem r_anew {n : Int} {i kd : Nat} (hd : decode t.2.2.1 pc = .ok (.anewarray i, 3)) (hn : pc + 3 = pc') (hk : m_an t.1 i = some kd) (h0 : 0 ≤ n ∧ n ≤ 1000000) (h : ∀ M', Nw M (kd, n.toNat, fun _ => .null) M' → sRn base X G d t pc' lv (vR M.1 :: st) M' Q) : sRn base X G d t pc lv (vI n :: st) M Q := by
  subst hn
  have hr : inR n := by unfold inR; omega
  refine m_Rn.step (z := (pc + 3, em_l base lv, em_s base (vR M.1 :: st), m_new M (kd, n.toNat, fun _ => .null))) hd rfl rfl ?_ (h _ rfl)
  have e : m_stD base X G t.1 (t.2.1.name == "<init>") pc (em_l base lv) (em_s base (vI n :: st)) M (.anewarray i) = some (pc + 3, em_l base lv, em_s base (vR M.1 :: st), m_new M (kd, n.toNat, fun _ => .null)) := by
    show (match m_an t.1 i with
      | some kd => if 0 ≤ (Int32.ofInt n).toInt ∧ (Int32.ofInt n).toInt ≤ 1000000 then some (pc + 3, em_l base lv, Value.ref (base + M.1) :: em_s base st, m_new M (kd, (Int32.ofInt n).toNatClampNeg, fun _ => .null)) else none
      | none => none) = _
    rw [hk]
    dsimp only
    rw [s_i32 hr, if_pos h0, s_clamp hr h0.1]
    rfl
  unfold m_step
  simp only [m_spc, m_stC, m_stA, m_stB]
  rw [if_pos (show 3 = m_len (.anewarray i) from rfl), e]
variable {M0 : mH} {sh : List dC}
theorem Ps.lt {M0 M : mH} {sh : List dC} (h : Ps base sh M0 M) {j : Nat} (hj : j < sh.length) : M0.1 + j < M.1 := by have := h.1; omega
/-- an array is made -/
theorem p_newA (sh' : List dC) (cs : List dK) {n : Int} {ty : ArrayType} {kd : Nat} {dv : Value} (hd : decode t.2.2.1 pc = .ok (.newarray ty, 2)) (hn : pc + 2 = pc') (hk : m_nk ty = some kd) (hv : defaultValue (newarray.typeOf ty) = dv) (h0 : 0 ≤ n ∧ n ≤ 1000000) (P : Ps base sh M0 M) (hf : ∀ i, i < n.toNat → tK base M0.1 (kc (kd, n.toNat, cs) i) dv) (hz : vi dv = 0) (e : sh ++ [(kd, n.toNat, cs)] = sh') (k : Nat) (hk2 : sh.length = k)
    (h : ∀ M', Ps base sh' M0 M' → sRn base X G d t pc' lv (vR (M0.1 + k) :: st) M' Q) : sRn base X G d t pc lv (vI n :: st) M Q := by
  refine r_newA hd hn hk hv h0 (fun M' w => ?_)
  have := h M' (P.nw w cs (fun i => ⟨hf i, fun _ => hz⟩) e)
  rw [← hk2, ← P.1] at this
  exact this
theorem p_anew (sh' : List dC) {n : Int} {i kd : Nat} (hd : decode t.2.2.1 pc = .ok (.anewarray i, 3)) (hn : pc + 3 = pc') (hk : m_an t.1 i = some kd) (h0 : 0 ≤ n ∧ n ≤ 1000000) (P : Ps base sh M0 M) (e : sh ++ [(kd, n.toNat, [(4, 0, 0)])] = sh') (k : Nat) (hk2 : sh.length = k)
    (h : ∀ M', Ps base sh' M0 M' → sRn base X G d t pc' lv (vR (M0.1 + k) :: st) M' Q) : sRn base X G d t pc lv (vI n :: st) M Q := by
  refine r_anew hd hn hk h0 (fun M' w => ?_)
  have := h M' (P.nw w [(4, 0, 0)] (fun i => ⟨fun _ => rfl, fun _ => rfl⟩) e)
  rw [← hk2, ← P.1] at this
  exact this
/-- a field is set -/
theorem p_pv (sh' : List dC) (cs : List dK) {i j k cl : Nat} {q : dC} {v : mV} {ty : FieldType} (hd : decode t.2.2.1 pc = .ok (.putfield i, 3)) (hn : pc + 3 = pc') (hf : m_fi t.1 i = some (cl, k)) (P : Ps base sh M0 M) (hq : sh[j]? = some q) (hcl : q.1 = cl) (hk2 : k < q.2.1) (hty : m_fty cl k = some ty) (hnr : narrow ty (em base v) = em base v) (hft : fits ty (em base v) = true) (hfin : m_fin cl k = false ∨ ((t.2.1.name == "<init>") = true ∧ m_oc t.1 = cl)) (hc : ((List.range q.2.1).all fun i' => i' == k || (kc (q.1, q.2.1, cs) i' == kc q i')) = true) (hv' : tK base M0.1 (kc (q.1, q.2.1, cs) k) (em base v)) (e : sh.set j (q.1, q.2.1, cs) = sh')
    (h : ∀ M', Ps base sh' M0 M' → sRn base X G d t pc' lv st M' Q) : sRn base X G d t pc lv (v :: vR (M0.1 + j) :: st) M Q := by
  obtain ⟨a, b, -⟩ := P.2.2.2 j q hq
  exact r_pv hd hn hf (P.lt (List.getElem?_eq_some_iff.mp hq).1) (by rw [a]; exact hcl) (by rw [b]; exact hk2) hty hnr hft hfin (fun M' u => h M' (P.wr hq u hk2 cs hc hv' e))
/-- a field is read -/
theorem p_gv {i j k cl : Nat} {q : dC} {r : Nat} (hd : decode t.2.2.1 pc = .ok (.getfield i, 3)) (hn : pc + 3 = pc') (ho : t.1 ≠ 13) (hf : m_fi t.1 i = some (cl, k)) (P : Ps base sh M0 M) (hq : sh[j]? = some q) (hcl : q.1 = cl) (hk2 : k < q.2.1) (hr : kc q k = (3, (r : Int), 0))
    (h : sRn base X G d t pc' lv (vR (M0.1 + r) :: st) M Q) : sRn base X G d t pc lv (vR (M0.1 + j) :: st) M Q := by
  obtain ⟨a, b, c⟩ := P.2.2.2 j q hq
  have := (c k).1 hk2
  rw [hr] at this
  have e : hv M (M0.1 + j) k = .ref (base + ((M0.1 : Int) + (r : Int)).toNat) := this
  refine r_gv (v := vR (M0.1 + r)) hd hn ho hf (P.lt (List.getElem?_eq_some_iff.mp hq).1) (by rw [a]; exact hcl) (by rw [b]; exact hk2) ?_ h
  rw [e]
  show Value.ref _ = Value.ref _
  congr 2
/-- a byte of an array -/
theorem p_bast {e w : Int} {j : Nat} {q : dC} (hd : decode t.2.2.1 pc = .ok (.bastore, 1)) (hn : pc + 1 = pc') (P : Ps base sh M0 M) (hq : sh[j]? = some q) (hk1 : q.1 = 1003) (he : 0 ≤ e ∧ e < (q.2.1 : Int) ∧ e ≤ 1000000) (hw : -128 ≤ w ∧ w ≤ 127)
    (h : ∀ M', Wr M (M0.1 + j) e.toNat (.int (Int32.ofInt w)) M' → sRn base X G d t pc' lv st M' Q) : sRn base X G d t pc lv (vI w :: vI e :: vR (M0.1 + j) :: st) M Q := by
  obtain ⟨a, b, -⟩ := P.2.2.2 j q hq
  refine r_sv (v := vI w) (w := .int (Int32.ofInt w)) hd hn rfl (P.lt (List.getElem?_eq_some_iff.mp hq).1) (by rw [a, hk1]; rfl) ?_ ⟨he.1, by rw [b]; exact he.2.1, by omega⟩ h
  rw [a, hk1]
  show some (narrow .byte (.int (Int32.ofInt w))) = _
  rw [s_by hw]
end
theorem tkR {base m0 r : Nat} : tK base m0 (3, (r : Int), 0) (.ref (base + (m0 + r))) := by
  show Value.ref _ = Value.ref _
  congr 2
section
variable {base : Nat} {X : Nat → Option mC} {G : Nat → Value} {d : Nat} {t : mT} {pc pc' : Nat} {lv : sL} {st : List mV} {M : mH} {Q : Option Value → mH → Prop} {M0 : mH} {sh : List dC}
/-- a thing is made -/
theorem p_new (cs : List dK) {i ci n : Nat} (hd : decode t.2.2.1 pc = .ok (.new i, 3)) (hn : pc + 3 = pc') (hc : m_nw t.1 i = some ci) (hcn : m_cnt ci = n) (P : Ps base sh M0 M) (hf : ∀ m0, Pc base m0 (ci, n, cs) (m_dflt ci)) (k : Nat) (hk2 : sh.length = k)
    (h : ∀ M', Ps base [(ci, n, cs)] M M' → sRn base X G d t pc' lv (vR (M0.1 + k) :: st) M' Q) : sRn base X G d t pc lv st M Q := by
  subst hcn
  refine r_new hd hn hc (fun M' w => ?_)
  have := h M' (Ps.nil.nw w cs (hf M.1) rfl)
  rw [← hk2, ← P.1] at this
  exact this
end
theorem trm {base m m0 k tr : Nat} {r : Int} (e : m = m0 + k) (h : (tr : Int) = ((m0 + k : Nat) : Int) + r) : Value.ref (base + tr) = Value.ref (base + ((m : Int) + r).toNat) := by
  subst e
  congr 2
  omega
noncomputable def T0 : mT := (0, yX0_init, cX0_init, 1, none)
set_option maxRecDepth 10000 in
theorem TE0 : sy_m[0]? = some T0 := rfl
theorem B0_0_1 : s_dk T0.2.2.1 0 [.aload_n 0] 1 = true := by decide +kernel
theorem D0_1 : decode T0.2.2.1 1 = .ok (.invokespecial 5, 3) := by decide +kernel
theorem mc_0_special_5 : m_call 0 (.invokespecial 5) = none := by decide +kernel
theorem sp_0_5 : m_sp 0 5 = some 0 := by decide +kernel
theorem B0_4_7 : s_dk T0.2.2.1 4 [.aload_n 0, .bipush 12] 7 = true := by decide +kernel
theorem D0_7 : decode T0.2.2.1 7 = .ok (.newarray .int, 2) := by decide +kernel
theorem D0_9 : decode T0.2.2.1 9 = .ok (.putfield 13, 3) := by decide +kernel
theorem fi_0_13 : m_fi 0 13 = some (0, 0) := by decide +kernel
theorem B0_12_14 : s_dk T0.2.2.1 12 [.aload_n 0, .iconst 0] 14 = true := by decide +kernel
theorem D0_14 : decode T0.2.2.1 14 = .ok (.putfield 17, 3) := by decide +kernel
theorem fi_0_17 : m_fi 0 17 = some (0, 1) := by decide +kernel
theorem B0_17_19 : s_dk T0.2.2.1 17 [.aload_n 0, .lconst 1] 19 = true := by decide +kernel
theorem D0_19 : decode T0.2.2.1 19 = .ok (.putfield 21, 3) := by decide +kernel
theorem fi_0_21 : m_fi 0 21 = some (0, 2) := by decide +kernel
theorem B0_22_24 : s_dk T0.2.2.1 22 [.aload_n 0, .iconst 0] 24 = true := by decide +kernel
theorem D0_24 : decode T0.2.2.1 24 = .ok (.putfield 25, 3) := by decide +kernel
theorem fi_0_25 : m_fi 0 25 = some (0, 3) := by decide +kernel
theorem B0_27_30 : s_dk T0.2.2.1 27 [.aload_n 0, .bipush 11] 30 = true := by decide +kernel
theorem D0_30 : decode T0.2.2.1 30 = .ok (.newarray .long, 2) := by decide +kernel
theorem D0_32 : decode T0.2.2.1 32 = .ok (.putfield 28, 3) := by decide +kernel
theorem fi_0_28 : m_fi 0 28 = some (0, 4) := by decide +kernel
theorem B0_35_37 : s_dk T0.2.2.1 35 [.aload_n 0, .iconst (-1)] 37 = true := by decide +kernel
theorem D0_37 : decode T0.2.2.1 37 = .ok (.putfield 32, 3) := by decide +kernel
theorem fi_0_32 : m_fi 0 32 = some (0, 5) := by decide +kernel
theorem B0_40_43 : s_dk T0.2.2.1 40 [.aload_n 0, .bipush 64] 43 = true := by decide +kernel
theorem D0_43 : decode T0.2.2.1 43 = .ok (.newarray .long, 2) := by decide +kernel
theorem D0_45 : decode T0.2.2.1 45 = .ok (.putfield 35, 3) := by decide +kernel
theorem fi_0_35 : m_fi 0 35 = some (0, 6) := by decide +kernel
theorem D0_48 : decode T0.2.2.1 48 = .ok (.return_, 1) := by decide +kernel
noncomputable def T9 : mT := (1, yX1_init, cX1_init, 1, none)
set_option maxRecDepth 10000 in
theorem TE9 : sy_m[9]? = some T9 := rfl
theorem B9_0_1 : s_dk T9.2.2.1 0 [.aload_n 0] 1 = true := by decide +kernel
theorem D9_1 : decode T9.2.2.1 1 = .ok (.invokespecial 3, 3) := by decide +kernel
theorem mc_1_special_3 : m_call 1 (.invokespecial 3) = none := by decide +kernel
theorem sp_1_3 : m_sp 1 3 = some 0 := by decide +kernel
theorem B9_4_7 : s_dk T9.2.2.1 4 [.aload_n 0, .bipush 6] 7 = true := by decide +kernel
theorem D9_7 : decode T9.2.2.1 7 = .ok (.newarray .int, 2) := by decide +kernel
theorem D9_9 : decode T9.2.2.1 9 = .ok (.putfield 9, 3) := by decide +kernel
theorem fi_1_9 : m_fi 1 9 = some (1, 0) := by decide +kernel
theorem B9_12_14 : s_dk T9.2.2.1 12 [.aload_n 0, .iconst 0] 14 = true := by decide +kernel
theorem D9_14 : decode T9.2.2.1 14 = .ok (.putfield 15, 3) := by decide +kernel
theorem fi_1_15 : m_fi 1 15 = some (1, 1) := by decide +kernel
theorem B9_17_20 : s_dk T9.2.2.1 17 [.aload_n 0, .bipush 6] 20 = true := by decide +kernel
theorem D9_20 : decode T9.2.2.1 20 = .ok (.newarray .int, 2) := by decide +kernel
theorem D9_22 : decode T9.2.2.1 22 = .ok (.putfield 19, 3) := by decide +kernel
theorem fi_1_19 : m_fi 1 19 = some (1, 2) := by decide +kernel
theorem B9_25_27 : s_dk T9.2.2.1 25 [.aload_n 0, .iconst (-1)] 27 = true := by decide +kernel
theorem D9_27 : decode T9.2.2.1 27 = .ok (.putfield 22, 3) := by decide +kernel
theorem fi_1_22 : m_fi 1 22 = some (1, 3) := by decide +kernel
theorem D9_30 : decode T9.2.2.1 30 = .ok (.return_, 1) := by decide +kernel
noncomputable def T12 : mT := (2, yX2_init, cX2_init, 1, none)
set_option maxRecDepth 10000 in
theorem TE12 : sy_m[12]? = some T12 := rfl
theorem B12_0_1 : s_dk T12.2.2.1 0 [.aload_n 0] 1 = true := by decide +kernel
theorem D12_1 : decode T12.2.2.1 1 = .ok (.invokespecial 3, 3) := by decide +kernel
theorem mc_2_special_3 : m_call 2 (.invokespecial 3) = none := by decide +kernel
theorem sp_2_3 : m_sp 2 3 = some 0 := by decide +kernel
theorem B12_4_8 : s_dk T12.2.2.1 4 [.aload_n 0, .sipush 241] 8 = true := by decide +kernel
theorem D12_8 : decode T12.2.2.1 8 = .ok (.newarray .int, 2) := by decide +kernel
theorem D12_10 : decode T12.2.2.1 10 = .ok (.putfield 9, 3) := by decide +kernel
theorem fi_2_9 : m_fi 2 9 = some (2, 0) := by decide +kernel
theorem B12_13_17 : s_dk T12.2.2.1 13 [.aload_n 0, .sipush 241] 17 = true := by decide +kernel
theorem D12_17 : decode T12.2.2.1 17 = .ok (.newarray .int, 2) := by decide +kernel
theorem D12_19 : decode T12.2.2.1 19 = .ok (.putfield 15, 3) := by decide +kernel
theorem fi_2_15 : m_fi 2 15 = some (2, 1) := by decide +kernel
theorem D12_22 : decode T12.2.2.1 22 = .ok (.return_, 1) := by decide +kernel
noncomputable def T16 : mT := (4, yX4_init, cX4_init, 1, none)
set_option maxRecDepth 10000 in
theorem TE16 : sy_m[16]? = some T16 := rfl
theorem B16_0_1 : s_dk T16.2.2.1 0 [.aload_n 0] 1 = true := by decide +kernel
theorem D16_1 : decode T16.2.2.1 1 = .ok (.invokespecial 3, 3) := by decide +kernel
theorem mc_4_special_3 : m_call 4 (.invokespecial 3) = none := by decide +kernel
theorem sp_4_3 : m_sp 4 3 = some 0 := by decide +kernel
theorem B16_4_8 : s_dk T16.2.2.1 4 [.aload_n 0, .sipush 401] 8 = true := by decide +kernel
theorem D16_8 : decode T16.2.2.1 8 = .ok (.newarray .int, 2) := by decide +kernel
theorem D16_10 : decode T16.2.2.1 10 = .ok (.putfield 9, 3) := by decide +kernel
theorem fi_4_9 : m_fi 4 9 = some (4, 0) := by decide +kernel
theorem B16_13_17 : s_dk T16.2.2.1 13 [.aload_n 0, .sipush 401] 17 = true := by decide +kernel
theorem D16_17 : decode T16.2.2.1 17 = .ok (.newarray .int, 2) := by decide +kernel
theorem D16_19 : decode T16.2.2.1 19 = .ok (.putfield 15, 3) := by decide +kernel
theorem fi_4_15 : m_fi 4 15 = some (4, 1) := by decide +kernel
theorem B16_22_24 : s_dk T16.2.2.1 22 [.aload_n 0, .iconst 0] 24 = true := by decide +kernel
theorem D16_24 : decode T16.2.2.1 24 = .ok (.putfield 18, 3) := by decide +kernel
theorem fi_4_18 : m_fi 4 18 = some (4, 2) := by decide +kernel
theorem B16_27_30 : s_dk T16.2.2.1 27 [.aload_n 0, .bipush 22] 30 = true := by decide +kernel
theorem D16_30 : decode T16.2.2.1 30 = .ok (.putfield 22, 3) := by decide +kernel
theorem fi_4_22 : m_fi 4 22 = some (4, 3) := by decide +kernel
theorem B16_33_35 : s_dk T16.2.2.1 33 [.aload_n 0, .iconst 0] 35 = true := by decide +kernel
theorem D16_35 : decode T16.2.2.1 35 = .ok (.putfield 25, 3) := by decide +kernel
theorem fi_4_25 : m_fi 4 25 = some (4, 4) := by decide +kernel
theorem B16_38_41 : s_dk T16.2.2.1 38 [.aload_n 0, .bipush 12] 41 = true := by decide +kernel
theorem D16_41 : decode T16.2.2.1 41 = .ok (.newarray .int, 2) := by decide +kernel
theorem D16_43 : decode T16.2.2.1 43 = .ok (.putfield 28, 3) := by decide +kernel
theorem fi_4_28 : m_fi 4 28 = some (4, 5) := by decide +kernel
theorem B16_46_49 : s_dk T16.2.2.1 46 [.aload_n 0, .bipush 12] 49 = true := by decide +kernel
theorem D16_49 : decode T16.2.2.1 49 = .ok (.newarray .int, 2) := by decide +kernel
theorem D16_51 : decode T16.2.2.1 51 = .ok (.putfield 31, 3) := by decide +kernel
theorem fi_4_31 : m_fi 4 31 = some (4, 6) := by decide +kernel
theorem B16_54_56 : s_dk T16.2.2.1 54 [.aload_n 0, .iconst 0] 56 = true := by decide +kernel
theorem D16_56 : decode T16.2.2.1 56 = .ok (.putfield 34, 3) := by decide +kernel
theorem fi_4_34 : m_fi 4 34 = some (4, 7) := by decide +kernel
theorem B16_59_63 : s_dk T16.2.2.1 59 [.aload_n 0, .sipush 400] 63 = true := by decide +kernel
theorem D16_63 : decode T16.2.2.1 63 = .ok (.newarray .int, 2) := by decide +kernel
theorem D16_65 : decode T16.2.2.1 65 = .ok (.putfield 37, 3) := by decide +kernel
theorem fi_4_37 : m_fi 4 37 = some (4, 8) := by decide +kernel
theorem B16_68_70 : s_dk T16.2.2.1 68 [.aload_n 0, .iconst 0] 70 = true := by decide +kernel
theorem D16_70 : decode T16.2.2.1 70 = .ok (.putfield 40, 3) := by decide +kernel
theorem fi_4_40 : m_fi 4 40 = some (4, 9) := by decide +kernel
theorem B16_73_75 : s_dk T16.2.2.1 73 [.aload_n 0, .iconst (-1)] 75 = true := by decide +kernel
theorem D16_75 : decode T16.2.2.1 75 = .ok (.putfield 43, 3) := by decide +kernel
theorem fi_4_43 : m_fi 4 43 = some (4, 10) := by decide +kernel
theorem D16_78 : decode T16.2.2.1 78 = .ok (.return_, 1) := by decide +kernel
noncomputable def T39 : mT := (5, yX5_init, cX5_init, 1, none)
set_option maxRecDepth 10000 in
theorem TE39 : sy_m[39]? = some T39 := rfl
theorem B39_0_1 : s_dk T39.2.2.1 0 [.aload_n 0] 1 = true := by decide +kernel
theorem D39_1 : decode T39.2.2.1 1 = .ok (.invokespecial 3, 3) := by decide +kernel
theorem mc_5_special_3 : m_call 5 (.invokespecial 3) = none := by decide +kernel
theorem sp_5_3 : m_sp 5 3 = some 0 := by decide +kernel
theorem B39_4_7 : s_dk T39.2.2.1 4 [.aload_n 0, .bipush 120] 7 = true := by decide +kernel
theorem D39_7 : decode T39.2.2.1 7 = .ok (.newarray .int, 2) := by decide +kernel
theorem D39_9 : decode T39.2.2.1 9 = .ok (.putfield 9, 3) := by decide +kernel
theorem fi_5_9 : m_fi 5 9 = some (5, 0) := by decide +kernel
theorem B39_12_14 : s_dk T39.2.2.1 12 [.aload_n 0, .iconst (-1)] 14 = true := by decide +kernel
theorem D39_14 : decode T39.2.2.1 14 = .ok (.putfield 15, 3) := by decide +kernel
theorem fi_5_15 : m_fi 5 15 = some (5, 1) := by decide +kernel
theorem B39_17_20 : s_dk T39.2.2.1 17 [.aload_n 0, .bipush 121] 20 = true := by decide +kernel
theorem D39_20 : decode T39.2.2.1 20 = .ok (.newarray .int, 2) := by decide +kernel
theorem D39_22 : decode T39.2.2.1 22 = .ok (.putfield 19, 3) := by decide +kernel
theorem fi_5_19 : m_fi 5 19 = some (5, 2) := by decide +kernel
theorem B39_25_28 : s_dk T39.2.2.1 25 [.aload_n 0, .bipush 121] 28 = true := by decide +kernel
theorem D39_28 : decode T39.2.2.1 28 = .ok (.newarray .int, 2) := by decide +kernel
theorem D39_30 : decode T39.2.2.1 30 = .ok (.putfield 22, 3) := by decide +kernel
theorem fi_5_22 : m_fi 5 22 = some (5, 3) := by decide +kernel
theorem D39_33 : decode T39.2.2.1 33 = .ok (.return_, 1) := by decide +kernel
noncomputable def T78 : mT := (9, yX9_init, cX9_init, 1, none)
set_option maxRecDepth 10000 in
theorem TE78 : sy_m[78]? = some T78 := rfl
theorem B78_0_1 : s_dk T78.2.2.1 0 [.aload_n 0] 1 = true := by decide +kernel
theorem D78_1 : decode T78.2.2.1 1 = .ok (.invokespecial 3, 3) := by decide +kernel
theorem mc_9_special_3 : m_call 9 (.invokespecial 3) = none := by decide +kernel
theorem sp_9_3 : m_sp 9 3 = some 0 := by decide +kernel
theorem B78_4_8 : s_dk T78.2.2.1 4 [.aload_n 0, .sipush 145] 8 = true := by decide +kernel
theorem D78_8 : decode T78.2.2.1 8 = .ok (.newarray .int, 2) := by decide +kernel
theorem D78_10 : decode T78.2.2.1 10 = .ok (.putfield 11, 3) := by decide +kernel
theorem fi_9_11 : m_fi 9 11 = some (8, 0) := by decide +kernel
theorem B78_13_17 : s_dk T78.2.2.1 13 [.aload_n 0, .sipush 145] 17 = true := by decide +kernel
theorem D78_17 : decode T78.2.2.1 17 = .ok (.newarray .int, 2) := by decide +kernel
theorem D78_19 : decode T78.2.2.1 19 = .ok (.putfield 15, 3) := by decide +kernel
theorem fi_9_15 : m_fi 9 15 = some (8, 1) := by decide +kernel
theorem B78_22_26 : s_dk T78.2.2.1 22 [.aload_n 0, .sipush 145] 26 = true := by decide +kernel
theorem D78_26 : decode T78.2.2.1 26 = .ok (.newarray .int, 2) := by decide +kernel
theorem D78_28 : decode T78.2.2.1 28 = .ok (.putfield 18, 3) := by decide +kernel
theorem fi_9_18 : m_fi 9 18 = some (8, 2) := by decide +kernel
theorem B78_31_35 : s_dk T78.2.2.1 31 [.aload_n 0, .sipush 145] 35 = true := by decide +kernel
theorem D78_35 : decode T78.2.2.1 35 = .ok (.newarray .int, 2) := by decide +kernel
theorem D78_37 : decode T78.2.2.1 37 = .ok (.putfield 21, 3) := by decide +kernel
theorem fi_9_21 : m_fi 9 21 = some (8, 3) := by decide +kernel
theorem B78_40_44 : s_dk T78.2.2.1 40 [.aload_n 0, .sipush 145] 44 = true := by decide +kernel
theorem D78_44 : decode T78.2.2.1 44 = .ok (.newarray .boolean, 2) := by decide +kernel
theorem D78_46 : decode T78.2.2.1 46 = .ok (.putfield 24, 3) := by decide +kernel
theorem fi_9_24 : m_fi 9 24 = some (8, 4) := by decide +kernel
theorem B78_49_53 : s_dk T78.2.2.1 49 [.aload_n 0, .sipush 145] 53 = true := by decide +kernel
theorem D78_53 : decode T78.2.2.1 53 = .ok (.newarray .boolean, 2) := by decide +kernel
theorem D78_55 : decode T78.2.2.1 55 = .ok (.putfield 28, 3) := by decide +kernel
theorem fi_9_28 : m_fi 9 28 = some (8, 5) := by decide +kernel
theorem B78_58_62 : s_dk T78.2.2.1 58 [.aload_n 0, .sipush 435] 62 = true := by decide +kernel
theorem D78_62 : decode T78.2.2.1 62 = .ok (.newarray .int, 2) := by decide +kernel
theorem D78_64 : decode T78.2.2.1 64 = .ok (.putfield 31, 3) := by decide +kernel
theorem fi_9_31 : m_fi 9 31 = some (8, 6) := by decide +kernel
theorem B78_67_71 : s_dk T78.2.2.1 67 [.aload_n 0, .sipush 435] 71 = true := by decide +kernel
theorem D78_71 : decode T78.2.2.1 71 = .ok (.newarray .int, 2) := by decide +kernel
theorem D78_73 : decode T78.2.2.1 73 = .ok (.putfield 34, 3) := by decide +kernel
theorem fi_9_34 : m_fi 9 34 = some (8, 7) := by decide +kernel
theorem B78_76_80 : s_dk T78.2.2.1 76 [.aload_n 0, .sipush 435] 80 = true := by decide +kernel
theorem D78_80 : decode T78.2.2.1 80 = .ok (.newarray .int, 2) := by decide +kernel
theorem D78_82 : decode T78.2.2.1 82 = .ok (.putfield 37, 3) := by decide +kernel
theorem fi_9_37 : m_fi 9 37 = some (8, 8) := by decide +kernel
theorem B78_85_89 : s_dk T78.2.2.1 85 [.aload_n 0, .sipush 435] 89 = true := by decide +kernel
theorem D78_89 : decode T78.2.2.1 89 = .ok (.newarray .int, 2) := by decide +kernel
theorem D78_91 : decode T78.2.2.1 91 = .ok (.putfield 40, 3) := by decide +kernel
theorem fi_9_40 : m_fi 9 40 = some (8, 9) := by decide +kernel
theorem B78_94_98 : s_dk T78.2.2.1 94 [.aload_n 0, .sipush 435] 98 = true := by decide +kernel
theorem D78_98 : decode T78.2.2.1 98 = .ok (.newarray .int, 2) := by decide +kernel
theorem D78_100 : decode T78.2.2.1 100 = .ok (.putfield 43, 3) := by decide +kernel
theorem fi_9_43 : m_fi 9 43 = some (8, 10) := by decide +kernel
theorem B78_103_107 : s_dk T78.2.2.1 103 [.aload_n 0, .sipush 144] 107 = true := by decide +kernel
theorem D78_107 : decode T78.2.2.1 107 = .ok (.newarray .int, 2) := by decide +kernel
theorem D78_109 : decode T78.2.2.1 109 = .ok (.putfield 46, 3) := by decide +kernel
theorem fi_9_46 : m_fi 9 46 = some (8, 11) := by decide +kernel
theorem B78_112_115 : s_dk T78.2.2.1 112 [.aload_n 0, .bipush 16] 115 = true := by decide +kernel
theorem D78_115 : decode T78.2.2.1 115 = .ok (.newarray .int, 2) := by decide +kernel
theorem D78_117 : decode T78.2.2.1 117 = .ok (.putfield 49, 3) := by decide +kernel
theorem fi_9_49 : m_fi 9 49 = some (8, 12) := by decide +kernel
theorem B78_120_123 : s_dk T78.2.2.1 120 [.aload_n 0, .bipush 9] 123 = true := by decide +kernel
theorem D78_123 : decode T78.2.2.1 123 = .ok (.newarray .int, 2) := by decide +kernel
theorem D78_125 : decode T78.2.2.1 125 = .ok (.putfield 52, 3) := by decide +kernel
theorem fi_9_52 : m_fi 9 52 = some (8, 13) := by decide +kernel
theorem B78_128_131 : s_dk T78.2.2.1 128 [.aload_n 0, .bipush 8] 131 = true := by decide +kernel
theorem D78_131 : decode T78.2.2.1 131 = .ok (.newarray .int, 2) := by decide +kernel
theorem D78_133 : decode T78.2.2.1 133 = .ok (.putfield 55, 3) := by decide +kernel
theorem fi_9_55 : m_fi 9 55 = some (8, 14) := by decide +kernel
theorem B78_136_138 : s_dk T78.2.2.1 136 [.aload_n 0, .iconst 0] 138 = true := by decide +kernel
theorem D78_138 : decode T78.2.2.1 138 = .ok (.putfield 58, 3) := by decide +kernel
theorem fi_9_58 : m_fi 9 58 = some (8, 15) := by decide +kernel
theorem B78_141_143 : s_dk T78.2.2.1 141 [.aload_n 0, .iconst 0] 143 = true := by decide +kernel
theorem D78_143 : decode T78.2.2.1 143 = .ok (.putfield 62, 3) := by decide +kernel
theorem fi_9_62 : m_fi 9 62 = some (8, 16) := by decide +kernel
theorem B78_146_148 : s_dk T78.2.2.1 146 [.aload_n 0, .iconst 0] 148 = true := by decide +kernel
theorem D78_148 : decode T78.2.2.1 148 = .ok (.putfield 65, 3) := by decide +kernel
theorem fi_9_65 : m_fi 9 65 = some (8, 17) := by decide +kernel
theorem D78_151 : decode T78.2.2.1 151 = .ok (.return_, 1) := by decide +kernel
noncomputable def T46 : mT := (7, yX7_init, cX7_init, 2, none)
set_option maxRecDepth 10000 in
theorem TE46 : sy_m[46]? = some T46 := rfl
theorem B46_0_1 : s_dk T46.2.2.1 0 [.aload_n 0] 1 = true := by decide +kernel
theorem D46_1 : decode T46.2.2.1 1 = .ok (.invokespecial 3, 3) := by decide +kernel
theorem mc_7_special_3 : m_call 7 (.invokespecial 3) = none := by decide +kernel
theorem sp_7_3 : m_sp 7 3 = some 0 := by decide +kernel
theorem B46_4_8 : s_dk T46.2.2.1 4 [.aload_n 0, .sipush 145] 8 = true := by decide +kernel
theorem D46_8 : decode T46.2.2.1 8 = .ok (.anewarray 11, 3) := by decide +kernel
theorem D46_11 : decode T46.2.2.1 11 = .ok (.putfield 13, 3) := by decide +kernel
theorem fi_7_13 : m_fi 7 13 = some (6, 1) := by decide +kernel
theorem B46_14_18 : s_dk T46.2.2.1 14 [.aload_n 0, .sipush 580] 18 = true := by decide +kernel
theorem D46_18 : decode T46.2.2.1 18 = .ok (.newarray .int, 2) := by decide +kernel
theorem D46_20 : decode T46.2.2.1 20 = .ok (.putfield 19, 3) := by decide +kernel
theorem fi_7_19 : m_fi 7 19 = some (6, 2) := by decide +kernel
theorem B46_23_25 : s_dk T46.2.2.1 23 [.aload_n 0, .lconst 0] 25 = true := by decide +kernel
theorem D46_25 : decode T46.2.2.1 25 = .ok (.putfield 23, 3) := by decide +kernel
theorem fi_7_23 : m_fi 7 23 = some (6, 3) := by decide +kernel
theorem B46_28_30 : s_dk T46.2.2.1 28 [.aload_n 0, .iconst 1] 30 = true := by decide +kernel
theorem D46_30 : decode T46.2.2.1 30 = .ok (.putfield 27, 3) := by decide +kernel
theorem fi_7_27 : m_fi 7 27 = some (6, 4) := by decide +kernel
theorem B46_33_35 : s_dk T46.2.2.1 33 [.aload_n 0, .aload_n 1] 35 = true := by decide +kernel
theorem D46_35 : decode T46.2.2.1 35 = .ok (.putfield 31, 3) := by decide +kernel
theorem fi_7_31 : m_fi 7 31 = some (6, 0) := by decide +kernel
theorem D46_38 : decode T46.2.2.1 38 = .ok (.return_, 1) := by decide +kernel
theorem pd_0 {base : Nat} (m0 : Nat) : Pc base m0 (0, 7, [(4, 0, 0), (1, 0, 0), (2, 0, 0), (1, 0, 0), (4, 0, 0), (1, 0, 0), (4, 0, 0)]) (m_dflt 0) := by
  intro i
  refine ⟨fun hi => ?_, fun hi => ?_⟩
  · have hi2 : i < 7 := hi
    match i, hi2 with
    | 0, _ => exact (show tK base m0 (4, 0, 0) _ from rfl)
    | 1, _ => exact (show tK base m0 (1, 0, 0) _ from ⟨0, rfl, by decide, by decide⟩)
    | 2, _ => exact (show tK base m0 (2, 0, 0) _ from ⟨0, rfl⟩)
    | 3, _ => exact (show tK base m0 (1, 0, 0) _ from ⟨0, rfl, by decide, by decide⟩)
    | 4, _ => exact (show tK base m0 (4, 0, 0) _ from rfl)
    | 5, _ => exact (show tK base m0 (1, 0, 0) _ from ⟨0, rfl, by decide, by decide⟩)
    | 6, _ => exact (show tK base m0 (4, 0, 0) _ from rfl)
    | i + 7, h => omega
  · have hi2 : 7 ≤ i := hi
    have e : m_fty 0 i = none := if_neg (show ¬ i < 7 by omega)
    unfold m_dflt
    rw [e]
    rfl
theorem pd_1 {base : Nat} (m0 : Nat) : Pc base m0 (1, 4, [(4, 0, 0), (1, 0, 0), (4, 0, 0), (1, 0, 0)]) (m_dflt 1) := by
  intro i
  refine ⟨fun hi => ?_, fun hi => ?_⟩
  · have hi2 : i < 4 := hi
    match i, hi2 with
    | 0, _ => exact (show tK base m0 (4, 0, 0) _ from rfl)
    | 1, _ => exact (show tK base m0 (1, 0, 0) _ from ⟨0, rfl, by decide, by decide⟩)
    | 2, _ => exact (show tK base m0 (4, 0, 0) _ from rfl)
    | 3, _ => exact (show tK base m0 (1, 0, 0) _ from ⟨0, rfl, by decide, by decide⟩)
    | i + 4, h => omega
  · have hi2 : 4 ≤ i := hi
    have e : m_fty 1 i = none := if_neg (show ¬ i < 4 by omega)
    unfold m_dflt
    rw [e]
    rfl
theorem pd_2 {base : Nat} (m0 : Nat) : Pc base m0 (2, 2, [(4, 0, 0), (4, 0, 0)]) (m_dflt 2) := by
  intro i
  refine ⟨fun hi => ?_, fun hi => ?_⟩
  · have hi2 : i < 2 := hi
    match i, hi2 with
    | 0, _ => exact (show tK base m0 (4, 0, 0) _ from rfl)
    | 1, _ => exact (show tK base m0 (4, 0, 0) _ from rfl)
    | i + 2, h => omega
  · have hi2 : 2 ≤ i := hi
    have e : m_fty 2 i = none := if_neg (show ¬ i < 2 by omega)
    unfold m_dflt
    rw [e]
    rfl
theorem pd_4 {base : Nat} (m0 : Nat) : Pc base m0 (4, 11, [(4, 0, 0), (4, 0, 0), (1, 0, 0), (1, 0, 0), (1, 0, 0), (4, 0, 0), (4, 0, 0), (1, 0, 0), (4, 0, 0), (1, 0, 0), (1, 0, 0)]) (m_dflt 4) := by
  intro i
  refine ⟨fun hi => ?_, fun hi => ?_⟩
  · have hi2 : i < 11 := hi
    match i, hi2 with
    | 0, _ => exact (show tK base m0 (4, 0, 0) _ from rfl)
    | 1, _ => exact (show tK base m0 (4, 0, 0) _ from rfl)
    | 2, _ => exact (show tK base m0 (1, 0, 0) _ from ⟨0, rfl, by decide, by decide⟩)
    | 3, _ => exact (show tK base m0 (1, 0, 0) _ from ⟨0, rfl, by decide, by decide⟩)
    | 4, _ => exact (show tK base m0 (1, 0, 0) _ from ⟨0, rfl, by decide, by decide⟩)
    | 5, _ => exact (show tK base m0 (4, 0, 0) _ from rfl)
    | 6, _ => exact (show tK base m0 (4, 0, 0) _ from rfl)
    | 7, _ => exact (show tK base m0 (1, 0, 0) _ from ⟨0, rfl, by decide, by decide⟩)
    | 8, _ => exact (show tK base m0 (4, 0, 0) _ from rfl)
    | 9, _ => exact (show tK base m0 (1, 0, 0) _ from ⟨0, rfl, by decide, by decide⟩)
    | 10, _ => exact (show tK base m0 (1, 0, 0) _ from ⟨0, rfl, by decide, by decide⟩)
    | i + 11, h => omega
  · have hi2 : 11 ≤ i := hi
    have e : m_fty 4 i = none := if_neg (show ¬ i < 11 by omega)
    unfold m_dflt
    rw [e]
    rfl
theorem pd_5 {base : Nat} (m0 : Nat) : Pc base m0 (5, 4, [(4, 0, 0), (1, 0, 0), (4, 0, 0), (4, 0, 0)]) (m_dflt 5) := by
  intro i
  refine ⟨fun hi => ?_, fun hi => ?_⟩
  · have hi2 : i < 4 := hi
    match i, hi2 with
    | 0, _ => exact (show tK base m0 (4, 0, 0) _ from rfl)
    | 1, _ => exact (show tK base m0 (1, 0, 0) _ from ⟨0, rfl, by decide, by decide⟩)
    | 2, _ => exact (show tK base m0 (4, 0, 0) _ from rfl)
    | 3, _ => exact (show tK base m0 (4, 0, 0) _ from rfl)
    | i + 4, h => omega
  · have hi2 : 4 ≤ i := hi
    have e : m_fty 5 i = none := if_neg (show ¬ i < 4 by omega)
    unfold m_dflt
    rw [e]
    rfl
theorem pd_6 {base : Nat} (m0 : Nat) : Pc base m0 (6, 5, [(4, 0, 0), (4, 0, 0), (4, 0, 0), (2, 0, 0), (1, 0, 0)]) (m_dflt 6) := by
  intro i
  refine ⟨fun hi => ?_, fun hi => ?_⟩
  · have hi2 : i < 5 := hi
    match i, hi2 with
    | 0, _ => exact (show tK base m0 (4, 0, 0) _ from rfl)
    | 1, _ => exact (show tK base m0 (4, 0, 0) _ from rfl)
    | 2, _ => exact (show tK base m0 (4, 0, 0) _ from rfl)
    | 3, _ => exact (show tK base m0 (2, 0, 0) _ from ⟨0, rfl⟩)
    | 4, _ => exact (show tK base m0 (1, 0, 0) _ from ⟨0, rfl, by decide, by decide⟩)
    | i + 5, h => omega
  · have hi2 : 5 ≤ i := hi
    have e : m_fty 6 i = none := if_neg (show ¬ i < 5 by omega)
    unfold m_dflt
    rw [e]
    rfl
theorem pd_7 {base : Nat} (m0 : Nat) : Pc base m0 (7, 16, [(4, 0, 0), (4, 0, 0), (1, 0, 0), (4, 0, 0), (1, 0, 0), (1, 0, 0), (4, 0, 0), (4, 0, 0), (4, 0, 0), (4, 0, 0), (1, 0, 0), (4, 0, 0), (1, 0, 0), (4, 0, 0), (1, 0, 0), (4, 0, 0)]) (m_dflt 7) := by
  intro i
  refine ⟨fun hi => ?_, fun hi => ?_⟩
  · have hi2 : i < 16 := hi
    match i, hi2 with
    | 0, _ => exact (show tK base m0 (4, 0, 0) _ from rfl)
    | 1, _ => exact (show tK base m0 (4, 0, 0) _ from rfl)
    | 2, _ => exact (show tK base m0 (1, 0, 0) _ from ⟨0, rfl, by decide, by decide⟩)
    | 3, _ => exact (show tK base m0 (4, 0, 0) _ from rfl)
    | 4, _ => exact (show tK base m0 (1, 0, 0) _ from ⟨0, rfl, by decide, by decide⟩)
    | 5, _ => exact (show tK base m0 (1, 0, 0) _ from ⟨0, rfl, by decide, by decide⟩)
    | 6, _ => exact (show tK base m0 (4, 0, 0) _ from rfl)
    | 7, _ => exact (show tK base m0 (4, 0, 0) _ from rfl)
    | 8, _ => exact (show tK base m0 (4, 0, 0) _ from rfl)
    | 9, _ => exact (show tK base m0 (4, 0, 0) _ from rfl)
    | 10, _ => exact (show tK base m0 (1, 0, 0) _ from ⟨0, rfl, by decide, by decide⟩)
    | 11, _ => exact (show tK base m0 (4, 0, 0) _ from rfl)
    | 12, _ => exact (show tK base m0 (1, 0, 0) _ from ⟨0, rfl, by decide, by decide⟩)
    | 13, _ => exact (show tK base m0 (4, 0, 0) _ from rfl)
    | 14, _ => exact (show tK base m0 (1, 0, 0) _ from ⟨0, rfl, by decide, by decide⟩)
    | 15, _ => exact (show tK base m0 (4, 0, 0) _ from rfl)
    | i + 16, h => omega
  · have hi2 : 16 ≤ i := hi
    have e : m_fty 7 i = none := if_neg (show ¬ i < 16 by omega)
    unfold m_dflt
    rw [e]
    rfl
theorem pd_8 {base : Nat} (m0 : Nat) : Pc base m0 (8, 18, [(4, 0, 0), (4, 0, 0), (4, 0, 0), (4, 0, 0), (4, 0, 0), (4, 0, 0), (4, 0, 0), (4, 0, 0), (4, 0, 0), (4, 0, 0), (4, 0, 0), (4, 0, 0), (4, 0, 0), (4, 0, 0), (4, 0, 0), (1, 0, 0), (1, 0, 0), (1, 0, 0)]) (m_dflt 8) := by
  intro i
  refine ⟨fun hi => ?_, fun hi => ?_⟩
  · have hi2 : i < 18 := hi
    match i, hi2 with
    | 0, _ => exact (show tK base m0 (4, 0, 0) _ from rfl)
    | 1, _ => exact (show tK base m0 (4, 0, 0) _ from rfl)
    | 2, _ => exact (show tK base m0 (4, 0, 0) _ from rfl)
    | 3, _ => exact (show tK base m0 (4, 0, 0) _ from rfl)
    | 4, _ => exact (show tK base m0 (4, 0, 0) _ from rfl)
    | 5, _ => exact (show tK base m0 (4, 0, 0) _ from rfl)
    | 6, _ => exact (show tK base m0 (4, 0, 0) _ from rfl)
    | 7, _ => exact (show tK base m0 (4, 0, 0) _ from rfl)
    | 8, _ => exact (show tK base m0 (4, 0, 0) _ from rfl)
    | 9, _ => exact (show tK base m0 (4, 0, 0) _ from rfl)
    | 10, _ => exact (show tK base m0 (4, 0, 0) _ from rfl)
    | 11, _ => exact (show tK base m0 (4, 0, 0) _ from rfl)
    | 12, _ => exact (show tK base m0 (4, 0, 0) _ from rfl)
    | 13, _ => exact (show tK base m0 (4, 0, 0) _ from rfl)
    | 14, _ => exact (show tK base m0 (4, 0, 0) _ from rfl)
    | 15, _ => exact (show tK base m0 (1, 0, 0) _ from ⟨0, rfl, by decide, by decide⟩)
    | 16, _ => exact (show tK base m0 (1, 0, 0) _ from ⟨0, rfl, by decide, by decide⟩)
    | 17, _ => exact (show tK base m0 (1, 0, 0) _ from ⟨0, rfl, by decide, by decide⟩)
    | i + 18, h => omega
  · have hi2 : 18 ≤ i := hi
    have e : m_fty 8 i = none := if_neg (show ¬ i < 18 by omega)
    unfold m_dflt
    rw [e]
    rfl
noncomputable def sc0_1 : List dC := [(0, 7, [(4, 0, 0), (1, 0, 0), (2, 0, 0), (1, 0, 0), (4, 0, 0), (1, 0, 0), (4, 0, 0)])]
noncomputable def sc0_2 : List dC := [(0, 7, [(4, 0, 0), (1, 0, 0), (2, 0, 0), (1, 0, 0), (4, 0, 0), (1, 0, 0), (4, 0, 0)]), (1000, 12, [(1, 0, 0)])]
noncomputable def sc0_3 : List dC := [(0, 7, [(3, 1, 0), (1, 0, 0), (2, 0, 0), (1, 0, 0), (4, 0, 0), (1, 0, 0), (4, 0, 0)]), (1000, 12, [(1, 0, 0)])]
noncomputable def sc0_4 : List dC := [(0, 7, [(3, 1, 0), (1, 0, 0), (2, 0, 0), (1, 0, 0), (4, 0, 0), (1, 0, 0), (4, 0, 0)]), (1000, 12, [(1, 0, 0)])]
noncomputable def sc0_5 : List dC := [(0, 7, [(3, 1, 0), (1, 0, 0), (2, 0, 0), (1, 0, 0), (4, 0, 0), (1, 0, 0), (4, 0, 0)]), (1000, 12, [(1, 0, 0)])]
noncomputable def sc0_6 : List dC := [(0, 7, [(3, 1, 0), (1, 0, 0), (2, 0, 0), (1, 0, 0), (4, 0, 0), (1, 0, 0), (4, 0, 0)]), (1000, 12, [(1, 0, 0)])]
noncomputable def sc0_7 : List dC := [(0, 7, [(3, 1, 0), (1, 0, 0), (2, 0, 0), (1, 0, 0), (4, 0, 0), (1, 0, 0), (4, 0, 0)]), (1000, 12, [(1, 0, 0)]), (1001, 11, [(2, 0, 0)])]
noncomputable def sc0_8 : List dC := [(0, 7, [(3, 1, 0), (1, 0, 0), (2, 0, 0), (1, 0, 0), (3, 2, 0), (1, 0, 0), (4, 0, 0)]), (1000, 12, [(1, 0, 0)]), (1001, 11, [(2, 0, 0)])]
noncomputable def sc0_9 : List dC := [(0, 7, [(3, 1, 0), (1, 0, 0), (2, 0, 0), (1, 0, 0), (3, 2, 0), (1, (-1), (-1)), (4, 0, 0)]), (1000, 12, [(1, 0, 0)]), (1001, 11, [(2, 0, 0)])]
noncomputable def sc0_10 : List dC := [(0, 7, [(3, 1, 0), (1, 0, 0), (2, 0, 0), (1, 0, 0), (3, 2, 0), (1, (-1), (-1)), (4, 0, 0)]), (1000, 12, [(1, 0, 0)]), (1001, 11, [(2, 0, 0)]), (1001, 64, [(2, 0, 0)])]
noncomputable def sc0_11 : List dC := [(0, 7, [(3, 1, 0), (1, 0, 0), (2, 0, 0), (1, 0, 0), (3, 2, 0), (1, (-1), (-1)), (3, 3, 0)]), (1000, 12, [(1, 0, 0)]), (1001, 11, [(2, 0, 0)]), (1001, 64, [(2, 0, 0)])]
set_option maxRecDepth 4000 in
theorem c0 {base : Nat} {X : Nat → Option mC} {G : Nat → Value} (E : EnvOK base X G) {d : Nat} (hd : 0 ≤ d) {M0 M : mH} (P : Ps base [(0, 7, [(4, 0, 0), (1, 0, 0), (2, 0, 0), (1, 0, 0), (4, 0, 0), (1, 0, 0), (4, 0, 0)])] M0 M) {th : Nat} (hth : th = M0.1) : sOk base X G d T0 [vR th] M (pV (fun M' => Ps base sc0_11 M0 M')) := by
  subst hth
  refine sOk.of (show sRn base X G d T0 0 [(0, vR M0.1)] [] M _ from ?_)
  refine s_blx (lv' := [(0, vR (M0.1))]) (st' := [vR (M0.1)]) B0_0_1 rfl ?_
  refine r_obj (pc' := 4) D0_1 rfl mc_0_special_5 sp_0_5 (Nat.le_of_ble_eq_true rfl) ?_
  refine s_blx (lv' := [(0, vR (M0.1))]) (st' := [vI 12, vR (M0.1)]) B0_4_7 rfl ?_
  refine p_newA sc0_2 [(1, 0, 0)] (pc' := 9) D0_7 rfl rfl rfl (by decide) P (fun i _ => (show tK base M0.1 (1, 0, 0) _ from ⟨0, rfl, by decide, by decide⟩)) rfl rfl 1 rfl (fun M2 P1 => ?_)
  refine p_pv sc0_3 [(3, 1, 0), (1, 0, 0), (2, 0, 0), (1, 0, 0), (4, 0, 0), (1, 0, 0), (4, 0, 0)] (pc' := 12) (j := 0) (ty := .array (.int)) D0_9 rfl fi_0_13 P1 rfl rfl (by decide) rfl rfl rfl (Or.inr ⟨by decide, by decide⟩) (by decide +kernel) (show tK base M0.1 (3, 1, 0) _ from tkR (r := 1)) rfl (fun M4 P3 => ?_)
  refine s_blx (lv' := [(0, vR (M0.1))]) (st' := [vI 0, vR (M0.1)]) B0_12_14 rfl ?_
  refine p_pv sc0_4 [(3, 1, 0), (1, 0, 0), (2, 0, 0), (1, 0, 0), (4, 0, 0), (1, 0, 0), (4, 0, 0)] (pc' := 17) (j := 0) (ty := .int) D0_14 rfl fi_0_17 P3 rfl rfl (by decide) rfl rfl rfl (Or.inr ⟨by decide, by decide⟩) (by decide +kernel) (show tK base M0.1 (1, 0, 0) _ from ⟨_, rfl, by decide, by decide⟩) rfl (fun M6 P5 => ?_)
  refine s_blx (lv' := [(0, vR (M0.1))]) (st' := [vL 1, vR (M0.1)]) B0_17_19 rfl ?_
  refine p_pv sc0_5 [(3, 1, 0), (1, 0, 0), (2, 0, 0), (1, 0, 0), (4, 0, 0), (1, 0, 0), (4, 0, 0)] (pc' := 22) (j := 0) (ty := .long) D0_19 rfl fi_0_21 P5 rfl rfl (by decide) rfl rfl rfl (Or.inr ⟨by decide, by decide⟩) (by decide +kernel) (show tK base M0.1 (2, 0, 0) _ from ⟨_, rfl⟩) rfl (fun M8 P7 => ?_)
  refine s_blx (lv' := [(0, vR (M0.1))]) (st' := [vI 0, vR (M0.1)]) B0_22_24 rfl ?_
  refine p_pv sc0_6 [(3, 1, 0), (1, 0, 0), (2, 0, 0), (1, 0, 0), (4, 0, 0), (1, 0, 0), (4, 0, 0)] (pc' := 27) (j := 0) (ty := .int) D0_24 rfl fi_0_25 P7 rfl rfl (by decide) rfl rfl rfl (Or.inr ⟨by decide, by decide⟩) (by decide +kernel) (show tK base M0.1 (1, 0, 0) _ from ⟨_, rfl, by decide, by decide⟩) rfl (fun M10 P9 => ?_)
  refine s_blx (lv' := [(0, vR (M0.1))]) (st' := [vI 11, vR (M0.1)]) B0_27_30 rfl ?_
  refine p_newA sc0_7 [(2, 0, 0)] (pc' := 32) D0_30 rfl rfl rfl (by decide) P9 (fun i _ => (show tK base M0.1 (2, 0, 0) _ from ⟨0, rfl⟩)) rfl rfl 2 rfl (fun M12 P11 => ?_)
  refine p_pv sc0_8 [(3, 1, 0), (1, 0, 0), (2, 0, 0), (1, 0, 0), (3, 2, 0), (1, 0, 0), (4, 0, 0)] (pc' := 35) (j := 0) (ty := .array (.long)) D0_32 rfl fi_0_28 P11 rfl rfl (by decide) rfl rfl rfl (Or.inr ⟨by decide, by decide⟩) (by decide +kernel) (show tK base M0.1 (3, 2, 0) _ from tkR (r := 2)) rfl (fun M14 P13 => ?_)
  refine s_blx (lv' := [(0, vR (M0.1))]) (st' := [vI (-1), vR (M0.1)]) B0_35_37 rfl ?_
  refine p_pv sc0_9 [(3, 1, 0), (1, 0, 0), (2, 0, 0), (1, 0, 0), (3, 2, 0), (1, (-1), (-1)), (4, 0, 0)] (pc' := 40) (j := 0) (ty := .int) D0_37 rfl fi_0_32 P13 rfl rfl (by decide) rfl rfl rfl (Or.inr ⟨by decide, by decide⟩) (by decide +kernel) (show tK base M0.1 (1, (-1), (-1)) _ from ⟨_, rfl, by decide, by decide⟩) rfl (fun M16 P15 => ?_)
  refine s_blx (lv' := [(0, vR (M0.1))]) (st' := [vI 64, vR (M0.1)]) B0_40_43 rfl ?_
  refine p_newA sc0_10 [(2, 0, 0)] (pc' := 45) D0_43 rfl rfl rfl (by decide) P15 (fun i _ => (show tK base M0.1 (2, 0, 0) _ from ⟨0, rfl⟩)) rfl rfl 3 rfl (fun M18 P17 => ?_)
  refine p_pv sc0_11 [(3, 1, 0), (1, 0, 0), (2, 0, 0), (1, 0, 0), (3, 2, 0), (1, (-1), (-1)), (3, 3, 0)] (pc' := 48) (j := 0) (ty := .array (.long)) D0_45 rfl fi_0_35 P17 rfl rfl (by decide) rfl rfl rfl (Or.inr ⟨by decide, by decide⟩) (by decide +kernel) (show tK base M0.1 (3, 3, 0) _ from tkR (r := 3)) rfl (fun M20 P19 => ?_)
  exact r_retV D0_48 rfl P19
noncomputable def sc9_1 : List dC := [(1, 4, [(4, 0, 0), (1, 0, 0), (4, 0, 0), (1, 0, 0)])]
noncomputable def sc9_2 : List dC := [(1, 4, [(4, 0, 0), (1, 0, 0), (4, 0, 0), (1, 0, 0)]), (1000, 6, [(1, 0, 0)])]
noncomputable def sc9_3 : List dC := [(1, 4, [(3, 1, 0), (1, 0, 0), (4, 0, 0), (1, 0, 0)]), (1000, 6, [(1, 0, 0)])]
noncomputable def sc9_4 : List dC := [(1, 4, [(3, 1, 0), (1, 0, 0), (4, 0, 0), (1, 0, 0)]), (1000, 6, [(1, 0, 0)])]
noncomputable def sc9_5 : List dC := [(1, 4, [(3, 1, 0), (1, 0, 0), (4, 0, 0), (1, 0, 0)]), (1000, 6, [(1, 0, 0)]), (1000, 6, [(1, 0, 0)])]
noncomputable def sc9_6 : List dC := [(1, 4, [(3, 1, 0), (1, 0, 0), (3, 2, 0), (1, 0, 0)]), (1000, 6, [(1, 0, 0)]), (1000, 6, [(1, 0, 0)])]
noncomputable def sc9_7 : List dC := [(1, 4, [(3, 1, 0), (1, 0, 0), (3, 2, 0), (1, (-1), (-1))]), (1000, 6, [(1, 0, 0)]), (1000, 6, [(1, 0, 0)])]
set_option maxRecDepth 4000 in
theorem c9 {base : Nat} {X : Nat → Option mC} {G : Nat → Value} (E : EnvOK base X G) {d : Nat} (hd : 0 ≤ d) {M0 M : mH} (P : Ps base [(1, 4, [(4, 0, 0), (1, 0, 0), (4, 0, 0), (1, 0, 0)])] M0 M) {th : Nat} (hth : th = M0.1) : sOk base X G d T9 [vR th] M (pV (fun M' => Ps base sc9_7 M0 M')) := by
  subst hth
  refine sOk.of (show sRn base X G d T9 0 [(0, vR M0.1)] [] M _ from ?_)
  refine s_blx (lv' := [(0, vR (M0.1))]) (st' := [vR (M0.1)]) B9_0_1 rfl ?_
  refine r_obj (pc' := 4) D9_1 rfl mc_1_special_3 sp_1_3 (Nat.le_of_ble_eq_true rfl) ?_
  refine s_blx (lv' := [(0, vR (M0.1))]) (st' := [vI 6, vR (M0.1)]) B9_4_7 rfl ?_
  refine p_newA sc9_2 [(1, 0, 0)] (pc' := 9) D9_7 rfl rfl rfl (by decide) P (fun i _ => (show tK base M0.1 (1, 0, 0) _ from ⟨0, rfl, by decide, by decide⟩)) rfl rfl 1 rfl (fun M2 P1 => ?_)
  refine p_pv sc9_3 [(3, 1, 0), (1, 0, 0), (4, 0, 0), (1, 0, 0)] (pc' := 12) (j := 0) (ty := .array (.int)) D9_9 rfl fi_1_9 P1 rfl rfl (by decide) rfl rfl rfl (Or.inr ⟨by decide, by decide⟩) (by decide +kernel) (show tK base M0.1 (3, 1, 0) _ from tkR (r := 1)) rfl (fun M4 P3 => ?_)
  refine s_blx (lv' := [(0, vR (M0.1))]) (st' := [vI 0, vR (M0.1)]) B9_12_14 rfl ?_
  refine p_pv sc9_4 [(3, 1, 0), (1, 0, 0), (4, 0, 0), (1, 0, 0)] (pc' := 17) (j := 0) (ty := .int) D9_14 rfl fi_1_15 P3 rfl rfl (by decide) rfl rfl rfl (Or.inr ⟨by decide, by decide⟩) (by decide +kernel) (show tK base M0.1 (1, 0, 0) _ from ⟨_, rfl, by decide, by decide⟩) rfl (fun M6 P5 => ?_)
  refine s_blx (lv' := [(0, vR (M0.1))]) (st' := [vI 6, vR (M0.1)]) B9_17_20 rfl ?_
  refine p_newA sc9_5 [(1, 0, 0)] (pc' := 22) D9_20 rfl rfl rfl (by decide) P5 (fun i _ => (show tK base M0.1 (1, 0, 0) _ from ⟨0, rfl, by decide, by decide⟩)) rfl rfl 2 rfl (fun M8 P7 => ?_)
  refine p_pv sc9_6 [(3, 1, 0), (1, 0, 0), (3, 2, 0), (1, 0, 0)] (pc' := 25) (j := 0) (ty := .array (.int)) D9_22 rfl fi_1_19 P7 rfl rfl (by decide) rfl rfl rfl (Or.inr ⟨by decide, by decide⟩) (by decide +kernel) (show tK base M0.1 (3, 2, 0) _ from tkR (r := 2)) rfl (fun M10 P9 => ?_)
  refine s_blx (lv' := [(0, vR (M0.1))]) (st' := [vI (-1), vR (M0.1)]) B9_25_27 rfl ?_
  refine p_pv sc9_7 [(3, 1, 0), (1, 0, 0), (3, 2, 0), (1, (-1), (-1))] (pc' := 30) (j := 0) (ty := .int) D9_27 rfl fi_1_22 P9 rfl rfl (by decide) rfl rfl rfl (Or.inr ⟨by decide, by decide⟩) (by decide +kernel) (show tK base M0.1 (1, (-1), (-1)) _ from ⟨_, rfl, by decide, by decide⟩) rfl (fun M12 P11 => ?_)
  exact r_retV D9_30 rfl P11
noncomputable def sc12_1 : List dC := [(2, 2, [(4, 0, 0), (4, 0, 0)])]
noncomputable def sc12_2 : List dC := [(2, 2, [(4, 0, 0), (4, 0, 0)]), (1000, 241, [(1, 0, 0)])]
noncomputable def sc12_3 : List dC := [(2, 2, [(3, 1, 0), (4, 0, 0)]), (1000, 241, [(1, 0, 0)])]
noncomputable def sc12_4 : List dC := [(2, 2, [(3, 1, 0), (4, 0, 0)]), (1000, 241, [(1, 0, 0)]), (1000, 241, [(1, 0, 0)])]
noncomputable def sc12_5 : List dC := [(2, 2, [(3, 1, 0), (3, 2, 0)]), (1000, 241, [(1, 0, 0)]), (1000, 241, [(1, 0, 0)])]
set_option maxRecDepth 4000 in
theorem c12 {base : Nat} {X : Nat → Option mC} {G : Nat → Value} (E : EnvOK base X G) {d : Nat} (hd : 0 ≤ d) {M0 M : mH} (P : Ps base [(2, 2, [(4, 0, 0), (4, 0, 0)])] M0 M) {th : Nat} (hth : th = M0.1) : sOk base X G d T12 [vR th] M (pV (fun M' => Ps base sc12_5 M0 M')) := by
  subst hth
  refine sOk.of (show sRn base X G d T12 0 [(0, vR M0.1)] [] M _ from ?_)
  refine s_blx (lv' := [(0, vR (M0.1))]) (st' := [vR (M0.1)]) B12_0_1 rfl ?_
  refine r_obj (pc' := 4) D12_1 rfl mc_2_special_3 sp_2_3 (Nat.le_of_ble_eq_true rfl) ?_
  refine s_blx (lv' := [(0, vR (M0.1))]) (st' := [vI 241, vR (M0.1)]) B12_4_8 rfl ?_
  refine p_newA sc12_2 [(1, 0, 0)] (pc' := 10) D12_8 rfl rfl rfl (by decide) P (fun i _ => (show tK base M0.1 (1, 0, 0) _ from ⟨0, rfl, by decide, by decide⟩)) rfl rfl 1 rfl (fun M2 P1 => ?_)
  refine p_pv sc12_3 [(3, 1, 0), (4, 0, 0)] (pc' := 13) (j := 0) (ty := .array (.int)) D12_10 rfl fi_2_9 P1 rfl rfl (by decide) rfl rfl rfl (Or.inr ⟨by decide, by decide⟩) (by decide +kernel) (show tK base M0.1 (3, 1, 0) _ from tkR (r := 1)) rfl (fun M4 P3 => ?_)
  refine s_blx (lv' := [(0, vR (M0.1))]) (st' := [vI 241, vR (M0.1)]) B12_13_17 rfl ?_
  refine p_newA sc12_4 [(1, 0, 0)] (pc' := 19) D12_17 rfl rfl rfl (by decide) P3 (fun i _ => (show tK base M0.1 (1, 0, 0) _ from ⟨0, rfl, by decide, by decide⟩)) rfl rfl 2 rfl (fun M6 P5 => ?_)
  refine p_pv sc12_5 [(3, 1, 0), (3, 2, 0)] (pc' := 22) (j := 0) (ty := .array (.int)) D12_19 rfl fi_2_15 P5 rfl rfl (by decide) rfl rfl rfl (Or.inr ⟨by decide, by decide⟩) (by decide +kernel) (show tK base M0.1 (3, 2, 0) _ from tkR (r := 2)) rfl (fun M8 P7 => ?_)
  exact r_retV D12_22 rfl P7
noncomputable def sc16_1 : List dC := [(4, 11, [(4, 0, 0), (4, 0, 0), (1, 0, 0), (1, 0, 0), (1, 0, 0), (4, 0, 0), (4, 0, 0), (1, 0, 0), (4, 0, 0), (1, 0, 0), (1, 0, 0)])]
noncomputable def sc16_2 : List dC := [(4, 11, [(4, 0, 0), (4, 0, 0), (1, 0, 0), (1, 0, 0), (1, 0, 0), (4, 0, 0), (4, 0, 0), (1, 0, 0), (4, 0, 0), (1, 0, 0), (1, 0, 0)]), (1000, 401, [(1, 0, 0)])]
noncomputable def sc16_3 : List dC := [(4, 11, [(3, 1, 0), (4, 0, 0), (1, 0, 0), (1, 0, 0), (1, 0, 0), (4, 0, 0), (4, 0, 0), (1, 0, 0), (4, 0, 0), (1, 0, 0), (1, 0, 0)]), (1000, 401, [(1, 0, 0)])]
noncomputable def sc16_4 : List dC := [(4, 11, [(3, 1, 0), (4, 0, 0), (1, 0, 0), (1, 0, 0), (1, 0, 0), (4, 0, 0), (4, 0, 0), (1, 0, 0), (4, 0, 0), (1, 0, 0), (1, 0, 0)]), (1000, 401, [(1, 0, 0)]), (1000, 401, [(1, 0, 0)])]
noncomputable def sc16_5 : List dC := [(4, 11, [(3, 1, 0), (3, 2, 0), (1, 0, 0), (1, 0, 0), (1, 0, 0), (4, 0, 0), (4, 0, 0), (1, 0, 0), (4, 0, 0), (1, 0, 0), (1, 0, 0)]), (1000, 401, [(1, 0, 0)]), (1000, 401, [(1, 0, 0)])]
noncomputable def sc16_6 : List dC := [(4, 11, [(3, 1, 0), (3, 2, 0), (1, 0, 0), (1, 0, 0), (1, 0, 0), (4, 0, 0), (4, 0, 0), (1, 0, 0), (4, 0, 0), (1, 0, 0), (1, 0, 0)]), (1000, 401, [(1, 0, 0)]), (1000, 401, [(1, 0, 0)])]
noncomputable def sc16_7 : List dC := [(4, 11, [(3, 1, 0), (3, 2, 0), (1, 0, 0), (1, 22, 22), (1, 0, 0), (4, 0, 0), (4, 0, 0), (1, 0, 0), (4, 0, 0), (1, 0, 0), (1, 0, 0)]), (1000, 401, [(1, 0, 0)]), (1000, 401, [(1, 0, 0)])]
noncomputable def sc16_8 : List dC := [(4, 11, [(3, 1, 0), (3, 2, 0), (1, 0, 0), (1, 22, 22), (1, 0, 0), (4, 0, 0), (4, 0, 0), (1, 0, 0), (4, 0, 0), (1, 0, 0), (1, 0, 0)]), (1000, 401, [(1, 0, 0)]), (1000, 401, [(1, 0, 0)])]
noncomputable def sc16_9 : List dC := [(4, 11, [(3, 1, 0), (3, 2, 0), (1, 0, 0), (1, 22, 22), (1, 0, 0), (4, 0, 0), (4, 0, 0), (1, 0, 0), (4, 0, 0), (1, 0, 0), (1, 0, 0)]), (1000, 401, [(1, 0, 0)]), (1000, 401, [(1, 0, 0)]), (1000, 12, [(1, 0, 0)])]
noncomputable def sc16_10 : List dC := [(4, 11, [(3, 1, 0), (3, 2, 0), (1, 0, 0), (1, 22, 22), (1, 0, 0), (3, 3, 0), (4, 0, 0), (1, 0, 0), (4, 0, 0), (1, 0, 0), (1, 0, 0)]), (1000, 401, [(1, 0, 0)]), (1000, 401, [(1, 0, 0)]), (1000, 12, [(1, 0, 0)])]
noncomputable def sc16_11 : List dC := [(4, 11, [(3, 1, 0), (3, 2, 0), (1, 0, 0), (1, 22, 22), (1, 0, 0), (3, 3, 0), (4, 0, 0), (1, 0, 0), (4, 0, 0), (1, 0, 0), (1, 0, 0)]), (1000, 401, [(1, 0, 0)]), (1000, 401, [(1, 0, 0)]), (1000, 12, [(1, 0, 0)]), (1000, 12, [(1, 0, 0)])]
noncomputable def sc16_12 : List dC := [(4, 11, [(3, 1, 0), (3, 2, 0), (1, 0, 0), (1, 22, 22), (1, 0, 0), (3, 3, 0), (3, 4, 0), (1, 0, 0), (4, 0, 0), (1, 0, 0), (1, 0, 0)]), (1000, 401, [(1, 0, 0)]), (1000, 401, [(1, 0, 0)]), (1000, 12, [(1, 0, 0)]), (1000, 12, [(1, 0, 0)])]
noncomputable def sc16_13 : List dC := [(4, 11, [(3, 1, 0), (3, 2, 0), (1, 0, 0), (1, 22, 22), (1, 0, 0), (3, 3, 0), (3, 4, 0), (1, 0, 0), (4, 0, 0), (1, 0, 0), (1, 0, 0)]), (1000, 401, [(1, 0, 0)]), (1000, 401, [(1, 0, 0)]), (1000, 12, [(1, 0, 0)]), (1000, 12, [(1, 0, 0)])]
noncomputable def sc16_14 : List dC := [(4, 11, [(3, 1, 0), (3, 2, 0), (1, 0, 0), (1, 22, 22), (1, 0, 0), (3, 3, 0), (3, 4, 0), (1, 0, 0), (4, 0, 0), (1, 0, 0), (1, 0, 0)]), (1000, 401, [(1, 0, 0)]), (1000, 401, [(1, 0, 0)]), (1000, 12, [(1, 0, 0)]), (1000, 12, [(1, 0, 0)]), (1000, 400, [(1, 0, 0)])]
noncomputable def sc16_15 : List dC := [(4, 11, [(3, 1, 0), (3, 2, 0), (1, 0, 0), (1, 22, 22), (1, 0, 0), (3, 3, 0), (3, 4, 0), (1, 0, 0), (3, 5, 0), (1, 0, 0), (1, 0, 0)]), (1000, 401, [(1, 0, 0)]), (1000, 401, [(1, 0, 0)]), (1000, 12, [(1, 0, 0)]), (1000, 12, [(1, 0, 0)]), (1000, 400, [(1, 0, 0)])]
noncomputable def sc16_16 : List dC := [(4, 11, [(3, 1, 0), (3, 2, 0), (1, 0, 0), (1, 22, 22), (1, 0, 0), (3, 3, 0), (3, 4, 0), (1, 0, 0), (3, 5, 0), (1, 0, 0), (1, 0, 0)]), (1000, 401, [(1, 0, 0)]), (1000, 401, [(1, 0, 0)]), (1000, 12, [(1, 0, 0)]), (1000, 12, [(1, 0, 0)]), (1000, 400, [(1, 0, 0)])]
noncomputable def sc16_17 : List dC := [(4, 11, [(3, 1, 0), (3, 2, 0), (1, 0, 0), (1, 22, 22), (1, 0, 0), (3, 3, 0), (3, 4, 0), (1, 0, 0), (3, 5, 0), (1, 0, 0), (1, (-1), (-1))]), (1000, 401, [(1, 0, 0)]), (1000, 401, [(1, 0, 0)]), (1000, 12, [(1, 0, 0)]), (1000, 12, [(1, 0, 0)]), (1000, 400, [(1, 0, 0)])]
set_option maxRecDepth 4000 in
theorem c16 {base : Nat} {X : Nat → Option mC} {G : Nat → Value} (E : EnvOK base X G) {d : Nat} (hd : 0 ≤ d) {M0 M : mH} (P : Ps base [(4, 11, [(4, 0, 0), (4, 0, 0), (1, 0, 0), (1, 0, 0), (1, 0, 0), (4, 0, 0), (4, 0, 0), (1, 0, 0), (4, 0, 0), (1, 0, 0), (1, 0, 0)])] M0 M) {th : Nat} (hth : th = M0.1) : sOk base X G d T16 [vR th] M (pV (fun M' => Ps base sc16_17 M0 M')) := by
  subst hth
  refine sOk.of (show sRn base X G d T16 0 [(0, vR M0.1)] [] M _ from ?_)
  refine s_blx (lv' := [(0, vR (M0.1))]) (st' := [vR (M0.1)]) B16_0_1 rfl ?_
  refine r_obj (pc' := 4) D16_1 rfl mc_4_special_3 sp_4_3 (Nat.le_of_ble_eq_true rfl) ?_
  refine s_blx (lv' := [(0, vR (M0.1))]) (st' := [vI 401, vR (M0.1)]) B16_4_8 rfl ?_
  refine p_newA sc16_2 [(1, 0, 0)] (pc' := 10) D16_8 rfl rfl rfl (by decide) P (fun i _ => (show tK base M0.1 (1, 0, 0) _ from ⟨0, rfl, by decide, by decide⟩)) rfl rfl 1 rfl (fun M2 P1 => ?_)
  refine p_pv sc16_3 [(3, 1, 0), (4, 0, 0), (1, 0, 0), (1, 0, 0), (1, 0, 0), (4, 0, 0), (4, 0, 0), (1, 0, 0), (4, 0, 0), (1, 0, 0), (1, 0, 0)] (pc' := 13) (j := 0) (ty := .array (.int)) D16_10 rfl fi_4_9 P1 rfl rfl (by decide) rfl rfl rfl (Or.inr ⟨by decide, by decide⟩) (by decide +kernel) (show tK base M0.1 (3, 1, 0) _ from tkR (r := 1)) rfl (fun M4 P3 => ?_)
  refine s_blx (lv' := [(0, vR (M0.1))]) (st' := [vI 401, vR (M0.1)]) B16_13_17 rfl ?_
  refine p_newA sc16_4 [(1, 0, 0)] (pc' := 19) D16_17 rfl rfl rfl (by decide) P3 (fun i _ => (show tK base M0.1 (1, 0, 0) _ from ⟨0, rfl, by decide, by decide⟩)) rfl rfl 2 rfl (fun M6 P5 => ?_)
  refine p_pv sc16_5 [(3, 1, 0), (3, 2, 0), (1, 0, 0), (1, 0, 0), (1, 0, 0), (4, 0, 0), (4, 0, 0), (1, 0, 0), (4, 0, 0), (1, 0, 0), (1, 0, 0)] (pc' := 22) (j := 0) (ty := .array (.int)) D16_19 rfl fi_4_15 P5 rfl rfl (by decide) rfl rfl rfl (Or.inr ⟨by decide, by decide⟩) (by decide +kernel) (show tK base M0.1 (3, 2, 0) _ from tkR (r := 2)) rfl (fun M8 P7 => ?_)
  refine s_blx (lv' := [(0, vR (M0.1))]) (st' := [vI 0, vR (M0.1)]) B16_22_24 rfl ?_
  refine p_pv sc16_6 [(3, 1, 0), (3, 2, 0), (1, 0, 0), (1, 0, 0), (1, 0, 0), (4, 0, 0), (4, 0, 0), (1, 0, 0), (4, 0, 0), (1, 0, 0), (1, 0, 0)] (pc' := 27) (j := 0) (ty := .int) D16_24 rfl fi_4_18 P7 rfl rfl (by decide) rfl rfl rfl (Or.inr ⟨by decide, by decide⟩) (by decide +kernel) (show tK base M0.1 (1, 0, 0) _ from ⟨_, rfl, by decide, by decide⟩) rfl (fun M10 P9 => ?_)
  refine s_blx (lv' := [(0, vR (M0.1))]) (st' := [vI 22, vR (M0.1)]) B16_27_30 rfl ?_
  refine p_pv sc16_7 [(3, 1, 0), (3, 2, 0), (1, 0, 0), (1, 22, 22), (1, 0, 0), (4, 0, 0), (4, 0, 0), (1, 0, 0), (4, 0, 0), (1, 0, 0), (1, 0, 0)] (pc' := 33) (j := 0) (ty := .int) D16_30 rfl fi_4_22 P9 rfl rfl (by decide) rfl rfl rfl (Or.inr ⟨by decide, by decide⟩) (by decide +kernel) (show tK base M0.1 (1, 22, 22) _ from ⟨_, rfl, by decide, by decide⟩) rfl (fun M12 P11 => ?_)
  refine s_blx (lv' := [(0, vR (M0.1))]) (st' := [vI 0, vR (M0.1)]) B16_33_35 rfl ?_
  refine p_pv sc16_8 [(3, 1, 0), (3, 2, 0), (1, 0, 0), (1, 22, 22), (1, 0, 0), (4, 0, 0), (4, 0, 0), (1, 0, 0), (4, 0, 0), (1, 0, 0), (1, 0, 0)] (pc' := 38) (j := 0) (ty := .int) D16_35 rfl fi_4_25 P11 rfl rfl (by decide) rfl rfl rfl (Or.inr ⟨by decide, by decide⟩) (by decide +kernel) (show tK base M0.1 (1, 0, 0) _ from ⟨_, rfl, by decide, by decide⟩) rfl (fun M14 P13 => ?_)
  refine s_blx (lv' := [(0, vR (M0.1))]) (st' := [vI 12, vR (M0.1)]) B16_38_41 rfl ?_
  refine p_newA sc16_9 [(1, 0, 0)] (pc' := 43) D16_41 rfl rfl rfl (by decide) P13 (fun i _ => (show tK base M0.1 (1, 0, 0) _ from ⟨0, rfl, by decide, by decide⟩)) rfl rfl 3 rfl (fun M16 P15 => ?_)
  refine p_pv sc16_10 [(3, 1, 0), (3, 2, 0), (1, 0, 0), (1, 22, 22), (1, 0, 0), (3, 3, 0), (4, 0, 0), (1, 0, 0), (4, 0, 0), (1, 0, 0), (1, 0, 0)] (pc' := 46) (j := 0) (ty := .array (.int)) D16_43 rfl fi_4_28 P15 rfl rfl (by decide) rfl rfl rfl (Or.inr ⟨by decide, by decide⟩) (by decide +kernel) (show tK base M0.1 (3, 3, 0) _ from tkR (r := 3)) rfl (fun M18 P17 => ?_)
  refine s_blx (lv' := [(0, vR (M0.1))]) (st' := [vI 12, vR (M0.1)]) B16_46_49 rfl ?_
  refine p_newA sc16_11 [(1, 0, 0)] (pc' := 51) D16_49 rfl rfl rfl (by decide) P17 (fun i _ => (show tK base M0.1 (1, 0, 0) _ from ⟨0, rfl, by decide, by decide⟩)) rfl rfl 4 rfl (fun M20 P19 => ?_)
  refine p_pv sc16_12 [(3, 1, 0), (3, 2, 0), (1, 0, 0), (1, 22, 22), (1, 0, 0), (3, 3, 0), (3, 4, 0), (1, 0, 0), (4, 0, 0), (1, 0, 0), (1, 0, 0)] (pc' := 54) (j := 0) (ty := .array (.int)) D16_51 rfl fi_4_31 P19 rfl rfl (by decide) rfl rfl rfl (Or.inr ⟨by decide, by decide⟩) (by decide +kernel) (show tK base M0.1 (3, 4, 0) _ from tkR (r := 4)) rfl (fun M22 P21 => ?_)
  refine s_blx (lv' := [(0, vR (M0.1))]) (st' := [vI 0, vR (M0.1)]) B16_54_56 rfl ?_
  refine p_pv sc16_13 [(3, 1, 0), (3, 2, 0), (1, 0, 0), (1, 22, 22), (1, 0, 0), (3, 3, 0), (3, 4, 0), (1, 0, 0), (4, 0, 0), (1, 0, 0), (1, 0, 0)] (pc' := 59) (j := 0) (ty := .int) D16_56 rfl fi_4_34 P21 rfl rfl (by decide) rfl rfl rfl (Or.inr ⟨by decide, by decide⟩) (by decide +kernel) (show tK base M0.1 (1, 0, 0) _ from ⟨_, rfl, by decide, by decide⟩) rfl (fun M24 P23 => ?_)
  refine s_blx (lv' := [(0, vR (M0.1))]) (st' := [vI 400, vR (M0.1)]) B16_59_63 rfl ?_
  refine p_newA sc16_14 [(1, 0, 0)] (pc' := 65) D16_63 rfl rfl rfl (by decide) P23 (fun i _ => (show tK base M0.1 (1, 0, 0) _ from ⟨0, rfl, by decide, by decide⟩)) rfl rfl 5 rfl (fun M26 P25 => ?_)
  refine p_pv sc16_15 [(3, 1, 0), (3, 2, 0), (1, 0, 0), (1, 22, 22), (1, 0, 0), (3, 3, 0), (3, 4, 0), (1, 0, 0), (3, 5, 0), (1, 0, 0), (1, 0, 0)] (pc' := 68) (j := 0) (ty := .array (.int)) D16_65 rfl fi_4_37 P25 rfl rfl (by decide) rfl rfl rfl (Or.inr ⟨by decide, by decide⟩) (by decide +kernel) (show tK base M0.1 (3, 5, 0) _ from tkR (r := 5)) rfl (fun M28 P27 => ?_)
  refine s_blx (lv' := [(0, vR (M0.1))]) (st' := [vI 0, vR (M0.1)]) B16_68_70 rfl ?_
  refine p_pv sc16_16 [(3, 1, 0), (3, 2, 0), (1, 0, 0), (1, 22, 22), (1, 0, 0), (3, 3, 0), (3, 4, 0), (1, 0, 0), (3, 5, 0), (1, 0, 0), (1, 0, 0)] (pc' := 73) (j := 0) (ty := .int) D16_70 rfl fi_4_40 P27 rfl rfl (by decide) rfl rfl rfl (Or.inr ⟨by decide, by decide⟩) (by decide +kernel) (show tK base M0.1 (1, 0, 0) _ from ⟨_, rfl, by decide, by decide⟩) rfl (fun M30 P29 => ?_)
  refine s_blx (lv' := [(0, vR (M0.1))]) (st' := [vI (-1), vR (M0.1)]) B16_73_75 rfl ?_
  refine p_pv sc16_17 [(3, 1, 0), (3, 2, 0), (1, 0, 0), (1, 22, 22), (1, 0, 0), (3, 3, 0), (3, 4, 0), (1, 0, 0), (3, 5, 0), (1, 0, 0), (1, (-1), (-1))] (pc' := 78) (j := 0) (ty := .int) D16_75 rfl fi_4_43 P29 rfl rfl (by decide) rfl rfl rfl (Or.inr ⟨by decide, by decide⟩) (by decide +kernel) (show tK base M0.1 (1, (-1), (-1)) _ from ⟨_, rfl, by decide, by decide⟩) rfl (fun M32 P31 => ?_)
  exact r_retV D16_78 rfl P31
noncomputable def sc39_1 : List dC := [(5, 4, [(4, 0, 0), (1, 0, 0), (4, 0, 0), (4, 0, 0)])]
noncomputable def sc39_2 : List dC := [(5, 4, [(4, 0, 0), (1, 0, 0), (4, 0, 0), (4, 0, 0)]), (1000, 120, [(1, 0, 0)])]
noncomputable def sc39_3 : List dC := [(5, 4, [(3, 1, 0), (1, 0, 0), (4, 0, 0), (4, 0, 0)]), (1000, 120, [(1, 0, 0)])]
noncomputable def sc39_4 : List dC := [(5, 4, [(3, 1, 0), (1, (-1), (-1)), (4, 0, 0), (4, 0, 0)]), (1000, 120, [(1, 0, 0)])]
noncomputable def sc39_5 : List dC := [(5, 4, [(3, 1, 0), (1, (-1), (-1)), (4, 0, 0), (4, 0, 0)]), (1000, 120, [(1, 0, 0)]), (1000, 121, [(1, 0, 0)])]
noncomputable def sc39_6 : List dC := [(5, 4, [(3, 1, 0), (1, (-1), (-1)), (3, 2, 0), (4, 0, 0)]), (1000, 120, [(1, 0, 0)]), (1000, 121, [(1, 0, 0)])]
noncomputable def sc39_7 : List dC := [(5, 4, [(3, 1, 0), (1, (-1), (-1)), (3, 2, 0), (4, 0, 0)]), (1000, 120, [(1, 0, 0)]), (1000, 121, [(1, 0, 0)]), (1000, 121, [(1, 0, 0)])]
noncomputable def sc39_8 : List dC := [(5, 4, [(3, 1, 0), (1, (-1), (-1)), (3, 2, 0), (3, 3, 0)]), (1000, 120, [(1, 0, 0)]), (1000, 121, [(1, 0, 0)]), (1000, 121, [(1, 0, 0)])]
set_option maxRecDepth 4000 in
theorem c39 {base : Nat} {X : Nat → Option mC} {G : Nat → Value} (E : EnvOK base X G) {d : Nat} (hd : 0 ≤ d) {M0 M : mH} (P : Ps base [(5, 4, [(4, 0, 0), (1, 0, 0), (4, 0, 0), (4, 0, 0)])] M0 M) {th : Nat} (hth : th = M0.1) : sOk base X G d T39 [vR th] M (pV (fun M' => Ps base sc39_8 M0 M')) := by
  subst hth
  refine sOk.of (show sRn base X G d T39 0 [(0, vR M0.1)] [] M _ from ?_)
  refine s_blx (lv' := [(0, vR (M0.1))]) (st' := [vR (M0.1)]) B39_0_1 rfl ?_
  refine r_obj (pc' := 4) D39_1 rfl mc_5_special_3 sp_5_3 (Nat.le_of_ble_eq_true rfl) ?_
  refine s_blx (lv' := [(0, vR (M0.1))]) (st' := [vI 120, vR (M0.1)]) B39_4_7 rfl ?_
  refine p_newA sc39_2 [(1, 0, 0)] (pc' := 9) D39_7 rfl rfl rfl (by decide) P (fun i _ => (show tK base M0.1 (1, 0, 0) _ from ⟨0, rfl, by decide, by decide⟩)) rfl rfl 1 rfl (fun M2 P1 => ?_)
  refine p_pv sc39_3 [(3, 1, 0), (1, 0, 0), (4, 0, 0), (4, 0, 0)] (pc' := 12) (j := 0) (ty := .array (.int)) D39_9 rfl fi_5_9 P1 rfl rfl (by decide) rfl rfl rfl (Or.inr ⟨by decide, by decide⟩) (by decide +kernel) (show tK base M0.1 (3, 1, 0) _ from tkR (r := 1)) rfl (fun M4 P3 => ?_)
  refine s_blx (lv' := [(0, vR (M0.1))]) (st' := [vI (-1), vR (M0.1)]) B39_12_14 rfl ?_
  refine p_pv sc39_4 [(3, 1, 0), (1, (-1), (-1)), (4, 0, 0), (4, 0, 0)] (pc' := 17) (j := 0) (ty := .int) D39_14 rfl fi_5_15 P3 rfl rfl (by decide) rfl rfl rfl (Or.inr ⟨by decide, by decide⟩) (by decide +kernel) (show tK base M0.1 (1, (-1), (-1)) _ from ⟨_, rfl, by decide, by decide⟩) rfl (fun M6 P5 => ?_)
  refine s_blx (lv' := [(0, vR (M0.1))]) (st' := [vI 121, vR (M0.1)]) B39_17_20 rfl ?_
  refine p_newA sc39_5 [(1, 0, 0)] (pc' := 22) D39_20 rfl rfl rfl (by decide) P5 (fun i _ => (show tK base M0.1 (1, 0, 0) _ from ⟨0, rfl, by decide, by decide⟩)) rfl rfl 2 rfl (fun M8 P7 => ?_)
  refine p_pv sc39_6 [(3, 1, 0), (1, (-1), (-1)), (3, 2, 0), (4, 0, 0)] (pc' := 25) (j := 0) (ty := .array (.int)) D39_22 rfl fi_5_19 P7 rfl rfl (by decide) rfl rfl rfl (Or.inr ⟨by decide, by decide⟩) (by decide +kernel) (show tK base M0.1 (3, 2, 0) _ from tkR (r := 2)) rfl (fun M10 P9 => ?_)
  refine s_blx (lv' := [(0, vR (M0.1))]) (st' := [vI 121, vR (M0.1)]) B39_25_28 rfl ?_
  refine p_newA sc39_7 [(1, 0, 0)] (pc' := 30) D39_28 rfl rfl rfl (by decide) P9 (fun i _ => (show tK base M0.1 (1, 0, 0) _ from ⟨0, rfl, by decide, by decide⟩)) rfl rfl 3 rfl (fun M12 P11 => ?_)
  refine p_pv sc39_8 [(3, 1, 0), (1, (-1), (-1)), (3, 2, 0), (3, 3, 0)] (pc' := 33) (j := 0) (ty := .array (.int)) D39_30 rfl fi_5_22 P11 rfl rfl (by decide) rfl rfl rfl (Or.inr ⟨by decide, by decide⟩) (by decide +kernel) (show tK base M0.1 (3, 3, 0) _ from tkR (r := 3)) rfl (fun M14 P13 => ?_)
  exact r_retV D39_33 rfl P13
noncomputable def sc78_1 : List dC := [(8, 18, [(4, 0, 0), (4, 0, 0), (4, 0, 0), (4, 0, 0), (4, 0, 0), (4, 0, 0), (4, 0, 0), (4, 0, 0), (4, 0, 0), (4, 0, 0), (4, 0, 0), (4, 0, 0), (4, 0, 0), (4, 0, 0), (4, 0, 0), (1, 0, 0), (1, 0, 0), (1, 0, 0)])]
noncomputable def sc78_2 : List dC := [(8, 18, [(4, 0, 0), (4, 0, 0), (4, 0, 0), (4, 0, 0), (4, 0, 0), (4, 0, 0), (4, 0, 0), (4, 0, 0), (4, 0, 0), (4, 0, 0), (4, 0, 0), (4, 0, 0), (4, 0, 0), (4, 0, 0), (4, 0, 0), (1, 0, 0), (1, 0, 0), (1, 0, 0)]), (1000, 145, [(1, 0, 0)])]
noncomputable def sc78_3 : List dC := [(8, 18, [(3, 1, 0), (4, 0, 0), (4, 0, 0), (4, 0, 0), (4, 0, 0), (4, 0, 0), (4, 0, 0), (4, 0, 0), (4, 0, 0), (4, 0, 0), (4, 0, 0), (4, 0, 0), (4, 0, 0), (4, 0, 0), (4, 0, 0), (1, 0, 0), (1, 0, 0), (1, 0, 0)]), (1000, 145, [(1, 0, 0)])]
noncomputable def sc78_4 : List dC := [(8, 18, [(3, 1, 0), (4, 0, 0), (4, 0, 0), (4, 0, 0), (4, 0, 0), (4, 0, 0), (4, 0, 0), (4, 0, 0), (4, 0, 0), (4, 0, 0), (4, 0, 0), (4, 0, 0), (4, 0, 0), (4, 0, 0), (4, 0, 0), (1, 0, 0), (1, 0, 0), (1, 0, 0)]), (1000, 145, [(1, 0, 0)]), (1000, 145, [(1, 0, 0)])]
noncomputable def sc78_5 : List dC := [(8, 18, [(3, 1, 0), (3, 2, 0), (4, 0, 0), (4, 0, 0), (4, 0, 0), (4, 0, 0), (4, 0, 0), (4, 0, 0), (4, 0, 0), (4, 0, 0), (4, 0, 0), (4, 0, 0), (4, 0, 0), (4, 0, 0), (4, 0, 0), (1, 0, 0), (1, 0, 0), (1, 0, 0)]), (1000, 145, [(1, 0, 0)]), (1000, 145, [(1, 0, 0)])]
noncomputable def sc78_6 : List dC := [(8, 18, [(3, 1, 0), (3, 2, 0), (4, 0, 0), (4, 0, 0), (4, 0, 0), (4, 0, 0), (4, 0, 0), (4, 0, 0), (4, 0, 0), (4, 0, 0), (4, 0, 0), (4, 0, 0), (4, 0, 0), (4, 0, 0), (4, 0, 0), (1, 0, 0), (1, 0, 0), (1, 0, 0)]), (1000, 145, [(1, 0, 0)]), (1000, 145, [(1, 0, 0)]), (1000, 145, [(1, 0, 0)])]
noncomputable def sc78_7 : List dC := [(8, 18, [(3, 1, 0), (3, 2, 0), (3, 3, 0), (4, 0, 0), (4, 0, 0), (4, 0, 0), (4, 0, 0), (4, 0, 0), (4, 0, 0), (4, 0, 0), (4, 0, 0), (4, 0, 0), (4, 0, 0), (4, 0, 0), (4, 0, 0), (1, 0, 0), (1, 0, 0), (1, 0, 0)]), (1000, 145, [(1, 0, 0)]), (1000, 145, [(1, 0, 0)]), (1000, 145, [(1, 0, 0)])]
noncomputable def sc78_8 : List dC := [(8, 18, [(3, 1, 0), (3, 2, 0), (3, 3, 0), (4, 0, 0), (4, 0, 0), (4, 0, 0), (4, 0, 0), (4, 0, 0), (4, 0, 0), (4, 0, 0), (4, 0, 0), (4, 0, 0), (4, 0, 0), (4, 0, 0), (4, 0, 0), (1, 0, 0), (1, 0, 0), (1, 0, 0)]), (1000, 145, [(1, 0, 0)]), (1000, 145, [(1, 0, 0)]), (1000, 145, [(1, 0, 0)]), (1000, 145, [(1, 0, 0)])]
noncomputable def sc78_9 : List dC := [(8, 18, [(3, 1, 0), (3, 2, 0), (3, 3, 0), (3, 4, 0), (4, 0, 0), (4, 0, 0), (4, 0, 0), (4, 0, 0), (4, 0, 0), (4, 0, 0), (4, 0, 0), (4, 0, 0), (4, 0, 0), (4, 0, 0), (4, 0, 0), (1, 0, 0), (1, 0, 0), (1, 0, 0)]), (1000, 145, [(1, 0, 0)]), (1000, 145, [(1, 0, 0)]), (1000, 145, [(1, 0, 0)]), (1000, 145, [(1, 0, 0)])]
noncomputable def sc78_10 : List dC := [(8, 18, [(3, 1, 0), (3, 2, 0), (3, 3, 0), (3, 4, 0), (4, 0, 0), (4, 0, 0), (4, 0, 0), (4, 0, 0), (4, 0, 0), (4, 0, 0), (4, 0, 0), (4, 0, 0), (4, 0, 0), (4, 0, 0), (4, 0, 0), (1, 0, 0), (1, 0, 0), (1, 0, 0)]), (1000, 145, [(1, 0, 0)]), (1000, 145, [(1, 0, 0)]), (1000, 145, [(1, 0, 0)]), (1000, 145, [(1, 0, 0)]), (1002, 145, [(1, 0, 0)])]
noncomputable def sc78_11 : List dC := [(8, 18, [(3, 1, 0), (3, 2, 0), (3, 3, 0), (3, 4, 0), (3, 5, 0), (4, 0, 0), (4, 0, 0), (4, 0, 0), (4, 0, 0), (4, 0, 0), (4, 0, 0), (4, 0, 0), (4, 0, 0), (4, 0, 0), (4, 0, 0), (1, 0, 0), (1, 0, 0), (1, 0, 0)]), (1000, 145, [(1, 0, 0)]), (1000, 145, [(1, 0, 0)]), (1000, 145, [(1, 0, 0)]), (1000, 145, [(1, 0, 0)]), (1002, 145, [(1, 0, 0)])]
noncomputable def sc78_12 : List dC := [(8, 18, [(3, 1, 0), (3, 2, 0), (3, 3, 0), (3, 4, 0), (3, 5, 0), (4, 0, 0), (4, 0, 0), (4, 0, 0), (4, 0, 0), (4, 0, 0), (4, 0, 0), (4, 0, 0), (4, 0, 0), (4, 0, 0), (4, 0, 0), (1, 0, 0), (1, 0, 0), (1, 0, 0)]), (1000, 145, [(1, 0, 0)]), (1000, 145, [(1, 0, 0)]), (1000, 145, [(1, 0, 0)]), (1000, 145, [(1, 0, 0)]), (1002, 145, [(1, 0, 0)]), (1002, 145, [(1, 0, 0)])]
noncomputable def sc78_13 : List dC := [(8, 18, [(3, 1, 0), (3, 2, 0), (3, 3, 0), (3, 4, 0), (3, 5, 0), (3, 6, 0), (4, 0, 0), (4, 0, 0), (4, 0, 0), (4, 0, 0), (4, 0, 0), (4, 0, 0), (4, 0, 0), (4, 0, 0), (4, 0, 0), (1, 0, 0), (1, 0, 0), (1, 0, 0)]), (1000, 145, [(1, 0, 0)]), (1000, 145, [(1, 0, 0)]), (1000, 145, [(1, 0, 0)]), (1000, 145, [(1, 0, 0)]), (1002, 145, [(1, 0, 0)]), (1002, 145, [(1, 0, 0)])]
noncomputable def sc78_14 : List dC := [(8, 18, [(3, 1, 0), (3, 2, 0), (3, 3, 0), (3, 4, 0), (3, 5, 0), (3, 6, 0), (4, 0, 0), (4, 0, 0), (4, 0, 0), (4, 0, 0), (4, 0, 0), (4, 0, 0), (4, 0, 0), (4, 0, 0), (4, 0, 0), (1, 0, 0), (1, 0, 0), (1, 0, 0)]), (1000, 145, [(1, 0, 0)]), (1000, 145, [(1, 0, 0)]), (1000, 145, [(1, 0, 0)]), (1000, 145, [(1, 0, 0)]), (1002, 145, [(1, 0, 0)]), (1002, 145, [(1, 0, 0)]), (1000, 435, [(1, 0, 0)])]
noncomputable def sc78_15 : List dC := [(8, 18, [(3, 1, 0), (3, 2, 0), (3, 3, 0), (3, 4, 0), (3, 5, 0), (3, 6, 0), (3, 7, 0), (4, 0, 0), (4, 0, 0), (4, 0, 0), (4, 0, 0), (4, 0, 0), (4, 0, 0), (4, 0, 0), (4, 0, 0), (1, 0, 0), (1, 0, 0), (1, 0, 0)]), (1000, 145, [(1, 0, 0)]), (1000, 145, [(1, 0, 0)]), (1000, 145, [(1, 0, 0)]), (1000, 145, [(1, 0, 0)]), (1002, 145, [(1, 0, 0)]), (1002, 145, [(1, 0, 0)]), (1000, 435, [(1, 0, 0)])]
noncomputable def sc78_16 : List dC := [(8, 18, [(3, 1, 0), (3, 2, 0), (3, 3, 0), (3, 4, 0), (3, 5, 0), (3, 6, 0), (3, 7, 0), (4, 0, 0), (4, 0, 0), (4, 0, 0), (4, 0, 0), (4, 0, 0), (4, 0, 0), (4, 0, 0), (4, 0, 0), (1, 0, 0), (1, 0, 0), (1, 0, 0)]), (1000, 145, [(1, 0, 0)]), (1000, 145, [(1, 0, 0)]), (1000, 145, [(1, 0, 0)]), (1000, 145, [(1, 0, 0)]), (1002, 145, [(1, 0, 0)]), (1002, 145, [(1, 0, 0)]), (1000, 435, [(1, 0, 0)]), (1000, 435, [(1, 0, 0)])]
noncomputable def sc78_17 : List dC := [(8, 18, [(3, 1, 0), (3, 2, 0), (3, 3, 0), (3, 4, 0), (3, 5, 0), (3, 6, 0), (3, 7, 0), (3, 8, 0), (4, 0, 0), (4, 0, 0), (4, 0, 0), (4, 0, 0), (4, 0, 0), (4, 0, 0), (4, 0, 0), (1, 0, 0), (1, 0, 0), (1, 0, 0)]), (1000, 145, [(1, 0, 0)]), (1000, 145, [(1, 0, 0)]), (1000, 145, [(1, 0, 0)]), (1000, 145, [(1, 0, 0)]), (1002, 145, [(1, 0, 0)]), (1002, 145, [(1, 0, 0)]), (1000, 435, [(1, 0, 0)]), (1000, 435, [(1, 0, 0)])]
noncomputable def sc78_18 : List dC := [(8, 18, [(3, 1, 0), (3, 2, 0), (3, 3, 0), (3, 4, 0), (3, 5, 0), (3, 6, 0), (3, 7, 0), (3, 8, 0), (4, 0, 0), (4, 0, 0), (4, 0, 0), (4, 0, 0), (4, 0, 0), (4, 0, 0), (4, 0, 0), (1, 0, 0), (1, 0, 0), (1, 0, 0)]), (1000, 145, [(1, 0, 0)]), (1000, 145, [(1, 0, 0)]), (1000, 145, [(1, 0, 0)]), (1000, 145, [(1, 0, 0)]), (1002, 145, [(1, 0, 0)]), (1002, 145, [(1, 0, 0)]), (1000, 435, [(1, 0, 0)]), (1000, 435, [(1, 0, 0)]), (1000, 435, [(1, 0, 0)])]
noncomputable def sc78_19 : List dC := [(8, 18, [(3, 1, 0), (3, 2, 0), (3, 3, 0), (3, 4, 0), (3, 5, 0), (3, 6, 0), (3, 7, 0), (3, 8, 0), (3, 9, 0), (4, 0, 0), (4, 0, 0), (4, 0, 0), (4, 0, 0), (4, 0, 0), (4, 0, 0), (1, 0, 0), (1, 0, 0), (1, 0, 0)]), (1000, 145, [(1, 0, 0)]), (1000, 145, [(1, 0, 0)]), (1000, 145, [(1, 0, 0)]), (1000, 145, [(1, 0, 0)]), (1002, 145, [(1, 0, 0)]), (1002, 145, [(1, 0, 0)]), (1000, 435, [(1, 0, 0)]), (1000, 435, [(1, 0, 0)]), (1000, 435, [(1, 0, 0)])]
noncomputable def sc78_20 : List dC := [(8, 18, [(3, 1, 0), (3, 2, 0), (3, 3, 0), (3, 4, 0), (3, 5, 0), (3, 6, 0), (3, 7, 0), (3, 8, 0), (3, 9, 0), (4, 0, 0), (4, 0, 0), (4, 0, 0), (4, 0, 0), (4, 0, 0), (4, 0, 0), (1, 0, 0), (1, 0, 0), (1, 0, 0)]), (1000, 145, [(1, 0, 0)]), (1000, 145, [(1, 0, 0)]), (1000, 145, [(1, 0, 0)]), (1000, 145, [(1, 0, 0)]), (1002, 145, [(1, 0, 0)]), (1002, 145, [(1, 0, 0)]), (1000, 435, [(1, 0, 0)]), (1000, 435, [(1, 0, 0)]), (1000, 435, [(1, 0, 0)]), (1000, 435, [(1, 0, 0)])]
noncomputable def sc78_21 : List dC := [(8, 18, [(3, 1, 0), (3, 2, 0), (3, 3, 0), (3, 4, 0), (3, 5, 0), (3, 6, 0), (3, 7, 0), (3, 8, 0), (3, 9, 0), (3, 10, 0), (4, 0, 0), (4, 0, 0), (4, 0, 0), (4, 0, 0), (4, 0, 0), (1, 0, 0), (1, 0, 0), (1, 0, 0)]), (1000, 145, [(1, 0, 0)]), (1000, 145, [(1, 0, 0)]), (1000, 145, [(1, 0, 0)]), (1000, 145, [(1, 0, 0)]), (1002, 145, [(1, 0, 0)]), (1002, 145, [(1, 0, 0)]), (1000, 435, [(1, 0, 0)]), (1000, 435, [(1, 0, 0)]), (1000, 435, [(1, 0, 0)]), (1000, 435, [(1, 0, 0)])]
noncomputable def sc78_22 : List dC := [(8, 18, [(3, 1, 0), (3, 2, 0), (3, 3, 0), (3, 4, 0), (3, 5, 0), (3, 6, 0), (3, 7, 0), (3, 8, 0), (3, 9, 0), (3, 10, 0), (4, 0, 0), (4, 0, 0), (4, 0, 0), (4, 0, 0), (4, 0, 0), (1, 0, 0), (1, 0, 0), (1, 0, 0)]), (1000, 145, [(1, 0, 0)]), (1000, 145, [(1, 0, 0)]), (1000, 145, [(1, 0, 0)]), (1000, 145, [(1, 0, 0)]), (1002, 145, [(1, 0, 0)]), (1002, 145, [(1, 0, 0)]), (1000, 435, [(1, 0, 0)]), (1000, 435, [(1, 0, 0)]), (1000, 435, [(1, 0, 0)]), (1000, 435, [(1, 0, 0)]), (1000, 435, [(1, 0, 0)])]
noncomputable def sc78_23 : List dC := [(8, 18, [(3, 1, 0), (3, 2, 0), (3, 3, 0), (3, 4, 0), (3, 5, 0), (3, 6, 0), (3, 7, 0), (3, 8, 0), (3, 9, 0), (3, 10, 0), (3, 11, 0), (4, 0, 0), (4, 0, 0), (4, 0, 0), (4, 0, 0), (1, 0, 0), (1, 0, 0), (1, 0, 0)]), (1000, 145, [(1, 0, 0)]), (1000, 145, [(1, 0, 0)]), (1000, 145, [(1, 0, 0)]), (1000, 145, [(1, 0, 0)]), (1002, 145, [(1, 0, 0)]), (1002, 145, [(1, 0, 0)]), (1000, 435, [(1, 0, 0)]), (1000, 435, [(1, 0, 0)]), (1000, 435, [(1, 0, 0)]), (1000, 435, [(1, 0, 0)]), (1000, 435, [(1, 0, 0)])]
noncomputable def sc78_24 : List dC := [(8, 18, [(3, 1, 0), (3, 2, 0), (3, 3, 0), (3, 4, 0), (3, 5, 0), (3, 6, 0), (3, 7, 0), (3, 8, 0), (3, 9, 0), (3, 10, 0), (3, 11, 0), (4, 0, 0), (4, 0, 0), (4, 0, 0), (4, 0, 0), (1, 0, 0), (1, 0, 0), (1, 0, 0)]), (1000, 145, [(1, 0, 0)]), (1000, 145, [(1, 0, 0)]), (1000, 145, [(1, 0, 0)]), (1000, 145, [(1, 0, 0)]), (1002, 145, [(1, 0, 0)]), (1002, 145, [(1, 0, 0)]), (1000, 435, [(1, 0, 0)]), (1000, 435, [(1, 0, 0)]), (1000, 435, [(1, 0, 0)]), (1000, 435, [(1, 0, 0)]), (1000, 435, [(1, 0, 0)]), (1000, 144, [(1, 0, 0)])]
noncomputable def sc78_25 : List dC := [(8, 18, [(3, 1, 0), (3, 2, 0), (3, 3, 0), (3, 4, 0), (3, 5, 0), (3, 6, 0), (3, 7, 0), (3, 8, 0), (3, 9, 0), (3, 10, 0), (3, 11, 0), (3, 12, 0), (4, 0, 0), (4, 0, 0), (4, 0, 0), (1, 0, 0), (1, 0, 0), (1, 0, 0)]), (1000, 145, [(1, 0, 0)]), (1000, 145, [(1, 0, 0)]), (1000, 145, [(1, 0, 0)]), (1000, 145, [(1, 0, 0)]), (1002, 145, [(1, 0, 0)]), (1002, 145, [(1, 0, 0)]), (1000, 435, [(1, 0, 0)]), (1000, 435, [(1, 0, 0)]), (1000, 435, [(1, 0, 0)]), (1000, 435, [(1, 0, 0)]), (1000, 435, [(1, 0, 0)]), (1000, 144, [(1, 0, 0)])]
noncomputable def sc78_26 : List dC := [(8, 18, [(3, 1, 0), (3, 2, 0), (3, 3, 0), (3, 4, 0), (3, 5, 0), (3, 6, 0), (3, 7, 0), (3, 8, 0), (3, 9, 0), (3, 10, 0), (3, 11, 0), (3, 12, 0), (4, 0, 0), (4, 0, 0), (4, 0, 0), (1, 0, 0), (1, 0, 0), (1, 0, 0)]), (1000, 145, [(1, 0, 0)]), (1000, 145, [(1, 0, 0)]), (1000, 145, [(1, 0, 0)]), (1000, 145, [(1, 0, 0)]), (1002, 145, [(1, 0, 0)]), (1002, 145, [(1, 0, 0)]), (1000, 435, [(1, 0, 0)]), (1000, 435, [(1, 0, 0)]), (1000, 435, [(1, 0, 0)]), (1000, 435, [(1, 0, 0)]), (1000, 435, [(1, 0, 0)]), (1000, 144, [(1, 0, 0)]), (1000, 16, [(1, 0, 0)])]
noncomputable def sc78_27 : List dC := [(8, 18, [(3, 1, 0), (3, 2, 0), (3, 3, 0), (3, 4, 0), (3, 5, 0), (3, 6, 0), (3, 7, 0), (3, 8, 0), (3, 9, 0), (3, 10, 0), (3, 11, 0), (3, 12, 0), (3, 13, 0), (4, 0, 0), (4, 0, 0), (1, 0, 0), (1, 0, 0), (1, 0, 0)]), (1000, 145, [(1, 0, 0)]), (1000, 145, [(1, 0, 0)]), (1000, 145, [(1, 0, 0)]), (1000, 145, [(1, 0, 0)]), (1002, 145, [(1, 0, 0)]), (1002, 145, [(1, 0, 0)]), (1000, 435, [(1, 0, 0)]), (1000, 435, [(1, 0, 0)]), (1000, 435, [(1, 0, 0)]), (1000, 435, [(1, 0, 0)]), (1000, 435, [(1, 0, 0)]), (1000, 144, [(1, 0, 0)]), (1000, 16, [(1, 0, 0)])]
noncomputable def sc78_28 : List dC := [(8, 18, [(3, 1, 0), (3, 2, 0), (3, 3, 0), (3, 4, 0), (3, 5, 0), (3, 6, 0), (3, 7, 0), (3, 8, 0), (3, 9, 0), (3, 10, 0), (3, 11, 0), (3, 12, 0), (3, 13, 0), (4, 0, 0), (4, 0, 0), (1, 0, 0), (1, 0, 0), (1, 0, 0)]), (1000, 145, [(1, 0, 0)]), (1000, 145, [(1, 0, 0)]), (1000, 145, [(1, 0, 0)]), (1000, 145, [(1, 0, 0)]), (1002, 145, [(1, 0, 0)]), (1002, 145, [(1, 0, 0)]), (1000, 435, [(1, 0, 0)]), (1000, 435, [(1, 0, 0)]), (1000, 435, [(1, 0, 0)]), (1000, 435, [(1, 0, 0)]), (1000, 435, [(1, 0, 0)]), (1000, 144, [(1, 0, 0)]), (1000, 16, [(1, 0, 0)]), (1000, 9, [(1, 0, 0)])]
noncomputable def sc78_29 : List dC := [(8, 18, [(3, 1, 0), (3, 2, 0), (3, 3, 0), (3, 4, 0), (3, 5, 0), (3, 6, 0), (3, 7, 0), (3, 8, 0), (3, 9, 0), (3, 10, 0), (3, 11, 0), (3, 12, 0), (3, 13, 0), (3, 14, 0), (4, 0, 0), (1, 0, 0), (1, 0, 0), (1, 0, 0)]), (1000, 145, [(1, 0, 0)]), (1000, 145, [(1, 0, 0)]), (1000, 145, [(1, 0, 0)]), (1000, 145, [(1, 0, 0)]), (1002, 145, [(1, 0, 0)]), (1002, 145, [(1, 0, 0)]), (1000, 435, [(1, 0, 0)]), (1000, 435, [(1, 0, 0)]), (1000, 435, [(1, 0, 0)]), (1000, 435, [(1, 0, 0)]), (1000, 435, [(1, 0, 0)]), (1000, 144, [(1, 0, 0)]), (1000, 16, [(1, 0, 0)]), (1000, 9, [(1, 0, 0)])]
noncomputable def sc78_30 : List dC := [(8, 18, [(3, 1, 0), (3, 2, 0), (3, 3, 0), (3, 4, 0), (3, 5, 0), (3, 6, 0), (3, 7, 0), (3, 8, 0), (3, 9, 0), (3, 10, 0), (3, 11, 0), (3, 12, 0), (3, 13, 0), (3, 14, 0), (4, 0, 0), (1, 0, 0), (1, 0, 0), (1, 0, 0)]), (1000, 145, [(1, 0, 0)]), (1000, 145, [(1, 0, 0)]), (1000, 145, [(1, 0, 0)]), (1000, 145, [(1, 0, 0)]), (1002, 145, [(1, 0, 0)]), (1002, 145, [(1, 0, 0)]), (1000, 435, [(1, 0, 0)]), (1000, 435, [(1, 0, 0)]), (1000, 435, [(1, 0, 0)]), (1000, 435, [(1, 0, 0)]), (1000, 435, [(1, 0, 0)]), (1000, 144, [(1, 0, 0)]), (1000, 16, [(1, 0, 0)]), (1000, 9, [(1, 0, 0)]), (1000, 8, [(1, 0, 0)])]
noncomputable def sc78_31 : List dC := [(8, 18, [(3, 1, 0), (3, 2, 0), (3, 3, 0), (3, 4, 0), (3, 5, 0), (3, 6, 0), (3, 7, 0), (3, 8, 0), (3, 9, 0), (3, 10, 0), (3, 11, 0), (3, 12, 0), (3, 13, 0), (3, 14, 0), (3, 15, 0), (1, 0, 0), (1, 0, 0), (1, 0, 0)]), (1000, 145, [(1, 0, 0)]), (1000, 145, [(1, 0, 0)]), (1000, 145, [(1, 0, 0)]), (1000, 145, [(1, 0, 0)]), (1002, 145, [(1, 0, 0)]), (1002, 145, [(1, 0, 0)]), (1000, 435, [(1, 0, 0)]), (1000, 435, [(1, 0, 0)]), (1000, 435, [(1, 0, 0)]), (1000, 435, [(1, 0, 0)]), (1000, 435, [(1, 0, 0)]), (1000, 144, [(1, 0, 0)]), (1000, 16, [(1, 0, 0)]), (1000, 9, [(1, 0, 0)]), (1000, 8, [(1, 0, 0)])]
noncomputable def sc78_32 : List dC := [(8, 18, [(3, 1, 0), (3, 2, 0), (3, 3, 0), (3, 4, 0), (3, 5, 0), (3, 6, 0), (3, 7, 0), (3, 8, 0), (3, 9, 0), (3, 10, 0), (3, 11, 0), (3, 12, 0), (3, 13, 0), (3, 14, 0), (3, 15, 0), (1, 0, 0), (1, 0, 0), (1, 0, 0)]), (1000, 145, [(1, 0, 0)]), (1000, 145, [(1, 0, 0)]), (1000, 145, [(1, 0, 0)]), (1000, 145, [(1, 0, 0)]), (1002, 145, [(1, 0, 0)]), (1002, 145, [(1, 0, 0)]), (1000, 435, [(1, 0, 0)]), (1000, 435, [(1, 0, 0)]), (1000, 435, [(1, 0, 0)]), (1000, 435, [(1, 0, 0)]), (1000, 435, [(1, 0, 0)]), (1000, 144, [(1, 0, 0)]), (1000, 16, [(1, 0, 0)]), (1000, 9, [(1, 0, 0)]), (1000, 8, [(1, 0, 0)])]
noncomputable def sc78_33 : List dC := [(8, 18, [(3, 1, 0), (3, 2, 0), (3, 3, 0), (3, 4, 0), (3, 5, 0), (3, 6, 0), (3, 7, 0), (3, 8, 0), (3, 9, 0), (3, 10, 0), (3, 11, 0), (3, 12, 0), (3, 13, 0), (3, 14, 0), (3, 15, 0), (1, 0, 0), (1, 0, 0), (1, 0, 0)]), (1000, 145, [(1, 0, 0)]), (1000, 145, [(1, 0, 0)]), (1000, 145, [(1, 0, 0)]), (1000, 145, [(1, 0, 0)]), (1002, 145, [(1, 0, 0)]), (1002, 145, [(1, 0, 0)]), (1000, 435, [(1, 0, 0)]), (1000, 435, [(1, 0, 0)]), (1000, 435, [(1, 0, 0)]), (1000, 435, [(1, 0, 0)]), (1000, 435, [(1, 0, 0)]), (1000, 144, [(1, 0, 0)]), (1000, 16, [(1, 0, 0)]), (1000, 9, [(1, 0, 0)]), (1000, 8, [(1, 0, 0)])]
noncomputable def sc78_34 : List dC := [(8, 18, [(3, 1, 0), (3, 2, 0), (3, 3, 0), (3, 4, 0), (3, 5, 0), (3, 6, 0), (3, 7, 0), (3, 8, 0), (3, 9, 0), (3, 10, 0), (3, 11, 0), (3, 12, 0), (3, 13, 0), (3, 14, 0), (3, 15, 0), (1, 0, 0), (1, 0, 0), (1, 0, 0)]), (1000, 145, [(1, 0, 0)]), (1000, 145, [(1, 0, 0)]), (1000, 145, [(1, 0, 0)]), (1000, 145, [(1, 0, 0)]), (1002, 145, [(1, 0, 0)]), (1002, 145, [(1, 0, 0)]), (1000, 435, [(1, 0, 0)]), (1000, 435, [(1, 0, 0)]), (1000, 435, [(1, 0, 0)]), (1000, 435, [(1, 0, 0)]), (1000, 435, [(1, 0, 0)]), (1000, 144, [(1, 0, 0)]), (1000, 16, [(1, 0, 0)]), (1000, 9, [(1, 0, 0)]), (1000, 8, [(1, 0, 0)])]
set_option maxRecDepth 4000 in
theorem c78 {base : Nat} {X : Nat → Option mC} {G : Nat → Value} (E : EnvOK base X G) {d : Nat} (hd : 0 ≤ d) {M0 M : mH} (P : Ps base [(8, 18, [(4, 0, 0), (4, 0, 0), (4, 0, 0), (4, 0, 0), (4, 0, 0), (4, 0, 0), (4, 0, 0), (4, 0, 0), (4, 0, 0), (4, 0, 0), (4, 0, 0), (4, 0, 0), (4, 0, 0), (4, 0, 0), (4, 0, 0), (1, 0, 0), (1, 0, 0), (1, 0, 0)])] M0 M) {th : Nat} (hth : th = M0.1) : sOk base X G d T78 [vR th] M (pV (fun M' => Ps base sc78_34 M0 M')) := by
  subst hth
  refine sOk.of (show sRn base X G d T78 0 [(0, vR M0.1)] [] M _ from ?_)
  refine s_blx (lv' := [(0, vR (M0.1))]) (st' := [vR (M0.1)]) B78_0_1 rfl ?_
  refine r_obj (pc' := 4) D78_1 rfl mc_9_special_3 sp_9_3 (Nat.le_of_ble_eq_true rfl) ?_
  refine s_blx (lv' := [(0, vR (M0.1))]) (st' := [vI 145, vR (M0.1)]) B78_4_8 rfl ?_
  refine p_newA sc78_2 [(1, 0, 0)] (pc' := 10) D78_8 rfl rfl rfl (by decide) P (fun i _ => (show tK base M0.1 (1, 0, 0) _ from ⟨0, rfl, by decide, by decide⟩)) rfl rfl 1 rfl (fun M2 P1 => ?_)
  refine p_pv sc78_3 [(3, 1, 0), (4, 0, 0), (4, 0, 0), (4, 0, 0), (4, 0, 0), (4, 0, 0), (4, 0, 0), (4, 0, 0), (4, 0, 0), (4, 0, 0), (4, 0, 0), (4, 0, 0), (4, 0, 0), (4, 0, 0), (4, 0, 0), (1, 0, 0), (1, 0, 0), (1, 0, 0)] (pc' := 13) (j := 0) (ty := .array (.int)) D78_10 rfl fi_9_11 P1 rfl rfl (by decide) rfl rfl rfl (Or.inr ⟨by decide, by decide⟩) (by decide +kernel) (show tK base M0.1 (3, 1, 0) _ from tkR (r := 1)) rfl (fun M4 P3 => ?_)
  refine s_blx (lv' := [(0, vR (M0.1))]) (st' := [vI 145, vR (M0.1)]) B78_13_17 rfl ?_
  refine p_newA sc78_4 [(1, 0, 0)] (pc' := 19) D78_17 rfl rfl rfl (by decide) P3 (fun i _ => (show tK base M0.1 (1, 0, 0) _ from ⟨0, rfl, by decide, by decide⟩)) rfl rfl 2 rfl (fun M6 P5 => ?_)
  refine p_pv sc78_5 [(3, 1, 0), (3, 2, 0), (4, 0, 0), (4, 0, 0), (4, 0, 0), (4, 0, 0), (4, 0, 0), (4, 0, 0), (4, 0, 0), (4, 0, 0), (4, 0, 0), (4, 0, 0), (4, 0, 0), (4, 0, 0), (4, 0, 0), (1, 0, 0), (1, 0, 0), (1, 0, 0)] (pc' := 22) (j := 0) (ty := .array (.int)) D78_19 rfl fi_9_15 P5 rfl rfl (by decide) rfl rfl rfl (Or.inr ⟨by decide, by decide⟩) (by decide +kernel) (show tK base M0.1 (3, 2, 0) _ from tkR (r := 2)) rfl (fun M8 P7 => ?_)
  refine s_blx (lv' := [(0, vR (M0.1))]) (st' := [vI 145, vR (M0.1)]) B78_22_26 rfl ?_
  refine p_newA sc78_6 [(1, 0, 0)] (pc' := 28) D78_26 rfl rfl rfl (by decide) P7 (fun i _ => (show tK base M0.1 (1, 0, 0) _ from ⟨0, rfl, by decide, by decide⟩)) rfl rfl 3 rfl (fun M10 P9 => ?_)
  refine p_pv sc78_7 [(3, 1, 0), (3, 2, 0), (3, 3, 0), (4, 0, 0), (4, 0, 0), (4, 0, 0), (4, 0, 0), (4, 0, 0), (4, 0, 0), (4, 0, 0), (4, 0, 0), (4, 0, 0), (4, 0, 0), (4, 0, 0), (4, 0, 0), (1, 0, 0), (1, 0, 0), (1, 0, 0)] (pc' := 31) (j := 0) (ty := .array (.int)) D78_28 rfl fi_9_18 P9 rfl rfl (by decide) rfl rfl rfl (Or.inr ⟨by decide, by decide⟩) (by decide +kernel) (show tK base M0.1 (3, 3, 0) _ from tkR (r := 3)) rfl (fun M12 P11 => ?_)
  refine s_blx (lv' := [(0, vR (M0.1))]) (st' := [vI 145, vR (M0.1)]) B78_31_35 rfl ?_
  refine p_newA sc78_8 [(1, 0, 0)] (pc' := 37) D78_35 rfl rfl rfl (by decide) P11 (fun i _ => (show tK base M0.1 (1, 0, 0) _ from ⟨0, rfl, by decide, by decide⟩)) rfl rfl 4 rfl (fun M14 P13 => ?_)
  refine p_pv sc78_9 [(3, 1, 0), (3, 2, 0), (3, 3, 0), (3, 4, 0), (4, 0, 0), (4, 0, 0), (4, 0, 0), (4, 0, 0), (4, 0, 0), (4, 0, 0), (4, 0, 0), (4, 0, 0), (4, 0, 0), (4, 0, 0), (4, 0, 0), (1, 0, 0), (1, 0, 0), (1, 0, 0)] (pc' := 40) (j := 0) (ty := .array (.int)) D78_37 rfl fi_9_21 P13 rfl rfl (by decide) rfl rfl rfl (Or.inr ⟨by decide, by decide⟩) (by decide +kernel) (show tK base M0.1 (3, 4, 0) _ from tkR (r := 4)) rfl (fun M16 P15 => ?_)
  refine s_blx (lv' := [(0, vR (M0.1))]) (st' := [vI 145, vR (M0.1)]) B78_40_44 rfl ?_
  refine p_newA sc78_10 [(1, 0, 0)] (pc' := 46) D78_44 rfl rfl rfl (by decide) P15 (fun i _ => (show tK base M0.1 (1, 0, 0) _ from ⟨0, rfl, by decide, by decide⟩)) rfl rfl 5 rfl (fun M18 P17 => ?_)
  refine p_pv sc78_11 [(3, 1, 0), (3, 2, 0), (3, 3, 0), (3, 4, 0), (3, 5, 0), (4, 0, 0), (4, 0, 0), (4, 0, 0), (4, 0, 0), (4, 0, 0), (4, 0, 0), (4, 0, 0), (4, 0, 0), (4, 0, 0), (4, 0, 0), (1, 0, 0), (1, 0, 0), (1, 0, 0)] (pc' := 49) (j := 0) (ty := .array (.boolean)) D78_46 rfl fi_9_24 P17 rfl rfl (by decide) rfl rfl rfl (Or.inr ⟨by decide, by decide⟩) (by decide +kernel) (show tK base M0.1 (3, 5, 0) _ from tkR (r := 5)) rfl (fun M20 P19 => ?_)
  refine s_blx (lv' := [(0, vR (M0.1))]) (st' := [vI 145, vR (M0.1)]) B78_49_53 rfl ?_
  refine p_newA sc78_12 [(1, 0, 0)] (pc' := 55) D78_53 rfl rfl rfl (by decide) P19 (fun i _ => (show tK base M0.1 (1, 0, 0) _ from ⟨0, rfl, by decide, by decide⟩)) rfl rfl 6 rfl (fun M22 P21 => ?_)
  refine p_pv sc78_13 [(3, 1, 0), (3, 2, 0), (3, 3, 0), (3, 4, 0), (3, 5, 0), (3, 6, 0), (4, 0, 0), (4, 0, 0), (4, 0, 0), (4, 0, 0), (4, 0, 0), (4, 0, 0), (4, 0, 0), (4, 0, 0), (4, 0, 0), (1, 0, 0), (1, 0, 0), (1, 0, 0)] (pc' := 58) (j := 0) (ty := .array (.boolean)) D78_55 rfl fi_9_28 P21 rfl rfl (by decide) rfl rfl rfl (Or.inr ⟨by decide, by decide⟩) (by decide +kernel) (show tK base M0.1 (3, 6, 0) _ from tkR (r := 6)) rfl (fun M24 P23 => ?_)
  refine s_blx (lv' := [(0, vR (M0.1))]) (st' := [vI 435, vR (M0.1)]) B78_58_62 rfl ?_
  refine p_newA sc78_14 [(1, 0, 0)] (pc' := 64) D78_62 rfl rfl rfl (by decide) P23 (fun i _ => (show tK base M0.1 (1, 0, 0) _ from ⟨0, rfl, by decide, by decide⟩)) rfl rfl 7 rfl (fun M26 P25 => ?_)
  refine p_pv sc78_15 [(3, 1, 0), (3, 2, 0), (3, 3, 0), (3, 4, 0), (3, 5, 0), (3, 6, 0), (3, 7, 0), (4, 0, 0), (4, 0, 0), (4, 0, 0), (4, 0, 0), (4, 0, 0), (4, 0, 0), (4, 0, 0), (4, 0, 0), (1, 0, 0), (1, 0, 0), (1, 0, 0)] (pc' := 67) (j := 0) (ty := .array (.int)) D78_64 rfl fi_9_31 P25 rfl rfl (by decide) rfl rfl rfl (Or.inr ⟨by decide, by decide⟩) (by decide +kernel) (show tK base M0.1 (3, 7, 0) _ from tkR (r := 7)) rfl (fun M28 P27 => ?_)
  refine s_blx (lv' := [(0, vR (M0.1))]) (st' := [vI 435, vR (M0.1)]) B78_67_71 rfl ?_
  refine p_newA sc78_16 [(1, 0, 0)] (pc' := 73) D78_71 rfl rfl rfl (by decide) P27 (fun i _ => (show tK base M0.1 (1, 0, 0) _ from ⟨0, rfl, by decide, by decide⟩)) rfl rfl 8 rfl (fun M30 P29 => ?_)
  refine p_pv sc78_17 [(3, 1, 0), (3, 2, 0), (3, 3, 0), (3, 4, 0), (3, 5, 0), (3, 6, 0), (3, 7, 0), (3, 8, 0), (4, 0, 0), (4, 0, 0), (4, 0, 0), (4, 0, 0), (4, 0, 0), (4, 0, 0), (4, 0, 0), (1, 0, 0), (1, 0, 0), (1, 0, 0)] (pc' := 76) (j := 0) (ty := .array (.int)) D78_73 rfl fi_9_34 P29 rfl rfl (by decide) rfl rfl rfl (Or.inr ⟨by decide, by decide⟩) (by decide +kernel) (show tK base M0.1 (3, 8, 0) _ from tkR (r := 8)) rfl (fun M32 P31 => ?_)
  refine s_blx (lv' := [(0, vR (M0.1))]) (st' := [vI 435, vR (M0.1)]) B78_76_80 rfl ?_
  refine p_newA sc78_18 [(1, 0, 0)] (pc' := 82) D78_80 rfl rfl rfl (by decide) P31 (fun i _ => (show tK base M0.1 (1, 0, 0) _ from ⟨0, rfl, by decide, by decide⟩)) rfl rfl 9 rfl (fun M34 P33 => ?_)
  refine p_pv sc78_19 [(3, 1, 0), (3, 2, 0), (3, 3, 0), (3, 4, 0), (3, 5, 0), (3, 6, 0), (3, 7, 0), (3, 8, 0), (3, 9, 0), (4, 0, 0), (4, 0, 0), (4, 0, 0), (4, 0, 0), (4, 0, 0), (4, 0, 0), (1, 0, 0), (1, 0, 0), (1, 0, 0)] (pc' := 85) (j := 0) (ty := .array (.int)) D78_82 rfl fi_9_37 P33 rfl rfl (by decide) rfl rfl rfl (Or.inr ⟨by decide, by decide⟩) (by decide +kernel) (show tK base M0.1 (3, 9, 0) _ from tkR (r := 9)) rfl (fun M36 P35 => ?_)
  refine s_blx (lv' := [(0, vR (M0.1))]) (st' := [vI 435, vR (M0.1)]) B78_85_89 rfl ?_
  refine p_newA sc78_20 [(1, 0, 0)] (pc' := 91) D78_89 rfl rfl rfl (by decide) P35 (fun i _ => (show tK base M0.1 (1, 0, 0) _ from ⟨0, rfl, by decide, by decide⟩)) rfl rfl 10 rfl (fun M38 P37 => ?_)
  refine p_pv sc78_21 [(3, 1, 0), (3, 2, 0), (3, 3, 0), (3, 4, 0), (3, 5, 0), (3, 6, 0), (3, 7, 0), (3, 8, 0), (3, 9, 0), (3, 10, 0), (4, 0, 0), (4, 0, 0), (4, 0, 0), (4, 0, 0), (4, 0, 0), (1, 0, 0), (1, 0, 0), (1, 0, 0)] (pc' := 94) (j := 0) (ty := .array (.int)) D78_91 rfl fi_9_40 P37 rfl rfl (by decide) rfl rfl rfl (Or.inr ⟨by decide, by decide⟩) (by decide +kernel) (show tK base M0.1 (3, 10, 0) _ from tkR (r := 10)) rfl (fun M40 P39 => ?_)
  refine s_blx (lv' := [(0, vR (M0.1))]) (st' := [vI 435, vR (M0.1)]) B78_94_98 rfl ?_
  refine p_newA sc78_22 [(1, 0, 0)] (pc' := 100) D78_98 rfl rfl rfl (by decide) P39 (fun i _ => (show tK base M0.1 (1, 0, 0) _ from ⟨0, rfl, by decide, by decide⟩)) rfl rfl 11 rfl (fun M42 P41 => ?_)
  refine p_pv sc78_23 [(3, 1, 0), (3, 2, 0), (3, 3, 0), (3, 4, 0), (3, 5, 0), (3, 6, 0), (3, 7, 0), (3, 8, 0), (3, 9, 0), (3, 10, 0), (3, 11, 0), (4, 0, 0), (4, 0, 0), (4, 0, 0), (4, 0, 0), (1, 0, 0), (1, 0, 0), (1, 0, 0)] (pc' := 103) (j := 0) (ty := .array (.int)) D78_100 rfl fi_9_43 P41 rfl rfl (by decide) rfl rfl rfl (Or.inr ⟨by decide, by decide⟩) (by decide +kernel) (show tK base M0.1 (3, 11, 0) _ from tkR (r := 11)) rfl (fun M44 P43 => ?_)
  refine s_blx (lv' := [(0, vR (M0.1))]) (st' := [vI 144, vR (M0.1)]) B78_103_107 rfl ?_
  refine p_newA sc78_24 [(1, 0, 0)] (pc' := 109) D78_107 rfl rfl rfl (by decide) P43 (fun i _ => (show tK base M0.1 (1, 0, 0) _ from ⟨0, rfl, by decide, by decide⟩)) rfl rfl 12 rfl (fun M46 P45 => ?_)
  refine p_pv sc78_25 [(3, 1, 0), (3, 2, 0), (3, 3, 0), (3, 4, 0), (3, 5, 0), (3, 6, 0), (3, 7, 0), (3, 8, 0), (3, 9, 0), (3, 10, 0), (3, 11, 0), (3, 12, 0), (4, 0, 0), (4, 0, 0), (4, 0, 0), (1, 0, 0), (1, 0, 0), (1, 0, 0)] (pc' := 112) (j := 0) (ty := .array (.int)) D78_109 rfl fi_9_46 P45 rfl rfl (by decide) rfl rfl rfl (Or.inr ⟨by decide, by decide⟩) (by decide +kernel) (show tK base M0.1 (3, 12, 0) _ from tkR (r := 12)) rfl (fun M48 P47 => ?_)
  refine s_blx (lv' := [(0, vR (M0.1))]) (st' := [vI 16, vR (M0.1)]) B78_112_115 rfl ?_
  refine p_newA sc78_26 [(1, 0, 0)] (pc' := 117) D78_115 rfl rfl rfl (by decide) P47 (fun i _ => (show tK base M0.1 (1, 0, 0) _ from ⟨0, rfl, by decide, by decide⟩)) rfl rfl 13 rfl (fun M50 P49 => ?_)
  refine p_pv sc78_27 [(3, 1, 0), (3, 2, 0), (3, 3, 0), (3, 4, 0), (3, 5, 0), (3, 6, 0), (3, 7, 0), (3, 8, 0), (3, 9, 0), (3, 10, 0), (3, 11, 0), (3, 12, 0), (3, 13, 0), (4, 0, 0), (4, 0, 0), (1, 0, 0), (1, 0, 0), (1, 0, 0)] (pc' := 120) (j := 0) (ty := .array (.int)) D78_117 rfl fi_9_49 P49 rfl rfl (by decide) rfl rfl rfl (Or.inr ⟨by decide, by decide⟩) (by decide +kernel) (show tK base M0.1 (3, 13, 0) _ from tkR (r := 13)) rfl (fun M52 P51 => ?_)
  refine s_blx (lv' := [(0, vR (M0.1))]) (st' := [vI 9, vR (M0.1)]) B78_120_123 rfl ?_
  refine p_newA sc78_28 [(1, 0, 0)] (pc' := 125) D78_123 rfl rfl rfl (by decide) P51 (fun i _ => (show tK base M0.1 (1, 0, 0) _ from ⟨0, rfl, by decide, by decide⟩)) rfl rfl 14 rfl (fun M54 P53 => ?_)
  refine p_pv sc78_29 [(3, 1, 0), (3, 2, 0), (3, 3, 0), (3, 4, 0), (3, 5, 0), (3, 6, 0), (3, 7, 0), (3, 8, 0), (3, 9, 0), (3, 10, 0), (3, 11, 0), (3, 12, 0), (3, 13, 0), (3, 14, 0), (4, 0, 0), (1, 0, 0), (1, 0, 0), (1, 0, 0)] (pc' := 128) (j := 0) (ty := .array (.int)) D78_125 rfl fi_9_52 P53 rfl rfl (by decide) rfl rfl rfl (Or.inr ⟨by decide, by decide⟩) (by decide +kernel) (show tK base M0.1 (3, 14, 0) _ from tkR (r := 14)) rfl (fun M56 P55 => ?_)
  refine s_blx (lv' := [(0, vR (M0.1))]) (st' := [vI 8, vR (M0.1)]) B78_128_131 rfl ?_
  refine p_newA sc78_30 [(1, 0, 0)] (pc' := 133) D78_131 rfl rfl rfl (by decide) P55 (fun i _ => (show tK base M0.1 (1, 0, 0) _ from ⟨0, rfl, by decide, by decide⟩)) rfl rfl 15 rfl (fun M58 P57 => ?_)
  refine p_pv sc78_31 [(3, 1, 0), (3, 2, 0), (3, 3, 0), (3, 4, 0), (3, 5, 0), (3, 6, 0), (3, 7, 0), (3, 8, 0), (3, 9, 0), (3, 10, 0), (3, 11, 0), (3, 12, 0), (3, 13, 0), (3, 14, 0), (3, 15, 0), (1, 0, 0), (1, 0, 0), (1, 0, 0)] (pc' := 136) (j := 0) (ty := .array (.int)) D78_133 rfl fi_9_55 P57 rfl rfl (by decide) rfl rfl rfl (Or.inr ⟨by decide, by decide⟩) (by decide +kernel) (show tK base M0.1 (3, 15, 0) _ from tkR (r := 15)) rfl (fun M60 P59 => ?_)
  refine s_blx (lv' := [(0, vR (M0.1))]) (st' := [vI 0, vR (M0.1)]) B78_136_138 rfl ?_
  refine p_pv sc78_32 [(3, 1, 0), (3, 2, 0), (3, 3, 0), (3, 4, 0), (3, 5, 0), (3, 6, 0), (3, 7, 0), (3, 8, 0), (3, 9, 0), (3, 10, 0), (3, 11, 0), (3, 12, 0), (3, 13, 0), (3, 14, 0), (3, 15, 0), (1, 0, 0), (1, 0, 0), (1, 0, 0)] (pc' := 141) (j := 0) (ty := .int) D78_138 rfl fi_9_58 P59 rfl rfl (by decide) rfl rfl rfl (Or.inr ⟨by decide, by decide⟩) (by decide +kernel) (show tK base M0.1 (1, 0, 0) _ from ⟨_, rfl, by decide, by decide⟩) rfl (fun M62 P61 => ?_)
  refine s_blx (lv' := [(0, vR (M0.1))]) (st' := [vI 0, vR (M0.1)]) B78_141_143 rfl ?_
  refine p_pv sc78_33 [(3, 1, 0), (3, 2, 0), (3, 3, 0), (3, 4, 0), (3, 5, 0), (3, 6, 0), (3, 7, 0), (3, 8, 0), (3, 9, 0), (3, 10, 0), (3, 11, 0), (3, 12, 0), (3, 13, 0), (3, 14, 0), (3, 15, 0), (1, 0, 0), (1, 0, 0), (1, 0, 0)] (pc' := 146) (j := 0) (ty := .int) D78_143 rfl fi_9_62 P61 rfl rfl (by decide) rfl rfl rfl (Or.inr ⟨by decide, by decide⟩) (by decide +kernel) (show tK base M0.1 (1, 0, 0) _ from ⟨_, rfl, by decide, by decide⟩) rfl (fun M64 P63 => ?_)
  refine s_blx (lv' := [(0, vR (M0.1))]) (st' := [vI 0, vR (M0.1)]) B78_146_148 rfl ?_
  refine p_pv sc78_34 [(3, 1, 0), (3, 2, 0), (3, 3, 0), (3, 4, 0), (3, 5, 0), (3, 6, 0), (3, 7, 0), (3, 8, 0), (3, 9, 0), (3, 10, 0), (3, 11, 0), (3, 12, 0), (3, 13, 0), (3, 14, 0), (3, 15, 0), (1, 0, 0), (1, 0, 0), (1, 0, 0)] (pc' := 151) (j := 0) (ty := .int) D78_148 rfl fi_9_65 P63 rfl rfl (by decide) rfl rfl rfl (Or.inr ⟨by decide, by decide⟩) (by decide +kernel) (show tK base M0.1 (1, 0, 0) _ from ⟨_, rfl, by decide, by decide⟩) rfl (fun M66 P65 => ?_)
  exact r_retV D78_151 rfl P65
noncomputable def sc46_1 (r : Int) : List dC := [(6, 5, [(4, 0, 0), (4, 0, 0), (4, 0, 0), (2, 0, 0), (1, 0, 0)])]
noncomputable def sc46_2 (r : Int) : List dC := [(6, 5, [(4, 0, 0), (4, 0, 0), (4, 0, 0), (2, 0, 0), (1, 0, 0)]), (1005, 145, [(4, 0, 0)])]
noncomputable def sc46_3 (r : Int) : List dC := [(6, 5, [(4, 0, 0), (3, 1, 0), (4, 0, 0), (2, 0, 0), (1, 0, 0)]), (1005, 145, [(4, 0, 0)])]
noncomputable def sc46_4 (r : Int) : List dC := [(6, 5, [(4, 0, 0), (3, 1, 0), (4, 0, 0), (2, 0, 0), (1, 0, 0)]), (1005, 145, [(4, 0, 0)]), (1000, 580, [(1, 0, 0)])]
noncomputable def sc46_5 (r : Int) : List dC := [(6, 5, [(4, 0, 0), (3, 1, 0), (3, 2, 0), (2, 0, 0), (1, 0, 0)]), (1005, 145, [(4, 0, 0)]), (1000, 580, [(1, 0, 0)])]
noncomputable def sc46_6 (r : Int) : List dC := [(6, 5, [(4, 0, 0), (3, 1, 0), (3, 2, 0), (2, 0, 0), (1, 0, 0)]), (1005, 145, [(4, 0, 0)]), (1000, 580, [(1, 0, 0)])]
noncomputable def sc46_7 (r : Int) : List dC := [(6, 5, [(4, 0, 0), (3, 1, 0), (3, 2, 0), (2, 0, 0), (1, 1, 1)]), (1005, 145, [(4, 0, 0)]), (1000, 580, [(1, 0, 0)])]
noncomputable def sc46_8 (r : Int) : List dC := [(6, 5, [(3, r, 0), (3, 1, 0), (3, 2, 0), (2, 0, 0), (1, 1, 1)]), (1005, 145, [(4, 0, 0)]), (1000, 580, [(1, 0, 0)])]
set_option maxRecDepth 4000 in
theorem c46 {base : Nat} {X : Nat → Option mC} {G : Nat → Value} (E : EnvOK base X G) {d : Nat} (hd : 0 ≤ d) {M0 M : mH} (P : Ps base [(6, 5, [(4, 0, 0), (4, 0, 0), (4, 0, 0), (2, 0, 0), (1, 0, 0)])] M0 M) {th : Nat} (hth : th = M0.1) {r : Int} {tr : Nat} (htr : Value.ref (base + tr) = Value.ref (base + ((M0.1 : Int) + r).toNat)) : sOk base X G d T46 [vR th, vR tr] M (pV (fun M' => Ps base (sc46_8 r) M0 M')) := by
  subst hth
  refine sOk.of (show sRn base X G d T46 0 [(0, vR M0.1), (1, vR tr)] [] M _ from ?_)
  refine s_blx (lv' := [(0, vR (M0.1)), (1, .inr (.inr (some (.inl tr))))]) (st' := [vR (M0.1)]) B46_0_1 rfl ?_
  refine r_obj (pc' := 4) D46_1 rfl mc_7_special_3 sp_7_3 (Nat.le_of_ble_eq_true rfl) ?_
  refine s_blx (lv' := [(0, vR (M0.1)), (1, .inr (.inr (some (.inl tr))))]) (st' := [vI 145, vR (M0.1)]) B46_4_8 rfl ?_
  refine p_anew (sc46_2 r) (pc' := 11) D46_8 rfl rfl (by decide) P rfl 1 rfl (fun M2 P1 => ?_)
  refine p_pv (sc46_3 r) [(4, 0, 0), (3, 1, 0), (4, 0, 0), (2, 0, 0), (1, 0, 0)] (pc' := 14) (j := 0) (ty := .array (.array (.long))) D46_11 rfl fi_7_13 P1 rfl rfl (by decide) rfl rfl rfl (Or.inr ⟨by decide, by decide⟩) rfl (show tK base M0.1 (3, 1, 0) _ from tkR (r := 1)) rfl (fun M4 P3 => ?_)
  refine s_blx (lv' := [(0, vR (M0.1)), (1, .inr (.inr (some (.inl tr))))]) (st' := [vI 580, vR (M0.1)]) B46_14_18 rfl ?_
  refine p_newA (sc46_4 r) [(1, 0, 0)] (pc' := 20) D46_18 rfl rfl rfl (by decide) P3 (fun i _ => (show tK base M0.1 (1, 0, 0) _ from ⟨0, rfl, by decide, by decide⟩)) rfl rfl 2 rfl (fun M6 P5 => ?_)
  refine p_pv (sc46_5 r) [(4, 0, 0), (3, 1, 0), (3, 2, 0), (2, 0, 0), (1, 0, 0)] (pc' := 23) (j := 0) (ty := .array (.int)) D46_20 rfl fi_7_19 P5 rfl rfl (by decide) rfl rfl rfl (Or.inr ⟨by decide, by decide⟩) rfl (show tK base M0.1 (3, 2, 0) _ from tkR (r := 2)) rfl (fun M8 P7 => ?_)
  refine s_blx (lv' := [(0, vR (M0.1)), (1, .inr (.inr (some (.inl tr))))]) (st' := [vL 0, vR (M0.1)]) B46_23_25 rfl ?_
  refine p_pv (sc46_6 r) [(4, 0, 0), (3, 1, 0), (3, 2, 0), (2, 0, 0), (1, 0, 0)] (pc' := 28) (j := 0) (ty := .long) D46_25 rfl fi_7_23 P7 rfl rfl (by decide) rfl rfl rfl (Or.inr ⟨by decide, by decide⟩) rfl (show tK base M0.1 (2, 0, 0) _ from ⟨_, rfl⟩) rfl (fun M10 P9 => ?_)
  refine s_blx (lv' := [(0, vR (M0.1)), (1, .inr (.inr (some (.inl tr))))]) (st' := [vI 1, vR (M0.1)]) B46_28_30 rfl ?_
  refine p_pv (sc46_7 r) [(4, 0, 0), (3, 1, 0), (3, 2, 0), (2, 0, 0), (1, 1, 1)] (pc' := 33) (j := 0) (ty := .boolean) D46_30 rfl fi_7_27 P9 rfl rfl (by decide) rfl rfl rfl (Or.inr ⟨by decide, by decide⟩) rfl (show tK base M0.1 (1, 1, 1) _ from ⟨_, rfl, by decide, by decide⟩) rfl (fun M12 P11 => ?_)
  refine s_blx (lv' := [(0, vR (M0.1)), (1, .inr (.inr (some (.inl tr))))]) (st' := [.inr (.inr (some (.inl tr))), vR (M0.1)]) B46_33_35 rfl ?_
  refine p_pv (sc46_8 r) [(3, r, 0), (3, 1, 0), (3, 2, 0), (2, 0, 0), (1, 1, 1)] (pc' := 38) (j := 0) (ty := .object "GlassBox$Tree") D46_35 rfl fi_7_31 P11 rfl rfl (by decide) rfl rfl rfl (Or.inr ⟨by decide, by decide⟩) rfl (show tK base M0.1 (3, r, 0) _ from htr) rfl (fun M14 P13 => ?_)
  exact r_retV D46_38 rfl P13
