/-! RULES for the heap and for calls. -/
noncomputable def s_gf (o i c : Nat) : Option (Nat × Nat) := if o = 13 then none else match m_fi o i, shL[c]? with
  | some q, some z => if z.1 = q.1 ∧ q.2 < z.2.1 ∧ z.1 < 1000 then some (q.2, z.2.2.getD q.2 0) else none
  | _, _ => none
noncomputable def s_pf (o i c : Nat) : Option (Nat × Nat) := match m_fi o i, shL[c]? with
  | some q, some z => if z.1 = q.1 ∧ q.2 < z.2.1 ∧ z.1 < 1000 ∧ m_fin q.1 q.2 = false then (match m_fty q.1 q.2 with
    | some .int => if z.2.2.getD q.2 0 = 1 then some (q.2, 1) else none
    | some .boolean => if z.2.2.getD q.2 0 = 1 then some (q.2, 2) else none
    | some .long => if z.2.2.getD q.2 0 = 2 then some (q.2, 3) else none
    | _ => none) else none
  | _, _ => none
noncomputable def s_in (o : Option (Int × Int)) (e : Int) : Prop := match o with
  | some q => q.1 ≤ e ∧ e ≤ q.2
  | none => True
theorem s_in_ok {c : Nat} {i e : Int} (h : s_in (rg c i) e) : ∀ lo hi, rg c i = some (lo, hi) → lo ≤ e ∧ e ≤ hi := by
  intro lo hi q
  rw [q] at h
  exact h
section
variable {base : Nat} {X : Nat → Option mC} {G : Nat → Value} {d : Nat} {t : mT} {pc pc' : Nat} {lv lv' : sL} {st st' : List mV} {M : mH} {Q : Option Value → mH → Prop} {P : Option mV → mH → Prop}
theorem s_gf_ok {o i c k y : Nat} (h : s_gf o i c = some (k, y)) : o ≠ 13 ∧ ∃ q : sS, ∃ cl, m_fi o i = some (cl, k) ∧ shL[c]? = some q ∧ q.1 = cl ∧ k < q.2.1 ∧ q.1 < 1000 ∧ q.2.2.getD k 0 = y := by
  unfold s_gf at h
  split at h
  · cases h
  · next ho =>
    refine ⟨ho, ?_⟩
    split at h
    · next q z hq hz =>
      split at h
      · next hh => cases h; exact ⟨z, q.1, hq, hz, hh.1, hh.2.1, hh.2.2, rfl⟩
      · cases h
    · cases h
/-- a field is read -/
theorem r_gv {i c k : Nat} {cl : Nat} {v : mV} (hd : decode t.2.2.1 pc = .ok (.getfield i, 3)) (hn : pc + 3 = pc') (ho : t.1 ≠ 13) (hf : m_fi t.1 i = some (cl, k)) (hc : c < M.1) (hk1 : hk M c = cl) (hk2 : k < hz M c) (hvv : hv M c k = em base v) (h : sRn base X G d t pc' lv (v :: st) M Q) : sRn base X G d t pc lv (vR c :: st) M Q := by
  subst hn
  refine m_Rn.step (z := (pc + 3, em_l base lv, em_s base (v :: st), M)) hd rfl rfl ?_ h
  have e : m_stD base X G t.1 (t.2.1.name == "<init>") pc (em_l base lv) (em_s base (vR c :: st)) M (.getfield i) = some (pc + 3, em_l base lv, em_s base (v :: st), M) := by
    simp only [m_stD, if_neg ho, em_s, List.map_cons, em, m_r, hf, m_own_own hc]
    have h1 : (M.2.2 c).1 = cl := hk1
    have h2 : k < (M.2.2 c).2.1 := hk2
    have h3 : (M.2.2 c).2.2 k = em base v := hvv
    rw [if_pos ⟨h1, h2⟩, h3]
    rfl
  unfold m_step
  simp only [m_spc, m_stC, m_stA, m_stB]
  rw [if_pos (show 3 = m_len (.getfield i) from rfl), e]
theorem r_gfix {i c k r : Nat} (hd : decode t.2.2.1 pc = .ok (.getfield i, 3)) (hn : pc + 3 = pc') (hs : s_gf t.1 i c = some (k, r + 3)) (H : Sh base M) (h : sRn base X G d t pc' lv (vR r :: st) M Q) : sRn base X G d t pc lv (vR c :: st) M Q := by
  obtain ⟨ho, q, cl, h1, h2, h3, h4, h5, h6⟩ := s_gf_ok hs
  obtain ⟨g1, g2, g3⟩ := H.2 c q h2
  have g4 := g3 k h4
  unfold s_tyOf at g4
  rw [if_pos h5, h6] at g4
  exact r_gv hd hn ho h1 (H.lt h2) (g1.trans h3) (by rw [g2]; exact h4) (show hv M c k = em base (vR r) from g4) h
theorem r_gint {i c k : Nat} {ki : Int} (hd : decode t.2.2.1 pc = .ok (.getfield i, 3)) (hn : pc + 3 = pc') (hs : s_gf t.1 i c = some (k, 1)) (hi : ki = (k : Int)) (H : Sh base M) (h : ∀ w, w = gi M c ki → inR w → sRn base X G d t pc' lv (vI w :: st) M Q) : sRn base X G d t pc lv (vR c :: st) M Q := by
  obtain ⟨ho, q, cl, h1, h2, h3, h4, h5, h6⟩ := s_gf_ok hs
  obtain ⟨g1, g2, g3⟩ := H.2 c q h2
  have ht : s_tyOf q ki.toNat = 1 := by unfold s_tyOf; rw [if_pos h5, hi]; exact h6
  obtain ⟨a1, a2⟩ := H.int h2 (i := ki) (by omega) (by omega) ht
  have : ki.toNat = k := by omega
  rw [this] at a1
  exact r_gv hd hn ho h1 (H.lt h2) (g1.trans h3) (by rw [g2]; exact h4) (show hv M c k = em base (vI _) from a1) (h _ rfl a2)
theorem r_glong {i c k : Nat} {ki : Int} (hd : decode t.2.2.1 pc = .ok (.getfield i, 3)) (hn : pc + 3 = pc') (hs : s_gf t.1 i c = some (k, 2)) (hi : ki = (k : Int)) (H : Sh base M) (h : ∀ w, w = gi M c ki → inJ w → sRn base X G d t pc' lv (vL w :: st) M Q) : sRn base X G d t pc lv (vR c :: st) M Q := by
  obtain ⟨ho, q, cl, h1, h2, h3, h4, h5, h6⟩ := s_gf_ok hs
  obtain ⟨g1, g2, g3⟩ := H.2 c q h2
  have ht : s_tyOf q ki.toNat = 2 := by unfold s_tyOf; rw [if_pos h5, hi]; exact h6
  obtain ⟨a1, a2⟩ := H.long h2 (i := ki) (by omega) (by omega) ht
  have : ki.toNat = k := by omega
  rw [this] at a1
  exact r_gv hd hn ho h1 (H.lt h2) (g1.trans h3) (by rw [g2]; exact h4) (show hv M c k = em base (vL _) from a1) (h _ rfl a2)
/-- a field is written -/
theorem r_pv {i c k : Nat} {cl : Nat} {v : mV} {ty : FieldType} (hd : decode t.2.2.1 pc = .ok (.putfield i, 3)) (hn : pc + 3 = pc') (hf : m_fi t.1 i = some (cl, k)) (hc : c < M.1) (hk1 : hk M c = cl) (hk2 : k < hz M c) (hty : m_fty cl k = some ty) (hnr : narrow ty (em base v) = em base v) (hft : fits ty (em base v) = true) (hfin : m_fin cl k = false ∨ ((t.2.1.name == "<init>") = true ∧ m_oc t.1 = cl))
    (h : ∀ M', Wr M c k (em base v) M' → sRn base X G d t pc' lv st M' Q) : sRn base X G d t pc lv (v :: vR c :: st) M Q := by
  subst hn
  refine m_Rn.step (z := (pc + 3, em_l base lv, em_s base st, m_put base M (base + c) (hk M c, hz M c, updV (M.2.2 c).2.2 k (em base v)))) hd rfl rfl ?_ (h _ (m_put_own rfl))
  have e : m_stD base X G t.1 (t.2.1.name == "<init>") pc (em_l base lv) (em_s base (v :: vR c :: st)) M (.putfield i) = some (pc + 3, em_l base lv, em_s base st, m_put base M (base + c) (hk M c, hz M c, updV (M.2.2 c).2.2 k (em base v))) := by
    simp only [m_stD, em_s, List.map_cons, m_vr]
    rw [show em base (vR c) = Value.ref (base + c) from rfl]
    simp only [hf, m_own_own hc, hty]
    have h1 : (M.2.2 c).1 = cl := hk1
    have h2 : k < (M.2.2 c).2.1 := hk2
    rw [if_pos ⟨h1, h2, hnr, hft, hfin⟩]
    rfl
  unfold m_step
  simp only [m_spc, m_stC, m_stA, m_stB]
  rw [if_pos (show 3 = m_len (.putfield i) from rfl), e]
theorem s_pf_ok {o i c k y : Nat} (h : s_pf o i c = some (k, y)) : ∃ q : sS, ∃ cl ty, m_fi o i = some (cl, k) ∧ shL[c]? = some q ∧ q.1 = cl ∧ k < q.2.1 ∧ q.1 < 1000 ∧ m_fin cl k = false ∧ m_fty cl k = some ty ∧ ((y = 1 ∧ ty = .int ∧ q.2.2.getD k 0 = 1) ∨ (y = 2 ∧ ty = .boolean ∧ q.2.2.getD k 0 = 1) ∨ (y = 3 ∧ ty = .long ∧ q.2.2.getD k 0 = 2)) := by
  unfold s_pf at h
  split at h
  · next q z hq hz =>
    split at h
    · next hh =>
      split at h
      · next ht =>
        split at h
        · next he => cases h; exact ⟨z, q.1, _, hq, hz, hh.1, hh.2.1, hh.2.2.1, hh.2.2.2, ht, Or.inl ⟨rfl, rfl, he⟩⟩
        · cases h
      · next ht =>
        split at h
        · next he => cases h; exact ⟨z, q.1, _, hq, hz, hh.1, hh.2.1, hh.2.2.1, hh.2.2.2, ht, Or.inr (Or.inl ⟨rfl, rfl, he⟩)⟩
        · cases h
      · next ht =>
        split at h
        · next he => cases h; exact ⟨z, q.1, _, hq, hz, hh.1, hh.2.1, hh.2.2.1, hh.2.2.2, ht, Or.inr (Or.inr ⟨rfl, rfl, he⟩)⟩
        · cases h
      · cases h
    · cases h
  · cases h
theorem s_f01 {e : Int} (h : e = 0 ∨ e = 1) : fits .boolean (.int (Int32.ofInt e)) = true := by
  rcases h with rfl | rfl <;> decide
theorem r_pint {i c k : Nat} {ki e : Int} (hd : decode t.2.2.1 pc = .ok (.putfield i, 3)) (hn : pc + 3 = pc') (hs : s_pf t.1 i c = some (k, 1)) (hi : ki = (k : Int)) (H : HI base M) (he : inR e) (hb : s_in (rg c ki) e)
    (h : ∀ M', Wr M c ki.toNat (.int (Int32.ofInt e)) M' → HI base M' → gi M' c ki = e → sRn base X G d t pc' lv st M' Q) : sRn base X G d t pc lv (vI e :: vR c :: st) M Q := by
  obtain ⟨q, cl, ty, h1, h2, h3, h4, h5, h6, h7, h8⟩ := s_pf_ok hs
  obtain ⟨g1, g2, g3⟩ := H.1.2 c q h2
  rcases h8 with ⟨-, rfl, h8⟩ | ⟨h8, -⟩ | ⟨h8, -⟩
  · refine r_pv hd hn h1 (H.1.lt h2) (g1.trans h3) (by rw [g2]; exact h4) h7 rfl rfl (Or.inl h6) (fun M' hw => ?_)
    have hk : ki.toNat = k := by omega
    have hw' : Wr M c ki.toNat (.int (Int32.ofInt e)) M' := by rw [hk]; exact hw
    refine h M' hw' (H.wrI h2 ?_ hw' (by omega) he (s_in_ok hb)) ?_
    · unfold s_tyOf; rw [if_pos h5, hk]; exact h8
    · rw [hw'.gi_eq (by omega), vi_int he]
  · omega
  · omega
theorem r_pbool {i c k : Nat} {ki e : Int} (hd : decode t.2.2.1 pc = .ok (.putfield i, 3)) (hn : pc + 3 = pc') (hs : s_pf t.1 i c = some (k, 2)) (hi : ki = (k : Int)) (H : HI base M) (he : e = 0 ∨ e = 1) (hb : s_in (rg c ki) e)
    (h : ∀ M', Wr M c ki.toNat (.int (Int32.ofInt e)) M' → HI base M' → gi M' c ki = e → sRn base X G d t pc' lv st M' Q) : sRn base X G d t pc lv (vI e :: vR c :: st) M Q := by
  obtain ⟨q, cl, ty, h1, h2, h3, h4, h5, h6, h7, h8⟩ := s_pf_ok hs
  obtain ⟨g1, g2, g3⟩ := H.1.2 c q h2
  have heR : inR e := by unfold inR; omega
  rcases h8 with ⟨h8, -⟩ | ⟨-, rfl, h8⟩ | ⟨h8, -⟩
  · omega
  · refine r_pv hd hn h1 (H.1.lt h2) (g1.trans h3) (by rw [g2]; exact h4) h7 (s_b01 he) (s_f01 he) (Or.inl h6) (fun M' hw => ?_)
    have hk : ki.toNat = k := by omega
    have hw' : Wr M c ki.toNat (.int (Int32.ofInt e)) M' := by rw [hk]; exact hw
    refine h M' hw' (H.wrI h2 ?_ hw' (by omega) heR (s_in_ok hb)) ?_
    · unfold s_tyOf; rw [if_pos h5, hk]; exact h8
    · rw [hw'.gi_eq (by omega), vi_int heR]
  · omega
theorem r_plong {i c k : Nat} {ki e : Int} (hd : decode t.2.2.1 pc = .ok (.putfield i, 3)) (hn : pc + 3 = pc') (hs : s_pf t.1 i c = some (k, 3)) (hi : ki = (k : Int)) (H : HI base M) (he : inJ e) (hb : s_in (rg c ki) e)
    (h : ∀ M', Wr M c ki.toNat (.long (Int64.ofInt e)) M' → HI base M' → gi M' c ki = e → sRn base X G d t pc' lv st M' Q) : sRn base X G d t pc lv (vL e :: vR c :: st) M Q := by
  obtain ⟨q, cl, ty, h1, h2, h3, h4, h5, h6, h7, h8⟩ := s_pf_ok hs
  obtain ⟨g1, g2, g3⟩ := H.1.2 c q h2
  rcases h8 with ⟨h8, -⟩ | ⟨h8, -⟩ | ⟨-, rfl, h8⟩
  · omega
  · omega
  · refine r_pv hd hn h1 (H.1.lt h2) (g1.trans h3) (by rw [g2]; exact h4) h7 rfl rfl (Or.inl h6) (fun M' hw => ?_)
    have hk : ki.toNat = k := by omega
    have hw' : Wr M c ki.toNat (.long (Int64.ofInt e)) M' := by rw [hk]; exact hw
    refine h M' hw' (H.wrJ h2 ?_ hw' (by omega) he (s_in_ok hb)) ?_
    · unfold s_tyOf; rw [if_pos h5, hk]; exact h8
    · rw [hw'.gi_eq (by omega), vi_long he]
/-! arrays -/
theorem s_idx {e : Int} {n : Nat} (h0 : 0 ≤ e) (h1 : e < (n : Int)) (hr : e ≤ 2147483647) : m_in (Int32.ofInt e) n = true ∧ (Int32.ofInt e).toNatClampNeg = e.toNat := by
  have he : (Int32.ofInt e).toInt = e := s_i32 (by unfold inR; omega)
  refine ⟨?_, ?_⟩
  · unfold m_in; rw [he]; simp [h0, h1]
  · show (Int32.ofInt e).toInt.toNat = e.toNat
    rw [he]
noncomputable def s_kd (ins : Instr) : Option (Nat → Bool) := match ins with
  | .iaload => some (fun k => k == 1000)
  | .laload => some (fun k => k == 1001)
  | .baload => some (fun k => k == 1002 || k == 1003)
  | .aaload => some (fun k => decide (1005 ≤ k))
  | _ => none
theorem r_ld {ins : Instr} {kd : Nat → Bool} {a : Nat} {x : mC} {e : Int} {v : mV} {w : mV} (hd : decode t.2.2.1 pc = .ok (ins, 1)) (hn : pc + 1 = pc') (hw : em base w = .ref a) (hkd : s_kd ins = some kd) (ha : m_at base X M a = some x) (hx : kd x.1 = true) (he : 0 ≤ e ∧ e < (x.2.1 : Int) ∧ e ≤ 2147483647) (hvv : x.2.2 e.toNat = em base v)
    (h : sRn base X G d t pc' lv (v :: st) M Q) : sRn base X G d t pc lv (vI e :: w :: st) M Q := by
  subst hn
  obtain ⟨i1, i2⟩ := s_idx he.1 he.2.1 he.2.2
  have hm : m_ret t.2.2.2.2 ins (em_s base (vI e :: w :: st)) = none ∧ m_call t.1 ins = none ∧ m_spc base X t.1 pc (em_l base lv) (em_s base (vI e :: w :: st)) M ins = none ∧ m_stC pc (em_l base lv) (em_s base (vI e :: w :: st)) M ins = none ∧ m_stA t.1 t.2.2.2.1 pc (em_l base lv) (em_s base (vI e :: w :: st)) M ins = none ∧ m_stB pc (em_l base lv) (em_s base (vI e :: w :: st)) M ins = none ∧ m_len ins = 1 ∧ m_stD base X G t.1 (t.2.1.name == "<init>") pc (em_l base lv) (em_s base (vI e :: w :: st)) M ins = m_ald base X M kd (em_s base (vI e :: w :: st)) (fun v r => some (pc + 1, em_l base lv, v :: r, M)) := by
    unfold s_kd at hkd
    split at hkd <;> first | (cases hkd; done) | (cases hkd; exact ⟨rfl, rfl, rfl, rfl, rfl, rfl, rfl, rfl⟩)
  obtain ⟨h1, h2, h3, h4, h5, h6, h7, h8⟩ := hm
  refine m_Rn.step (z := (pc + 1, em_l base lv, em_s base (v :: st), M)) hd h1 h2 ?_ h
  unfold m_step
  rw [h3, h4]
  dsimp only
  rw [if_pos h7.symm, h5, h6, h8]
  simp only [m_ald, em_s, List.map_cons, hw, m_ir]
  rw [show em base (vI e) = Value.int (Int32.ofInt e) from rfl]
  simp only [ha]
  rw [if_pos ⟨hx, i1⟩, i2, hvv]
theorem r_iald {c n : Nat} {e : Int} (hd : decode t.2.2.1 pc = .ok (.iaload, 1)) (hn : pc + 1 = pc') (hc : shL[c]? = some (1000, n, [1])) (H : Sh base M) (he : 0 ≤ e ∧ e < (n : Int) ∧ e ≤ 2147483647) (h : ∀ w, w = gi M c e → inR w → sRn base X G d t pc' lv (vI w :: st) M Q) : sRn base X G d t pc lv (vI e :: vR c :: st) M Q := by
  obtain ⟨a1, a2⟩ := H.int hc he.1 he.2.1 rfl
  obtain ⟨g1, g2, -⟩ := H.2 c _ hc
  refine r_ld (w := vR c) (x := M.2.2 c) (v := vI (gi M c e)) hd hn rfl rfl (m_at_own (H.lt hc)) ?_ ⟨he.1, ?_, he.2.2⟩ a1 (h _ rfl a2)
  · show (hk M c == 1000) = true
    rw [g1]; rfl
  · show e < (hz M c : Int)
    rw [g2]; exact he.2.1
theorem r_bald {c k n : Nat} {e : Int} (hd : decode t.2.2.1 pc = .ok (.baload, 1)) (hn : pc + 1 = pc') (hc : shL[c]? = some (k, n, [1])) (hk2 : k = 1002 ∨ k = 1003) (H : Sh base M) (he : 0 ≤ e ∧ e < (n : Int) ∧ e ≤ 2147483647) (h : ∀ w, w = gi M c e → inR w → sRn base X G d t pc' lv (vI w :: st) M Q) : sRn base X G d t pc lv (vI e :: vR c :: st) M Q := by
  obtain ⟨a1, a2⟩ := H.int hc he.1 he.2.1 (by unfold s_tyOf; rw [if_neg (by show ¬ k < 1000; omega)]; rfl)
  obtain ⟨g1, g2, -⟩ := H.2 c _ hc
  refine r_ld (w := vR c) (x := M.2.2 c) (v := vI (gi M c e)) hd hn rfl rfl (m_at_own (H.lt hc)) ?_ ⟨he.1, ?_, he.2.2⟩ a1 (h _ rfl a2)
  · show (hk M c == 1002 || hk M c == 1003) = true
    rw [g1]; rcases hk2 with rfl | rfl <;> rfl
  · show e < (hz M c : Int)
    rw [g2]; exact he.2.1
theorem r_lald {c n : Nat} {e : Int} (hd : decode t.2.2.1 pc = .ok (.laload, 1)) (hn : pc + 1 = pc') (hc : shL[c]? = some (1001, n, [2])) (H : Sh base M) (he : 0 ≤ e ∧ e < (n : Int) ∧ e ≤ 2147483647) (h : ∀ w, w = gi M c e → inJ w → sRn base X G d t pc' lv (vL w :: st) M Q) : sRn base X G d t pc lv (vI e :: vR c :: st) M Q := by
  obtain ⟨a1, a2⟩ := H.long hc he.1 he.2.1 rfl
  obtain ⟨g1, g2, -⟩ := H.2 c _ hc
  refine r_ld (w := vR c) (x := M.2.2 c) (v := vL (gi M c e)) hd hn rfl rfl (m_at_own (H.lt hc)) ?_ ⟨he.1, ?_, he.2.2⟩ a1 (h _ rfl a2)
  · show (hk M c == 1001) = true
    rw [g1]; rfl
  · show e < (hz M c : Int)
    rw [g2]; exact he.2.1
/-- an array that is given: the script, a static table -/
theorem r_ialdA {a n : Nat} {f : Nat → Value} {e w : Int} (hd : decode t.2.2.1 pc = .ok (.iaload, 1)) (hn : pc + 1 = pc') (hX : X a = some (1000, n, f)) (hlt : a < base) (he : 0 ≤ e ∧ e < (n : Int) ∧ e ≤ 2147483647) (hf : f e.toNat = .int (Int32.ofInt w)) (h : sRn base X G d t pc' lv (vI w :: st) M Q) : sRn base X G d t pc lv (vI e :: vA a :: st) M Q :=
  r_ld (w := vA a) (x := (1000, n, f)) (v := vI w) hd hn rfl rfl (by unfold m_at; rw [if_pos hlt, hX]) rfl he hf h
noncomputable def s_ks (ins : Instr) : Option (Nat → Bool) := match ins with
  | .iastore => some (fun k => k == 1000)
  | .lastore => some (fun k => k == 1001)
  | .bastore => some (fun k => k == 1002 || k == 1003)
  | .aastore => some (fun k => decide (1005 ≤ k))
  | _ => none
theorem r_sv {ins : Instr} {kd : Nat → Bool} {c : Nat} {e : Int} {v : mV} {w : Value} (hd : decode t.2.2.1 pc = .ok (ins, 1)) (hn : pc + 1 = pc') (hkd : s_ks ins = some kd) (hc : c < M.1) (hx : kd (hk M c) = true) (hok : m_okA base M (hk M c) (em base v) = some w) (he : 0 ≤ e ∧ e < (hz M c : Int) ∧ e ≤ 2147483647)
    (h : ∀ M', Wr M c e.toNat w M' → sRn base X G d t pc' lv st M' Q) : sRn base X G d t pc lv (v :: vI e :: vR c :: st) M Q := by
  subst hn
  obtain ⟨i1, i2⟩ := s_idx he.1 he.2.1 he.2.2
  have hm : m_ret t.2.2.2.2 ins (em_s base (v :: vI e :: vR c :: st)) = none ∧ m_call t.1 ins = none ∧ m_spc base X t.1 pc (em_l base lv) (em_s base (v :: vI e :: vR c :: st)) M ins = none ∧ m_stC pc (em_l base lv) (em_s base (v :: vI e :: vR c :: st)) M ins = none ∧ m_stA t.1 t.2.2.2.1 pc (em_l base lv) (em_s base (v :: vI e :: vR c :: st)) M ins = none ∧ m_stB pc (em_l base lv) (em_s base (v :: vI e :: vR c :: st)) M ins = none ∧ m_len ins = 1 ∧ m_stD base X G t.1 (t.2.1.name == "<init>") pc (em_l base lv) (em_s base (v :: vI e :: vR c :: st)) M ins = m_ast base M kd (m_okA base M) (em_s base (v :: vI e :: vR c :: st)) (fun M r => some (pc + 1, em_l base lv, r, M)) := by
    unfold s_ks at hkd
    split at hkd <;> first | (cases hkd; done) | (cases hkd; exact ⟨rfl, rfl, rfl, rfl, rfl, rfl, rfl, rfl⟩)
  obtain ⟨h1, h2, h3, h4, h5, h6, h7, h8⟩ := hm
  refine m_Rn.step (z := (pc + 1, em_l base lv, em_s base st, m_put base M (base + c) (hk M c, hz M c, updV (M.2.2 c).2.2 e.toNat w))) hd h1 h2 ?_ (h _ (m_put_own rfl))
  unfold m_step
  rw [h3, h4]
  dsimp only
  rw [if_pos h7.symm, h5, h6, h8]
  simp only [m_ast, em_s, List.map_cons, m_vir]
  rw [show em base (vI e) = Value.int (Int32.ofInt e) from rfl, show em base (vR c) = Value.ref (base + c) from rfl]
  simp only [m_own_own hc]
  rw [show m_okA base M (M.2.2 c).1 (em base v) = some w from hok]
  dsimp only
  rw [if_pos ⟨hx, i1⟩, i2]
  rfl
theorem r_iast {c n : Nat} {e w : Int} (hd : decode t.2.2.1 pc = .ok (.iastore, 1)) (hn : pc + 1 = pc') (hc : shL[c]? = some (1000, n, [1])) (H : HI base M) (he : 0 ≤ e ∧ e < (n : Int) ∧ e ≤ 2147483647) (hw : inR w) (hb : s_in (rg c e) w)
    (h : ∀ M', Wr M c e.toNat (.int (Int32.ofInt w)) M' → HI base M' → gi M' c e = w → sRn base X G d t pc' lv st M' Q) : sRn base X G d t pc lv (vI w :: vI e :: vR c :: st) M Q := by
  obtain ⟨g1, g2, -⟩ := H.1.2 c _ hc
  refine r_sv (v := vI w) (w := .int (Int32.ofInt w)) hd hn rfl (H.1.lt hc) ?_ ?_ ⟨he.1, ?_, he.2.2⟩ (fun M' hW => h M' hW (H.wrI hc rfl hW he.1 hw (s_in_ok hb)) ?_)
  · rw [g1]; rfl
  · rw [g1]; rfl
  · rw [g2]; exact he.2.1
  · rw [hW.gi_eq he.1, vi_int hw]
theorem r_last {c n : Nat} {e w : Int} (hd : decode t.2.2.1 pc = .ok (.lastore, 1)) (hn : pc + 1 = pc') (hc : shL[c]? = some (1001, n, [2])) (H : HI base M) (he : 0 ≤ e ∧ e < (n : Int) ∧ e ≤ 2147483647) (hw : inJ w) (hb : s_in (rg c e) w)
    (h : ∀ M', Wr M c e.toNat (.long (Int64.ofInt w)) M' → HI base M' → gi M' c e = w → sRn base X G d t pc' lv st M' Q) : sRn base X G d t pc lv (vL w :: vI e :: vR c :: st) M Q := by
  obtain ⟨g1, g2, -⟩ := H.1.2 c _ hc
  refine r_sv (v := vL w) (w := .long (Int64.ofInt w)) hd hn rfl (H.1.lt hc) ?_ ?_ ⟨he.1, ?_, he.2.2⟩ (fun M' hW => h M' hW (H.wrJ hc rfl hW he.1 hw (s_in_ok hb)) ?_)
  · rw [g1]; rfl
  · rw [g1]; rfl
  · rw [g2]; exact he.2.1
  · rw [hW.gi_eq he.1, vi_long hw]
theorem r_zast {c n : Nat} {e w : Int} (hd : decode t.2.2.1 pc = .ok (.bastore, 1)) (hn : pc + 1 = pc') (hc : shL[c]? = some (1002, n, [1])) (H : HI base M) (he : 0 ≤ e ∧ e < (n : Int) ∧ e ≤ 2147483647) (hw : w = 0 ∨ w = 1) (hb : s_in (rg c e) w)
    (h : ∀ M', Wr M c e.toNat (.int (Int32.ofInt w)) M' → HI base M' → gi M' c e = w → sRn base X G d t pc' lv st M' Q) : sRn base X G d t pc lv (vI w :: vI e :: vR c :: st) M Q := by
  obtain ⟨g1, g2, -⟩ := H.1.2 c _ hc
  have hwR : inR w := by unfold inR; omega
  refine r_sv (v := vI w) (w := .int (Int32.ofInt w)) hd hn rfl (H.1.lt hc) ?_ ?_ ⟨he.1, ?_, he.2.2⟩ (fun M' hW => h M' hW (H.wrI hc rfl hW he.1 hwR (s_in_ok hb)) ?_)
  · rw [g1]; rfl
  · rw [g1]; show some (narrow .boolean (.int (Int32.ofInt w))) = _; rw [s_b01 hw]
  · rw [g2]; exact he.2.1
  · rw [hW.gi_eq he.1, vi_int hwR]
theorem s_by {w : Int} (h : -128 ≤ w ∧ w ≤ 127) : narrow .byte (.int (Int32.ofInt w)) = .int (Int32.ofInt w) := by
  show Value.int (Int32.ofInt w).toInt8.toInt32 = _
  congr 1
  apply Int32.toInt_inj.mp
  rw [Int8.toInt_toInt32, Int32.toInt_toInt8, s_i32 (by unfold inR; omega)]
  rw [Int.bmod_eq_of_le] <;> omega
theorem r_byast {c n : Nat} {e w : Int} (hd : decode t.2.2.1 pc = .ok (.bastore, 1)) (hn : pc + 1 = pc') (hc : shL[c]? = some (1003, n, [1])) (H : HI base M) (he : 0 ≤ e ∧ e < (n : Int) ∧ e ≤ 2147483647) (hw : -128 ≤ w ∧ w ≤ 127) (hb : s_in (rg c e) w)
    (h : ∀ M', Wr M c e.toNat (.int (Int32.ofInt w)) M' → HI base M' → gi M' c e = w → sRn base X G d t pc' lv st M' Q) : sRn base X G d t pc lv (vI w :: vI e :: vR c :: st) M Q := by
  obtain ⟨g1, g2, -⟩ := H.1.2 c _ hc
  have hwR : inR w := by unfold inR; omega
  refine r_sv (v := vI w) (w := .int (Int32.ofInt w)) hd hn rfl (H.1.lt hc) ?_ ?_ ⟨he.1, ?_, he.2.2⟩ (fun M' hW => h M' hW (H.wrI hc rfl hW he.1 hwR (s_in_ok hb)) ?_)
  · rw [g1]; rfl
  · rw [g1]; show some (narrow .byte (.int (Int32.ofInt w))) = _; rw [s_by hw]
  · rw [g2]; exact he.2.1
  · rw [hW.gi_eq he.1, vi_int hwR]
/-- how long an array is -/
theorem r_lenv {a : Nat} {x : mC} {w : mV} (hd : decode t.2.2.1 pc = .ok (.arraylength, 1)) (hn : pc + 1 = pc') (hw : em base w = .ref a) (ha : m_at base X M a = some x) (hx : 1000 ≤ x.1) (h : sRn base X G d t pc' lv (vI (x.2.1 : Int) :: st) M Q) : sRn base X G d t pc lv (w :: st) M Q := by
  subst hn
  refine m_Rn.step (z := (pc + 1, em_l base lv, em_s base (vI (x.2.1 : Int) :: st), M)) hd rfl rfl ?_ h
  have e : m_stD base X G t.1 (t.2.1.name == "<init>") pc (em_l base lv) (em_s base (w :: st)) M .arraylength = some (pc + 1, em_l base lv, em_s base (vI (x.2.1 : Int) :: st), M) := by
    simp only [m_stD, em_s, List.map_cons, hw, m_r, ha, if_pos hx]
    rw [show em base (vI (x.2.1 : Int)) = Value.int (Int32.ofInt (x.2.1 : Int)) from rfl, Int32.ofInt_eq_ofNat]
  unfold m_step
  simp only [m_spc, m_stC, m_stA, m_stB]
  rw [if_pos (show 1 = m_len .arraylength from rfl), e]
theorem r_len {c k n : Nat} {L : List Nat} {ni : Int} (hd : decode t.2.2.1 pc = .ok (.arraylength, 1)) (hn : pc + 1 = pc') (hc : shL[c]? = some (k, n, L)) (hk2 : 1000 ≤ k) (hi : ni = (n : Int)) (H : Sh base M) (h : sRn base X G d t pc' lv (vI ni :: st) M Q) : sRn base X G d t pc lv (vR c :: st) M Q := by
  obtain ⟨g1, g2, -⟩ := H.2 c _ hc
  refine r_lenv (w := vR c) (x := M.2.2 c) hd hn rfl (m_at_own (H.lt hc)) (by show 1000 ≤ hk M c; rw [g1]; exact hk2) ?_
  have : ((M.2.2 c).2.1 : Int) = ni := by
    show (hz M c : Int) = ni
    rw [g2]; exact hi.symm
  rw [this]
  exact h
theorem r_gst {i g a : Nat} (hd : decode t.2.2.1 pc = .ok (.getstatic i, 3)) (hn : pc + 3 = pc') (hs : m_st t.1 i = some g) (hg : G g = .ref a) (h : sRn base X G d t pc' lv (vA a :: st) M Q) : sRn base X G d t pc lv st M Q := by
  subst hn
  refine m_Rn.step (z := (pc + 3, em_l base lv, em_s base (vA a :: st), M)) hd rfl rfl ?_ h
  have e : m_stD base X G t.1 (t.2.1.name == "<init>") pc (em_l base lv) (em_s base st) M (.getstatic i) = some (pc + 3, em_l base lv, em_s base (vA a :: st), M) := by
    simp only [m_stD, hs, hg]
    rfl
  unfold m_step
  simp only [m_spc, m_stC, m_stA, m_stB]
  rw [if_pos (show 3 = m_len (.getstatic i) from rfl), e]
/-! calls -/
noncomputable def s_args (k na : Nat) (st : List mV) : Option (List mV × List mV) := if k = 1 ∨ k = 4 then (if na ≤ st.length then some ((st.take na).reverse, st.drop na) else none) else match st.drop na with
  | .inr (.inr (some q)) :: r => some (.inr (.inr (some q)) :: (st.take na).reverse, r)
  | _ => none
theorem s_args_ok {k na : Nat} {st a r : List mV} (h : s_args k na st = some (a, r)) : m_args k na (em_s base st) = some (em_s base a, em_s base r) := by
  unfold s_args at h
  unfold m_args em_s
  split at h
  · next hk =>
    rw [if_pos hk]
    split at h
    · next hn =>
      cases h
      rw [if_pos (by rw [List.length_map]; exact hn)]
      simp only [List.map_reverse, List.map_take, List.map_drop]
    · cases h
  · next hk =>
    rw [if_neg hk, ← List.map_drop]
    split at h
    · next q r' hq =>
      cases h
      rw [hq]
      rcases q with c | b <;> simp only [List.map_cons, em, List.map_reverse, List.map_take]
    · cases h
noncomputable def s_sz (vs : List mV) : Nat := match vs with
  | [] => 0
  | v :: r => (if s_is2 v then 2 else 1) + s_sz r
theorem s_sz_ok (base : Nat) : ∀ vs : List mV, (lg_sl (em_s base vs)).length = s_sz vs ∧ (((em_s base vs).map fun v => v.category).sum = s_sz vs)
  | [] => ⟨rfl, rfl⟩
  | v :: r => by
    obtain ⟨ih1, ih2⟩ := s_sz_ok base r
    have e1 : lg_sl (em_s base (v :: r)) = (if (em base v).category = 2 then [Slot.val (em base v), .second] else [.val (em base v)]) ++ lg_sl (em_s base r) := rfl
    have e2 : ((em_s base (v :: r)).map fun v => v.category).sum = (em base v).category + ((em_s base r).map fun v => v.category).sum := rfl
    rw [e1, e2, List.length_append, ih1, ih2]
    have e3 : s_sz (v :: r) = (if s_is2 v then 2 else 1) + s_sz r := rfl
    rw [e3]
    generalize s_sz r = n
    rcases v with e | e | _ | c | a <;> exact ⟨rfl, rfl⟩
theorem r_cv {ins : Instr} {k : Nat × Nat × Nat} {t' : mT} {args rest : List mV} (hd : decode t.2.2.1 pc = .ok (ins, 3)) (hn : pc + 3 = pc') (hk : m_call t.1 ins = some k) (ht : sy_m[k.2.1]? = some t') (ha : s_args k.1 k.2.2 st = some (args, rest)) (h1 : s_sz rest ≤ 8) (h2 : s_sz args ≤ t'.2.2.2.1 ∧ t'.2.2.2.1 ≤ 45) (h4 : m_recv base G M k.1 t'.1 (em_s base args) = true) (hd0 : 0 < d)
    (h : sOk base X G (d - 1) t' args M P) (hh : ∀ v M', P v M' → sRn base X G d t pc' lv (v.toList ++ rest) M' Q) : sRn base X G d t pc lv st M Q := by
  subst hn
  obtain ⟨d', rfl⟩ : ∃ d', d = d' + 1 := ⟨d - 1, by omega⟩
  have hr : m_ret t.2.2.2.2 ins (em_s base st) = none := by
    unfold m_call at hk
    split at hk <;> first | rfl | cases hk
  refine m_Rn.call hd hr hk ht (s_args_ok ha) ?_ ?_ h2.2 h4 ?_
  · unfold m_sm; rw [(s_sz_ok base rest).2]; exact decide_eq_true h1
  · rw [(s_sz_ok base args).1]; exact h2.1
  · refine m_Rn.imp h (fun r M' q => ?_)
    obtain ⟨v, rfl, p⟩ := q
    have := hh v M' p
    unfold sRn em_s at this
    rw [List.map_append] at this
    cases v with
    | none => exact this
    | some v => exact this
theorem r_calls {ins : Instr} {k : Nat × Nat × Nat} {t' : mT} {args rest : List mV} (hd : decode t.2.2.1 pc = .ok (ins, 3)) (hn : pc + 3 = pc') (hk : m_call t.1 ins = some k) (ht : sy_m[k.2.1]? = some t') (ha : s_args k.1 k.2.2 st = some (args, rest)) (h1 : s_sz rest ≤ 8) (h2 : s_sz args ≤ t'.2.2.2.1 ∧ t'.2.2.2.1 ≤ 45) (h4 : ¬ (k.1 = 0 ∨ k.1 = 3)) (hd0 : 0 < d)
    (h : sOk base X G (d - 1) t' args M P) (hh : ∀ v M', P v M' → sRn base X G d t pc' lv (v.toList ++ rest) M' Q) : sRn base X G d t pc lv st M Q :=
  r_cv hd hn hk ht ha h1 h2 (by unfold m_recv; rw [if_neg h4]) hd0 h hh
theorem r_callv {ins : Instr} {k : Nat × Nat × Nat} {t' : mT} {c : Nat} {args rest : List mV} {q : sS} (hd : decode t.2.2.1 pc = .ok (ins, 3)) (hn : pc + 3 = pc') (hk : m_call t.1 ins = some k) (ht : sy_m[k.2.1]? = some t') (ha : s_args k.1 k.2.2 st = some (vR c :: args, rest)) (h1 : s_sz rest ≤ 8) (h2 : s_sz (vR c :: args) ≤ t'.2.2.2.1 ∧ t'.2.2.2.1 ≤ 45) (hc : shL[c]? = some q) (h4 : q.1 = m_oc t'.1 ∧ t'.1 ≠ 13) (H : Sh base M) (hd0 : 0 < d)
    (h : sOk base X G (d - 1) t' (vR c :: args) M P) (hh : ∀ v M', P v M' → sRn base X G d t pc' lv (v.toList ++ rest) M' Q) : sRn base X G d t pc lv st M Q := by
  refine r_cv hd hn hk ht ha h1 h2 ?_ hd0 h hh
  unfold m_recv
  split
  · simp only [em_s, List.map_cons]
    rw [show em base (vR c) = Value.ref (base + c) from rfl]
    dsimp only
    rw [if_neg h4.2, m_own_own (H.lt hc)]
    show ((M.2.2 c).1 == m_oc t'.1) = true
    have e1 : (M.2.2 c).1 = q.1 := (H.2 c q hc).1
    rw [e1, h4.1]
    simp
  · rfl
/-! members of the JDK that the machine knows -/
theorem r_sp {ins : Instr} {st0 : List mV} {v : Value} (hd : decode t.2.2.1 pc = .ok (ins, 3)) (h1 : m_ret t.2.2.2.2 ins (em_s base st0) = none) (h2 : m_call t.1 ins = none) (h3 : m_spc base X t.1 pc (em_l base lv) (em_s base st0) M ins = some (pc + 3, em_l base lv, v :: em_s base st, M)) (h : m_Rn base X G d t (pc + 3) (em_l base lv) (v :: em_s base st) M Q) : sRn base X G d t pc lv st0 M Q := by
  refine m_Rn.step (z := (pc + 3, em_l base lv, v :: em_s base st, M)) hd h1 h2 ?_ h
  unfold m_step
  rw [h3]
  rfl
theorem s_sm {rest : List mV} (h : s_sz rest ≤ 8) : m_sm (em_s base rest) = true := by
  unfold m_sm; rw [(s_sz_ok base rest).2]; exact decide_eq_true h
theorem r_max {i : Nat} {a b : Int} (hd : decode t.2.2.1 pc = .ok (.invokestatic i, 3)) (hn : pc + 3 = pc') (hk : m_call t.1 (.invokestatic i) = none) (hs : m_sp t.1 i = some 2) (h1 : s_sz st ≤ 8) (hr : inR a ∧ inR b) (h : ∀ e, a ≤ e → b ≤ e → (e = a ∨ e = b) → sRn base X G d t pc' lv (vI e :: st) M Q) : sRn base X G d t pc lv (vI b :: vI a :: st) M Q := by
  subst hn
  refine r_sp (st := st) (v := .int (if Int32.ofInt a < Int32.ofInt b then Int32.ofInt b else Int32.ofInt a)) hd rfl hk ?_ ?_
  · simp only [m_spc, hs, em_s, List.map_cons, em, m_ii]
    have := s_sm (base := base) h1
    unfold em_s at this
    rw [if_pos this]
  · split
    · next q => exact h b (by have := (s_lt hr.1 hr.2).mp q; omega) (by omega) (Or.inr rfl)
    · next q => exact h a (by omega) (Int.not_lt.mp (fun z => q ((s_lt hr.1 hr.2).mpr z))) (Or.inl rfl)
theorem r_min {i : Nat} {a b : Int} (hd : decode t.2.2.1 pc = .ok (.invokestatic i, 3)) (hn : pc + 3 = pc') (hk : m_call t.1 (.invokestatic i) = none) (hs : m_sp t.1 i = some 3) (h1 : s_sz st ≤ 8) (hr : inR a ∧ inR b) (h : ∀ e, e ≤ a → e ≤ b → (e = a ∨ e = b) → sRn base X G d t pc' lv (vI e :: st) M Q) : sRn base X G d t pc lv (vI b :: vI a :: st) M Q := by
  subst hn
  refine r_sp (st := st) (v := .int (if Int32.ofInt b < Int32.ofInt a then Int32.ofInt b else Int32.ofInt a)) hd rfl hk ?_ ?_
  · simp only [m_spc, hs, em_s, List.map_cons, em, m_ii]
    have := s_sm (base := base) h1
    unfold em_s at this
    rw [if_pos this]
  · split
    · next q => exact h b (by have := (s_lt hr.2 hr.1).mp q; omega) (by omega) (Or.inr rfl)
    · next q => exact h a (by omega) (Int.not_lt.mp (fun z => q ((s_lt hr.2 hr.1).mpr z))) (Or.inl rfl)
theorem r_minL {i : Nat} {a b : Int} (hd : decode t.2.2.1 pc = .ok (.invokestatic i, 3)) (hn : pc + 3 = pc') (hk : m_call t.1 (.invokestatic i) = none) (hs : m_sp t.1 i = some 4) (h1 : s_sz st ≤ 8) (ha : sRn base X G d t pc' lv (vL a :: st) M Q) (hb : sRn base X G d t pc' lv (vL b :: st) M Q) : sRn base X G d t pc lv (vL b :: vL a :: st) M Q := by
  subst hn
  refine r_sp (st := st) (v := .long (if Int64.ofInt b < Int64.ofInt a then Int64.ofInt b else Int64.ofInt a)) hd rfl hk ?_ ?_
  · simp only [m_spc, hs, em_s, List.map_cons, em, m_ll]
    have := s_sm (base := base) h1
    unfold em_s at this
    rw [if_pos this]
  · split
    · exact hb
    · exact ha
theorem r_obj {i : Nat} {q : Nat ⊕ Nat} (hd : decode t.2.2.1 pc = .ok (.invokespecial i, 3)) (hn : pc + 3 = pc') (hk : m_call t.1 (.invokespecial i) = none) (hs : m_sp t.1 i = some 0) (h1 : s_sz st ≤ 8) (h : sRn base X G d t pc' lv st M Q) : sRn base X G d t pc lv (.inr (.inr (some q)) :: st) M Q := by
  subst hn
  refine m_Rn.step (z := (pc + 3, em_l base lv, em_s base st, M)) hd rfl hk ?_ h
  unfold m_step
  have := s_sm (base := base) h1
  unfold em_s at this ⊢
  rcases q with c | a <;> simp only [m_spc, if_pos hs, List.map_cons, em, m_r, if_pos this] <;> rfl
end
