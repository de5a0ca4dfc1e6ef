/-! Rows of the solvers: long arrays made later; the tree's children; frames that let them change. -/
noncomputable def IsRow (r : Nat) (M : mH) : Prop := 111 ≤ r ∧ r < M.1 ∧ hk M r = 1001 ∧ hz M r = 1111 ∧ ∀ i, i < 1111 → ∃ x : Int64, hv M r i = .long x
noncomputable def RW (base Lc : Nat) (n : Int) (M : mH) : Prop := ∀ p : Int, 1 ≤ p → p < n → ∃ r : Nat, hv M Lc p.toNat = .ref (base + r) ∧ IsRow r M
noncomputable def TR (a : Nat) (n : Int) (M : mH) : Prop := ∀ p : Int, 0 ≤ p → p < n → (gi M a p = -1 ∨ (1 ≤ gi M a p ∧ gi M a p < n)) ∧ (1 ≤ p → (gi M (a + 1) p = -1 ∨ (1 ≤ gi M (a + 1) p ∧ gi M (a + 1) p < n)))
/-- but for the cells of L and the rows the heap is the same; rows stay rows -/
noncomputable def Fq (L : List (Nat × Nat)) (M0 M : mH) : Prop := M.1 = M0.1 ∧ M.2.1 = M0.2.1 ∧ (∀ c, hk M c = hk M0 c ∧ hz M c = hz M0 c ∧ ∀ i, s_md L c i = false → (c < 111 ∨ hk M0 c ≠ 1001) → hv M c i = hv M0 c i) ∧ ∀ r, IsRow r M0 → IsRow r M
theorem IsRow.lt {r : Nat} {M : mH} (h : IsRow r M) : r < M.1 := h.2.1
theorem IsRow.wr {M M' : mH} {c i r : Nat} {v : Value} (h : IsRow r M) (u : Wr M c i v M') (hv' : c < 111 ∨ ∃ x : Int64, v = .long x) : IsRow r M' := by
  obtain ⟨h1, h2, h3, h4, h5⟩ := h
  refine ⟨h1, by rw [u.n1]; exact h2, by rw [u.k]; exact h3, by rw [u.z]; exact h4, fun j hj => ?_⟩
  by_cases e : r = c ∧ j = i
  · obtain ⟨rfl, rfl⟩ := e
    rcases hv' with q | ⟨x, rfl⟩
    · omega
    · exact ⟨x, u.eq⟩
  · rw [u.ne (by omega)]; exact h5 j hj
theorem RW.wr {base Lc : Nat} {n : Int} {M M' : mH} {c i : Nat} {v : Value} (h : RW base Lc n M) (u : Wr M c i v M') (hc : c < 111 ∧ c ≠ Lc) : RW base Lc n M' := by
  intro p h1 h2
  obtain ⟨r, h3, h4⟩ := h p h1 h2
  exact ⟨r, by rw [u.ne (Or.inl (fun e => hc.2 e.symm))]; exact h3, h4.wr u (Or.inl hc.1)⟩
theorem RW.row {base Lc : Nat} {n : Int} {M M' : mH} {r i : Nat} {x : Int64} (h : RW base Lc n M) (u : Wr M r i (.long x) M') (hr : IsRow r M) (hL : Lc < 111) : RW base Lc n M' := by
  intro p h1 h2
  obtain ⟨q, h3, h4⟩ := h p h1 h2
  exact ⟨q, by rw [u.ne (Or.inl (by have := hr.1; omega))]; exact h3, h4.wr u (Or.inr ⟨x, rfl⟩)⟩
noncomputable def s_al (L : List (Nat × Nat)) (f : Nat → Bool) : Bool := L.all fun q => f q.1
theorem s_al_ok {L : List (Nat × Nat)} {f : Nat → Bool} (h : s_al L f = true) {c i : Nat} (hc : f c = false) : s_md L c i = false := by
  unfold s_al at h
  rw [List.all_eq_true] at h
  unfold s_md
  rw [List.any_eq_false]
  intro q hq hh
  simp only [Bool.and_eq_true, beq_iff_eq] at hh
  have := h q hq
  rw [hh.1, hc] at this
  cases this
theorem RW.fq {base Lc : Nat} {n : Int} {L : List (Nat × Nat)} {M M' : mH} (h : RW base Lc n M) (f : Fq L M M') (hc : (s_al L (fun c => c != Lc) && decide (Lc < 111)) = true) : RW base Lc n M' := by
  rw [Bool.and_eq_true, decide_eq_true_eq] at hc
  intro p h1 h2
  obtain ⟨r, h3, h4⟩ := h p h1 h2
  exact ⟨r, by rw [(f.2.2.1 Lc).2.2 _ (s_al_ok hc.1 (by simp)) (Or.inl hc.2)]; exact h3, f.2.2.2 r h4⟩
theorem TR.fq {a : Nat} {n : Int} {L : List (Nat × Nat)} {M M' : mH} (h : TR a n M) (f : Fq L M M') (hc : (s_al L (fun c => c != a && c != a + 1) && decide (a + 1 < 111)) = true) : TR a n M' := by
  rw [Bool.and_eq_true, decide_eq_true_eq] at hc
  have e1 : ∀ i : Int, gi M' a i = gi M a i := fun i => by
    unfold gi; rw [(f.2.2.1 a).2.2 _ (s_al_ok hc.1 (by simp)) (Or.inl (by omega))]
  have e2 : ∀ i : Int, gi M' (a + 1) i = gi M (a + 1) i := fun i => by
    unfold gi; rw [(f.2.2.1 (a + 1)).2.2 _ (s_al_ok hc.1 (by simp)) (Or.inl (by omega))]
  intro p h1 h2
  rw [e1, e2]
  exact h p h1 h2
theorem Fq.rf {L : List (Nat × Nat)} {M : mH} : Fq L M M := ⟨rfl, rfl, fun _ => ⟨rfl, rfl, fun _ _ _ => rfl⟩, fun _ h => h⟩
theorem Fq.tr {L : List (Nat × Nat)} {M0 M1 M2 : mH} (h : Fq L M0 M1) (k : Fq L M1 M2) : Fq L M0 M2 :=
  ⟨k.1.trans h.1, k.2.1.trans h.2.1, fun c => ⟨(k.2.2.1 c).1.trans (h.2.2.1 c).1, (k.2.2.1 c).2.1.trans (h.2.2.1 c).2.1, fun i hi hc => ((k.2.2.1 c).2.2 i hi (by rw [(h.2.2.1 c).1]; exact hc)).trans ((h.2.2.1 c).2.2 i hi hc)⟩, fun r hr => k.2.2.2 r (h.2.2.2 r hr)⟩
theorem Fq.up {L L' : List (Nat × Nat)} {M0 M : mH} (h : Fq L M0 M) (k : s_sub L L' = true) : Fq L' M0 M :=
  ⟨h.1, h.2.1, fun c => ⟨(h.2.2.1 c).1, (h.2.2.1 c).2.1, fun i hi hc => (h.2.2.1 c).2.2 i (s_sub_ok k c i hi) hc⟩, h.2.2.2⟩
theorem Fq.wr {L : List (Nat × Nat)} {M0 M M' : mH} (h : Fq L M0 M) {c i : Nat} {v : Value} (k : Wr M c i v M') (hm : (s_md L c i && decide (c < 111)) = true) : Fq L M0 M' := by
  rw [Bool.and_eq_true, decide_eq_true_eq] at hm
  refine ⟨k.n1.trans h.1, k.n2.trans h.2.1, fun c' => ⟨(k.k c').trans (h.2.2.1 c').1, (k.z c').trans (h.2.2.1 c').2.1, fun j hj hc => ?_⟩, fun r hr => (h.2.2.2 r hr).wr k (Or.inl hm.2)⟩
  rw [k.ne]
  · exact (h.2.2.1 c').2.2 j hj hc
  · by_cases e : c' = c
    · subst e
      right
      intro e2
      subst e2
      rw [hm.1] at hj
      cases hj
    · exact Or.inl e
theorem Fq.row {L : List (Nat × Nat)} {M0 M M' : mH} (h : Fq L M0 M) {r i : Nat} {x : Int64} (k : Wr M r i (.long x) M') (hr : IsRow r M) : Fq L M0 M' := by
  refine ⟨k.n1.trans h.1, k.n2.trans h.2.1, fun c' => ⟨(k.k c').trans (h.2.2.1 c').1, (k.z c').trans (h.2.2.1 c').2.1, fun j hj hc => ?_⟩, fun q hq => (h.2.2.2 q hq).wr k (Or.inr ⟨x, rfl⟩)⟩
  rw [k.ne]
  · exact (h.2.2.1 c').2.2 j hj hc
  · left
    intro e
    subst e
    rcases hc with hc | hc
    · have := hr.1; omega
    · exact hc ((h.2.2.1 c').1.symm.trans hr.2.2.1)
theorem Fr.q {L : List (Nat × Nat)} {M0 M : mH} (h : Fr L M0 M) (hc : s_al L (fun c => decide (c < 111)) = true) : Fq L M0 M := by
  refine ⟨h.1, h.2.1, fun c => ⟨(h.2.2 c).1, (h.2.2 c).2.1, fun i hi _ => (h.2.2 c).2.2 i hi⟩, fun r hr => ?_⟩
  obtain ⟨h1, h2, h3, h4, h5⟩ := hr
  refine ⟨h1, by rw [h.1]; exact h2, (h.2.2 r).1.trans h3, (h.2.2 r).2.1.trans h4, fun i hi => ?_⟩
  rw [(h.2.2 r).2.2 i (s_al_ok hc (by simp; omega))]
  exact h5 i hi
theorem Fq.g {L : List (Nat × Nat)} {M0 M : mH} (h : Fq L M0 M) {c : Nat} {i : Int} (k : (!s_md L c i.toNat && decide (c < 111)) = true) : gi M c i = gi M0 c i := by
  rw [Bool.and_eq_true, decide_eq_true_eq] at k
  unfold gi
  rw [(h.2.2.1 c).2.2 _ (by simpa using k.1) (Or.inl k.2)]
theorem HI.dyn {base : Nat} {M M' : mH} (H : HI base M) {r i : Nat} {v : Value} (u : Wr M r i v M') (hr : 111 ≤ r) : HI base M' := by
  have hl : shL.length = 111 := rfl
  refine ⟨H.1.wr u (fun q hq => ?_), fun c j lo hi h => ?_⟩
  · have := (List.getElem?_eq_some_iff.mp hq).1
    omega
  · have e : gi M' c j = gi M c j := by
      unfold gi
      split
      · rw [u.ne]
        left
        intro e
        subst e
        have : rg c j = none := by
          unfold rg
          split <;> first | rfl | omega
        rw [this] at h
        cases h
      · rfl
    rw [e]
    exact H.2 c j lo hi h
section
variable {base : Nat} {X : Nat → Option mC} {G : Nat → Value} {d : Nat} {t : mT} {pc pc' : Nat} {lv : sL} {st : List mV} {M : mH} {Q : Option Value → mH → Prop}
theorem r_aald {c k n : Nat} {e : Int} {v : mV} (hd : decode t.2.2.1 pc = .ok (.aaload, 1)) (hn : pc + 1 = pc') (hc : shL[c]? = some (k, n, [0])) (hk2 : 1005 ≤ k) (H : Sh base M) (he : 0 ≤ e ∧ e < (n : Int) ∧ e ≤ 2147483647) (hvv : hv M c e.toNat = em base v) (h : sRn base X G d t pc' lv (v :: st) M Q) : sRn base X G d t pc lv (vI e :: vR c :: st) M Q := by
  obtain ⟨g1, g2, -⟩ := H.2 c _ hc
  refine r_ld (w := vR c) (x := M.2.2 c) (v := v) hd hn rfl rfl (m_at_own (H.lt hc)) ?_ ⟨he.1, ?_, he.2.2⟩ hvv h
  · show decide (1005 ≤ hk M c) = true
    rw [g1]; exact decide_eq_true hk2
  · show e < (hz M c : Int)
    rw [g2]; exact he.2.1
theorem r_laldD {r : Nat} {e : Int} (hd : decode t.2.2.1 pc = .ok (.laload, 1)) (hn : pc + 1 = pc') (hr : IsRow r M) (he : 0 ≤ e ∧ e < 1111) (h : ∀ w, sRn base X G d t pc' lv (vL w :: st) M Q) : sRn base X G d t pc lv (vI e :: vR r :: st) M Q := by
  obtain ⟨h1, h2, h3, h4, h5⟩ := hr
  obtain ⟨x, hx⟩ := h5 e.toNat (by omega)
  refine r_ld (w := vR r) (x := M.2.2 r) (v := vL x.toInt) hd hn rfl rfl (m_at_own h2) ?_ ⟨he.1, ?_, by omega⟩ ?_ (h _)
  · show (hk M r == 1001) = true
    rw [h3]; rfl
  · show e < (hz M r : Int)
    rw [h4]; exact he.2
  · show hv M r e.toNat = em base (vL x.toInt)
    rw [hx]; show Value.long x = Value.long (Int64.ofInt x.toInt); rw [Int64.ofInt_toInt]
theorem r_lastD {r : Nat} {e w : Int} (hd : decode t.2.2.1 pc = .ok (.lastore, 1)) (hn : pc + 1 = pc') (H : HI base M) (hr : IsRow r M) (he : 0 ≤ e ∧ e < 1111) (h : ∀ M', Wr M r e.toNat (.long (Int64.ofInt w)) M' → HI base M' → sRn base X G d t pc' lv st M' Q) : sRn base X G d t pc lv (vL w :: vI e :: vR r :: st) M Q := by
  obtain ⟨h1, h2, h3, h4, h5⟩ := hr
  refine r_sv (v := vL w) (w := .long (Int64.ofInt w)) hd hn rfl h2 ?_ ?_ ⟨he.1, ?_, by omega⟩ (fun M' u => h M' u (H.dyn u h1))
  · rw [h3]; rfl
  · rw [h3]; rfl
  · rw [h4]; exact he.2
end
theorem Wr.gi_row {M M' : mH} {r i : Nat} {v : Value} (u : Wr M r i v M') (hr : IsRow r M) {c : Nat} (hc : c < 111) (j : Int) : gi M' c j = gi M c j := by
  unfold gi
  rw [u.ne (Or.inl (by have := hr.1; omega))]
