/-! The heap by its cells: kind, size, what a slot holds, its number. -/
noncomputable def hk (M : mH) (c : Nat) : Nat := (M.2.2 c).1
noncomputable def hz (M : mH) (c : Nat) : Nat := (M.2.2 c).2.1
noncomputable def hv (M : mH) (c i : Nat) : Value := (M.2.2 c).2.2 i
noncomputable def vi (v : Value) : Int := match v with
  | .int x => x.toInt
  | .long x => x.toInt
  | _ => 0
/-- the number in a slot -/
noncomputable def gi (M : mH) (c : Nat) (i : Int) : Int := if 0 ≤ i then vi (hv M c i.toNat) else 0
/-- M' is M but for slot i of cell c, which holds v -/
noncomputable def Wr (M : mH) (c : Nat) (i : Nat) (v : Value) (M' : mH) : Prop := M' = (M.1, M.2.1, fun j => if j = c then ((M.2.2 c).1, (M.2.2 c).2.1, updV (M.2.2 c).2.2 i v) else M.2.2 j)
section
variable {M M' M0 : mH} {c c' i j : Nat} {v : Value}
theorem Wr.n1 (h : Wr M c i v M') : M'.1 = M.1 := by rw [h]
theorem Wr.n2 (h : Wr M c i v M') : M'.2.1 = M.2.1 := by rw [h]
theorem Wr.k (h : Wr M c i v M') (c' : Nat) : hk M' c' = hk M c' := by
  rw [h]; unfold hk; dsimp only
  split
  · next e => rw [e]
  · rfl
theorem Wr.z (h : Wr M c i v M') (c' : Nat) : hz M' c' = hz M c' := by
  rw [h]; unfold hz; dsimp only
  split
  · next e => rw [e]
  · rfl
theorem Wr.eq (h : Wr M c i v M') : hv M' c i = v := by
  rw [h]; unfold hv; dsimp only
  rw [if_pos rfl]; simp [updV]
theorem Wr.ne (h : Wr M c i v M') (q : c' ≠ c ∨ j ≠ i) : hv M' c' j = hv M c' j := by
  rw [h]; unfold hv; dsimp only
  split
  · next e =>
    subst e
    rcases q with q | q
    · exact absurd rfl q
    · simp [updV, q]
  · rfl
end
/-- what kind of thing a slot holds: 0 a reference, 1 an int, 2 a long, r + 3 the cell r -/
noncomputable def s_ty (base k : Nat) (v : Value) : Prop := match k with
  | 0 => v = .null ∨ ∃ a, v = .ref a
  | 1 => ∃ x : Int32, v = .int x
  | 2 => ∃ x : Int64, v = .long x
  | r + 3 => v = .ref (base + r)
noncomputable abbrev sS : Type := Nat × Nat × List Nat
noncomputable def s_tyOf (q : sS) (i : Nat) : Nat := if q.1 < 1000 then q.2.2.getD i 0 else q.2.2.getD 0 0
/-- the fixed cells stand -/
noncomputable def Sh (base : Nat) (M : mH) : Prop := shL.length ≤ M.1 ∧ ∀ c q, shL[c]? = some q → hk M c = q.1 ∧ hz M c = q.2.1 ∧ ∀ i, i < q.2.1 → s_ty base (s_tyOf q i) (hv M c i)
/-- the numbers in their bounds -/
noncomputable def IT (M : mH) : Prop := ∀ c i lo hi, rg c i = some (lo, hi) → lo ≤ gi M c i ∧ gi M c i ≤ hi
noncomputable def HI (base : Nat) (M : mH) : Prop := Sh base M ∧ IT M
noncomputable def inR (e : Int) : Prop := -2147483648 ≤ e ∧ e ≤ 2147483647
noncomputable def inJ (e : Int) : Prop := -9223372036854775808 ≤ e ∧ e ≤ 9223372036854775807
theorem s_i32 {e : Int} (h : inR e) : (Int32.ofInt e).toInt = e := by
  unfold inR at h
  exact Int32.toInt_ofInt_of_le (by omega) (by omega)
theorem s_i64 {e : Int} (h : inJ e) : (Int64.ofInt e).toInt = e := by
  unfold inJ at h
  exact Int64.toInt_ofInt_of_le (by omega) (by omega)
theorem inR_toInt (x : Int32) : inR x.toInt := by
  have h1 := Int32.toInt_lt x
  have h2 := Int32.le_toInt x
  unfold inR; omega
theorem inJ_toInt (x : Int64) : inJ x.toInt := by
  have h1 := Int64.toInt_lt x
  have h2 := Int64.le_toInt x
  unfold inJ; omega
theorem vi_R (v : Value) (h : ∃ x : Int32, v = .int x) : inR (vi v) := by
  obtain ⟨x, rfl⟩ := h
  exact inR_toInt x
/-- a slot that holds an int -/
theorem Sh.int {base : Nat} {M : mH} (h : Sh base M) {c : Nat} {q : sS} (hc : shL[c]? = some q) {i : Int} (h0 : 0 ≤ i) (h1 : i < (q.2.1 : Int)) (ht : s_tyOf q i.toNat = 1) : hv M c i.toNat = .int (Int32.ofInt (gi M c i)) ∧ inR (gi M c i) := by
  obtain ⟨-, -, h3⟩ := h.2 c q hc
  have := h3 i.toNat (by omega)
  rw [ht] at this
  obtain ⟨x, hx⟩ := this
  have hg : gi M c i = x.toInt := by unfold gi; rw [if_pos h0, hx]; rfl
  rw [hg, hx]
  exact ⟨by rw [Int32.ofInt_toInt], inR_toInt x⟩
theorem Sh.long {base : Nat} {M : mH} (h : Sh base M) {c : Nat} {q : sS} (hc : shL[c]? = some q) {i : Int} (h0 : 0 ≤ i) (h1 : i < (q.2.1 : Int)) (ht : s_tyOf q i.toNat = 2) : hv M c i.toNat = .long (Int64.ofInt (gi M c i)) ∧ inJ (gi M c i) := by
  obtain ⟨-, -, h3⟩ := h.2 c q hc
  have := h3 i.toNat (by omega)
  rw [ht] at this
  obtain ⟨x, hx⟩ := this
  have hg : gi M c i = x.toInt := by unfold gi; rw [if_pos h0, hx]; rfl
  rw [hg, hx]
  exact ⟨by rw [Int64.ofInt_toInt], inJ_toInt x⟩
theorem Sh.lt {base : Nat} {M : mH} (h : Sh base M) {c : Nat} {q : sS} (hc : shL[c]? = some q) : c < M.1 := by
  have := (List.getElem?_eq_some_iff.mp hc).1
  have := h.1
  omega
theorem Sh.own {base : Nat} {M : mH} (h : Sh base M) {c : Nat} {q : sS} (hc : shL[c]? = some q) : ∃ x : mC, m_own base M (base + c) = some x ∧ x = M.2.2 c ∧ x.1 = q.1 ∧ x.2.1 = q.2.1 := by
  refine ⟨M.2.2 c, ?_, rfl, (h.2 c q hc).1, (h.2 c q hc).2.1⟩
  unfold m_own
  rw [if_neg (by omega), if_pos (by have := h.lt hc; omega), Nat.add_sub_cancel_left]
theorem m_at_own {base : Nat} {X : Nat → Option mC} {M : mH} {c : Nat} (h : c < M.1) : m_at base X M (base + c) = some (M.2.2 c) := by
  unfold m_at
  rw [if_neg (by omega), if_pos (by omega), Nat.add_sub_cancel_left]
theorem m_own_own {base : Nat} {M : mH} {c : Nat} (h : c < M.1) : m_own base M (base + c) = some (M.2.2 c) := by
  unfold m_own
  rw [if_neg (by omega), if_pos (by omega), Nat.add_sub_cancel_left]
theorem m_put_own {base : Nat} {M : mH} {c : Nat} {i : Nat} {v : Value} {x : mC} (hx : x = (hk M c, hz M c, updV (M.2.2 c).2.2 i v)) : Wr M c i v (m_put base M (base + c) x) := by
  unfold Wr m_put
  rw [Nat.add_sub_cancel_left, hx]
  rfl
/-- numbers behind a write -/
theorem Wr.gi_eq {M M' : mH} {c : Nat} {i : Int} {v : Value} (h : Wr M c i.toNat v M') (h0 : 0 ≤ i) : gi M' c i = vi v := by
  unfold gi; rw [if_pos h0, h.eq]
theorem Wr.gi_ne {M M' : mH} {c : Nat} {i : Int} {v : Value} (h : Wr M c i.toNat v M') (h0 : 0 ≤ i) {c' : Nat} {j : Int} (q : c' ≠ c ∨ j ≠ i) : gi M' c' j = gi M c' j := by
  unfold gi
  split
  · next hj =>
    rw [h.ne]
    rcases q with q | q
    · exact Or.inl q
    · exact Or.inr (by omega)
  · rfl
theorem vi_int {e : Int} (h : inR e) : vi (.int (Int32.ofInt e)) = e := s_i32 h
theorem vi_long {e : Int} (h : inJ e) : vi (.long (Int64.ofInt e)) = e := s_i64 h
theorem Sh.wr {base : Nat} {M M' : mH} (H : Sh base M) {c i : Nat} {v : Value} (h : Wr M c i v M') (hv' : ∀ q, shL[c]? = some q → s_ty base (s_tyOf q i) v) : Sh base M' := by
  refine ⟨by rw [h.n1]; exact H.1, fun c' q hc => ?_⟩
  obtain ⟨h1, h2, h3⟩ := H.2 c' q hc
  refine ⟨by rw [h.k]; exact h1, by rw [h.z]; exact h2, fun j hj => ?_⟩
  by_cases e : c' = c ∧ j = i
  · obtain ⟨rfl, rfl⟩ := e
    rw [h.eq]
    exact hv' q hc
  · rw [h.ne (by omega)]
    exact h3 j hj
theorem IT.wr {M M' : mH} (H : IT M) {c : Nat} {i : Int} {v : Value} (h : Wr M c i.toNat v M') (h0 : 0 ≤ i) (hb : ∀ lo hi, rg c i = some (lo, hi) → lo ≤ vi v ∧ vi v ≤ hi) : IT M' := by
  intro c' j lo hi hr
  by_cases e : c' = c ∧ j = i
  · obtain ⟨rfl, rfl⟩ := e
    rw [h.gi_eq h0]
    exact hb lo hi hr
  · rw [h.gi_ne h0 (by omega)]
    exact H c' j lo hi hr
theorem HI.wrI {base : Nat} {M M' : mH} (H : HI base M) {c : Nat} {i : Int} {e : Int} {q : sS} (hc : shL[c]? = some q) (ht : s_tyOf q i.toNat = 1) (h : Wr M c i.toNat (.int (Int32.ofInt e)) M') (h0 : 0 ≤ i) (he : inR e) (hb : ∀ lo hi, rg c i = some (lo, hi) → lo ≤ e ∧ e ≤ hi) : HI base M' := by
  refine ⟨H.1.wr h (fun q' hq' => ?_), H.2.wr h h0 (by rw [vi_int he]; exact hb)⟩
  cases hc.symm.trans hq'
  rw [ht]
  exact ⟨_, rfl⟩
theorem HI.wrJ {base : Nat} {M M' : mH} (H : HI base M) {c : Nat} {i : Int} {e : Int} {q : sS} (hc : shL[c]? = some q) (ht : s_tyOf q i.toNat = 2) (h : Wr M c i.toNat (.long (Int64.ofInt e)) M') (h0 : 0 ≤ i) (he : inJ e) (hb : ∀ lo hi, rg c i = some (lo, hi) → lo ≤ e ∧ e ≤ hi) : HI base M' := by
  refine ⟨H.1.wr h (fun q' hq' => ?_), H.2.wr h h0 (by rw [vi_long he]; exact hb)⟩
  cases hc.symm.trans hq'
  rw [ht]
  exact ⟨_, rfl⟩
/-! Frames: which slots may have changed: (c, 0) all of cell c, (c, k + 1) its slot k. -/
noncomputable def s_md (L : List (Nat × Nat)) (c i : Nat) : Bool := L.any fun q => q.1 == c && (q.2 == 0 || q.2 == i + 1)
noncomputable def Fr (L : List (Nat × Nat)) (M0 M : mH) : Prop := M.1 = M0.1 ∧ M.2.1 = M0.2.1 ∧ ∀ c, hk M c = hk M0 c ∧ hz M c = hz M0 c ∧ ∀ i, s_md L c i = false → hv M c i = hv M0 c i
theorem Fr.rf {L : List (Nat × Nat)} {M : mH} : Fr L M M := ⟨rfl, rfl, fun _ => ⟨rfl, rfl, fun _ _ => rfl⟩⟩
theorem Fr.tr {L : List (Nat × Nat)} {M0 M1 M2 : mH} (h : Fr L M0 M1) (k : Fr L M1 M2) : Fr L M0 M2 :=
  ⟨k.1.trans h.1, k.2.1.trans h.2.1, fun c => ⟨(k.2.2 c).1.trans (h.2.2 c).1, (k.2.2 c).2.1.trans (h.2.2 c).2.1, fun i hi => ((k.2.2 c).2.2 i hi).trans ((h.2.2 c).2.2 i hi)⟩⟩
theorem Fr.mono {L L' : List (Nat × Nat)} {M0 M : mH} (h : Fr L M0 M) (k : ∀ c i, s_md L' c i = false → s_md L c i = false) : Fr L' M0 M :=
  ⟨h.1, h.2.1, fun c => ⟨(h.2.2 c).1, (h.2.2 c).2.1, fun i hi => (h.2.2 c).2.2 i (k c i hi)⟩⟩
/-- each of the rows of L is among those of L' -/
noncomputable def s_sub (L L' : List (Nat × Nat)) : Bool := L.all fun q => L'.any fun z => z.1 == q.1 && (z.2 == 0 || z.2 == q.2)
theorem s_sub_ok {L L' : List (Nat × Nat)} (h : s_sub L L' = true) : ∀ c i, s_md L' c i = false → s_md L c i = false := by
  intro c i hi
  unfold s_sub at h
  rw [List.all_eq_true] at h
  unfold s_md at hi ⊢
  rw [List.any_eq_false] at hi ⊢
  intro q hq hh
  have := h q hq
  rw [List.any_eq_true] at this
  obtain ⟨z, hz, hz2⟩ := this
  refine hi z hz ?_
  simp only [Bool.and_eq_true, Bool.or_eq_true, beq_iff_eq] at hh hz2 ⊢
  refine ⟨hz2.1.trans hh.1, ?_⟩
  rcases hz2.2 with e | e
  · exact Or.inl e
  · rcases hh.2 with e2 | e2
    · exact Or.inl (e.trans e2)
    · exact Or.inr (e.trans e2)
theorem Fr.up {L L' : List (Nat × Nat)} {M0 M : mH} (h : Fr L M0 M) (k : s_sub L L' = true) : Fr L' M0 M := h.mono (s_sub_ok k)
theorem Fr.wr {L : List (Nat × Nat)} {M0 M M' : mH} (h : Fr L M0 M) {c i : Nat} {v : Value} (k : Wr M c i v M') (hm : s_md L c i = true) : Fr L M0 M' := by
  refine ⟨k.n1.trans h.1, k.n2.trans h.2.1, fun c' => ⟨(k.k c').trans (h.2.2 c').1, (k.z c').trans (h.2.2 c').2.1, fun j hj => ?_⟩⟩
  rw [k.ne]
  · exact (h.2.2 c').2.2 j hj
  · by_cases e : c' = c
    · subst e
      right
      intro e2
      subst e2
      rw [hm] at hj
      cases hj
    · exact Or.inl e
theorem Fr.g {L : List (Nat × Nat)} {M0 M : mH} (h : Fr L M0 M) {c : Nat} {i : Int} (k : s_md L c i.toNat = false) : gi M c i = gi M0 c i := by
  unfold gi
  rw [(h.2.2 c).2.2 _ k]
theorem Fr.sh {L : List (Nat × Nat)} {base : Nat} {M0 M : mH} (h : Fr L M0 M) (H : Sh base M0) (k : ∀ c q i, shL[c]? = some q → i < q.2.1 → s_md L c i = true → s_ty base (s_tyOf q i) (hv M c i)) : Sh base M := by
  refine ⟨by rw [h.1]; exact H.1, fun c q hc => ?_⟩
  obtain ⟨h1, h2, h3⟩ := H.2 c q hc
  refine ⟨(h.2.2 c).1.trans h1, (h.2.2 c).2.1.trans h2, fun i hi => ?_⟩
  cases hm : s_md L c i
  · rw [(h.2.2 c).2.2 i hm]; exact h3 i hi
  · exact k c q i hc hi hm
