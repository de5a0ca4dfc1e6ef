/-! Both constructors are through: the fixed cells stand. -/
theorem Ps.gi1 {base : Nat} {sh : List dC} {M0 M : mH} (P : Ps base sh M0 M) {c k : Nat} (q : dC) (hq : sh[c]? = some q) (h0 : M0.1 = 0) (hk : k < q.2.1) {a b : Int} (hc : kc q k = (1, a, b)) : a ≤ gi M c (k : Int) ∧ gi M c (k : Int) ≤ b := by
  obtain ⟨-, -, h⟩ := P.2.2.2 c q hq
  have := (h k).1 hk
  rw [hc, h0] at this
  obtain ⟨x, e, p, r⟩ := this
  rw [Nat.zero_add] at e
  have hg : gi M c (k : Int) = x.toInt := by
    unfold gi
    rw [if_pos (by omega), show ((k : Int)).toNat = k by omega, e]
    rfl
  rw [hg]
  exact ⟨p, r⟩
/-- an array of ints with one code -/
theorem Ps.giX {base : Nat} {sh : List dC} {M0 M : mH} (P : Ps base sh M0 M) {c : Nat} {q : dC} (hq : sh[c]? = some q) (h0 : M0.1 = 0) {F : Nat → Int} (hk : ∀ k, k < q.2.1 → kc q k = (1, F k, F k)) (i : Int) : (0 ≤ i ∧ i < (q.2.1 : Int) ∧ gi M c i = F i.toNat) ∨ ((i < 0 ∨ (q.2.1 : Int) ≤ i) ∧ gi M c i = 0) := by
  by_cases hi : 0 ≤ i
  · by_cases hn : i.toNat < q.2.1
    · have := P.gi1 q hq h0 hn (hk _ hn)
      rw [show ((i.toNat : Nat) : Int) = i by omega] at this
      exact Or.inl ⟨hi, by omega, by omega⟩
    · obtain ⟨-, -, z⟩ := P.2.2.2 c q hq
      rw [h0, Nat.zero_add] at z
      have := (z i.toNat).2 (by omega)
      refine Or.inr ⟨Or.inr (by omega), ?_⟩
      unfold gi
      rw [if_pos hi, this]
  · refine Or.inr ⟨Or.inl (by omega), ?_⟩
    unfold gi
    rw [if_neg hi]
theorem Ps.giA {base : Nat} {sh : List dC} {M0 M : mH} (P : Ps base sh M0 M) {c : Nat} (q : dC) (hq : sh[c]? = some q) (h0 : M0.1 = 0) {a b : Int} (hc : ∀ k, k < q.2.1 → kc q k = (1, a, b)) (ha : a ≤ 0 ∧ 0 ≤ b) (i : Int) : a ≤ gi M c i ∧ gi M c i ≤ b := by
  by_cases hi : 0 ≤ i
  · by_cases hn : i.toNat < q.2.1
    · have := P.gi1 q hq h0 hn (hc _ hn)
      rw [show ((i.toNat : Nat) : Int) = i by omega] at this
      exact this
    · obtain ⟨-, -, h⟩ := P.2.2.2 c q hq
      have := (h i.toNat).2 (by omega)
      rw [h0, Nat.zero_add] at this
      unfold gi
      rw [if_pos hi, this]
      exact ha
  · unfold gi
    rw [if_neg hi]
    exact ha
theorem rgK0 {i lo hi : Int} (h : rgK i = some (lo, hi)) : lo ≤ 0 ∧ 0 ≤ hi := by
  unfold rgK at h
  by_cases c0 : i < 0
  · rw [if_pos c0] at h; cases h
  rw [if_neg c0] at h
  by_cases c30 : i < 30
  · rw [if_pos c30] at h; cases h; decide
  rw [if_neg c30] at h
  by_cases c60 : i < 60
  · rw [if_pos c60] at h; cases h; decide
  rw [if_neg c60] at h
  by_cases c90 : i < 90
  · rw [if_pos c90] at h; cases h; decide
  rw [if_neg c90] at h
  by_cases c99 : i < 99
  · rw [if_pos c99] at h; cases h; decide
  rw [if_neg c99] at h
  by_cases c135 : i < 135
  · rw [if_pos c135] at h; cases h; decide
  rw [if_neg c135] at h
  by_cases c391 : i < 391
  · rw [if_pos c391] at h
    by_cases s1 : (i - 135) % 16 < 1
    · rw [if_pos s1] at h; cases h; decide
    rw [if_neg s1] at h
    by_cases s9 : (i - 135) % 16 < 9
    · rw [if_pos s9] at h; cases h; decide
    rw [if_neg s9] at h
    by_cases s12 : (i - 135) % 16 < 12
    · rw [if_pos s12] at h; cases h; decide
    rw [if_neg s12] at h
    cases h; decide
  rw [if_neg c391] at h
  by_cases c409 : i < 409
  · rw [if_pos c409] at h; cases h; decide
  rw [if_neg c409] at h
  by_cases c469 : i < 469
  · rw [if_pos c469] at h; cases h; decide
  rw [if_neg c469] at h
  by_cases c470 : i < 470
  · rw [if_pos c470] at h; cases h; decide
  rw [if_neg c470] at h
  by_cases c471 : i < 471
  · rw [if_pos c471] at h; cases h; decide
  rw [if_neg c471] at h
  by_cases c472 : i < 472
  · rw [if_pos c472] at h; cases h; decide
  rw [if_neg c472] at h
  by_cases c473 : i < 473
  · rw [if_pos c473] at h; cases h; decide
  rw [if_neg c473] at h
  by_cases c474 : i < 474
  · rw [if_pos c474] at h; cases h; decide
  rw [if_neg c474] at h
  by_cases c475 : i < 475
  · rw [if_pos c475] at h; cases h; decide
  rw [if_neg c475] at h
  by_cases c483 : i < 483
  · rw [if_pos c483] at h; cases h; decide
  rw [if_neg c483] at h
  cases h
noncomputable def okK (ty : Nat) (k : dK) : Bool := match ty with
  | 0 => k.1 == 4
  | 1 => k.1 == 1
  | 2 => k.1 == 2
  | r + 3 => k.1 == 3 && k.2.1 == (r : Int)
theorem okK_ok {base ty : Nat} {k : dK} {v : Value} (h : okK ty k = true) (t : tK base 0 k v) : s_ty base ty v := by
  obtain ⟨k1, k2, k3⟩ := k
  unfold okK at h
  split at h
  · simp only [beq_iff_eq] at h; subst h; exact Or.inl t
  · simp only [beq_iff_eq] at h; subst h; obtain ⟨x, e, -⟩ := t; exact ⟨x, e⟩
  · simp only [beq_iff_eq] at h; subst h; exact t
  · next r =>
    simp only [Bool.and_eq_true, beq_iff_eq] at h
    obtain ⟨e1, e2⟩ := h
    subst e1
    subst e2
    have t2 : v = .ref (base + (((0 : Nat) : Int) + (r : Int)).toNat) := t
    show v = .ref (base + r)
    rw [t2]
    congr 2
    omega
/-- one descriptor against the shape -/
noncomputable def okD (q : sS) (z : dC) : Bool := q.1 == z.1 && q.2.1 == z.2.1 && (if z.2.2.length = 1 then decide (1000 ≤ q.1) && okK (q.2.2.getD 0 0) (z.2.2.getD 0 (4, 0, 0)) else (List.range q.2.1).all fun i => okK (s_tyOf q i) (z.2.2.getD i (4, 0, 0)))
theorem okD_ok {q : sS} {z : dC} (h : okD q z = true) : q.1 = z.1 ∧ q.2.1 = z.2.1 ∧ ∀ i, i < q.2.1 → okK (s_tyOf q i) (kc z i) = true := by
  unfold okD at h
  rw [Bool.and_eq_true, Bool.and_eq_true, beq_iff_eq, beq_iff_eq] at h
  obtain ⟨⟨h1, h2⟩, h3⟩ := h
  refine ⟨h1, h2, fun i hi => ?_⟩
  unfold kc
  split at h3
  · next e =>
    rw [if_pos e]
    rw [Bool.and_eq_true, decide_eq_true_eq] at h3
    unfold s_tyOf
    rw [if_neg (by omega)]
    exact h3.2
  · next e =>
    rw [if_neg e]
    exact List.all_eq_true.mp h3 i (List.mem_range.mpr hi)
theorem Sh.ofPs {base : Nat} {sh : List dC} {M0 M : mH} (P : Ps base sh M0 M) (h0 : M0.1 = 0) (hl : sh.length = 111) (hok : ((List.range 111).all fun c => match shL[c]?, sh[c]? with
    | some q, some z => okD q z
    | _, _ => false) = true) : Sh base M := by
  have hl2 : shL.length = 111 := rfl
  refine ⟨by rw [P.1, h0, hl, hl2]; exact Nat.le_refl _, fun c q hq => ?_⟩
  have hc : c < 111 := (List.getElem?_eq_some_iff.mp hq).1
  have := List.all_eq_true.mp hok c (List.mem_range.mpr hc)
  rw [hq] at this
  cases hz : sh[c]? with
  | none => rw [hz] at this; cases this
  | some z =>
    rw [hz] at this
    obtain ⟨a, b, d⟩ := P.2.2.2 c z hz
    rw [h0, Nat.zero_add] at a b d
    obtain ⟨e1, e2, e3⟩ := okD_ok this
    exact ⟨by rw [a, e1], by rw [b, e2], fun i hi => okK_ok (e3 i hi) ((d i).1 (by rw [← e2]; exact hi))⟩

set_option maxRecDepth 4000 in
noncomputable def shA : List dC := sc95_33 ++ (sc150_71).map (shf 77)
set_option maxRecDepth 4000 in
theorem ic_0 {base : Nat} {M0 M : mH} (P : Ps base shA M0 M) (h0 : M0.1 = 0) (i lo hi : Int) (h : rg 0 i = some (lo, hi)) : lo ≤ gi M 0 i ∧ gi M 0 i ≤ hi := by
  have hh : (if i = 3 then some (0, 400) else if i = 9 then some (0, 1) else none) = some (lo, hi) := h
  by_cases e3 : i = 3
  · rw [if_pos e3] at hh; cases hh; subst e3; have := P.gi1 (c := 0) (k := 3) (9, 18, [(3, 1, 0), (3, 12, 0), (3, 13, 0), (1, 0, 0), (1, (-1), (-1)), (1, 0, 0), (3, 14, 0), (3, 20, 0), (3, 36, 0), (1, 1, 1), (3, 39, 0), (3, 55, 0), (3, 58, 0), (3, 62, 0), (3, 66, 0), (3, 69, 0), (3, 73, 0), (3, 76, 0)]) rfl h0 (by decide) (a := 0) (b := 0) rfl; exact ⟨Int.le_trans (by decide) this.1, Int.le_trans this.2 (by decide)⟩
  rw [if_neg e3] at hh
  by_cases e9 : i = 9
  · rw [if_pos e9] at hh; cases hh; subst e9; have := P.gi1 (c := 0) (k := 9) (9, 18, [(3, 1, 0), (3, 12, 0), (3, 13, 0), (1, 0, 0), (1, (-1), (-1)), (1, 0, 0), (3, 14, 0), (3, 20, 0), (3, 36, 0), (1, 1, 1), (3, 39, 0), (3, 55, 0), (3, 58, 0), (3, 62, 0), (3, 66, 0), (3, 69, 0), (3, 73, 0), (3, 76, 0)]) rfl h0 (by decide) (a := 1) (b := 1) rfl; exact ⟨Int.le_trans (by decide) this.1, Int.le_trans this.2 (by decide)⟩
  rw [if_neg e9] at hh
  cases hh
set_option maxRecDepth 4000 in
theorem ic_1 {base : Nat} {M0 M : mH} (P : Ps base shA M0 M) (h0 : M0.1 = 0) (i lo hi : Int) (h : rg 1 i = some (lo, hi)) : lo ≤ gi M 1 i ∧ gi M 1 i ≤ hi := by
  have hh : (if i = 2 then some (0, 5) else if i = 4 then some (0, 12) else if i = 5 then some (0, 3) else if i = 10 then some (0, 16) else if i = 12 then some (0, 8) else if i = 14 then some (0, 6) else none) = some (lo, hi) := h
  by_cases e2 : i = 2
  · rw [if_pos e2] at hh; cases hh; subst e2; have := P.gi1 (c := 1) (k := 2) (7, 16, [(3, 2, 0), (3, 3, 0), (1, 0, 0), (3, 4, 0), (1, 0, 0), (1, 0, 0), (3, 5, 0), (3, 6, 0), (3, 7, 0), (3, 8, 0), (1, 0, 0), (3, 9, 0), (1, 0, 0), (3, 10, 0), (1, 0, 0), (3, 11, 0)]) rfl h0 (by decide) (a := 0) (b := 0) rfl; exact ⟨Int.le_trans (by decide) this.1, Int.le_trans this.2 (by decide)⟩
  rw [if_neg e2] at hh
  by_cases e4 : i = 4
  · rw [if_pos e4] at hh; cases hh; subst e4; have := P.gi1 (c := 1) (k := 4) (7, 16, [(3, 2, 0), (3, 3, 0), (1, 0, 0), (3, 4, 0), (1, 0, 0), (1, 0, 0), (3, 5, 0), (3, 6, 0), (3, 7, 0), (3, 8, 0), (1, 0, 0), (3, 9, 0), (1, 0, 0), (3, 10, 0), (1, 0, 0), (3, 11, 0)]) rfl h0 (by decide) (a := 0) (b := 0) rfl; exact ⟨Int.le_trans (by decide) this.1, Int.le_trans this.2 (by decide)⟩
  rw [if_neg e4] at hh
  by_cases e5 : i = 5
  · rw [if_pos e5] at hh; cases hh; subst e5; have := P.gi1 (c := 1) (k := 5) (7, 16, [(3, 2, 0), (3, 3, 0), (1, 0, 0), (3, 4, 0), (1, 0, 0), (1, 0, 0), (3, 5, 0), (3, 6, 0), (3, 7, 0), (3, 8, 0), (1, 0, 0), (3, 9, 0), (1, 0, 0), (3, 10, 0), (1, 0, 0), (3, 11, 0)]) rfl h0 (by decide) (a := 0) (b := 0) rfl; exact ⟨Int.le_trans (by decide) this.1, Int.le_trans this.2 (by decide)⟩
  rw [if_neg e5] at hh
  by_cases e10 : i = 10
  · rw [if_pos e10] at hh; cases hh; subst e10; have := P.gi1 (c := 1) (k := 10) (7, 16, [(3, 2, 0), (3, 3, 0), (1, 0, 0), (3, 4, 0), (1, 0, 0), (1, 0, 0), (3, 5, 0), (3, 6, 0), (3, 7, 0), (3, 8, 0), (1, 0, 0), (3, 9, 0), (1, 0, 0), (3, 10, 0), (1, 0, 0), (3, 11, 0)]) rfl h0 (by decide) (a := 0) (b := 0) rfl; exact ⟨Int.le_trans (by decide) this.1, Int.le_trans this.2 (by decide)⟩
  rw [if_neg e10] at hh
  by_cases e12 : i = 12
  · rw [if_pos e12] at hh; cases hh; subst e12; have := P.gi1 (c := 1) (k := 12) (7, 16, [(3, 2, 0), (3, 3, 0), (1, 0, 0), (3, 4, 0), (1, 0, 0), (1, 0, 0), (3, 5, 0), (3, 6, 0), (3, 7, 0), (3, 8, 0), (1, 0, 0), (3, 9, 0), (1, 0, 0), (3, 10, 0), (1, 0, 0), (3, 11, 0)]) rfl h0 (by decide) (a := 0) (b := 0) rfl; exact ⟨Int.le_trans (by decide) this.1, Int.le_trans this.2 (by decide)⟩
  rw [if_neg e12] at hh
  by_cases e14 : i = 14
  · rw [if_pos e14] at hh; cases hh; subst e14; have := P.gi1 (c := 1) (k := 14) (7, 16, [(3, 2, 0), (3, 3, 0), (1, 0, 0), (3, 4, 0), (1, 0, 0), (1, 0, 0), (3, 5, 0), (3, 6, 0), (3, 7, 0), (3, 8, 0), (1, 0, 0), (3, 9, 0), (1, 0, 0), (3, 10, 0), (1, 0, 0), (3, 11, 0)]) rfl h0 (by decide) (a := 0) (b := 0) rfl; exact ⟨Int.le_trans (by decide) this.1, Int.le_trans this.2 (by decide)⟩
  rw [if_neg e14] at hh
  cases hh
set_option maxRecDepth 4000 in
theorem ic_2 {base : Nat} {M0 M : mH} (P : Ps base shA M0 M) (h0 : M0.1 = 0) (i lo hi : Int) (h : rg 2 i = some (lo, hi)) : lo ≤ gi M 2 i ∧ gi M 2 i ≤ hi := by
  have hh : some (0, 60) = some (lo, hi) := h
  cases hh
  have z : (0 ≤ i ∧ i < (90 : Int) ∧ gi M 2 i = wF i.toNat) ∨ ((i < 0 ∨ (90 : Int) ≤ i) ∧ gi M 2 i = 0) := P.giX (c := 2) (q := (1000, 90, wC)) rfl h0 (F := wF) kcW i
  have y := wF_b i.toNat
  omega
set_option maxRecDepth 4000 in
theorem ic_3 {base : Nat} {M0 M : mH} (P : Ps base shA M0 M) (h0 : M0.1 = 0) (i lo hi : Int) (h : rg 3 i = some (lo, hi)) : lo ≤ gi M 3 i ∧ gi M 3 i ≤ hi := by
  have hh : some (0, 1000) = some (lo, hi) := h
  cases hh
  have z : (0 ≤ i ∧ i < (9 : Int) ∧ gi M 3 i = tF i.toNat) ∨ ((i < 0 ∨ (9 : Int) ≤ i) ∧ gi M 3 i = 0) := P.giX (c := 3) (q := (1000, 9, tC)) rfl h0 (F := tF) kcT i
  have y := tF_b i.toNat
  omega
set_option maxRecDepth 4000 in
theorem ic_4 {base : Nat} {M0 M : mH} (P : Ps base shA M0 M) (h0 : M0.1 = 0) (i lo hi : Int) (h : rg 4 i = some (lo, hi)) : lo ≤ gi M 4 i ∧ gi M 4 i ≤ hi := by
  have z := P.giA (c := 4) (1000, 36, [(1, 0, 0)]) rfl h0 (a := 0) (b := 0) (fun k _ => rfl) (by decide) i
  have hh : some (0, 255) = some (lo, hi) := h
  cases hh
  omega
set_option maxRecDepth 4000 in
theorem ic_5 {base : Nat} {M0 M : mH} (P : Ps base shA M0 M) (h0 : M0.1 = 0) (i lo hi : Int) (h : rg 5 i = some (lo, hi)) : lo ≤ gi M 5 i ∧ gi M 5 i ≤ hi := by
  have z := P.giA (c := 5) (1000, 128, [(1, 0, 0)]) rfl h0 (a := 0) (b := 0) (fun k _ => rfl) (by decide) i
  have hh : some (0, 29) = some (lo, hi) := h
  cases hh
  omega
set_option maxRecDepth 4000 in
theorem ic_6 {base : Nat} {M0 M : mH} (P : Ps base shA M0 M) (h0 : M0.1 = 0) (i lo hi : Int) (h : rg 6 i = some (lo, hi)) : lo ≤ gi M 6 i ∧ gi M 6 i ≤ hi := by
  have z := P.giA (c := 6) (1000, 16, [(1, 0, 0)]) rfl h0 (a := 0) (b := 0) (fun k _ => rfl) (by decide) i
  have hh : some (0, 8) = some (lo, hi) := h
  cases hh
  omega
set_option maxRecDepth 4000 in
theorem ic_7 {base : Nat} {M0 M : mH} (P : Ps base shA M0 M) (h0 : M0.1 = 0) (i lo hi : Int) (h : rg 7 i = some (lo, hi)) : lo ≤ gi M 7 i ∧ gi M 7 i ≤ hi := by
  have z := P.giA (c := 7) (1000, 48, [(1, 0, 0)]) rfl h0 (a := 0) (b := 0) (fun k _ => rfl) (by decide) i
  have hh : some (0, 7) = some (lo, hi) := h
  cases hh
  omega
set_option maxRecDepth 4000 in
theorem ic_8 {base : Nat} {M0 M : mH} (P : Ps base shA M0 M) (h0 : M0.1 = 0) (i lo hi : Int) (h : rg 8 i = some (lo, hi)) : lo ≤ gi M 8 i ∧ gi M 8 i ≤ hi := by
  have z := P.giA (c := 8) (1000, 64, [(1, 0, 0)]) rfl h0 (a := 0) (b := 0) (fun k _ => rfl) (by decide) i
  have hh : some (0, 100) = some (lo, hi) := h
  cases hh
  omega
set_option maxRecDepth 4000 in
theorem ic_9 {base : Nat} {M0 M : mH} (P : Ps base shA M0 M) (h0 : M0.1 = 0) (i lo hi : Int) (h : rg 9 i = some (lo, hi)) : lo ≤ gi M 9 i ∧ gi M 9 i ≤ hi := by
  cases h
set_option maxRecDepth 4000 in
theorem ic_10 {base : Nat} {M0 M : mH} (P : Ps base shA M0 M) (h0 : M0.1 = 0) (i lo hi : Int) (h : rg 10 i = some (lo, hi)) : lo ≤ gi M 10 i ∧ gi M 10 i ≤ hi := by
  have z := P.giA (c := 10) (1000, 18, [(1, 0, 0)]) rfl h0 (a := 0) (b := 0) (fun k _ => rfl) (by decide) i
  have hh : some (0, 300) = some (lo, hi) := h
  cases hh
  omega
set_option maxRecDepth 4000 in
theorem ic_11 {base : Nat} {M0 M : mH} (P : Ps base shA M0 M) (h0 : M0.1 = 0) (i lo hi : Int) (h : rg 11 i = some (lo, hi)) : lo ≤ gi M 11 i ∧ gi M 11 i ≤ hi := by
  have z := P.giA (c := 11) (1000, 60, [(1, 0, 0)]) rfl h0 (a := 0) (b := 0) (fun k _ => rfl) (by decide) i
  have hh : some (0, 1000) = some (lo, hi) := h
  cases hh
  omega
set_option maxRecDepth 4000 in
theorem ic_12 {base : Nat} {M0 M : mH} (P : Ps base shA M0 M) (h0 : M0.1 = 0) (i lo hi : Int) (h : rg 12 i = some (lo, hi)) : lo ≤ gi M 12 i ∧ gi M 12 i ≤ hi := by
  cases h
set_option maxRecDepth 4000 in
theorem ic_13 {base : Nat} {M0 M : mH} (P : Ps base shA M0 M) (h0 : M0.1 = 0) (i lo hi : Int) (h : rg 13 i = some (lo, hi)) : lo ≤ gi M 13 i ∧ gi M 13 i ≤ hi := by
  have z := P.giA (c := 13) (1000, 400, [(1, 0, 0)]) rfl h0 (a := 0) (b := 0) (fun k _ => rfl) (by decide) i
  have hh : some (0, 255) = some (lo, hi) := h
  cases hh
  omega
set_option maxRecDepth 4000 in
theorem ic_14 {base : Nat} {M0 M : mH} (P : Ps base shA M0 M) (h0 : M0.1 = 0) (i lo hi : Int) (h : rg 14 i = some (lo, hi)) : lo ≤ gi M 14 i ∧ gi M 14 i ≤ hi := by
  have hh : (if i = 2 then some (0, 400) else if i = 3 then some (0, 511) else if i = 4 then some (0, 50) else if i = 7 then some (0, 12) else if i = 9 then some (0, 400) else none) = some (lo, hi) := h
  by_cases e2 : i = 2
  · rw [if_pos e2] at hh; cases hh; subst e2; have := P.gi1 (c := 14) (k := 2) (4, 11, [(3, 15, 0), (3, 16, 0), (1, 0, 0), (1, 22, 22), (1, 0, 0), (3, 17, 0), (3, 18, 0), (1, 0, 0), (3, 19, 0), (1, 0, 0), (1, (-1), (-1))]) rfl h0 (by decide) (a := 0) (b := 0) rfl; exact ⟨Int.le_trans (by decide) this.1, Int.le_trans this.2 (by decide)⟩
  rw [if_neg e2] at hh
  by_cases e3 : i = 3
  · rw [if_pos e3] at hh; cases hh; subst e3; have := P.gi1 (c := 14) (k := 3) (4, 11, [(3, 15, 0), (3, 16, 0), (1, 0, 0), (1, 22, 22), (1, 0, 0), (3, 17, 0), (3, 18, 0), (1, 0, 0), (3, 19, 0), (1, 0, 0), (1, (-1), (-1))]) rfl h0 (by decide) (a := 22) (b := 22) rfl; exact ⟨Int.le_trans (by decide) this.1, Int.le_trans this.2 (by decide)⟩
  rw [if_neg e3] at hh
  by_cases e4 : i = 4
  · rw [if_pos e4] at hh; cases hh; subst e4; have := P.gi1 (c := 14) (k := 4) (4, 11, [(3, 15, 0), (3, 16, 0), (1, 0, 0), (1, 22, 22), (1, 0, 0), (3, 17, 0), (3, 18, 0), (1, 0, 0), (3, 19, 0), (1, 0, 0), (1, (-1), (-1))]) rfl h0 (by decide) (a := 0) (b := 0) rfl; exact ⟨Int.le_trans (by decide) this.1, Int.le_trans this.2 (by decide)⟩
  rw [if_neg e4] at hh
  by_cases e7 : i = 7
  · rw [if_pos e7] at hh; cases hh; subst e7; have := P.gi1 (c := 14) (k := 7) (4, 11, [(3, 15, 0), (3, 16, 0), (1, 0, 0), (1, 22, 22), (1, 0, 0), (3, 17, 0), (3, 18, 0), (1, 0, 0), (3, 19, 0), (1, 0, 0), (1, (-1), (-1))]) rfl h0 (by decide) (a := 0) (b := 0) rfl; exact ⟨Int.le_trans (by decide) this.1, Int.le_trans this.2 (by decide)⟩
  rw [if_neg e7] at hh
  by_cases e9 : i = 9
  · rw [if_pos e9] at hh; cases hh; subst e9; have := P.gi1 (c := 14) (k := 9) (4, 11, [(3, 15, 0), (3, 16, 0), (1, 0, 0), (1, 22, 22), (1, 0, 0), (3, 17, 0), (3, 18, 0), (1, 0, 0), (3, 19, 0), (1, 0, 0), (1, (-1), (-1))]) rfl h0 (by decide) (a := 0) (b := 0) rfl; exact ⟨Int.le_trans (by decide) this.1, Int.le_trans this.2 (by decide)⟩
  rw [if_neg e9] at hh
  cases hh
set_option maxRecDepth 4000 in
theorem ic_15 {base : Nat} {M0 M : mH} (P : Ps base shA M0 M) (h0 : M0.1 = 0) (i lo hi : Int) (h : rg 15 i = some (lo, hi)) : lo ≤ gi M 15 i ∧ gi M 15 i ≤ hi := by
  have z := P.giA (c := 15) (1000, 401, [(1, 0, 0)]) rfl h0 (a := 0) (b := 0) (fun k _ => rfl) (by decide) i
  have hh : some (0, 60000000) = some (lo, hi) := h
  cases hh
  omega
set_option maxRecDepth 4000 in
theorem ic_16 {base : Nat} {M0 M : mH} (P : Ps base shA M0 M) (h0 : M0.1 = 0) (i lo hi : Int) (h : rg 16 i = some (lo, hi)) : lo ≤ gi M 16 i ∧ gi M 16 i ≤ hi := by
  cases h
set_option maxRecDepth 4000 in
theorem ic_17 {base : Nat} {M0 M : mH} (P : Ps base shA M0 M) (h0 : M0.1 = 0) (i lo hi : Int) (h : rg 17 i = some (lo, hi)) : lo ≤ gi M 17 i ∧ gi M 17 i ≤ hi := by
  cases h
set_option maxRecDepth 4000 in
theorem ic_18 {base : Nat} {M0 M : mH} (P : Ps base shA M0 M) (h0 : M0.1 = 0) (i lo hi : Int) (h : rg 18 i = some (lo, hi)) : lo ≤ gi M 18 i ∧ gi M 18 i ≤ hi := by
  have z := P.giA (c := 18) (1000, 12, [(1, 0, 0)]) rfl h0 (a := 0) (b := 0) (fun k _ => rfl) (by decide) i
  have hh : some (0, 400) = some (lo, hi) := h
  cases hh
  omega
set_option maxRecDepth 4000 in
theorem ic_19 {base : Nat} {M0 M : mH} (P : Ps base shA M0 M) (h0 : M0.1 = 0) (i lo hi : Int) (h : rg 19 i = some (lo, hi)) : lo ≤ gi M 19 i ∧ gi M 19 i ≤ hi := by
  cases h
set_option maxRecDepth 4000 in
theorem ic_20 {base : Nat} {M0 M : mH} (P : Ps base shA M0 M) (h0 : M0.1 = 0) (i lo hi : Int) (h : rg 20 i = some (lo, hi)) : lo ≤ gi M 20 i ∧ gi M 20 i ≤ hi := by
  have hh : (if i = 15 then some (0, 145) else if i = 16 then some (0, 5) else if i = 17 then some (0, 3) else none) = some (lo, hi) := h
  by_cases e15 : i = 15
  · rw [if_pos e15] at hh; cases hh; subst e15; have := P.gi1 (c := 20) (k := 15) (8, 18, [(3, 21, 0), (3, 22, 0), (3, 23, 0), (3, 24, 0), (3, 25, 0), (3, 26, 0), (3, 27, 0), (3, 28, 0), (3, 29, 0), (3, 30, 0), (3, 31, 0), (3, 32, 0), (3, 33, 0), (3, 34, 0), (3, 35, 0), (1, 0, 0), (1, 0, 0), (1, 0, 0)]) rfl h0 (by decide) (a := 0) (b := 0) rfl; exact ⟨Int.le_trans (by decide) this.1, Int.le_trans this.2 (by decide)⟩
  rw [if_neg e15] at hh
  by_cases e16 : i = 16
  · rw [if_pos e16] at hh; cases hh; subst e16; have := P.gi1 (c := 20) (k := 16) (8, 18, [(3, 21, 0), (3, 22, 0), (3, 23, 0), (3, 24, 0), (3, 25, 0), (3, 26, 0), (3, 27, 0), (3, 28, 0), (3, 29, 0), (3, 30, 0), (3, 31, 0), (3, 32, 0), (3, 33, 0), (3, 34, 0), (3, 35, 0), (1, 0, 0), (1, 0, 0), (1, 0, 0)]) rfl h0 (by decide) (a := 0) (b := 0) rfl; exact ⟨Int.le_trans (by decide) this.1, Int.le_trans this.2 (by decide)⟩
  rw [if_neg e16] at hh
  by_cases e17 : i = 17
  · rw [if_pos e17] at hh; cases hh; subst e17; have := P.gi1 (c := 20) (k := 17) (8, 18, [(3, 21, 0), (3, 22, 0), (3, 23, 0), (3, 24, 0), (3, 25, 0), (3, 26, 0), (3, 27, 0), (3, 28, 0), (3, 29, 0), (3, 30, 0), (3, 31, 0), (3, 32, 0), (3, 33, 0), (3, 34, 0), (3, 35, 0), (1, 0, 0), (1, 0, 0), (1, 0, 0)]) rfl h0 (by decide) (a := 0) (b := 0) rfl; exact ⟨Int.le_trans (by decide) this.1, Int.le_trans this.2 (by decide)⟩
  rw [if_neg e17] at hh
  cases hh
set_option maxRecDepth 4000 in
theorem ic_21 {base : Nat} {M0 M : mH} (P : Ps base shA M0 M) (h0 : M0.1 = 0) (i lo hi : Int) (h : rg 21 i = some (lo, hi)) : lo ≤ gi M 21 i ∧ gi M 21 i ≤ hi := by
  have z := P.giA (c := 21) (1000, 145, [(1, 0, 0)]) rfl h0 (a := 0) (b := 0) (fun k _ => rfl) (by decide) i
  have hh : some ((-1), 144) = some (lo, hi) := h
  cases hh
  omega
set_option maxRecDepth 4000 in
theorem ic_22 {base : Nat} {M0 M : mH} (P : Ps base shA M0 M) (h0 : M0.1 = 0) (i lo hi : Int) (h : rg 22 i = some (lo, hi)) : lo ≤ gi M 22 i ∧ gi M 22 i ≤ hi := by
  have z := P.giA (c := 22) (1000, 145, [(1, 0, 0)]) rfl h0 (a := 0) (b := 0) (fun k _ => rfl) (by decide) i
  have hh : some ((-1), 144) = some (lo, hi) := h
  cases hh
  omega
set_option maxRecDepth 4000 in
theorem ic_23 {base : Nat} {M0 M : mH} (P : Ps base shA M0 M) (h0 : M0.1 = 0) (i lo hi : Int) (h : rg 23 i = some (lo, hi)) : lo ≤ gi M 23 i ∧ gi M 23 i ≤ hi := by
  cases h
set_option maxRecDepth 4000 in
theorem ic_24 {base : Nat} {M0 M : mH} (P : Ps base shA M0 M) (h0 : M0.1 = 0) (i lo hi : Int) (h : rg 24 i = some (lo, hi)) : lo ≤ gi M 24 i ∧ gi M 24 i ≤ hi := by
  cases h
set_option maxRecDepth 4000 in
theorem ic_25 {base : Nat} {M0 M : mH} (P : Ps base shA M0 M) (h0 : M0.1 = 0) (i lo hi : Int) (h : rg 25 i = some (lo, hi)) : lo ≤ gi M 25 i ∧ gi M 25 i ≤ hi := by
  have z := P.giA (c := 25) (1002, 145, [(1, 0, 0)]) rfl h0 (a := 0) (b := 0) (fun k _ => rfl) (by decide) i
  have hh : some (0, 1) = some (lo, hi) := h
  cases hh
  omega
set_option maxRecDepth 4000 in
theorem ic_26 {base : Nat} {M0 M : mH} (P : Ps base shA M0 M) (h0 : M0.1 = 0) (i lo hi : Int) (h : rg 26 i = some (lo, hi)) : lo ≤ gi M 26 i ∧ gi M 26 i ≤ hi := by
  have z := P.giA (c := 26) (1002, 145, [(1, 0, 0)]) rfl h0 (a := 0) (b := 0) (fun k _ => rfl) (by decide) i
  have hh : some (0, 1) = some (lo, hi) := h
  cases hh
  omega
set_option maxRecDepth 4000 in
theorem ic_27 {base : Nat} {M0 M : mH} (P : Ps base shA M0 M) (h0 : M0.1 = 0) (i lo hi : Int) (h : rg 27 i = some (lo, hi)) : lo ≤ gi M 27 i ∧ gi M 27 i ≤ hi := by
  cases h
set_option maxRecDepth 4000 in
theorem ic_28 {base : Nat} {M0 M : mH} (P : Ps base shA M0 M) (h0 : M0.1 = 0) (i lo hi : Int) (h : rg 28 i = some (lo, hi)) : lo ≤ gi M 28 i ∧ gi M 28 i ≤ hi := by
  have z := P.giA (c := 28) (1000, 435, [(1, 0, 0)]) rfl h0 (a := 0) (b := 0) (fun k _ => rfl) (by decide) i
  have hh : some ((-1), 7) = some (lo, hi) := h
  cases hh
  omega
set_option maxRecDepth 4000 in
theorem ic_29 {base : Nat} {M0 M : mH} (P : Ps base shA M0 M) (h0 : M0.1 = 0) (i lo hi : Int) (h : rg 29 i = some (lo, hi)) : lo ≤ gi M 29 i ∧ gi M 29 i ≤ hi := by
  have z := P.giA (c := 29) (1000, 435, [(1, 0, 0)]) rfl h0 (a := 0) (b := 0) (fun k _ => rfl) (by decide) i
  have hh : some (0, 7) = some (lo, hi) := h
  cases hh
  omega
set_option maxRecDepth 4000 in
theorem ic_30 {base : Nat} {M0 M : mH} (P : Ps base shA M0 M) (h0 : M0.1 = 0) (i lo hi : Int) (h : rg 30 i = some (lo, hi)) : lo ≤ gi M 30 i ∧ gi M 30 i ≤ hi := by
  cases h
set_option maxRecDepth 4000 in
theorem ic_31 {base : Nat} {M0 M : mH} (P : Ps base shA M0 M) (h0 : M0.1 = 0) (i lo hi : Int) (h : rg 31 i = some (lo, hi)) : lo ≤ gi M 31 i ∧ gi M 31 i ≤ hi := by
  cases h
set_option maxRecDepth 4000 in
theorem ic_32 {base : Nat} {M0 M : mH} (P : Ps base shA M0 M) (h0 : M0.1 = 0) (i lo hi : Int) (h : rg 32 i = some (lo, hi)) : lo ≤ gi M 32 i ∧ gi M 32 i ≤ hi := by
  have z := P.giA (c := 32) (1000, 144, [(1, 0, 0)]) rfl h0 (a := 0) (b := 0) (fun k _ => rfl) (by decide) i
  have hh : some (0, 144) = some (lo, hi) := h
  cases hh
  omega
set_option maxRecDepth 4000 in
theorem ic_33 {base : Nat} {M0 M : mH} (P : Ps base shA M0 M) (h0 : M0.1 = 0) (i lo hi : Int) (h : rg 33 i = some (lo, hi)) : lo ≤ gi M 33 i ∧ gi M 33 i ≤ hi := by
  have z := P.giA (c := 33) (1000, 16, [(1, 0, 0)]) rfl h0 (a := 0) (b := 0) (fun k _ => rfl) (by decide) i
  have hh : some (0, 8) = some (lo, hi) := h
  cases hh
  omega
set_option maxRecDepth 4000 in
theorem ic_34 {base : Nat} {M0 M : mH} (P : Ps base shA M0 M) (h0 : M0.1 = 0) (i lo hi : Int) (h : rg 34 i = some (lo, hi)) : lo ≤ gi M 34 i ∧ gi M 34 i ≤ hi := by
  have z := P.giA (c := 34) (1000, 9, [(1, 0, 0)]) rfl h0 (a := 0) (b := 0) (fun k _ => rfl) (by decide) i
  have hh : some (0, 1000) = some (lo, hi) := h
  cases hh
  omega
set_option maxRecDepth 4000 in
theorem ic_35 {base : Nat} {M0 M : mH} (P : Ps base shA M0 M) (h0 : M0.1 = 0) (i lo hi : Int) (h : rg 35 i = some (lo, hi)) : lo ≤ gi M 35 i ∧ gi M 35 i ≤ hi := by
  cases h
set_option maxRecDepth 4000 in
theorem ic_36 {base : Nat} {M0 M : mH} (P : Ps base shA M0 M) (h0 : M0.1 = 0) (i lo hi : Int) (h : rg 36 i = some (lo, hi)) : lo ≤ gi M 36 i ∧ gi M 36 i ≤ hi := by
  have hh : (if i = 4 then some (0, 1) else none) = some (lo, hi) := h
  by_cases e4 : i = 4
  · rw [if_pos e4] at hh; cases hh; subst e4; have := P.gi1 (c := 36) (k := 4) (6, 5, [(3, 20, 0), (3, 37, 0), (3, 38, 0), (2, 0, 0), (1, 1, 1)]) rfl h0 (by decide) (a := 1) (b := 1) rfl; exact ⟨Int.le_trans (by decide) this.1, Int.le_trans this.2 (by decide)⟩
  rw [if_neg e4] at hh
  cases hh
set_option maxRecDepth 4000 in
theorem ic_37 {base : Nat} {M0 M : mH} (P : Ps base shA M0 M) (h0 : M0.1 = 0) (i lo hi : Int) (h : rg 37 i = some (lo, hi)) : lo ≤ gi M 37 i ∧ gi M 37 i ≤ hi := by
  cases h
set_option maxRecDepth 4000 in
theorem ic_38 {base : Nat} {M0 M : mH} (P : Ps base shA M0 M) (h0 : M0.1 = 0) (i lo hi : Int) (h : rg 38 i = some (lo, hi)) : lo ≤ gi M 38 i ∧ gi M 38 i ≤ hi := by
  cases h
set_option maxRecDepth 4000 in
theorem ic_39 {base : Nat} {M0 M : mH} (P : Ps base shA M0 M) (h0 : M0.1 = 0) (i lo hi : Int) (h : rg 39 i = some (lo, hi)) : lo ≤ gi M 39 i ∧ gi M 39 i ≤ hi := by
  have hh : (if i = 15 then some (0, 145) else if i = 16 then some (0, 5) else if i = 17 then some (0, 3) else none) = some (lo, hi) := h
  by_cases e15 : i = 15
  · rw [if_pos e15] at hh; cases hh; subst e15; have := P.gi1 (c := 39) (k := 15) (8, 18, [(3, 40, 0), (3, 41, 0), (3, 42, 0), (3, 43, 0), (3, 44, 0), (3, 45, 0), (3, 46, 0), (3, 47, 0), (3, 48, 0), (3, 49, 0), (3, 50, 0), (3, 51, 0), (3, 52, 0), (3, 53, 0), (3, 54, 0), (1, 0, 0), (1, 0, 0), (1, 0, 0)]) rfl h0 (by decide) (a := 0) (b := 0) rfl; exact ⟨Int.le_trans (by decide) this.1, Int.le_trans this.2 (by decide)⟩
  rw [if_neg e15] at hh
  by_cases e16 : i = 16
  · rw [if_pos e16] at hh; cases hh; subst e16; have := P.gi1 (c := 39) (k := 16) (8, 18, [(3, 40, 0), (3, 41, 0), (3, 42, 0), (3, 43, 0), (3, 44, 0), (3, 45, 0), (3, 46, 0), (3, 47, 0), (3, 48, 0), (3, 49, 0), (3, 50, 0), (3, 51, 0), (3, 52, 0), (3, 53, 0), (3, 54, 0), (1, 0, 0), (1, 0, 0), (1, 0, 0)]) rfl h0 (by decide) (a := 0) (b := 0) rfl; exact ⟨Int.le_trans (by decide) this.1, Int.le_trans this.2 (by decide)⟩
  rw [if_neg e16] at hh
  by_cases e17 : i = 17
  · rw [if_pos e17] at hh; cases hh; subst e17; have := P.gi1 (c := 39) (k := 17) (8, 18, [(3, 40, 0), (3, 41, 0), (3, 42, 0), (3, 43, 0), (3, 44, 0), (3, 45, 0), (3, 46, 0), (3, 47, 0), (3, 48, 0), (3, 49, 0), (3, 50, 0), (3, 51, 0), (3, 52, 0), (3, 53, 0), (3, 54, 0), (1, 0, 0), (1, 0, 0), (1, 0, 0)]) rfl h0 (by decide) (a := 0) (b := 0) rfl; exact ⟨Int.le_trans (by decide) this.1, Int.le_trans this.2 (by decide)⟩
  rw [if_neg e17] at hh
  cases hh
set_option maxRecDepth 4000 in
theorem ic_40 {base : Nat} {M0 M : mH} (P : Ps base shA M0 M) (h0 : M0.1 = 0) (i lo hi : Int) (h : rg 40 i = some (lo, hi)) : lo ≤ gi M 40 i ∧ gi M 40 i ≤ hi := by
  have z := P.giA (c := 40) (1000, 145, [(1, 0, 0)]) rfl h0 (a := 0) (b := 0) (fun k _ => rfl) (by decide) i
  have hh : some ((-1), 144) = some (lo, hi) := h
  cases hh
  omega
set_option maxRecDepth 4000 in
theorem ic_41 {base : Nat} {M0 M : mH} (P : Ps base shA M0 M) (h0 : M0.1 = 0) (i lo hi : Int) (h : rg 41 i = some (lo, hi)) : lo ≤ gi M 41 i ∧ gi M 41 i ≤ hi := by
  have z := P.giA (c := 41) (1000, 145, [(1, 0, 0)]) rfl h0 (a := 0) (b := 0) (fun k _ => rfl) (by decide) i
  have hh : some ((-1), 144) = some (lo, hi) := h
  cases hh
  omega
set_option maxRecDepth 4000 in
theorem ic_42 {base : Nat} {M0 M : mH} (P : Ps base shA M0 M) (h0 : M0.1 = 0) (i lo hi : Int) (h : rg 42 i = some (lo, hi)) : lo ≤ gi M 42 i ∧ gi M 42 i ≤ hi := by
  cases h
set_option maxRecDepth 4000 in
theorem ic_43 {base : Nat} {M0 M : mH} (P : Ps base shA M0 M) (h0 : M0.1 = 0) (i lo hi : Int) (h : rg 43 i = some (lo, hi)) : lo ≤ gi M 43 i ∧ gi M 43 i ≤ hi := by
  cases h
set_option maxRecDepth 4000 in
theorem ic_44 {base : Nat} {M0 M : mH} (P : Ps base shA M0 M) (h0 : M0.1 = 0) (i lo hi : Int) (h : rg 44 i = some (lo, hi)) : lo ≤ gi M 44 i ∧ gi M 44 i ≤ hi := by
  have z := P.giA (c := 44) (1002, 145, [(1, 0, 0)]) rfl h0 (a := 0) (b := 0) (fun k _ => rfl) (by decide) i
  have hh : some (0, 1) = some (lo, hi) := h
  cases hh
  omega
set_option maxRecDepth 4000 in
theorem ic_45 {base : Nat} {M0 M : mH} (P : Ps base shA M0 M) (h0 : M0.1 = 0) (i lo hi : Int) (h : rg 45 i = some (lo, hi)) : lo ≤ gi M 45 i ∧ gi M 45 i ≤ hi := by
  have z := P.giA (c := 45) (1002, 145, [(1, 0, 0)]) rfl h0 (a := 0) (b := 0) (fun k _ => rfl) (by decide) i
  have hh : some (0, 1) = some (lo, hi) := h
  cases hh
  omega
set_option maxRecDepth 4000 in
theorem ic_46 {base : Nat} {M0 M : mH} (P : Ps base shA M0 M) (h0 : M0.1 = 0) (i lo hi : Int) (h : rg 46 i = some (lo, hi)) : lo ≤ gi M 46 i ∧ gi M 46 i ≤ hi := by
  cases h
set_option maxRecDepth 4000 in
theorem ic_47 {base : Nat} {M0 M : mH} (P : Ps base shA M0 M) (h0 : M0.1 = 0) (i lo hi : Int) (h : rg 47 i = some (lo, hi)) : lo ≤ gi M 47 i ∧ gi M 47 i ≤ hi := by
  have z := P.giA (c := 47) (1000, 435, [(1, 0, 0)]) rfl h0 (a := 0) (b := 0) (fun k _ => rfl) (by decide) i
  have hh : some ((-1), 7) = some (lo, hi) := h
  cases hh
  omega
set_option maxRecDepth 4000 in
theorem ic_48 {base : Nat} {M0 M : mH} (P : Ps base shA M0 M) (h0 : M0.1 = 0) (i lo hi : Int) (h : rg 48 i = some (lo, hi)) : lo ≤ gi M 48 i ∧ gi M 48 i ≤ hi := by
  have z := P.giA (c := 48) (1000, 435, [(1, 0, 0)]) rfl h0 (a := 0) (b := 0) (fun k _ => rfl) (by decide) i
  have hh : some (0, 7) = some (lo, hi) := h
  cases hh
  omega
set_option maxRecDepth 4000 in
theorem ic_49 {base : Nat} {M0 M : mH} (P : Ps base shA M0 M) (h0 : M0.1 = 0) (i lo hi : Int) (h : rg 49 i = some (lo, hi)) : lo ≤ gi M 49 i ∧ gi M 49 i ≤ hi := by
  cases h
set_option maxRecDepth 4000 in
theorem ic_50 {base : Nat} {M0 M : mH} (P : Ps base shA M0 M) (h0 : M0.1 = 0) (i lo hi : Int) (h : rg 50 i = some (lo, hi)) : lo ≤ gi M 50 i ∧ gi M 50 i ≤ hi := by
  cases h
set_option maxRecDepth 4000 in
theorem ic_51 {base : Nat} {M0 M : mH} (P : Ps base shA M0 M) (h0 : M0.1 = 0) (i lo hi : Int) (h : rg 51 i = some (lo, hi)) : lo ≤ gi M 51 i ∧ gi M 51 i ≤ hi := by
  have z := P.giA (c := 51) (1000, 144, [(1, 0, 0)]) rfl h0 (a := 0) (b := 0) (fun k _ => rfl) (by decide) i
  have hh : some (0, 144) = some (lo, hi) := h
  cases hh
  omega
set_option maxRecDepth 4000 in
theorem ic_52 {base : Nat} {M0 M : mH} (P : Ps base shA M0 M) (h0 : M0.1 = 0) (i lo hi : Int) (h : rg 52 i = some (lo, hi)) : lo ≤ gi M 52 i ∧ gi M 52 i ≤ hi := by
  have z := P.giA (c := 52) (1000, 16, [(1, 0, 0)]) rfl h0 (a := 0) (b := 0) (fun k _ => rfl) (by decide) i
  have hh : some (0, 8) = some (lo, hi) := h
  cases hh
  omega
set_option maxRecDepth 4000 in
theorem ic_53 {base : Nat} {M0 M : mH} (P : Ps base shA M0 M) (h0 : M0.1 = 0) (i lo hi : Int) (h : rg 53 i = some (lo, hi)) : lo ≤ gi M 53 i ∧ gi M 53 i ≤ hi := by
  have z := P.giA (c := 53) (1000, 9, [(1, 0, 0)]) rfl h0 (a := 0) (b := 0) (fun k _ => rfl) (by decide) i
  have hh : some (0, 1000) = some (lo, hi) := h
  cases hh
  omega
set_option maxRecDepth 4000 in
theorem ic_54 {base : Nat} {M0 M : mH} (P : Ps base shA M0 M) (h0 : M0.1 = 0) (i lo hi : Int) (h : rg 54 i = some (lo, hi)) : lo ≤ gi M 54 i ∧ gi M 54 i ≤ hi := by
  cases h
set_option maxRecDepth 4000 in
theorem ic_55 {base : Nat} {M0 M : mH} (P : Ps base shA M0 M) (h0 : M0.1 = 0) (i lo hi : Int) (h : rg 55 i = some (lo, hi)) : lo ≤ gi M 55 i ∧ gi M 55 i ≤ hi := by
  have hh : (if i = 4 then some (0, 1) else none) = some (lo, hi) := h
  by_cases e4 : i = 4
  · rw [if_pos e4] at hh; cases hh; subst e4; have := P.gi1 (c := 55) (k := 4) (6, 5, [(3, 39, 0), (3, 56, 0), (3, 57, 0), (2, 0, 0), (1, 1, 1)]) rfl h0 (by decide) (a := 1) (b := 1) rfl; exact ⟨Int.le_trans (by decide) this.1, Int.le_trans this.2 (by decide)⟩
  rw [if_neg e4] at hh
  cases hh
set_option maxRecDepth 4000 in
theorem ic_56 {base : Nat} {M0 M : mH} (P : Ps base shA M0 M) (h0 : M0.1 = 0) (i lo hi : Int) (h : rg 56 i = some (lo, hi)) : lo ≤ gi M 56 i ∧ gi M 56 i ≤ hi := by
  cases h
set_option maxRecDepth 4000 in
theorem ic_57 {base : Nat} {M0 M : mH} (P : Ps base shA M0 M) (h0 : M0.1 = 0) (i lo hi : Int) (h : rg 57 i = some (lo, hi)) : lo ≤ gi M 57 i ∧ gi M 57 i ≤ hi := by
  cases h
set_option maxRecDepth 4000 in
theorem ic_58 {base : Nat} {M0 M : mH} (P : Ps base shA M0 M) (h0 : M0.1 = 0) (i lo hi : Int) (h : rg 58 i = some (lo, hi)) : lo ≤ gi M 58 i ∧ gi M 58 i ≤ hi := by
  have hh : (if i = 1 then some (0, 12) else none) = some (lo, hi) := h
  by_cases e1 : i = 1
  · rw [if_pos e1] at hh; cases hh; subst e1; have := P.gi1 (c := 58) (k := 1) (0, 7, [(3, 59, 0), (1, 0, 0), (2, 0, 0), (1, 0, 0), (3, 60, 0), (1, (-1), (-1)), (3, 61, 0)]) rfl h0 (by decide) (a := 0) (b := 0) rfl; exact ⟨Int.le_trans (by decide) this.1, Int.le_trans this.2 (by decide)⟩
  rw [if_neg e1] at hh
  cases hh
set_option maxRecDepth 4000 in
theorem ic_59 {base : Nat} {M0 M : mH} (P : Ps base shA M0 M) (h0 : M0.1 = 0) (i lo hi : Int) (h : rg 59 i = some (lo, hi)) : lo ≤ gi M 59 i ∧ gi M 59 i ≤ hi := by
  cases h
set_option maxRecDepth 4000 in
theorem ic_60 {base : Nat} {M0 M : mH} (P : Ps base shA M0 M) (h0 : M0.1 = 0) (i lo hi : Int) (h : rg 60 i = some (lo, hi)) : lo ≤ gi M 60 i ∧ gi M 60 i ≤ hi := by
  cases h
set_option maxRecDepth 4000 in
theorem ic_61 {base : Nat} {M0 M : mH} (P : Ps base shA M0 M) (h0 : M0.1 = 0) (i lo hi : Int) (h : rg 61 i = some (lo, hi)) : lo ≤ gi M 61 i ∧ gi M 61 i ≤ hi := by
  cases h
set_option maxRecDepth 4000 in
theorem ic_62 {base : Nat} {M0 M : mH} (P : Ps base shA M0 M) (h0 : M0.1 = 0) (i lo hi : Int) (h : rg 62 i = some (lo, hi)) : lo ≤ gi M 62 i ∧ gi M 62 i ≤ hi := by
  have hh : (if i = 1 then some (0, 12) else none) = some (lo, hi) := h
  by_cases e1 : i = 1
  · rw [if_pos e1] at hh; cases hh; subst e1; have := P.gi1 (c := 62) (k := 1) (0, 7, [(3, 63, 0), (1, 0, 0), (2, 0, 0), (1, 0, 0), (3, 64, 0), (1, (-1), (-1)), (3, 65, 0)]) rfl h0 (by decide) (a := 0) (b := 0) rfl; exact ⟨Int.le_trans (by decide) this.1, Int.le_trans this.2 (by decide)⟩
  rw [if_neg e1] at hh
  cases hh
set_option maxRecDepth 4000 in
theorem ic_63 {base : Nat} {M0 M : mH} (P : Ps base shA M0 M) (h0 : M0.1 = 0) (i lo hi : Int) (h : rg 63 i = some (lo, hi)) : lo ≤ gi M 63 i ∧ gi M 63 i ≤ hi := by
  cases h
set_option maxRecDepth 4000 in
theorem ic_64 {base : Nat} {M0 M : mH} (P : Ps base shA M0 M) (h0 : M0.1 = 0) (i lo hi : Int) (h : rg 64 i = some (lo, hi)) : lo ≤ gi M 64 i ∧ gi M 64 i ≤ hi := by
  cases h
set_option maxRecDepth 4000 in
theorem ic_65 {base : Nat} {M0 M : mH} (P : Ps base shA M0 M) (h0 : M0.1 = 0) (i lo hi : Int) (h : rg 65 i = some (lo, hi)) : lo ≤ gi M 65 i ∧ gi M 65 i ≤ hi := by
  cases h
set_option maxRecDepth 4000 in
theorem ic_66 {base : Nat} {M0 M : mH} (P : Ps base shA M0 M) (h0 : M0.1 = 0) (i lo hi : Int) (h : rg 66 i = some (lo, hi)) : lo ≤ gi M 66 i ∧ gi M 66 i ≤ hi := by
  have hh : (if i = 1 then some (0, 6) else none) = some (lo, hi) := h
  by_cases e1 : i = 1
  · rw [if_pos e1] at hh; cases hh; subst e1; have := P.gi1 (c := 66) (k := 1) (1, 4, [(3, 67, 0), (1, 0, 0), (3, 68, 0), (1, (-1), (-1))]) rfl h0 (by decide) (a := 0) (b := 0) rfl; exact ⟨Int.le_trans (by decide) this.1, Int.le_trans this.2 (by decide)⟩
  rw [if_neg e1] at hh
  cases hh
set_option maxRecDepth 4000 in
theorem ic_67 {base : Nat} {M0 M : mH} (P : Ps base shA M0 M) (h0 : M0.1 = 0) (i lo hi : Int) (h : rg 67 i = some (lo, hi)) : lo ≤ gi M 67 i ∧ gi M 67 i ≤ hi := by
  cases h
set_option maxRecDepth 4000 in
theorem ic_68 {base : Nat} {M0 M : mH} (P : Ps base shA M0 M) (h0 : M0.1 = 0) (i lo hi : Int) (h : rg 68 i = some (lo, hi)) : lo ≤ gi M 68 i ∧ gi M 68 i ≤ hi := by
  cases h
set_option maxRecDepth 4000 in
theorem ic_69 {base : Nat} {M0 M : mH} (P : Ps base shA M0 M) (h0 : M0.1 = 0) (i lo hi : Int) (h : rg 69 i = some (lo, hi)) : lo ≤ gi M 69 i ∧ gi M 69 i ≤ hi := by
  have hh : (if i = 1 then some ((-1), 120) else none) = some (lo, hi) := h
  by_cases e1 : i = 1
  · rw [if_pos e1] at hh; cases hh; subst e1; have := P.gi1 (c := 69) (k := 1) (5, 4, [(3, 70, 0), (1, (-1), (-1)), (3, 71, 0), (3, 72, 0)]) rfl h0 (by decide) (a := (-1)) (b := (-1)) rfl; exact ⟨Int.le_trans (by decide) this.1, Int.le_trans this.2 (by decide)⟩
  rw [if_neg e1] at hh
  cases hh
set_option maxRecDepth 4000 in
theorem ic_70 {base : Nat} {M0 M : mH} (P : Ps base shA M0 M) (h0 : M0.1 = 0) (i lo hi : Int) (h : rg 70 i = some (lo, hi)) : lo ≤ gi M 70 i ∧ gi M 70 i ≤ hi := by
  cases h
set_option maxRecDepth 4000 in
theorem ic_71 {base : Nat} {M0 M : mH} (P : Ps base shA M0 M) (h0 : M0.1 = 0) (i lo hi : Int) (h : rg 71 i = some (lo, hi)) : lo ≤ gi M 71 i ∧ gi M 71 i ≤ hi := by
  cases h
set_option maxRecDepth 4000 in
theorem ic_72 {base : Nat} {M0 M : mH} (P : Ps base shA M0 M) (h0 : M0.1 = 0) (i lo hi : Int) (h : rg 72 i = some (lo, hi)) : lo ≤ gi M 72 i ∧ gi M 72 i ≤ hi := by
  have z := P.giA (c := 72) (1000, 121, [(1, 0, 0)]) rfl h0 (a := 0) (b := 0) (fun k _ => rfl) (by decide) i
  have hh : some (0, 60) = some (lo, hi) := h
  cases hh
  omega
set_option maxRecDepth 4000 in
theorem ic_73 {base : Nat} {M0 M : mH} (P : Ps base shA M0 M) (h0 : M0.1 = 0) (i lo hi : Int) (h : rg 73 i = some (lo, hi)) : lo ≤ gi M 73 i ∧ gi M 73 i ≤ hi := by
  cases h
set_option maxRecDepth 4000 in
theorem ic_74 {base : Nat} {M0 M : mH} (P : Ps base shA M0 M) (h0 : M0.1 = 0) (i lo hi : Int) (h : rg 74 i = some (lo, hi)) : lo ≤ gi M 74 i ∧ gi M 74 i ≤ hi := by
  cases h
set_option maxRecDepth 4000 in
theorem ic_75 {base : Nat} {M0 M : mH} (P : Ps base shA M0 M) (h0 : M0.1 = 0) (i lo hi : Int) (h : rg 75 i = some (lo, hi)) : lo ≤ gi M 75 i ∧ gi M 75 i ≤ hi := by
  cases h
set_option maxRecDepth 4000 in
theorem ic_76 {base : Nat} {M0 M : mH} (P : Ps base shA M0 M) (h0 : M0.1 = 0) (i lo hi : Int) (h : rg 76 i = some (lo, hi)) : lo ≤ gi M 76 i ∧ gi M 76 i ≤ hi := by
  cases h
set_option maxRecDepth 4000 in
theorem ic_77 {base : Nat} {M0 M : mH} (P : Ps base shA M0 M) (h0 : M0.1 = 0) (i lo hi : Int) (h : rg 77 i = some (lo, hi)) : lo ≤ gi M 77 i ∧ gi M 77 i ≤ hi := by
  have hh : (if i = 9 then some (0, 1) else if i = 13 then some ((-1), 2) else if i = 14 then some (0, 1110) else if i = 23 then some (0, 1) else if i = 24 then some (0, 1) else if i = 25 then some (0, 1) else if i = 27 then some (0, 16) else if i = 31 then some (0, 400) else if i = 36 then some (0, 400) else if i = 37 then some (0, 400) else if i = 42 then some (0, 1) else if i = 45 then some (0, 24) else if i = 46 then some (0, 1110) else if i = 48 then some (0, 24) else if i = 51 then some (0, 6) else if i = 55 then some ((-1), 120) else none) = some (lo, hi) := h
  by_cases e9 : i = 9
  · rw [if_pos e9] at hh; cases hh; subst e9; have := P.gi1 (c := 77) (k := 9) (10, 59, [(1, 0, 0), (3, 78, 0), (3, 79, 0), (3, 80, 0), (3, 81, 0), (3, 82, 0), (1, 0, 0), (1, 0, 0), (1, 0, 0), (1, 0, 0), (3, 83, 0), (3, 84, 0), (3, 85, 0), (1, 0, 0), (1, 0, 0), (1, 0, 0), (3, 86, 0), (3, 87, 0), (3, 88, 0), (3, 89, 0), (3, 90, 0), (3, 91, 0), (3, 92, 0), (1, 0, 0), (1, 0, 0), (1, 0, 0), (3, 93, 0), (1, 0, 0), (3, 94, 0), (3, 95, 0), (3, 96, 0), (1, 0, 0), (1, (-1), (-1)), (3, 97, 0), (3, 98, 0), (3, 99, 0), (1, 0, 0), (1, 0, 0), (1, 0, 0), (1, 0, 0), (1, 0, 0), (1, 0, 0), (1, 0, 0), (3, 100, 0), (3, 101, 0), (1, 0, 0), (1, 0, 0), (3, 102, 0), (1, 0, 0), (3, 103, 0), (3, 104, 0), (1, 0, 0), (3, 105, 0), (3, 106, 0), (3, 107, 0), (1, (-1), (-1)), (3, 108, 0), (3, 109, 0), (3, 110, 0)]) rfl h0 (by decide) (a := 0) (b := 0) rfl; exact ⟨Int.le_trans (by decide) this.1, Int.le_trans this.2 (by decide)⟩
  rw [if_neg e9] at hh
  by_cases e13 : i = 13
  · rw [if_pos e13] at hh; cases hh; subst e13; have := P.gi1 (c := 77) (k := 13) (10, 59, [(1, 0, 0), (3, 78, 0), (3, 79, 0), (3, 80, 0), (3, 81, 0), (3, 82, 0), (1, 0, 0), (1, 0, 0), (1, 0, 0), (1, 0, 0), (3, 83, 0), (3, 84, 0), (3, 85, 0), (1, 0, 0), (1, 0, 0), (1, 0, 0), (3, 86, 0), (3, 87, 0), (3, 88, 0), (3, 89, 0), (3, 90, 0), (3, 91, 0), (3, 92, 0), (1, 0, 0), (1, 0, 0), (1, 0, 0), (3, 93, 0), (1, 0, 0), (3, 94, 0), (3, 95, 0), (3, 96, 0), (1, 0, 0), (1, (-1), (-1)), (3, 97, 0), (3, 98, 0), (3, 99, 0), (1, 0, 0), (1, 0, 0), (1, 0, 0), (1, 0, 0), (1, 0, 0), (1, 0, 0), (1, 0, 0), (3, 100, 0), (3, 101, 0), (1, 0, 0), (1, 0, 0), (3, 102, 0), (1, 0, 0), (3, 103, 0), (3, 104, 0), (1, 0, 0), (3, 105, 0), (3, 106, 0), (3, 107, 0), (1, (-1), (-1)), (3, 108, 0), (3, 109, 0), (3, 110, 0)]) rfl h0 (by decide) (a := 0) (b := 0) rfl; exact ⟨Int.le_trans (by decide) this.1, Int.le_trans this.2 (by decide)⟩
  rw [if_neg e13] at hh
  by_cases e14 : i = 14
  · rw [if_pos e14] at hh; cases hh; subst e14; have := P.gi1 (c := 77) (k := 14) (10, 59, [(1, 0, 0), (3, 78, 0), (3, 79, 0), (3, 80, 0), (3, 81, 0), (3, 82, 0), (1, 0, 0), (1, 0, 0), (1, 0, 0), (1, 0, 0), (3, 83, 0), (3, 84, 0), (3, 85, 0), (1, 0, 0), (1, 0, 0), (1, 0, 0), (3, 86, 0), (3, 87, 0), (3, 88, 0), (3, 89, 0), (3, 90, 0), (3, 91, 0), (3, 92, 0), (1, 0, 0), (1, 0, 0), (1, 0, 0), (3, 93, 0), (1, 0, 0), (3, 94, 0), (3, 95, 0), (3, 96, 0), (1, 0, 0), (1, (-1), (-1)), (3, 97, 0), (3, 98, 0), (3, 99, 0), (1, 0, 0), (1, 0, 0), (1, 0, 0), (1, 0, 0), (1, 0, 0), (1, 0, 0), (1, 0, 0), (3, 100, 0), (3, 101, 0), (1, 0, 0), (1, 0, 0), (3, 102, 0), (1, 0, 0), (3, 103, 0), (3, 104, 0), (1, 0, 0), (3, 105, 0), (3, 106, 0), (3, 107, 0), (1, (-1), (-1)), (3, 108, 0), (3, 109, 0), (3, 110, 0)]) rfl h0 (by decide) (a := 0) (b := 0) rfl; exact ⟨Int.le_trans (by decide) this.1, Int.le_trans this.2 (by decide)⟩
  rw [if_neg e14] at hh
  by_cases e23 : i = 23
  · rw [if_pos e23] at hh; cases hh; subst e23; have := P.gi1 (c := 77) (k := 23) (10, 59, [(1, 0, 0), (3, 78, 0), (3, 79, 0), (3, 80, 0), (3, 81, 0), (3, 82, 0), (1, 0, 0), (1, 0, 0), (1, 0, 0), (1, 0, 0), (3, 83, 0), (3, 84, 0), (3, 85, 0), (1, 0, 0), (1, 0, 0), (1, 0, 0), (3, 86, 0), (3, 87, 0), (3, 88, 0), (3, 89, 0), (3, 90, 0), (3, 91, 0), (3, 92, 0), (1, 0, 0), (1, 0, 0), (1, 0, 0), (3, 93, 0), (1, 0, 0), (3, 94, 0), (3, 95, 0), (3, 96, 0), (1, 0, 0), (1, (-1), (-1)), (3, 97, 0), (3, 98, 0), (3, 99, 0), (1, 0, 0), (1, 0, 0), (1, 0, 0), (1, 0, 0), (1, 0, 0), (1, 0, 0), (1, 0, 0), (3, 100, 0), (3, 101, 0), (1, 0, 0), (1, 0, 0), (3, 102, 0), (1, 0, 0), (3, 103, 0), (3, 104, 0), (1, 0, 0), (3, 105, 0), (3, 106, 0), (3, 107, 0), (1, (-1), (-1)), (3, 108, 0), (3, 109, 0), (3, 110, 0)]) rfl h0 (by decide) (a := 0) (b := 0) rfl; exact ⟨Int.le_trans (by decide) this.1, Int.le_trans this.2 (by decide)⟩
  rw [if_neg e23] at hh
  by_cases e24 : i = 24
  · rw [if_pos e24] at hh; cases hh; subst e24; have := P.gi1 (c := 77) (k := 24) (10, 59, [(1, 0, 0), (3, 78, 0), (3, 79, 0), (3, 80, 0), (3, 81, 0), (3, 82, 0), (1, 0, 0), (1, 0, 0), (1, 0, 0), (1, 0, 0), (3, 83, 0), (3, 84, 0), (3, 85, 0), (1, 0, 0), (1, 0, 0), (1, 0, 0), (3, 86, 0), (3, 87, 0), (3, 88, 0), (3, 89, 0), (3, 90, 0), (3, 91, 0), (3, 92, 0), (1, 0, 0), (1, 0, 0), (1, 0, 0), (3, 93, 0), (1, 0, 0), (3, 94, 0), (3, 95, 0), (3, 96, 0), (1, 0, 0), (1, (-1), (-1)), (3, 97, 0), (3, 98, 0), (3, 99, 0), (1, 0, 0), (1, 0, 0), (1, 0, 0), (1, 0, 0), (1, 0, 0), (1, 0, 0), (1, 0, 0), (3, 100, 0), (3, 101, 0), (1, 0, 0), (1, 0, 0), (3, 102, 0), (1, 0, 0), (3, 103, 0), (3, 104, 0), (1, 0, 0), (3, 105, 0), (3, 106, 0), (3, 107, 0), (1, (-1), (-1)), (3, 108, 0), (3, 109, 0), (3, 110, 0)]) rfl h0 (by decide) (a := 0) (b := 0) rfl; exact ⟨Int.le_trans (by decide) this.1, Int.le_trans this.2 (by decide)⟩
  rw [if_neg e24] at hh
  by_cases e25 : i = 25
  · rw [if_pos e25] at hh; cases hh; subst e25; have := P.gi1 (c := 77) (k := 25) (10, 59, [(1, 0, 0), (3, 78, 0), (3, 79, 0), (3, 80, 0), (3, 81, 0), (3, 82, 0), (1, 0, 0), (1, 0, 0), (1, 0, 0), (1, 0, 0), (3, 83, 0), (3, 84, 0), (3, 85, 0), (1, 0, 0), (1, 0, 0), (1, 0, 0), (3, 86, 0), (3, 87, 0), (3, 88, 0), (3, 89, 0), (3, 90, 0), (3, 91, 0), (3, 92, 0), (1, 0, 0), (1, 0, 0), (1, 0, 0), (3, 93, 0), (1, 0, 0), (3, 94, 0), (3, 95, 0), (3, 96, 0), (1, 0, 0), (1, (-1), (-1)), (3, 97, 0), (3, 98, 0), (3, 99, 0), (1, 0, 0), (1, 0, 0), (1, 0, 0), (1, 0, 0), (1, 0, 0), (1, 0, 0), (1, 0, 0), (3, 100, 0), (3, 101, 0), (1, 0, 0), (1, 0, 0), (3, 102, 0), (1, 0, 0), (3, 103, 0), (3, 104, 0), (1, 0, 0), (3, 105, 0), (3, 106, 0), (3, 107, 0), (1, (-1), (-1)), (3, 108, 0), (3, 109, 0), (3, 110, 0)]) rfl h0 (by decide) (a := 0) (b := 0) rfl; exact ⟨Int.le_trans (by decide) this.1, Int.le_trans this.2 (by decide)⟩
  rw [if_neg e25] at hh
  by_cases e27 : i = 27
  · rw [if_pos e27] at hh; cases hh; subst e27; have := P.gi1 (c := 77) (k := 27) (10, 59, [(1, 0, 0), (3, 78, 0), (3, 79, 0), (3, 80, 0), (3, 81, 0), (3, 82, 0), (1, 0, 0), (1, 0, 0), (1, 0, 0), (1, 0, 0), (3, 83, 0), (3, 84, 0), (3, 85, 0), (1, 0, 0), (1, 0, 0), (1, 0, 0), (3, 86, 0), (3, 87, 0), (3, 88, 0), (3, 89, 0), (3, 90, 0), (3, 91, 0), (3, 92, 0), (1, 0, 0), (1, 0, 0), (1, 0, 0), (3, 93, 0), (1, 0, 0), (3, 94, 0), (3, 95, 0), (3, 96, 0), (1, 0, 0), (1, (-1), (-1)), (3, 97, 0), (3, 98, 0), (3, 99, 0), (1, 0, 0), (1, 0, 0), (1, 0, 0), (1, 0, 0), (1, 0, 0), (1, 0, 0), (1, 0, 0), (3, 100, 0), (3, 101, 0), (1, 0, 0), (1, 0, 0), (3, 102, 0), (1, 0, 0), (3, 103, 0), (3, 104, 0), (1, 0, 0), (3, 105, 0), (3, 106, 0), (3, 107, 0), (1, (-1), (-1)), (3, 108, 0), (3, 109, 0), (3, 110, 0)]) rfl h0 (by decide) (a := 0) (b := 0) rfl; exact ⟨Int.le_trans (by decide) this.1, Int.le_trans this.2 (by decide)⟩
  rw [if_neg e27] at hh
  by_cases e31 : i = 31
  · rw [if_pos e31] at hh; cases hh; subst e31; have := P.gi1 (c := 77) (k := 31) (10, 59, [(1, 0, 0), (3, 78, 0), (3, 79, 0), (3, 80, 0), (3, 81, 0), (3, 82, 0), (1, 0, 0), (1, 0, 0), (1, 0, 0), (1, 0, 0), (3, 83, 0), (3, 84, 0), (3, 85, 0), (1, 0, 0), (1, 0, 0), (1, 0, 0), (3, 86, 0), (3, 87, 0), (3, 88, 0), (3, 89, 0), (3, 90, 0), (3, 91, 0), (3, 92, 0), (1, 0, 0), (1, 0, 0), (1, 0, 0), (3, 93, 0), (1, 0, 0), (3, 94, 0), (3, 95, 0), (3, 96, 0), (1, 0, 0), (1, (-1), (-1)), (3, 97, 0), (3, 98, 0), (3, 99, 0), (1, 0, 0), (1, 0, 0), (1, 0, 0), (1, 0, 0), (1, 0, 0), (1, 0, 0), (1, 0, 0), (3, 100, 0), (3, 101, 0), (1, 0, 0), (1, 0, 0), (3, 102, 0), (1, 0, 0), (3, 103, 0), (3, 104, 0), (1, 0, 0), (3, 105, 0), (3, 106, 0), (3, 107, 0), (1, (-1), (-1)), (3, 108, 0), (3, 109, 0), (3, 110, 0)]) rfl h0 (by decide) (a := 0) (b := 0) rfl; exact ⟨Int.le_trans (by decide) this.1, Int.le_trans this.2 (by decide)⟩
  rw [if_neg e31] at hh
  by_cases e36 : i = 36
  · rw [if_pos e36] at hh; cases hh; subst e36; have := P.gi1 (c := 77) (k := 36) (10, 59, [(1, 0, 0), (3, 78, 0), (3, 79, 0), (3, 80, 0), (3, 81, 0), (3, 82, 0), (1, 0, 0), (1, 0, 0), (1, 0, 0), (1, 0, 0), (3, 83, 0), (3, 84, 0), (3, 85, 0), (1, 0, 0), (1, 0, 0), (1, 0, 0), (3, 86, 0), (3, 87, 0), (3, 88, 0), (3, 89, 0), (3, 90, 0), (3, 91, 0), (3, 92, 0), (1, 0, 0), (1, 0, 0), (1, 0, 0), (3, 93, 0), (1, 0, 0), (3, 94, 0), (3, 95, 0), (3, 96, 0), (1, 0, 0), (1, (-1), (-1)), (3, 97, 0), (3, 98, 0), (3, 99, 0), (1, 0, 0), (1, 0, 0), (1, 0, 0), (1, 0, 0), (1, 0, 0), (1, 0, 0), (1, 0, 0), (3, 100, 0), (3, 101, 0), (1, 0, 0), (1, 0, 0), (3, 102, 0), (1, 0, 0), (3, 103, 0), (3, 104, 0), (1, 0, 0), (3, 105, 0), (3, 106, 0), (3, 107, 0), (1, (-1), (-1)), (3, 108, 0), (3, 109, 0), (3, 110, 0)]) rfl h0 (by decide) (a := 0) (b := 0) rfl; exact ⟨Int.le_trans (by decide) this.1, Int.le_trans this.2 (by decide)⟩
  rw [if_neg e36] at hh
  by_cases e37 : i = 37
  · rw [if_pos e37] at hh; cases hh; subst e37; have := P.gi1 (c := 77) (k := 37) (10, 59, [(1, 0, 0), (3, 78, 0), (3, 79, 0), (3, 80, 0), (3, 81, 0), (3, 82, 0), (1, 0, 0), (1, 0, 0), (1, 0, 0), (1, 0, 0), (3, 83, 0), (3, 84, 0), (3, 85, 0), (1, 0, 0), (1, 0, 0), (1, 0, 0), (3, 86, 0), (3, 87, 0), (3, 88, 0), (3, 89, 0), (3, 90, 0), (3, 91, 0), (3, 92, 0), (1, 0, 0), (1, 0, 0), (1, 0, 0), (3, 93, 0), (1, 0, 0), (3, 94, 0), (3, 95, 0), (3, 96, 0), (1, 0, 0), (1, (-1), (-1)), (3, 97, 0), (3, 98, 0), (3, 99, 0), (1, 0, 0), (1, 0, 0), (1, 0, 0), (1, 0, 0), (1, 0, 0), (1, 0, 0), (1, 0, 0), (3, 100, 0), (3, 101, 0), (1, 0, 0), (1, 0, 0), (3, 102, 0), (1, 0, 0), (3, 103, 0), (3, 104, 0), (1, 0, 0), (3, 105, 0), (3, 106, 0), (3, 107, 0), (1, (-1), (-1)), (3, 108, 0), (3, 109, 0), (3, 110, 0)]) rfl h0 (by decide) (a := 0) (b := 0) rfl; exact ⟨Int.le_trans (by decide) this.1, Int.le_trans this.2 (by decide)⟩
  rw [if_neg e37] at hh
  by_cases e42 : i = 42
  · rw [if_pos e42] at hh; cases hh; subst e42; have := P.gi1 (c := 77) (k := 42) (10, 59, [(1, 0, 0), (3, 78, 0), (3, 79, 0), (3, 80, 0), (3, 81, 0), (3, 82, 0), (1, 0, 0), (1, 0, 0), (1, 0, 0), (1, 0, 0), (3, 83, 0), (3, 84, 0), (3, 85, 0), (1, 0, 0), (1, 0, 0), (1, 0, 0), (3, 86, 0), (3, 87, 0), (3, 88, 0), (3, 89, 0), (3, 90, 0), (3, 91, 0), (3, 92, 0), (1, 0, 0), (1, 0, 0), (1, 0, 0), (3, 93, 0), (1, 0, 0), (3, 94, 0), (3, 95, 0), (3, 96, 0), (1, 0, 0), (1, (-1), (-1)), (3, 97, 0), (3, 98, 0), (3, 99, 0), (1, 0, 0), (1, 0, 0), (1, 0, 0), (1, 0, 0), (1, 0, 0), (1, 0, 0), (1, 0, 0), (3, 100, 0), (3, 101, 0), (1, 0, 0), (1, 0, 0), (3, 102, 0), (1, 0, 0), (3, 103, 0), (3, 104, 0), (1, 0, 0), (3, 105, 0), (3, 106, 0), (3, 107, 0), (1, (-1), (-1)), (3, 108, 0), (3, 109, 0), (3, 110, 0)]) rfl h0 (by decide) (a := 0) (b := 0) rfl; exact ⟨Int.le_trans (by decide) this.1, Int.le_trans this.2 (by decide)⟩
  rw [if_neg e42] at hh
  by_cases e45 : i = 45
  · rw [if_pos e45] at hh; cases hh; subst e45; have := P.gi1 (c := 77) (k := 45) (10, 59, [(1, 0, 0), (3, 78, 0), (3, 79, 0), (3, 80, 0), (3, 81, 0), (3, 82, 0), (1, 0, 0), (1, 0, 0), (1, 0, 0), (1, 0, 0), (3, 83, 0), (3, 84, 0), (3, 85, 0), (1, 0, 0), (1, 0, 0), (1, 0, 0), (3, 86, 0), (3, 87, 0), (3, 88, 0), (3, 89, 0), (3, 90, 0), (3, 91, 0), (3, 92, 0), (1, 0, 0), (1, 0, 0), (1, 0, 0), (3, 93, 0), (1, 0, 0), (3, 94, 0), (3, 95, 0), (3, 96, 0), (1, 0, 0), (1, (-1), (-1)), (3, 97, 0), (3, 98, 0), (3, 99, 0), (1, 0, 0), (1, 0, 0), (1, 0, 0), (1, 0, 0), (1, 0, 0), (1, 0, 0), (1, 0, 0), (3, 100, 0), (3, 101, 0), (1, 0, 0), (1, 0, 0), (3, 102, 0), (1, 0, 0), (3, 103, 0), (3, 104, 0), (1, 0, 0), (3, 105, 0), (3, 106, 0), (3, 107, 0), (1, (-1), (-1)), (3, 108, 0), (3, 109, 0), (3, 110, 0)]) rfl h0 (by decide) (a := 0) (b := 0) rfl; exact ⟨Int.le_trans (by decide) this.1, Int.le_trans this.2 (by decide)⟩
  rw [if_neg e45] at hh
  by_cases e46 : i = 46
  · rw [if_pos e46] at hh; cases hh; subst e46; have := P.gi1 (c := 77) (k := 46) (10, 59, [(1, 0, 0), (3, 78, 0), (3, 79, 0), (3, 80, 0), (3, 81, 0), (3, 82, 0), (1, 0, 0), (1, 0, 0), (1, 0, 0), (1, 0, 0), (3, 83, 0), (3, 84, 0), (3, 85, 0), (1, 0, 0), (1, 0, 0), (1, 0, 0), (3, 86, 0), (3, 87, 0), (3, 88, 0), (3, 89, 0), (3, 90, 0), (3, 91, 0), (3, 92, 0), (1, 0, 0), (1, 0, 0), (1, 0, 0), (3, 93, 0), (1, 0, 0), (3, 94, 0), (3, 95, 0), (3, 96, 0), (1, 0, 0), (1, (-1), (-1)), (3, 97, 0), (3, 98, 0), (3, 99, 0), (1, 0, 0), (1, 0, 0), (1, 0, 0), (1, 0, 0), (1, 0, 0), (1, 0, 0), (1, 0, 0), (3, 100, 0), (3, 101, 0), (1, 0, 0), (1, 0, 0), (3, 102, 0), (1, 0, 0), (3, 103, 0), (3, 104, 0), (1, 0, 0), (3, 105, 0), (3, 106, 0), (3, 107, 0), (1, (-1), (-1)), (3, 108, 0), (3, 109, 0), (3, 110, 0)]) rfl h0 (by decide) (a := 0) (b := 0) rfl; exact ⟨Int.le_trans (by decide) this.1, Int.le_trans this.2 (by decide)⟩
  rw [if_neg e46] at hh
  by_cases e48 : i = 48
  · rw [if_pos e48] at hh; cases hh; subst e48; have := P.gi1 (c := 77) (k := 48) (10, 59, [(1, 0, 0), (3, 78, 0), (3, 79, 0), (3, 80, 0), (3, 81, 0), (3, 82, 0), (1, 0, 0), (1, 0, 0), (1, 0, 0), (1, 0, 0), (3, 83, 0), (3, 84, 0), (3, 85, 0), (1, 0, 0), (1, 0, 0), (1, 0, 0), (3, 86, 0), (3, 87, 0), (3, 88, 0), (3, 89, 0), (3, 90, 0), (3, 91, 0), (3, 92, 0), (1, 0, 0), (1, 0, 0), (1, 0, 0), (3, 93, 0), (1, 0, 0), (3, 94, 0), (3, 95, 0), (3, 96, 0), (1, 0, 0), (1, (-1), (-1)), (3, 97, 0), (3, 98, 0), (3, 99, 0), (1, 0, 0), (1, 0, 0), (1, 0, 0), (1, 0, 0), (1, 0, 0), (1, 0, 0), (1, 0, 0), (3, 100, 0), (3, 101, 0), (1, 0, 0), (1, 0, 0), (3, 102, 0), (1, 0, 0), (3, 103, 0), (3, 104, 0), (1, 0, 0), (3, 105, 0), (3, 106, 0), (3, 107, 0), (1, (-1), (-1)), (3, 108, 0), (3, 109, 0), (3, 110, 0)]) rfl h0 (by decide) (a := 0) (b := 0) rfl; exact ⟨Int.le_trans (by decide) this.1, Int.le_trans this.2 (by decide)⟩
  rw [if_neg e48] at hh
  by_cases e51 : i = 51
  · rw [if_pos e51] at hh; cases hh; subst e51; have := P.gi1 (c := 77) (k := 51) (10, 59, [(1, 0, 0), (3, 78, 0), (3, 79, 0), (3, 80, 0), (3, 81, 0), (3, 82, 0), (1, 0, 0), (1, 0, 0), (1, 0, 0), (1, 0, 0), (3, 83, 0), (3, 84, 0), (3, 85, 0), (1, 0, 0), (1, 0, 0), (1, 0, 0), (3, 86, 0), (3, 87, 0), (3, 88, 0), (3, 89, 0), (3, 90, 0), (3, 91, 0), (3, 92, 0), (1, 0, 0), (1, 0, 0), (1, 0, 0), (3, 93, 0), (1, 0, 0), (3, 94, 0), (3, 95, 0), (3, 96, 0), (1, 0, 0), (1, (-1), (-1)), (3, 97, 0), (3, 98, 0), (3, 99, 0), (1, 0, 0), (1, 0, 0), (1, 0, 0), (1, 0, 0), (1, 0, 0), (1, 0, 0), (1, 0, 0), (3, 100, 0), (3, 101, 0), (1, 0, 0), (1, 0, 0), (3, 102, 0), (1, 0, 0), (3, 103, 0), (3, 104, 0), (1, 0, 0), (3, 105, 0), (3, 106, 0), (3, 107, 0), (1, (-1), (-1)), (3, 108, 0), (3, 109, 0), (3, 110, 0)]) rfl h0 (by decide) (a := 0) (b := 0) rfl; exact ⟨Int.le_trans (by decide) this.1, Int.le_trans this.2 (by decide)⟩
  rw [if_neg e51] at hh
  by_cases e55 : i = 55
  · rw [if_pos e55] at hh; cases hh; subst e55; have := P.gi1 (c := 77) (k := 55) (10, 59, [(1, 0, 0), (3, 78, 0), (3, 79, 0), (3, 80, 0), (3, 81, 0), (3, 82, 0), (1, 0, 0), (1, 0, 0), (1, 0, 0), (1, 0, 0), (3, 83, 0), (3, 84, 0), (3, 85, 0), (1, 0, 0), (1, 0, 0), (1, 0, 0), (3, 86, 0), (3, 87, 0), (3, 88, 0), (3, 89, 0), (3, 90, 0), (3, 91, 0), (3, 92, 0), (1, 0, 0), (1, 0, 0), (1, 0, 0), (3, 93, 0), (1, 0, 0), (3, 94, 0), (3, 95, 0), (3, 96, 0), (1, 0, 0), (1, (-1), (-1)), (3, 97, 0), (3, 98, 0), (3, 99, 0), (1, 0, 0), (1, 0, 0), (1, 0, 0), (1, 0, 0), (1, 0, 0), (1, 0, 0), (1, 0, 0), (3, 100, 0), (3, 101, 0), (1, 0, 0), (1, 0, 0), (3, 102, 0), (1, 0, 0), (3, 103, 0), (3, 104, 0), (1, 0, 0), (3, 105, 0), (3, 106, 0), (3, 107, 0), (1, (-1), (-1)), (3, 108, 0), (3, 109, 0), (3, 110, 0)]) rfl h0 (by decide) (a := (-1)) (b := (-1)) rfl; exact ⟨Int.le_trans (by decide) this.1, Int.le_trans this.2 (by decide)⟩
  rw [if_neg e55] at hh
  cases hh
set_option maxRecDepth 4000 in
theorem ic_78 {base : Nat} {M0 M : mH} (P : Ps base shA M0 M) (h0 : M0.1 = 0) (i lo hi : Int) (h : rg 78 i = some (lo, hi)) : lo ≤ gi M 78 i ∧ gi M 78 i ≤ hi := by
  have z := P.giA (c := 78) (1000, 6883, [(1, 0, 0)]) rfl h0 (a := 0) (b := 0) (fun k _ => rfl) (by decide) i
  have hh : rgK i = some (lo, hi) := h
  have y := rgK0 hh
  omega
set_option maxRecDepth 4000 in
theorem ic_79 {base : Nat} {M0 M : mH} (P : Ps base shA M0 M) (h0 : M0.1 = 0) (i lo hi : Int) (h : rg 79 i = some (lo, hi)) : lo ≤ gi M 79 i ∧ gi M 79 i ≤ hi := by
  have z := P.giA (c := 79) (1000, 13766, [(1, 0, 0)]) rfl h0 (a := 0) (b := 0) (fun k _ => rfl) (by decide) i
  have y : lo ≤ 0 ∧ 0 ≤ hi := by
    have hh : (if i < 6883 then rgK i else rgK (i - 6883)) = some (lo, hi) := h
    split at hh
    · exact rgK0 hh
    · exact rgK0 hh
  omega
set_option maxRecDepth 4000 in
theorem ic_80 {base : Nat} {M0 M : mH} (P : Ps base shA M0 M) (h0 : M0.1 = 0) (i lo hi : Int) (h : rg 80 i = some (lo, hi)) : lo ≤ gi M 80 i ∧ gi M 80 i ≤ hi := by
  have z := P.giA (c := 80) (1002, 2, [(1, 0, 0)]) rfl h0 (a := 0) (b := 0) (fun k _ => rfl) (by decide) i
  have hh : some (0, 1) = some (lo, hi) := h
  cases hh
  omega
set_option maxRecDepth 4000 in
theorem ic_81 {base : Nat} {M0 M : mH} (P : Ps base shA M0 M) (h0 : M0.1 = 0) (i lo hi : Int) (h : rg 81 i = some (lo, hi)) : lo ≤ gi M 81 i ∧ gi M 81 i ≤ hi := by
  have z := P.giA (c := 81) (1000, 1111, [(1, 0, 0)]) rfl h0 (a := 0) (b := 0) (fun k _ => rfl) (by decide) i
  have hh : some (0, 3) = some (lo, hi) := h
  cases hh
  omega
set_option maxRecDepth 4000 in
theorem ic_82 {base : Nat} {M0 M : mH} (P : Ps base shA M0 M) (h0 : M0.1 = 0) (i lo hi : Int) (h : rg 82 i = some (lo, hi)) : lo ≤ gi M 82 i ∧ gi M 82 i ≤ hi := by
  have z := P.giA (c := 82) (1000, 3333, [(1, 0, 0)]) rfl h0 (a := 0) (b := 0) (fun k _ => rfl) (by decide) i
  have hh : some (0, 9) = some (lo, hi) := h
  cases hh
  omega
set_option maxRecDepth 4000 in
theorem ic_83 {base : Nat} {M0 M : mH} (P : Ps base shA M0 M) (h0 : M0.1 = 0) (i lo hi : Int) (h : rg 83 i = some (lo, hi)) : lo ≤ gi M 83 i ∧ gi M 83 i ≤ hi := by
  cases h
set_option maxRecDepth 4000 in
theorem ic_84 {base : Nat} {M0 M : mH} (P : Ps base shA M0 M) (h0 : M0.1 = 0) (i lo hi : Int) (h : rg 84 i = some (lo, hi)) : lo ≤ gi M 84 i ∧ gi M 84 i ≤ hi := by
  have z := P.giA (c := 84) (1000, 3, [(1, 0, 0)]) rfl h0 (a := 0) (b := 0) (fun k _ => rfl) (by decide) i
  have hh : some ((-1), 7) = some (lo, hi) := h
  cases hh
  omega
set_option maxRecDepth 4000 in
theorem ic_85 {base : Nat} {M0 M : mH} (P : Ps base shA M0 M) (h0 : M0.1 = 0) (i lo hi : Int) (h : rg 85 i = some (lo, hi)) : lo ≤ gi M 85 i ∧ gi M 85 i ≤ hi := by
  have z := P.giA (c := 85) (1000, 3, [(1, 0, 0)]) rfl h0 (a := 0) (b := 0) (fun k _ => rfl) (by decide) i
  have hh : some ((-1), 11) = some (lo, hi) := h
  cases hh
  omega
set_option maxRecDepth 4000 in
theorem ic_86 {base : Nat} {M0 M : mH} (P : Ps base shA M0 M) (h0 : M0.1 = 0) (i lo hi : Int) (h : rg 86 i = some (lo, hi)) : lo ≤ gi M 86 i ∧ gi M 86 i ≤ hi := by
  cases h
set_option maxRecDepth 4000 in
theorem ic_87 {base : Nat} {M0 M : mH} (P : Ps base shA M0 M) (h0 : M0.1 = 0) (i lo hi : Int) (h : rg 87 i = some (lo, hi)) : lo ≤ gi M 87 i ∧ gi M 87 i ≤ hi := by
  cases h
set_option maxRecDepth 4000 in
theorem ic_88 {base : Nat} {M0 M : mH} (P : Ps base shA M0 M) (h0 : M0.1 = 0) (i lo hi : Int) (h : rg 88 i = some (lo, hi)) : lo ≤ gi M 88 i ∧ gi M 88 i ≤ hi := by
  have z := P.giA (c := 88) (1002, 16, [(1, 0, 0)]) rfl h0 (a := 0) (b := 0) (fun k _ => rfl) (by decide) i
  have hh : some (0, 1) = some (lo, hi) := h
  cases hh
  omega
set_option maxRecDepth 4000 in
theorem ic_89 {base : Nat} {M0 M : mH} (P : Ps base shA M0 M) (h0 : M0.1 = 0) (i lo hi : Int) (h : rg 89 i = some (lo, hi)) : lo ≤ gi M 89 i ∧ gi M 89 i ≤ hi := by
  have z := P.giA (c := 89) (1000, 16, [(1, 0, 0)]) rfl h0 (a := 0) (b := 0) (fun k _ => rfl) (by decide) i
  have hh : some (0, 8) = some (lo, hi) := h
  cases hh
  omega
set_option maxRecDepth 4000 in
theorem ic_90 {base : Nat} {M0 M : mH} (P : Ps base shA M0 M) (h0 : M0.1 = 0) (i lo hi : Int) (h : rg 90 i = some (lo, hi)) : lo ≤ gi M 90 i ∧ gi M 90 i ≤ hi := by
  have z := P.giA (c := 90) (1000, 144, [(1, 0, 0)]) rfl h0 (a := 0) (b := 0) (fun k _ => rfl) (by decide) i
  have hh : some (0, 143) = some (lo, hi) := h
  cases hh
  omega
set_option maxRecDepth 4000 in
theorem ic_91 {base : Nat} {M0 M : mH} (P : Ps base shA M0 M) (h0 : M0.1 = 0) (i lo hi : Int) (h : rg 91 i = some (lo, hi)) : lo ≤ gi M 91 i ∧ gi M 91 i ≤ hi := by
  cases h
set_option maxRecDepth 4000 in
theorem ic_92 {base : Nat} {M0 M : mH} (P : Ps base shA M0 M) (h0 : M0.1 = 0) (i lo hi : Int) (h : rg 92 i = some (lo, hi)) : lo ≤ gi M 92 i ∧ gi M 92 i ≤ hi := by
  have z := P.giA (c := 92) (1000, 16, [(1, 0, 0)]) rfl h0 (a := 0) (b := 0) (fun k _ => rfl) (by decide) i
  have hh : some (0, 24) = some (lo, hi) := h
  cases hh
  omega
set_option maxRecDepth 4000 in
theorem ic_93 {base : Nat} {M0 M : mH} (P : Ps base shA M0 M) (h0 : M0.1 = 0) (i lo hi : Int) (h : rg 93 i = some (lo, hi)) : lo ≤ gi M 93 i ∧ gi M 93 i ≤ hi := by
  have z := P.giA (c := 93) (1000, 17, [(1, 0, 0)]) rfl h0 (a := 0) (b := 0) (fun k _ => rfl) (by decide) i
  have hh : some (0, 143) = some (lo, hi) := h
  cases hh
  omega
set_option maxRecDepth 4000 in
noncomputable def w94 : dC := (1003, 104, [(1, (-128), 127), (1, (-128), 127), (1, (-128), 127), (1, (-128), 127), (1, (-128), 127), (1, (-128), 127), (1, (-128), 127), (1, (-128), 127), (1, (-128), 127), (1, (-128), 127), (1, (-128), 127), (1, (-128), 127), (1, (-128), 127), (1, (-128), 127), (1, (-128), 127), (1, (-128), 127), (1, (-128), 127), (1, (-128), 127), (1, (-128), 127), (1, (-128), 127), (1, (-128), 127), (1, (-128), 127), (1, (-128), 127), (1, (-128), 127), (1, (-128), 127), (1, (-128), 127), (1, (-128), 127), (1, (-128), 127), (1, (-128), 127), (1, (-128), 127), (1, (-128), 127), (1, (-128), 127), (1, (-128), 127), (1, (-128), 127), (1, (-128), 127), (1, (-128), 127), (1, (-128), 127), (1, (-128), 127), (1, (-128), 127), (1, (-128), 127), (1, (-128), 127), (1, (-128), 127), (1, (-128), 127), (1, (-128), 127), (1, (-128), 127), (1, (-128), 127), (1, (-128), 127), (1, (-128), 127), (1, (-128), 127), (1, (-128), 127), (1, (-128), 127), (1, (-128), 127), (1, (-128), 127), (1, (-128), 127), (1, (-128), 127), (1, (-128), 127), (1, (-128), 127), (1, (-128), 127), (1, (-128), 127), (1, (-128), 127), (1, (-128), 127), (1, (-128), 127), (1, (-128), 127), (1, (-128), 127), (1, (-128), 127), (1, (-128), 127), (1, (-128), 127), (1, (-128), 127), (1, (-128), 127), (1, (-128), 127), (1, (-128), 127), (1, (-128), 127), (1, (-128), 127), (1, (-128), 127), (1, (-128), 127), (1, (-128), 127), (1, (-128), 127), (1, (-128), 127), (1, (-128), 127), (1, (-128), 127), (1, (-128), 127), (1, (-128), 127), (1, (-128), 127), (1, (-128), 127), (1, (-128), 127), (1, (-128), 127), (1, (-128), 127), (1, (-128), 127), (1, (-128), 127), (1, (-128), 127), (1, (-128), 127), (1, (-128), 127), (1, (-128), 127), (1, (-128), 127), (1, (-128), 127), (1, (-128), 127), (1, (-128), 127), (1, (-128), 127), (1, (-128), 127), (1, (-128), 127), (1, (-128), 127), (1, (-128), 127), (1, (-128), 127), (1, 32, 32)])
set_option maxRecDepth 4000 in
theorem ic_94 {base : Nat} {M0 M : mH} (P : Ps base shA M0 M) (h0 : M0.1 = 0) (i lo hi : Int) (h : rg 94 i = some (lo, hi)) : lo ≤ gi M 94 i ∧ gi M 94 i ≤ hi := by
  have hh : some ((-128), 127) = some (lo, hi) := h
  cases hh
  obtain ⟨-, -, z⟩ := P.2.2.2 94 w94 rfl
  rw [h0, Nat.zero_add] at z
  have key : ∀ k, k < 104 → ∃ x y : Int, kc w94 k = (1, x, y) ∧ -128 ≤ x ∧ y ≤ 127 := by
    intro k hk
    by_cases e : k = 103
    · subst e; exact ⟨32, 32, rfl, by decide, by decide⟩
    · refine ⟨-128, 127, ?_, by decide, by decide⟩
      have : ((List.range 103).all fun k => kc w94 k == (1, -128, 127)) = true := by decide
      have := List.all_eq_true.mp this k (List.mem_range.mpr (by omega))
      simpa using this
  by_cases hi0 : 0 ≤ i
  · by_cases hn : i.toNat < 104
    · obtain ⟨x, y, e, p, r⟩ := key _ hn
      have := P.gi1 (c := 94) w94 rfl h0 hn e
      rw [show ((i.toNat : Nat) : Int) = i by omega] at this
      omega
    · have := (z i.toNat).2 (by show 104 ≤ i.toNat; omega)
      unfold gi
      rw [if_pos hi0, this]
      decide
  · unfold gi
    rw [if_neg hi0]
    decide
set_option maxRecDepth 4000 in
theorem ic_95 {base : Nat} {M0 M : mH} (P : Ps base shA M0 M) (h0 : M0.1 = 0) (i lo hi : Int) (h : rg 95 i = some (lo, hi)) : lo ≤ gi M 95 i ∧ gi M 95 i ≤ hi := by
  have z := P.giA (c := 95) (1003, 400, [(1, 0, 0)]) rfl h0 (a := 0) (b := 0) (fun k _ => rfl) (by decide) i
  have hh : some ((-128), 127) = some (lo, hi) := h
  cases hh
  omega
set_option maxRecDepth 4000 in
theorem ic_96 {base : Nat} {M0 M : mH} (P : Ps base shA M0 M) (h0 : M0.1 = 0) (i lo hi : Int) (h : rg 96 i = some (lo, hi)) : lo ≤ gi M 96 i ∧ gi M 96 i ≤ hi := by
  cases h
set_option maxRecDepth 4000 in
theorem ic_97 {base : Nat} {M0 M : mH} (P : Ps base shA M0 M) (h0 : M0.1 = 0) (i lo hi : Int) (h : rg 97 i = some (lo, hi)) : lo ≤ gi M 97 i ∧ gi M 97 i ≤ hi := by
  cases h
set_option maxRecDepth 4000 in
theorem ic_98 {base : Nat} {M0 M : mH} (P : Ps base shA M0 M) (h0 : M0.1 = 0) (i lo hi : Int) (h : rg 98 i = some (lo, hi)) : lo ≤ gi M 98 i ∧ gi M 98 i ≤ hi := by
  cases h
set_option maxRecDepth 4000 in
theorem ic_99 {base : Nat} {M0 M : mH} (P : Ps base shA M0 M) (h0 : M0.1 = 0) (i lo hi : Int) (h : rg 99 i = some (lo, hi)) : lo ≤ gi M 99 i ∧ gi M 99 i ≤ hi := by
  have z := P.giA (c := 99) (1000, 401, [(1, 0, 0)]) rfl h0 (a := 0) (b := 0) (fun k _ => rfl) (by decide) i
  have hh : some (0, 400) = some (lo, hi) := h
  cases hh
  omega
set_option maxRecDepth 4000 in
theorem ic_100 {base : Nat} {M0 M : mH} (P : Ps base shA M0 M) (h0 : M0.1 = 0) (i lo hi : Int) (h : rg 100 i = some (lo, hi)) : lo ≤ gi M 100 i ∧ gi M 100 i ≤ hi := by
  cases h
set_option maxRecDepth 4000 in
theorem ic_101 {base : Nat} {M0 M : mH} (P : Ps base shA M0 M) (h0 : M0.1 = 0) (i lo hi : Int) (h : rg 101 i = some (lo, hi)) : lo ≤ gi M 101 i ∧ gi M 101 i ≤ hi := by
  cases h
set_option maxRecDepth 4000 in
theorem ic_102 {base : Nat} {M0 M : mH} (P : Ps base shA M0 M) (h0 : M0.1 = 0) (i lo hi : Int) (h : rg 102 i = some (lo, hi)) : lo ≤ gi M 102 i ∧ gi M 102 i ≤ hi := by
  cases h
set_option maxRecDepth 4000 in
theorem ic_103 {base : Nat} {M0 M : mH} (P : Ps base shA M0 M) (h0 : M0.1 = 0) (i lo hi : Int) (h : rg 103 i = some (lo, hi)) : lo ≤ gi M 103 i ∧ gi M 103 i ≤ hi := by
  cases h
set_option maxRecDepth 4000 in
theorem ic_104 {base : Nat} {M0 M : mH} (P : Ps base shA M0 M) (h0 : M0.1 = 0) (i lo hi : Int) (h : rg 104 i = some (lo, hi)) : lo ≤ gi M 104 i ∧ gi M 104 i ≤ hi := by
  have z := P.giA (c := 104) (1000, 6, [(1, 0, 0)]) rfl h0 (a := 0) (b := 0) (fun k _ => rfl) (by decide) i
  have hh : some (0, 5) = some (lo, hi) := h
  cases hh
  omega
set_option maxRecDepth 4000 in
theorem ic_105 {base : Nat} {M0 M : mH} (P : Ps base shA M0 M) (h0 : M0.1 = 0) (i lo hi : Int) (h : rg 105 i = some (lo, hi)) : lo ≤ gi M 105 i ∧ gi M 105 i ≤ hi := by
  cases h
set_option maxRecDepth 4000 in
theorem ic_106 {base : Nat} {M0 M : mH} (P : Ps base shA M0 M) (h0 : M0.1 = 0) (i lo hi : Int) (h : rg 106 i = some (lo, hi)) : lo ≤ gi M 106 i ∧ gi M 106 i ≤ hi := by
  have z := P.giA (c := 106) (1000, 121, [(1, 0, 0)]) rfl h0 (a := 0) (b := 0) (fun k _ => rfl) (by decide) i
  have hh : some (0, 60) = some (lo, hi) := h
  cases hh
  omega
set_option maxRecDepth 4000 in
theorem ic_107 {base : Nat} {M0 M : mH} (P : Ps base shA M0 M) (h0 : M0.1 = 0) (i lo hi : Int) (h : rg 107 i = some (lo, hi)) : lo ≤ gi M 107 i ∧ gi M 107 i ≤ hi := by
  cases h
set_option maxRecDepth 4000 in
theorem ic_108 {base : Nat} {M0 M : mH} (P : Ps base shA M0 M) (h0 : M0.1 = 0) (i lo hi : Int) (h : rg 108 i = some (lo, hi)) : lo ≤ gi M 108 i ∧ gi M 108 i ≤ hi := by
  cases h
set_option maxRecDepth 4000 in
theorem ic_109 {base : Nat} {M0 M : mH} (P : Ps base shA M0 M) (h0 : M0.1 = 0) (i lo hi : Int) (h : rg 109 i = some (lo, hi)) : lo ≤ gi M 109 i ∧ gi M 109 i ≤ hi := by
  cases h
set_option maxRecDepth 4000 in
theorem ic_110 {base : Nat} {M0 M : mH} (P : Ps base shA M0 M) (h0 : M0.1 = 0) (i lo hi : Int) (h : rg 110 i = some (lo, hi)) : lo ≤ gi M 110 i ∧ gi M 110 i ≤ hi := by
  have z := P.giA (c := 110) (1000, 8, [(1, 0, 0)]) rfl h0 (a := 0) (b := 0) (fun k _ => rfl) (by decide) i
  have hh : some (0, 24) = some (lo, hi) := h
  cases hh
  omega
set_option maxRecDepth 4000 in
theorem icA {base : Nat} {M0 M : mH} (P : Ps base shA M0 M) (h0 : M0.1 = 0) : ∀ c, c < 111 → ∀ i lo hi, rg c i = some (lo, hi) → lo ≤ gi M c i ∧ gi M c i ≤ hi := fun c hc i lo hi h => match c, hc, h with
  | 0, _, h => ic_0 P h0 i lo hi h
  | 1, _, h => ic_1 P h0 i lo hi h
  | 2, _, h => ic_2 P h0 i lo hi h
  | 3, _, h => ic_3 P h0 i lo hi h
  | 4, _, h => ic_4 P h0 i lo hi h
  | 5, _, h => ic_5 P h0 i lo hi h
  | 6, _, h => ic_6 P h0 i lo hi h
  | 7, _, h => ic_7 P h0 i lo hi h
  | 8, _, h => ic_8 P h0 i lo hi h
  | 9, _, h => ic_9 P h0 i lo hi h
  | 10, _, h => ic_10 P h0 i lo hi h
  | 11, _, h => ic_11 P h0 i lo hi h
  | 12, _, h => ic_12 P h0 i lo hi h
  | 13, _, h => ic_13 P h0 i lo hi h
  | 14, _, h => ic_14 P h0 i lo hi h
  | 15, _, h => ic_15 P h0 i lo hi h
  | 16, _, h => ic_16 P h0 i lo hi h
  | 17, _, h => ic_17 P h0 i lo hi h
  | 18, _, h => ic_18 P h0 i lo hi h
  | 19, _, h => ic_19 P h0 i lo hi h
  | 20, _, h => ic_20 P h0 i lo hi h
  | 21, _, h => ic_21 P h0 i lo hi h
  | 22, _, h => ic_22 P h0 i lo hi h
  | 23, _, h => ic_23 P h0 i lo hi h
  | 24, _, h => ic_24 P h0 i lo hi h
  | 25, _, h => ic_25 P h0 i lo hi h
  | 26, _, h => ic_26 P h0 i lo hi h
  | 27, _, h => ic_27 P h0 i lo hi h
  | 28, _, h => ic_28 P h0 i lo hi h
  | 29, _, h => ic_29 P h0 i lo hi h
  | 30, _, h => ic_30 P h0 i lo hi h
  | 31, _, h => ic_31 P h0 i lo hi h
  | 32, _, h => ic_32 P h0 i lo hi h
  | 33, _, h => ic_33 P h0 i lo hi h
  | 34, _, h => ic_34 P h0 i lo hi h
  | 35, _, h => ic_35 P h0 i lo hi h
  | 36, _, h => ic_36 P h0 i lo hi h
  | 37, _, h => ic_37 P h0 i lo hi h
  | 38, _, h => ic_38 P h0 i lo hi h
  | 39, _, h => ic_39 P h0 i lo hi h
  | 40, _, h => ic_40 P h0 i lo hi h
  | 41, _, h => ic_41 P h0 i lo hi h
  | 42, _, h => ic_42 P h0 i lo hi h
  | 43, _, h => ic_43 P h0 i lo hi h
  | 44, _, h => ic_44 P h0 i lo hi h
  | 45, _, h => ic_45 P h0 i lo hi h
  | 46, _, h => ic_46 P h0 i lo hi h
  | 47, _, h => ic_47 P h0 i lo hi h
  | 48, _, h => ic_48 P h0 i lo hi h
  | 49, _, h => ic_49 P h0 i lo hi h
  | 50, _, h => ic_50 P h0 i lo hi h
  | 51, _, h => ic_51 P h0 i lo hi h
  | 52, _, h => ic_52 P h0 i lo hi h
  | 53, _, h => ic_53 P h0 i lo hi h
  | 54, _, h => ic_54 P h0 i lo hi h
  | 55, _, h => ic_55 P h0 i lo hi h
  | 56, _, h => ic_56 P h0 i lo hi h
  | 57, _, h => ic_57 P h0 i lo hi h
  | 58, _, h => ic_58 P h0 i lo hi h
  | 59, _, h => ic_59 P h0 i lo hi h
  | 60, _, h => ic_60 P h0 i lo hi h
  | 61, _, h => ic_61 P h0 i lo hi h
  | 62, _, h => ic_62 P h0 i lo hi h
  | 63, _, h => ic_63 P h0 i lo hi h
  | 64, _, h => ic_64 P h0 i lo hi h
  | 65, _, h => ic_65 P h0 i lo hi h
  | 66, _, h => ic_66 P h0 i lo hi h
  | 67, _, h => ic_67 P h0 i lo hi h
  | 68, _, h => ic_68 P h0 i lo hi h
  | 69, _, h => ic_69 P h0 i lo hi h
  | 70, _, h => ic_70 P h0 i lo hi h
  | 71, _, h => ic_71 P h0 i lo hi h
  | 72, _, h => ic_72 P h0 i lo hi h
  | 73, _, h => ic_73 P h0 i lo hi h
  | 74, _, h => ic_74 P h0 i lo hi h
  | 75, _, h => ic_75 P h0 i lo hi h
  | 76, _, h => ic_76 P h0 i lo hi h
  | 77, _, h => ic_77 P h0 i lo hi h
  | 78, _, h => ic_78 P h0 i lo hi h
  | 79, _, h => ic_79 P h0 i lo hi h
  | 80, _, h => ic_80 P h0 i lo hi h
  | 81, _, h => ic_81 P h0 i lo hi h
  | 82, _, h => ic_82 P h0 i lo hi h
  | 83, _, h => ic_83 P h0 i lo hi h
  | 84, _, h => ic_84 P h0 i lo hi h
  | 85, _, h => ic_85 P h0 i lo hi h
  | 86, _, h => ic_86 P h0 i lo hi h
  | 87, _, h => ic_87 P h0 i lo hi h
  | 88, _, h => ic_88 P h0 i lo hi h
  | 89, _, h => ic_89 P h0 i lo hi h
  | 90, _, h => ic_90 P h0 i lo hi h
  | 91, _, h => ic_91 P h0 i lo hi h
  | 92, _, h => ic_92 P h0 i lo hi h
  | 93, _, h => ic_93 P h0 i lo hi h
  | 94, _, h => ic_94 P h0 i lo hi h
  | 95, _, h => ic_95 P h0 i lo hi h
  | 96, _, h => ic_96 P h0 i lo hi h
  | 97, _, h => ic_97 P h0 i lo hi h
  | 98, _, h => ic_98 P h0 i lo hi h
  | 99, _, h => ic_99 P h0 i lo hi h
  | 100, _, h => ic_100 P h0 i lo hi h
  | 101, _, h => ic_101 P h0 i lo hi h
  | 102, _, h => ic_102 P h0 i lo hi h
  | 103, _, h => ic_103 P h0 i lo hi h
  | 104, _, h => ic_104 P h0 i lo hi h
  | 105, _, h => ic_105 P h0 i lo hi h
  | 106, _, h => ic_106 P h0 i lo hi h
  | 107, _, h => ic_107 P h0 i lo hi h
  | 108, _, h => ic_108 P h0 i lo hi h
  | 109, _, h => ic_109 P h0 i lo hi h
  | 110, _, h => ic_110 P h0 i lo hi h
  | c + 111, hc, _ => absurd hc (by omega)
set_option maxRecDepth 4000 in
theorem IT.ofPs {base : Nat} {M0 M : mH} (P : Ps base shA M0 M) (h0 : M0.1 = 0) : IT M := fun c i lo hi h => by
  by_cases hc : c < 111
  · exact icA P h0 c hc i lo hi h
  · rw [rg_dyn (by omega)] at h; cases h
set_option maxRecDepth 100000 in
theorem shA_ok : ((List.range 111).all fun c => match shL[c]?, shA[c]? with
    | some q, some z => okD q z
    | _, _ => false) = true := by decide +kernel
theorem HI.ofPs {base : Nat} {M0 M : mH} (P : Ps base shA M0 M) (h0 : M0.1 = 0) : HI base M := ⟨Sh.ofPs P h0 rfl shA_ok, IT.ofPs P h0⟩
