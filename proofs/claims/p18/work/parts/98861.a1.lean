/-! TEXTS: bytes, TOKENS, what they are. -/
noncomputable def isSm (b : Int) : Prop := 97 ≤ b ∧ b ≤ 122
noncomputable def isDg (b : Int) : Prop := 48 ≤ b ∧ b ≤ 57
/-- the end of the TOKEN at k -/
noncomputable def TE (T : Int → Int) (s k e : Int) : Prop := (k < e ∧ e ≤ s) ∧ (∀ j : Int, k ≤ j → j < e → (isSm (T k) → isSm (T j)) ∧ (isDg (T k) → isDg (T j))) ∧ (e < s → (isSm (T k) → ¬ isSm (T e)) ∧ (isDg (T k) → ¬ isDg (T e))) ∧ (¬ isSm (T k) → ¬ isDg (T k) → e = k + 1)
/-- the first byte from k on that is no blank -/
noncomputable def NB (T : Int → Int) (s k e : Int) : Prop := (k ≤ e ∧ e ≤ s) ∧ (∀ j : Int, k ≤ j → j < e → T j = 32) ∧ (e < s → T e ≠ 32)
section
variable {T : Int → Int} {s k e e' : Int}
theorem TE.uniq (h : TE T s k e) (h' : TE T s k e') : e = e' := by
  have key : ∀ a b : Int, TE T s k a → TE T s k b → ¬ a < b := by
    intro a b ⟨p1, p2, p3, p4⟩ ⟨q1, q2, q3, q4⟩ hab
    have w := q2 a (by omega) hab
    have r := p3 (by omega)
    by_cases c : isSm (T k)
    · exact r.1 c (w.1 c)
    · by_cases c2 : isDg (T k)
      · exact r.2 c2 (w.2 c2)
      · have := p4 c c2
        have := q4 c c2
        omega
  have a := key e e' h h'
  have b := key e' e h' h
  omega
theorem NB.uniq (h : NB T s k e) (h' : NB T s k e') : e = e' := by
  have key : ∀ a b : Int, NB T s k a → NB T s k b → ¬ a < b := by
    intro a b ⟨p1, p2, p3⟩ ⟨q1, q2, q3⟩ hab
    exact p3 (by omega) (q2 a p1.1 hab)
  have a := key e e' h h'
  have b := key e' e h' h
  omega
end
/-- where the TOKENS begin -/
noncomputable def TKS (T : Int → Int) (s n : Int) (st : Int → Int) : Prop := 0 ≤ n ∧ NB T s 0 (st 0) ∧ (∀ j : Int, 0 ≤ j → j < n → st j < s ∧ ∃ e, TE T s (st j) e ∧ NB T s e (st (j + 1))) ∧ st n = s
theorem TKS.uniq {T st st' : Int → Int} {s n n' : Int} (h : TKS T s n st) (h' : TKS T s n' st') : n = n' ∧ ∀ j : Int, 0 ≤ j → j ≤ n → st j = st' j := by
  obtain ⟨a, b, c, d⟩ := h
  obtain ⟨a', b', c', d'⟩ := h'
  have key : ∀ r : Nat, ∀ j : Int, 0 ≤ j → j ≤ n → j ≤ n' → j ≤ r → st j = st' j := by
    intro r
    induction r with
    | zero => intro j x _ _ w; rw [show j = 0 by omega]; exact b.uniq b'
    | succ r ih =>
      intro j x y z w
      by_cases e0 : j = 0
      · rw [e0]; exact b.uniq b'
      · have o := ih (j - 1) (by omega) (by omega) (by omega) (by omega)
        obtain ⟨-, e, q1, q2⟩ := c (j - 1) (by omega) (by omega)
        obtain ⟨-, e', q1', q2'⟩ := c' (j - 1) (by omega) (by omega)
        rw [← o] at q1'
        have ee := q1.uniq q1'
        rw [show j - 1 + 1 = j by omega] at q2 q2'
        rw [← ee] at q2'
        exact q2.uniq q2'
  have en : n = n' := by
    by_cases x : n < n'
    · have o := key n.toNat n a (Int.le_refl _) (by omega) (by omega)
      have := (c' n a x).1
      omega
    by_cases y : n' < n
    · have o := key n'.toNat n' a' (by omega) (Int.le_refl _) (by omega)
      have := (c n' a' y).1
      omega
    omega
  exact ⟨en, fun j x y => key j.toNat j x y (by omega) (by omega)⟩
/-- the TOKENS so far, k the next byte -/
noncomputable def PTK (T : Int → Int) (s c : Int) (st : Int → Int) (k : Int) : Prop := (0 ≤ c ∧ 0 ≤ k ∧ k ≤ s) ∧ ∃ k0 : Int, (0 ≤ k0 ∧ k0 ≤ k) ∧ (∀ j : Int, k0 ≤ j → j < k → T j = 32) ∧ (c = 0 → k0 = 0) ∧ (1 ≤ c → TE T s (st (c - 1)) k0 ∧ NB T s 0 (st 0)) ∧ (∀ j : Int, 0 ≤ j → j < c → st j < s) ∧ ∀ j : Int, 0 ≤ j → j + 1 < c → ∃ e, TE T s (st j) e ∧ NB T s e (st (j + 1))
section
variable {T st st' : Int → Int} {s c k e : Int}
theorem PTK.zero (hs : 0 ≤ s) : PTK T s 0 st 0 := ⟨⟨by omega, by omega, hs⟩, 0, ⟨by omega, by omega⟩, fun j a b => by omega, fun _ => rfl, fun h => by omega, fun j a b => by omega, fun j a b => by omega⟩
theorem PTK.blank (h : PTK T s c st k) (hk : k < s) (hb : T k = 32) : PTK T s c st (k + 1) := by
  obtain ⟨a, k0, b, d, f, g, i, l⟩ := h
  refine ⟨by omega, k0, by omega, fun j x y => ?_, f, g, i, l⟩
  by_cases q : j = k
  · rw [q]; exact hb
  · exact d j x (by omega)
theorem PTK.tok (h : PTK T s c st k) (hk : k < s) (hb : T k ≠ 32) (ht : TE T s k e) (e1 : ∀ j : Int, 0 ≤ j → j < c → st' j = st j) (e2 : st' c = k) : PTK T s (c + 1) st' e := by
  obtain ⟨a, k0, b, d, f, g, i, l⟩ := h
  have hn : NB T s k0 k := ⟨by omega, d, fun _ => hb⟩
  have s0 : NB T s 0 (st' 0) := by
    by_cases q : c = 0
    · rw [q] at e2; rw [e2, ← f q]; exact hn
    · rw [e1 0 (by omega) (by omega)]; exact (g (by omega)).2
  have ht1 := ht.1
  refine ⟨by omega, e, by omega, fun j x y => by omega, fun q => by omega, fun _ => ⟨by rw [show c + 1 - 1 = c by omega, e2]; exact ht, s0⟩, fun j x y => ?_, fun j x y => ?_⟩
  · by_cases q : j = c
    · rw [q, e2]; exact hk
    · rw [e1 j x (by omega)]; exact i j x (by omega)
  · by_cases q : j + 1 = c
    · rw [q, e2, e1 j x (by omega), show j = c - 1 by omega]
      exact ⟨k0, (g (by omega)).1, hn⟩
    · rw [e1 j x (by omega), e1 (j + 1) (by omega) (by omega)]
      exact l j x (by omega)
theorem PTK.done (h : PTK T s c st k) (hk : k = s) (e1 : ∀ j : Int, 0 ≤ j → j < c → st' j = st j) (e2 : st' c = s) : TKS T s c st' := by
  obtain ⟨a, k0, b, d, f, g, i, l⟩ := h
  have hn : NB T s k0 s := ⟨by omega, fun j x y => d j x (by omega), fun q => by omega⟩
  refine ⟨a.1, ?_, fun j x y => ⟨by rw [e1 j x y]; exact i j x y, ?_⟩, e2⟩
  · by_cases q : c = 0
    · rw [q] at e2; rw [e2, ← f q]; exact hn
    · rw [e1 0 (by omega) (by omega)]; exact (g (by omega)).2
  · by_cases q : j + 1 = c
    · rw [q, e2, e1 j x y, show j = c - 1 by omega]
      exact ⟨k0, (g (by omega)).1, hn⟩
    · rw [e1 j x y, e1 (j + 1) (by omega) (by omega)]
      exact l j x (by omega)
theorem PTK.cong (h : PTK T s c st k) (e1 : ∀ j : Int, 0 ≤ j → j < c → st' j = st j) : PTK T s c st' k := by
  obtain ⟨a, k0, b, d, f, g, i, l⟩ := h
  refine ⟨a, k0, b, d, f, fun q => ?_, fun j x y => by rw [e1 j x y]; exact i j x y, fun j x y => by rw [e1 j x (by omega), e1 (j + 1) (by omega) y]; exact l j x y⟩
  rw [e1 (c - 1) (by omega) (by omega), e1 0 (by omega) (by omega)]
  exact g q
theorem PTK.le (h : PTK T s c st k) : c ≤ k := by
  obtain ⟨a, k0, b, d, f, g, i, l⟩ := h
  have key : ∀ r : Nat, ∀ j : Int, 0 ≤ j → j < c → j ≤ r → j ≤ st j := by
    intro r
    induction r with
    | zero => intro j x y z; have := (g (by omega)).2.1.1; rw [show j = 0 by omega]; exact this
    | succ r ih =>
      intro j x y z
      by_cases e0 : j = 0
      · have := (g (by omega)).2.1.1; rw [e0]; exact this
      · have o := ih (j - 1) (by omega) (by omega) (by omega)
        obtain ⟨e, q1, q2⟩ := l (j - 1) (by omega) (by omega)
        rw [show j - 1 + 1 = j by omega] at q2
        have := q1.1.1
        have := q2.1.1
        omega
  by_cases q : c = 0
  · omega
  · have o := key (c - 1).toNat (c - 1) (by omega) (by omega) (by omega)
    have := (g (by omega)).1.1.1
    omega
end
/-! The words that are known. -/
noncomputable def kwO (w : Int) : Int := ([0, 5, 9, 14, 19, 25, 30, 33, 36, 40, 44, 50, 55, 60, 65, 70, 77, 82, 89, 93, 99, 104] : List Int).getD w.toNat 0
noncomputable def kwN (w : Int) : Int := kwO (w + 1) - kwO w - 1
noncomputable def kwL (i : Int) : Int := (sy_str.getD i.toNat 0).toInt
theorem kw_tab : ∀ w : Nat, w < 21 → 0 ≤ kwO w ∧ kwO w + kwN w < 104 ∧ 2 ≤ kwN w ∧ kwO (w + 1) = kwO w + kwN w + 1 ∧ kwL (kwO w + kwN w) = 32 := by decide +kernel
theorem kw_let : ∀ w : Nat, w < 21 → ∀ i : Nat, i < 7 → (i : Int) < kwN w → 97 ≤ kwL (kwO w + i) ∧ kwL (kwO w + i) ≤ 122 := by decide +kernel
theorem kw_n7 : ∀ w : Nat, w < 21 → kwN w ≤ 6 := by decide +kernel
theorem kw_t {w : Int} (h : 0 ≤ w ∧ w ≤ 20) : 0 ≤ kwO w ∧ kwO w + kwN w < 104 ∧ 2 ≤ kwN w ∧ kwO (w + 1) = kwO w + kwN w + 1 ∧ kwL (kwO w + kwN w) = 32 := by
  have q := kw_tab w.toNat (by omega)
  rw [show ((w.toNat : Nat) : Int) = w by omega] at q
  exact q
theorem kw_l {w i : Int} (h : 0 ≤ w ∧ w ≤ 20) (hi : 0 ≤ i ∧ i < kwN w) : 97 ≤ kwL (kwO w + i) ∧ kwL (kwO w + i) ≤ 122 := by
  have n7 := kw_n7 w.toNat (by omega)
  rw [show ((w.toNat : Nat) : Int) = w by omega] at n7
  have q := kw_let w.toNat (by omega) i.toNat (by omega) (by rw [show ((w.toNat : Nat) : Int) = w by omega]; omega)
  rw [show ((w.toNat : Nat) : Int) = w by omega, show ((i.toNat : Nat) : Int) = i by omega] at q
  exact q
theorem kw_21 : kwO 21 = 104 := by decide
theorem kw_0 : kwO 0 = 0 := by decide
/-- the bytes from a to e are the known word w -/
noncomputable def eqW (T : Int → Int) (a e w : Int) : Prop := e - a = kwN w ∧ ∀ i : Int, 0 ≤ i → i < kwN w → T (a + i) = kwL (kwO w + i)
noncomputable def NKW (T : Int → Int) (a e n : Int) : Prop := ∀ u : Int, 0 ≤ u → u < n → ¬ eqW T a e u
noncomputable def KWR (T : Int → Int) (a e v : Int) : Prop := (0 ≤ v ∧ v ≤ 20 ∧ eqW T a e v ∧ NKW T a e v) ∨ (v = 23 ∧ NKW T a e 21)
theorem KWR.uniq {T : Int → Int} {a e v w : Int} (h : KWR T a e v) (q : KWR T a e w) : v = w := by
  rcases h with ⟨h0, h1, h2, h3⟩ | ⟨h1, h2⟩
  · rcases q with ⟨q0, q1, q2, q3⟩ | ⟨q1, q2⟩
    · by_cases x : v < w
      · exact absurd h2 (q3 v h0 x)
      by_cases y : w < v
      · exact absurd q2 (h3 w q0 y)
      omega
    · exact absurd h2 (q2 v h0 (by omega))
  · rcases q with ⟨q0, q1, q2', q3⟩ | ⟨q1, q2'⟩
    · exact absurd q2' (h2 w q0 (by omega))
    · omega
/-- how far the class has looked for it: ah words ahead, m letters alike, the i-th letter next -/
noncomputable def KWI (T : Int → Int) (a e ah m i : Int) : Prop := NKW T a e ah ∧ ((ah = 21 ∧ i = 104) ∨ ((0 ≤ ah ∧ ah ≤ 20) ∧ (kwO ah ≤ i ∧ i ≤ kwO ah + kwN ah) ∧ ((m = i - kwO ah ∧ m ≤ e - a ∧ ∀ j : Int, 0 ≤ j → j < m → T (a + j) = kwL (kwO ah + j)) ∨ (m = -1 ∧ ¬ (i - kwO ah ≤ e - a ∧ ∀ j : Int, 0 ≤ j → j < i - kwO ah → T (a + j) = kwL (kwO ah + j))))))
section
variable {T : Int → Int} {a e ah m m' i : Int}
theorem KWI.zero (h : a < e) : KWI T a e 0 0 0 := by
  have k := kw_t (w := 0) (by omega)
  refine ⟨fun u x y => by omega, Or.inr ⟨by omega, ⟨by rw [kw_0]; omega, by omega⟩, Or.inl ⟨by rw [kw_0]; omega, by omega, fun j x y => by omega⟩⟩⟩
theorem KWI.letter (h : KWI T a e ah m i) (hi : i < 104) (hl : kwL i ≠ 32) (h1 : 0 ≤ m ∧ a + m < e ∧ T (a + m) = kwL i → m' = m + 1) (h2 : ¬ (0 ≤ m ∧ a + m < e ∧ T (a + m) = kwL i) → m' = -1) : KWI T a e ah m' (i + 1) := by
  obtain ⟨q, r | ⟨r1, r2, r3⟩⟩ := h
  · exfalso; omega
  have t := kw_t r1
  have ne : i ≠ kwO ah + kwN ah := fun x => hl (by rw [x]; exact t.2.2.2.2)
  refine ⟨q, Or.inr ⟨r1, by omega, ?_⟩⟩
  rcases r3 with ⟨a1, a2, a3⟩ | ⟨a1, a2⟩
  · by_cases c : 0 ≤ m ∧ a + m < e ∧ T (a + m) = kwL i
    · refine Or.inl ⟨by have := h1 c; omega, by have := h1 c; omega, fun j x y => ?_⟩
      have := h1 c
      by_cases y2 : j = m
      · rw [y2, c.2.2]; congr 1; omega
      · exact a3 j x (by omega)
    · refine Or.inr ⟨h2 c, fun w => c ⟨by omega, by omega, ?_⟩⟩
      have := w.2 m (by omega) (by omega)
      rw [this]; congr 1; omega
  · refine Or.inr ⟨h2 (by omega), fun w => a2 ⟨by omega, fun j x y => w.2 j x (by omega)⟩⟩
theorem KWI.at (h : KWI T a e ah m i) (hi : i < 104) (hb : kwL i = 32) : (0 ≤ ah ∧ ah ≤ 20) ∧ i = kwO ah + kwN ah := by
  obtain ⟨q, r | ⟨r1, r2, r3⟩⟩ := h
  · exfalso; omega
  refine ⟨r1, ?_⟩
  by_cases c : i = kwO ah + kwN ah
  · exact c
  · have l := kw_l (w := ah) (i := i - kwO ah) r1 (by omega)
    rw [show kwO ah + (i - kwO ah) = i by omega] at l
    omega
theorem KWI.no (h : KWI T a e ah m i) (hi : i < 104) (hb : kwL i = 32) (hm : m ≠ e - a) (hae : a < e) : KWI T a e (ah + 1) 0 (i + 1) := by
  have w := h.at hi hb
  have t := kw_t w.1
  obtain ⟨q, r | ⟨r1, r2, r3⟩⟩ := h
  · exfalso; omega
  have ne : ¬ eqW T a e ah := by
    intro x
    rcases r3 with ⟨a1, a2, a3⟩ | ⟨a1, a2⟩
    · have := x.1; omega
    · refine a2 ⟨by have := x.1; omega, fun j y z => x.2 j y (by omega)⟩
  refine ⟨fun u x y => ?_, ?_⟩
  · by_cases c : u = ah
    · rw [c]; exact ne
    · exact q u x (by omega)
  · by_cases c : ah = 20
    · refine Or.inl ⟨by omega, ?_⟩
      have := kw_21
      rw [show (21 : Int) = ah + 1 by omega] at this
      omega
    · have t' := kw_t (w := ah + 1) (by omega)
      exact Or.inr ⟨by omega, by omega, Or.inl ⟨by omega, by omega, fun j x y => by omega⟩⟩
theorem KWI.yes (h : KWI T a e ah m i) (hi : i < 104) (hb : kwL i = 32) (hm : m = e - a) (hae : a < e) : KWR T a e ah := by
  have w := h.at hi hb
  obtain ⟨q, r | ⟨r1, r2, r3⟩⟩ := h
  · exfalso; omega
  rcases r3 with ⟨a1, a2, a3⟩ | ⟨a1, a2⟩
  · exact Or.inl ⟨r1.1, r1.2, ⟨by omega, fun j x y => a3 j x (by omega)⟩, q⟩
  · exfalso; omega
theorem KWI.end (h : KWI T a e ah m i) (hi : 104 ≤ i) : KWR T a e 23 := by
  obtain ⟨q, r | ⟨r1, r2, r3⟩⟩ := h
  · refine Or.inr ⟨rfl, ?_⟩
    rw [r.1] at q
    exact q
  · have t := kw_t r1
    exfalso; omega
end
noncomputable def dvF (T : Int → Int) (a : Int) : Nat → Int
  | 0 => 0
  | k + 1 => 10 * dvF T a k + (T (a + k) - 48)
theorem dvF_s {T : Int → Int} {a k : Int} (hk : 0 ≤ k) : dvF T a (k + 1).toNat = 10 * dvF T a k.toNat + (T (a + k) - 48) := by
  rw [show (k + 1).toNat = k.toNat + 1 by omega]
  show 10 * dvF T a k.toNat + (T (a + ((k.toNat : Nat) : Int)) - 48) = _
  rw [show ((k.toNat : Nat) : Int) = k by omega]
/-- what the TOKEN from a to e is -/
noncomputable def KD (T : Int → Int) (a e k v : Int) : Prop := (isSm (T a) → KWR T a e k) ∧ (isDg (T a) → (dvF T a (e - a).toNat ≤ 100000 ∧ k = 21 ∧ v = dvF T a (e - a).toNat) ∨ (100000 < dvF T a (e - a).toNat ∧ k = 23)) ∧ (¬ isSm (T a) → ¬ isDg (T a) → k = 100 + T a)
theorem KD.uniq {T : Int → Int} {a e k v k' v' : Int} (h : KD T a e k v) (h' : KD T a e k' v') (hb : 0 ≤ T a) : k = k' ∧ (k = 21 → v = v') := by
  obtain ⟨h1, h2, h3⟩ := h
  obtain ⟨g1, g2, g3⟩ := h'
  by_cases c : isSm (T a)
  · have w := h1 c
    refine ⟨w.uniq (g1 c), fun e => ?_⟩
    rcases w with w | w <;> omega
  · by_cases d : isDg (T a)
    · have p := h2 d
      have q := g2 d
      omega
    · have p := h3 c d
      have q := g3 c d
      omega
/-- a TEXT's TOKENS: where they begin, what they are, which NUMBERS -/
noncomputable def TOK (T : Int → Int) (s n : Int) (st K V : Int → Int) : Prop := TKS T s n st ∧ (∀ j : Int, 0 ≤ j → j < n → ∃ e, TE T s (st j) e ∧ KD T (st j) e (K j) (V j)) ∧ K n = 22
theorem TOK.uniq {T st K V st' K' V' : Int → Int} {s n n' : Int} (h : TOK T s n st K V) (h' : TOK T s n' st' K' V') (hb : ∀ i : Int, 0 ≤ i → i < s → 0 ≤ T i) : n = n' ∧ (∀ j : Int, 0 ≤ j → j ≤ n → st j = st' j) ∧ (∀ j : Int, 0 ≤ j → j ≤ n → K j = K' j) ∧ ∀ j : Int, 0 ≤ j → j < n → K j = 21 → V j = V' j := by
  obtain ⟨a, b, c⟩ := h
  obtain ⟨a', b', c'⟩ := h'
  obtain ⟨en, es⟩ := a.uniq a'
  subst en
  have bt : ∀ j : Int, 0 ≤ j → j < n → 0 ≤ st j := by
    obtain ⟨x1, x2, x3, x4⟩ := a
    have key : ∀ r : Nat, ∀ j : Int, 0 ≤ j → j < n → j ≤ r → 0 ≤ st j := by
      intro r
      induction r with
      | zero => intro j x y z; have := x2.1.1; rw [show j = 0 by omega]; exact this
      | succ r ih =>
        intro j x y z
        by_cases e0 : j = 0
        · have := x2.1.1; rw [e0]; exact this
        · have o := ih (j - 1) (by omega) (by omega) (by omega)
          obtain ⟨-, e, q1, q2⟩ := x3 (j - 1) (by omega) (by omega)
          rw [show j - 1 + 1 = j by omega] at q2
          have := q1.1.1
          have := q2.1.1
          omega
    exact fun j x y => key j.toNat j x y (by omega)
  have kk : ∀ j : Int, 0 ≤ j → j < n → K j = K' j ∧ (K j = 21 → V j = V' j) := by
    intro j x y
    obtain ⟨e, q1, q2⟩ := b j x y
    obtain ⟨e', q1', q2'⟩ := b' j x y
    rw [← es j x (by omega)] at q1' q2'
    rw [← q1.uniq q1'] at q2'
    have sb := bt j x y
    have ss := (a.2.2.1 j x y).1
    exact q2.uniq q2' (hb _ sb ss)
  refine ⟨rfl, es, fun j x y => ?_, fun j x y => (kk j x y).2⟩
  by_cases q : j = n
  · rw [q, c, c']
  · exact (kk j x (by omega)).1
theorem kwL_b0 : ∀ i : Nat, i < 104 → 0 ≤ kwL i ∧ kwL i ≤ 127 := by decide +kernel
theorem kwL_b {i : Int} (h : 0 ≤ i ∧ i < 104) : 0 ≤ kwL i ∧ kwL i ≤ 127 := by
  have q := kwL_b0 i.toNat (by omega)
  rw [show ((i.toNat : Nat) : Int) = i by omega] at q
  exact q
section
variable {base : Nat} {X : Nat → Option mC} {G : Nat → Value}
theorem k273e (E : EnvOK base X G) {b d : Nat} {f : Nat → Value} {i : Int} {M : mH} (hd : 2 ≤ d) (hi : 0 ≤ i ∧ i < 104) (hb : b < base) (hX : X b = some (1003, 104, f)) (hf : ∀ j, j < 104 → f j = .int (sy_str.getD j 0)) : sOk base X G d T273 [vA b, vI i] M (pI (fun v M' => M' = M ∧ v = kwL i)) := by
  refine sOk.of (show sRn base X G d T273 0 [(0, vA b), (1, vI i)] [] M _ from ?_)
  refine s_blx (lv' := [(0, vA b), (1, vI i)]) (st' := [vA b, vI i]) B273_0_2 rfl ?_
  refine r_lenv (w := vA b) (x := (1003, 104, f)) (pc' := 3) D273_2 rfl rfl (by unfold m_at; rw [if_pos hb, hX]) (show 1000 ≤ 1003 by decide) ?_
  refine r_sV (args := [vI i, vI 104]) (rest := []) (pc' := 6) D273_3 rfl ck_14_static_9 TE272 rfl (Nat.le_of_ble_eq_true rfl) ⟨Nat.le_of_ble_eq_true rfl, Nat.le_of_ble_eq_true rfl⟩ (by decide) (dp_0 hd rfl) (k272 E (dp_n hd rfl) (by omega)) ?_
  intro M' q
  subst q
  refine s_blx (lv' := [(0, vA b), (1, vI i)]) (st' := [vI i, vA b]) B273_6_8 rfl ?_
  refine r_baldA (w := kwL i) (pc' := 9) D273_8 rfl hX hb (by omega) (by unfold kwL; rw [hf _ (by omega), Int32.ofInt_toInt]) ?_
  refine s_blx (lv' := [(0, vA b), (1, vI i)]) (st' := [vI 255, vI (kwL i)]) B273_9_12 rfl ?_
  refine r_and255 (pc' := 13) D273_12 rfl ?_
  have kb := kwL_b hi
  rw [show kwL i % 256 = kwL i by omega]
  refine r_i2c (pc' := 14) D273_13 rfl (by omega) ?_
  exact r_cret D273_14 rfl (by omega) ⟨rfl, rfl⟩
theorem k269e (E : EnvOK base X G) {u b d : Nat} {f : Nat → Value} {i : Int} {M : mH} (hd : 3 ≤ d) (hi : 0 ≤ i ∧ i < 104) (h9 : G 9 = .ref u) (h10 : G 10 = .ref b) (hb : b < base) (hX : X b = some (1003, 104, f)) (hf : ∀ j, j < 104 → f j = .int (sy_str.getD j 0)) : sOk base X G d T269 [vA u, vI i] M (pI (fun v M' => M' = M ∧ v = kwL i)) := by
  refine sOk.of (show sRn base X G d T269 0 [(0, vA u), (1, vI i)] [] M _ from ?_)
  refine s_blx (lv' := [(0, vA u), (1, vI i)]) (st' := [vA u]) B269_0_1 rfl ?_
  refine r_callS (args := []) (rest := []) (pc' := 4) D269_1 rfl ck_13_virtual_492 TE271 rfl (Nat.le_of_ble_eq_true rfl) ⟨Nat.le_of_ble_eq_true rfl, Nat.le_of_ble_eq_true rfl⟩ rfl h9 (by omega) (k271 E h9) ?_
  intro v M' p
  obtain ⟨w, rfl, rfl, rfl⟩ := p
  show sRn base X G d T269 4 [(0, vA u), (1, vI i)] [vI 1] _ _
  refine r_ifc (tgt := 16) (pc' := 7) D269_4 rfl rfl (by unfold inR; omega) (fun (c : (1 : Int) = 0) => ?_) (fun _ => ?_)
  · exfalso; omega
  refine s_blx (lv' := [(0, vA u), (1, vI i)]) (st' := [vA u]) B269_7_8 rfl ?_
  refine r_gfS9 (pc' := 11) D269_8 rfl rfl h9 h10 ?_
  refine s_blx (lv' := [(0, vA u), (1, vI i)]) (st' := [vI i, vA b]) B269_11_12 rfl ?_
  refine r_sI (args := [vA b, vI i]) (rest := []) (pc' := 15) D269_12 rfl ck_13_static_495 TE273 rfl (Nat.le_of_ble_eq_true rfl) ⟨Nat.le_of_ble_eq_true rfl, Nat.le_of_ble_eq_true rfl⟩ (by decide) (dp_0 hd rfl) (k273e E (dp_n hd rfl) hi hb hX hf) ?_
  intro v M' q
  obtain ⟨rfl, rfl⟩ := q
  have kb := kwL_b hi
  exact r_cret D269_15 rfl (by omega) ⟨rfl, rfl⟩
end
/-! The reference's own TOKENS. -/
noncomputable def WX (M : mH) : Prop := ∀ j : Int, 0 ≤ j → j < 104 → gi M 94 j = kwL j
theorem WX.fr {L : List (Nat × Nat)} {M M' : mH} (h : WX M) (f : Fr L M M') (hc : s_al L (fun c => c != 94) = true) : WX M' := fun j a b => (f.g (s_al_ok hc (by simp))).trans (h j a b)
theorem WX.wr {M M' : mH} {c i : Nat} {v : Value} (h : WX M) (u : Wr M c i v M') (hc : c ≠ 94) : WX M' := fun j a b => by
  have e : gi M' 94 j = gi M 94 j := by unfold gi; rw [u.ne (Or.inl (Ne.symm hc))]
  rw [e]; exact h j a b
noncomputable def WRR (T : Int → Int) (a e v : Int) : Prop := (v = 0 ∧ NKW T a e 21) ∨ ((1 ≤ v ∧ v ≤ 21) ∧ eqW T a e (v - 1) ∧ NKW T a e (v - 1))
theorem kw_at {w i ch : Int} (h : 0 ≤ w ∧ w ≤ 20) (hi : 0 ≤ i ∧ i ≤ kwN w) (e : ch = kwL (kwO w + i)) : (ch = 32 → i = kwN w) ∧ (ch ≠ 32 → i + 1 ≤ kwN w) := by
  have t := kw_t h
  by_cases c : i = kwN w
  · refine ⟨fun _ => c, fun q => ?_⟩
    rw [c, t.2.2.2.2] at e
    exact absurd e q
  · have l := kw_l h (i := i) (by omega)
    rw [← e] at l
    exact ⟨fun q => by omega, fun _ => by omega⟩
noncomputable def rkF (c v : Int) : Int := if c = 0 then 23 else if c ≤ 21 then c - 1 else if c = 50 then (if v ≤ 100000 then 21 else 23) else c
noncomputable def rkN (n : Int) (C V : Int → Int) : Int → Int := fun j => if j < n then rkF (C j) (V j) else 22
noncomputable def RKD (T : Int → Int) (a e c v : Int) : Prop := (isSm (T a) → WRR T a e c) ∧ (isDg (T a) → c = 50 ∧ ((v ≤ 1000000 ∧ v = dvF T a (e - a).toNat) ∨ (1000000 < v ∧ 100000 < dvF T a (e - a).toNat))) ∧ (¬ isSm (T a) → ¬ isDg (T a) → c = 100 + T a)
theorem RKD.kd {T : Int → Int} {a e c v : Int} (h : RKD T a e c v) (hb : 0 ≤ T a) : KD T a e (rkF c v) v := by
  obtain ⟨h1, h2, h3⟩ := h
  refine ⟨fun q => ?_, fun q => ?_, fun q r => ?_⟩
  · rcases h1 q with ⟨a1, a2⟩ | ⟨a1, a2, a3⟩
    · refine Or.inr ⟨?_, a2⟩
      unfold rkF
      rw [if_pos a1]
    · have e1 : rkF c v = c - 1 := by
        unfold rkF
        rw [if_neg (by omega), if_pos (by omega)]
      rw [e1]
      exact Or.inl ⟨by omega, by omega, a2, a3⟩
  · obtain ⟨c5, y⟩ := h2 q
    have e1 : rkF c v = if v ≤ 100000 then 21 else 23 := by
      unfold rkF
      rw [if_neg (by omega), if_neg (by omega), if_pos c5]
    rw [e1]
    by_cases z : v ≤ 100000
    · rw [if_pos z]; exact Or.inl (by omega)
    · rw [if_neg z]; exact Or.inr (by omega)
  · have c3 := h3 q r
    have e1 : rkF c v = c := by
      unfold rkF
      rw [if_neg (by omega), if_neg (by omega), if_neg (by omega)]
    rw [e1]
    exact c3
/-- the reference's TOKENS are the same -/
theorem RTOK.tok {T st C V : Int → Int} {s n : Int} (h : TKS T s n st) (hk : ∀ j : Int, 0 ≤ j → j < n → ∃ e, TE T s (st j) e ∧ RKD T (st j) e (C j) (V j)) (hb : ∀ i : Int, 0 ≤ T i) : TOK T s n st (rkN n C V) V := by
  refine ⟨h, fun j x y => ?_, ?_⟩
  · obtain ⟨e, q1, q2⟩ := hk j x y
    refine ⟨e, q1, ?_⟩
    have e1 : rkN n C V j = rkF (C j) (V j) := by
      unfold rkN
      rw [if_pos y]
    rw [e1]
    exact q2.kd (hb _)
  · unfold rkN
    rw [if_neg (by omega)]

set_option maxRecDepth 4000 in
theorem L_k21_13a {base : Nat} {X : Nat → Option mC} {G : Nat → Value} (E : EnvOK base X G) {d : Nat} (hd : 4 ≤ d) {M : mH} (H : HI base M) (from_ : Int) (to_ : Int) (h0 : 0 ≤ from_ ∧ from_ ≤ 399) (h1 : from_ < to_ ∧ to_ ≤ 400) : ∀ mz : Nat, (∀ (x3 x4 x5 : Int), (KWI (gi M 13) from_ to_ x3 x4 x5) → (0 ≤ x3 ∧ x3 ≤ x5) → (-1 ≤ x4 ∧ x4 ≤ x5) → (0 ≤ x5 ∧ x5 ≤ 104) → (0 ≤ x3) → (x3 ≤ 105) → ((-1) ≤ x4) → (x4 ≤ 105) → (0 ≤ x5) → (x5 ≤ 104) → (104 - x5) * 1 + 0 < (mz : Int) → sRn base X G d T21 8 [(0, vR 13), (1, vI from_), (2, vI to_), (3, vI x3), (4, vI x4), (5, vI x5)] [] M (s_Q base (pI (fun v M' => M' = M ∧ (0 ≤ v ∧ v ≤ 23) ∧ KWR (gi M 13) from_ to_ v)))) := by
  intro mz
  induction mz with
  | zero => exact fun x3 x4 x5 z0 z1 z2 z3 z4 z5 z6 z7 z8 z9 z10 => by omega
  | succ mz ih =>
    intro x3 x4 x5 i0 i1 i2 i3 i4 i5 i6 i7 i8 i9 hmu
    obtain ⟨su, sb, sf, s9, su_lt, s10, sb_lt, sX, sF⟩ := E.2.2.2
    refine s_blx (lv' := [(0, vR 13), (1, vI from_), (2, vI to_), (3, vI x3), (4, vI x4), (5, vI x5)]) (st' := [vI x5]) B21_8_10 rfl ?_
    refine r_ldcS (pc' := 12) D21_10 rfl rfl cn_4_90 s9 ?_
    refine r_callS (args := []) (rest := [vI x5]) (pc' := 15) D21_12 rfl ck_4_virtual_92 TE268 rfl (Nat.le_of_ble_eq_true rfl) ⟨Nat.le_of_ble_eq_true rfl, Nat.le_of_ble_eq_true rfl⟩ rfl s9 (dp_0 hd rfl) (k268 E (dp_n hd rfl) s9 s10 sb_lt sX) ?_
    intro rr1 MM2 pp3
    obtain ⟨w4, hr_, hM_, hw_⟩ := pp3; subst hr_; rw [hM_, hw_]
    show sRn _ _ _ _ _ 15 _ (vI 104 :: [vI x5]) _ _
    refine r_icmp (tgt := 105) (pc' := 18) D21_15 rfl rfl (by unfold inR; omega) (fun (c5 : 104 ≤ x5) => ?_) (fun (c5 : ¬ (104 ≤ x5)) => ?_)
    · refine s_blx (lv' := [(0, vR 13), (1, vI from_), (2, vI to_), (3, vI x3), (4, vI x4), (5, vI x5)]) (st' := [vI 23]) B21_105_107 rfl ?_
      exact r_iretI D21_107 rfl (⟨rfl, by omega, i0.end (by omega)⟩)
    · refine r_ldcS (pc' := 20) D21_18 rfl rfl cn_4_90 s9 ?_
      refine s_blx (lv' := [(0, vR 13), (1, vI from_), (2, vI to_), (3, vI x3), (4, vI x4), (5, vI x5)]) (st' := [vI x5, vA su]) B21_20_22 rfl ?_
      refine r_callS (args := [vI x5]) (rest := []) (pc' := 25) D21_22 rfl ck_4_virtual_98 TE269 rfl (Nat.le_of_ble_eq_true rfl) ⟨Nat.le_of_ble_eq_true rfl, Nat.le_of_ble_eq_true rfl⟩ rfl s9 (dp_0 hd rfl) (k269e E (dp_n hd rfl) (by omega) s9 s10 sb_lt sX sF) ?_
      intro rr6 MM7 pp8
      obtain ⟨w9, hr_, hM_, e10⟩ := pp8; subst hr_; rw [hM_]
      have b_w9 := kwL_b (i := x5) (by omega)
      rw [← e10] at b_w9
      show sRn _ _ _ _ _ 25 _ (vI w9 :: []) _ _
      have kch := e10
      refine s_blx (lv' := [(6, vI w9), (0, vR 13), (1, vI from_), (2, vI to_), (3, vI x3), (4, vI x4), (5, vI x5)]) (st' := [vI 32, vI w9]) B21_25_31 rfl ?_
      refine r_icmp (tgt := 83) (pc' := 34) D21_31 rfl rfl (by unfold inR; omega) (fun (c11 : w9 = 32) => ?_) (fun (c11 : ¬ (w9 = 32)) => ?_)
      · refine s_blx (lv' := [(6, vI w9), (0, vR 13), (1, vI from_), (2, vI to_), (3, vI x3), (4, vI x4), (5, vI x5)]) (st' := [vI (to_ - from_), vI x4]) B21_83_88 rfl ?_
        refine r_icmp (tgt := 93) (pc' := 91) D21_88 rfl rfl (by unfold inR; omega) (fun (c12 : x4 ≠ (to_ - from_)) => ?_) (fun (c12 : ¬ (x4 ≠ (to_ - from_))) => ?_)
        · refine s_blx (lv' := [(5, vI (x5 + 1)), (4, vI 0), (3, vI (x3 + 1)), (6, vI w9), (0, vR 13), (1, vI from_), (2, vI to_)]) (st' := []) B21_93_102 rfl ?_
          refine r_goto (tgt := 8) D21_102 rfl ?_
          refine r_loc (lv' := [(0, vR 13), (1, vI from_), (2, vI to_), (3, vI (x3 + 1)), (4, vI 0), (5, vI (x5 + 1))]) ⟨rfl, rfl, rfl, rfl, rfl, rfl, trivial⟩ rfl rfl ?_
          exact ih (x3 + 1) 0 (x5 + 1) (by first | exact i0.letter (by omega) (by rw [← kch]; omega) (fun _ => rfl) (fun c => absurd ⟨by omega, by omega, by rw [← kch, ← kby]; omega⟩ c) | exact i0.letter (by omega) (by rw [← kch]; omega) (fun c => by exfalso; have c3 := c.2.2; omega) (fun _ => rfl) | exact i0.no (by omega) (by rw [← kch]; omega) (by omega) (by omega)) (by omega) (by omega) (by omega) (by omega) (by omega) (by omega) (by omega) (by omega) (by omega) (by omega)
        · refine s_blx (lv' := [(6, vI w9), (0, vR 13), (1, vI from_), (2, vI to_), (3, vI x3), (4, vI x4), (5, vI x5)]) (st' := [vI x3]) B21_91_92 rfl ?_
          exact r_iretI D21_92 rfl (⟨rfl, by have q := (i0.at (by omega) (by rw [← kch]; omega)).1; omega, i0.yes (by omega) (by rw [← kch]; omega) (by omega) (by omega)⟩)
      · refine s_blx (lv' := [(6, vI w9), (0, vR 13), (1, vI from_), (2, vI to_), (3, vI x3), (4, vI x4), (5, vI x5)]) (st' := [vI x4]) B21_34_36 rfl ?_
        refine r_ifc (tgt := 62) (pc' := 39) D21_36 rfl rfl (by unfold inR; omega) (fun (c13 : x4 < 0) => ?_) (fun (c13 : ¬ (x4 < 0)) => ?_)
        · refine s_blx (lv' := [(7, vI 0), (6, vI w9), (0, vR 13), (1, vI from_), (2, vI to_), (3, vI x3), (4, vI x4), (5, vI x5)]) (st' := [vI 0]) B21_62_67 rfl ?_
          refine r_ifc (tgt := 77) (pc' := 70) D21_67 rfl rfl (by unfold inR; omega) (fun (c14 : 0 = 0) => ?_) (fun (c14 : ¬ (0 = 0)) => ?_)
          · refine s_blx (lv' := [(4, vI (-1)), (7, vI 0), (6, vI w9), (0, vR 13), (1, vI from_), (2, vI to_), (3, vI x3), (5, vI x5)]) (st' := []) B21_77_80 rfl ?_
            refine r_goto (tgt := 99) D21_80 rfl ?_
            refine s_blx (lv' := [(5, vI (x5 + 1)), (4, vI (-1)), (7, vI 0), (6, vI w9), (0, vR 13), (1, vI from_), (2, vI to_), (3, vI x3)]) (st' := []) B21_99_102 rfl ?_
            refine r_goto (tgt := 8) D21_102 rfl ?_
            refine r_loc (lv' := [(0, vR 13), (1, vI from_), (2, vI to_), (3, vI x3), (4, vI (-1)), (5, vI (x5 + 1))]) ⟨rfl, rfl, rfl, rfl, rfl, rfl, trivial⟩ rfl rfl ?_
            exact ih x3 (-1) (x5 + 1) (by first | exact i0.letter (by omega) (by rw [← kch]; omega) (fun _ => rfl) (fun c => absurd ⟨by omega, by omega, by rw [← kch, ← kby]; omega⟩ c) | exact i0.letter (by omega) (by rw [← kch]; omega) (fun c => by exfalso; have c3 := c.2.2; omega) (fun _ => rfl) | exact i0.no (by omega) (by rw [← kch]; omega) (by omega) (by omega)) (by omega) (by omega) (by omega) (by omega) (by omega) (by omega) (by omega) (by omega) (by omega) (by omega)
          · exfalso; omega
        · refine s_blx (lv' := [(6, vI w9), (0, vR 13), (1, vI from_), (2, vI to_), (3, vI x3), (4, vI x4), (5, vI x5)]) (st' := [vI to_, vI (from_ + x4)]) B21_39_44 rfl ?_
          refine r_icmp (tgt := 62) (pc' := 47) D21_44 rfl rfl (by unfold inR; omega) (fun (c15 : to_ ≤ (from_ + x4)) => ?_) (fun (c15 : ¬ (to_ ≤ (from_ + x4))) => ?_)
          · refine s_blx (lv' := [(7, vI 0), (6, vI w9), (0, vR 13), (1, vI from_), (2, vI to_), (3, vI x3), (4, vI x4), (5, vI x5)]) (st' := [vI 0]) B21_62_67 rfl ?_
            refine r_ifc (tgt := 77) (pc' := 70) D21_67 rfl rfl (by unfold inR; omega) (fun (c16 : 0 = 0) => ?_) (fun (c16 : ¬ (0 = 0)) => ?_)
            · refine s_blx (lv' := [(4, vI (-1)), (7, vI 0), (6, vI w9), (0, vR 13), (1, vI from_), (2, vI to_), (3, vI x3), (5, vI x5)]) (st' := []) B21_77_80 rfl ?_
              refine r_goto (tgt := 99) D21_80 rfl ?_
              refine s_blx (lv' := [(5, vI (x5 + 1)), (4, vI (-1)), (7, vI 0), (6, vI w9), (0, vR 13), (1, vI from_), (2, vI to_), (3, vI x3)]) (st' := []) B21_99_102 rfl ?_
              refine r_goto (tgt := 8) D21_102 rfl ?_
              refine r_loc (lv' := [(0, vR 13), (1, vI from_), (2, vI to_), (3, vI x3), (4, vI (-1)), (5, vI (x5 + 1))]) ⟨rfl, rfl, rfl, rfl, rfl, rfl, trivial⟩ rfl rfl ?_
              exact ih x3 (-1) (x5 + 1) (by first | exact i0.letter (by omega) (by rw [← kch]; omega) (fun _ => rfl) (fun c => absurd ⟨by omega, by omega, by rw [← kch, ← kby]; omega⟩ c) | exact i0.letter (by omega) (by rw [← kch]; omega) (fun c => by exfalso; have c3 := c.2.2; omega) (fun _ => rfl) | exact i0.no (by omega) (by rw [← kch]; omega) (by omega) (by omega)) (by omega) (by omega) (by omega) (by omega) (by omega) (by omega) (by omega) (by omega) (by omega) (by omega)
            · exfalso; omega
          · refine s_blx (lv' := [(6, vI w9), (0, vR 13), (1, vI from_), (2, vI to_), (3, vI x3), (4, vI x4), (5, vI x5)]) (st' := [vI (from_ + x4), vR 13]) B21_47_52 rfl ?_
            refine r_iald (pc' := 53) D21_52 rfl sc_13 H.1 (by omega) ?_
            intro w17 e18 r19
            have b_w17 := H.2 13 (from_ + x4) 0 255 rfl
            rw [← e18] at b_w17; clear r19
            have kby := e18
            refine s_blx (lv' := [(6, vI w9), (0, vR 13), (1, vI from_), (2, vI to_), (3, vI x3), (4, vI x4), (5, vI x5)]) (st' := [vI w9, vI w17]) B21_53_55 rfl ?_
            refine r_icmp (tgt := 62) (pc' := 58) D21_55 rfl rfl (by unfold inR; omega) (fun (c20 : w17 ≠ w9) => ?_) (fun (c20 : ¬ (w17 ≠ w9)) => ?_)
            · refine s_blx (lv' := [(7, vI 0), (6, vI w9), (0, vR 13), (1, vI from_), (2, vI to_), (3, vI x3), (4, vI x4), (5, vI x5)]) (st' := [vI 0]) B21_62_67 rfl ?_
              refine r_ifc (tgt := 77) (pc' := 70) D21_67 rfl rfl (by unfold inR; omega) (fun (c21 : 0 = 0) => ?_) (fun (c21 : ¬ (0 = 0)) => ?_)
              · refine s_blx (lv' := [(4, vI (-1)), (7, vI 0), (6, vI w9), (0, vR 13), (1, vI from_), (2, vI to_), (3, vI x3), (5, vI x5)]) (st' := []) B21_77_80 rfl ?_
                refine r_goto (tgt := 99) D21_80 rfl ?_
                refine s_blx (lv' := [(5, vI (x5 + 1)), (4, vI (-1)), (7, vI 0), (6, vI w9), (0, vR 13), (1, vI from_), (2, vI to_), (3, vI x3)]) (st' := []) B21_99_102 rfl ?_
                refine r_goto (tgt := 8) D21_102 rfl ?_
                refine r_loc (lv' := [(0, vR 13), (1, vI from_), (2, vI to_), (3, vI x3), (4, vI (-1)), (5, vI (x5 + 1))]) ⟨rfl, rfl, rfl, rfl, rfl, rfl, trivial⟩ rfl rfl ?_
                exact ih x3 (-1) (x5 + 1) (by first | exact i0.letter (by omega) (by rw [← kch]; omega) (fun _ => rfl) (fun c => absurd ⟨by omega, by omega, by rw [← kch, ← kby]; omega⟩ c) | exact i0.letter (by omega) (by rw [← kch]; omega) (fun c => by exfalso; have c3 := c.2.2; omega) (fun _ => rfl) | exact i0.no (by omega) (by rw [← kch]; omega) (by omega) (by omega)) (by omega) (by omega) (by omega) (by omega) (by omega) (by omega) (by omega) (by omega) (by omega) (by omega)
              · exfalso; omega
            · refine s_blx (lv' := [(6, vI w9), (0, vR 13), (1, vI from_), (2, vI to_), (3, vI x3), (4, vI x4), (5, vI x5)]) (st' := [vI 1]) B21_58_59 rfl ?_
              refine r_goto (tgt := 63) D21_59 rfl ?_
              refine s_blx (lv' := [(7, vI 1), (6, vI w9), (0, vR 13), (1, vI from_), (2, vI to_), (3, vI x3), (4, vI x4), (5, vI x5)]) (st' := [vI 1]) B21_63_67 rfl ?_
              refine r_ifc (tgt := 77) (pc' := 70) D21_67 rfl rfl (by unfold inR; omega) (fun (c22 : 1 = 0) => ?_) (fun (c22 : ¬ (1 = 0)) => ?_)
              · exfalso; omega
              · refine s_blx (lv' := [(7, vI 1), (6, vI w9), (0, vR 13), (1, vI from_), (2, vI to_), (3, vI x3), (4, vI x4), (5, vI x5)]) (st' := [vI (x4 + 1)]) B21_70_74 rfl ?_
                refine r_goto (tgt := 78) D21_74 rfl ?_
                refine s_blx (lv' := [(4, vI (x4 + 1)), (7, vI 1), (6, vI w9), (0, vR 13), (1, vI from_), (2, vI to_), (3, vI x3), (5, vI x5)]) (st' := []) B21_78_80 rfl ?_
                refine r_goto (tgt := 99) D21_80 rfl ?_
                refine s_blx (lv' := [(5, vI (x5 + 1)), (4, vI (x4 + 1)), (7, vI 1), (6, vI w9), (0, vR 13), (1, vI from_), (2, vI to_), (3, vI x3)]) (st' := []) B21_99_102 rfl ?_
                refine r_goto (tgt := 8) D21_102 rfl ?_
                refine r_loc (lv' := [(0, vR 13), (1, vI from_), (2, vI to_), (3, vI x3), (4, vI (x4 + 1)), (5, vI (x5 + 1))]) ⟨rfl, rfl, rfl, rfl, rfl, rfl, trivial⟩ rfl rfl ?_
                exact ih x3 (x4 + 1) (x5 + 1) (by first | exact i0.letter (by omega) (by rw [← kch]; omega) (fun _ => rfl) (fun c => absurd ⟨by omega, by omega, by rw [← kch, ← kby]; omega⟩ c) | exact i0.letter (by omega) (by rw [← kch]; omega) (fun c => by exfalso; have c3 := c.2.2; omega) (fun _ => rfl) | exact i0.no (by omega) (by rw [← kch]; omega) (by omega) (by omega)) (by omega) (by omega) (by omega) (by omega) (by omega) (by omega) (by omega) (by omega) (by omega) (by omega)
set_option maxRecDepth 4000 in
theorem k21_13a {base : Nat} {X : Nat → Option mC} {G : Nat → Value} (E : EnvOK base X G) {d : Nat} (hd : 4 ≤ d) {M : mH} (H : HI base M) (from_ : Int) (to_ : Int) (h0 : 0 ≤ from_ ∧ from_ ≤ 399) (h1 : from_ < to_ ∧ to_ ≤ 400) : sOk base X G d T21 [vR 13, vI from_, vI to_] M (pI (fun v M' => M' = M ∧ (0 ≤ v ∧ v ≤ 23) ∧ KWR (gi M 13) from_ to_ v)) := by
  refine sOk.of (show sRn base X G d T21 0 [(0, vR 13), (1, vI from_), (2, vI to_)] [] M _ from ?_)
  obtain ⟨su, sb, sf, s9, su_lt, s10, sb_lt, sX, sF⟩ := E.2.2.2
  refine s_blx (lv' := [(5, vI 0), (4, vI 0), (3, vI 0), (0, vR 13), (1, vI from_), (2, vI to_)]) (st' := []) B21_0_8 rfl ?_
  refine r_loc (lv' := [(0, vR 13), (1, vI from_), (2, vI to_), (3, vI 0), (4, vI 0), (5, vI 0)]) ⟨rfl, rfl, rfl, rfl, rfl, rfl, trivial⟩ rfl rfl ?_
  exact (L_k21_13a E hd H from_ to_ h0 h1 (((104 - 0) * 1 + 0 : Int) + 1).toNat) 0 0 0 (KWI.zero (by omega)) (by omega) (by omega) (by omega) (by omega) (by omega) (by omega) (by omega) (by omega) (by omega) (by omega)
set_option maxRecDepth 4000 in
theorem L_k19_13a {base : Nat} {X : Nat → Option mC} {G : Nat → Value} (E : EnvOK base X G) {d : Nat} (hd : 1 ≤ d) {M : mH} (H : HI base M) (from_ : Int) (length : Int) (h0 : 0 ≤ from_ ∧ from_ ≤ 399) (h1 : from_ < length ∧ length ≤ 400) : ∀ mz : Nat, (∀ (x3 x4 : Int), (from_ < x3 ∧ x3 ≤ length) → (0 ≤ x4 ∧ x4 ≤ 1) → (x4 = 1 → isSm (gi M 13 from_)) → (x4 = 0 → ¬ isSm (gi M 13 from_) ∧ isDg (gi M 13 from_)) → (∀ j : Int, from_ ≤ j → j < x3 → (isSm (gi M 13 from_) → isSm (gi M 13 j)) ∧ (isDg (gi M 13 from_) → isDg (gi M 13 j))) → (1 ≤ x3) → (x3 ≤ 400) → (0 ≤ x4) → (x4 ≤ 1) → (400 - x3) * 1 + 0 < (mz : Int) → sRn base X G d T19 26 [(0, vR 13), (2, vI length), (3, vI x3), (4, vI x4)] [] M (s_Q base (pI (fun v M' => M' = M ∧ (from_ < v ∧ v ≤ length) ∧ TE (gi M 13) length from_ v)))) := by
  intro mz
  induction mz with
  | zero => exact fun x3 x4 z0 z1 z2 z3 z4 z5 z6 z7 z8 z9 => by omega
  | succ mz ih =>
    intro x3 x4 i0 i1 i2 i3 i4 i5 i6 i7 i8 hmu
    refine s_blx (lv' := [(0, vR 13), (2, vI length), (3, vI x3), (4, vI x4)]) (st' := [vI length, vI x3]) B19_26_28 rfl ?_
    refine r_icmp (tgt := 63) (pc' := 31) D19_28 rfl rfl (by unfold inR; omega) (fun (c22 : length ≤ x3) => ?_) (fun (c22 : ¬ (length ≤ x3)) => ?_)
    · refine s_blx (lv' := [(0, vR 13), (2, vI length), (3, vI x3), (4, vI x4)]) (st' := [vI x3]) B19_63_64 rfl ?_
      exact r_iretI D19_64 rfl (⟨rfl, by omega, by first | exact ⟨⟨by omega, by omega⟩, i4, fun q => (by exfalso; omega), (fun p q => by exfalso; by_cases e : x4 = 1; exact p (i2 e); exact q (i3 (by omega)).2)⟩ | exact ⟨⟨by omega, by omega⟩, i4, fun _ => ⟨fun _ => (by rw [← kb]; unfold isSm; have w := km0 (by omega); omega), fun q => (by exfalso; have w := i2 (by omega); unfold isSm at w; unfold isDg at q; omega)⟩, (fun p q => by exfalso; by_cases e : x4 = 1; exact p (i2 e); exact q (i3 (by omega)).2)⟩ | exact ⟨⟨by omega, by omega⟩, i4, fun _ => ⟨fun q => absurd q (i3 (by omega)).1, fun _ => (by rw [← kb]; unfold isDg; have w := km0 (by omega); omega)⟩, (fun p q => by exfalso; by_cases e : x4 = 1; exact p (i2 e); exact q (i3 (by omega)).2)⟩ | exact ⟨⟨by omega, by omega⟩, fun j a b => (by rw [show j = from_ by omega]; exact ⟨id, id⟩), fun _ => ⟨fun q => (by exfalso; rw [← kb0] at q; unfold isSm at q; have w := kl0 (by omega); omega), fun q => (by exfalso; rw [← kb0] at q; unfold isDg at q; have w := kd0 (by omega); omega)⟩, fun _ _ => rfl⟩⟩)
    · refine s_blx (lv' := [(0, vR 13), (2, vI length), (3, vI x3), (4, vI x4)]) (st' := [vI x4]) B19_31_33 rfl ?_
      refine r_ifc (tgt := 48) (pc' := 36) D19_33 rfl rfl (by unfold inR; omega) (fun (c23 : x4 = 0) => ?_) (fun (c23 : ¬ (x4 = 0)) => ?_)
      · refine s_blx (lv' := [(0, vR 13), (2, vI length), (3, vI x3), (4, vI x4)]) (st' := [vI x3, vR 13]) B19_48_50 rfl ?_
        refine r_iald (pc' := 51) D19_50 rfl sc_13 H.1 (by omega) ?_
        intro w24 e25 r26
        have b_w24 := H.2 13 (x3) 0 255 rfl
        rw [← e25] at b_w24; clear r26
        have kb := e25
        refine r_sIp (args := [vI w24]) (rest := []) (pc' := 54) D19_51 rfl ck_4_static_82 TE23 rfl (Nat.le_of_ble_eq_true rfl) ⟨Nat.le_of_ble_eq_true rfl, Nat.le_of_ble_eq_true rfl⟩ (by decide) (dp_0 hd rfl) (k23 E (dp_n hd rfl) H w24 (by omega)) ?_
        intro v27 q32
        obtain ⟨q29, q30, q31⟩ := q32
        have km1 := q30; clear q30
        have km0 := q31; clear q31
        refine r_ifc (tgt := 63) (pc' := 57) D19_54 rfl rfl (by unfold inR; omega) (fun (c33 : v27 = 0) => ?_) (fun (c33 : ¬ (v27 = 0)) => ?_)
        · refine s_blx (lv' := [(0, vR 13), (2, vI length), (3, vI x3), (4, vI x4)]) (st' := [vI x3]) B19_63_64 rfl ?_
          exact r_iretI D19_64 rfl (⟨rfl, by omega, by first | exact ⟨⟨by omega, by omega⟩, i4, fun q => (by exfalso; omega), (fun p q => by exfalso; by_cases e : x4 = 1; exact p (i2 e); exact q (i3 (by omega)).2)⟩ | exact ⟨⟨by omega, by omega⟩, i4, fun _ => ⟨fun _ => (by rw [← kb]; unfold isSm; have w := km0 (by omega); omega), fun q => (by exfalso; have w := i2 (by omega); unfold isSm at w; unfold isDg at q; omega)⟩, (fun p q => by exfalso; by_cases e : x4 = 1; exact p (i2 e); exact q (i3 (by omega)).2)⟩ | exact ⟨⟨by omega, by omega⟩, i4, fun _ => ⟨fun q => absurd q (i3 (by omega)).1, fun _ => (by rw [← kb]; unfold isDg; have w := km0 (by omega); omega)⟩, (fun p q => by exfalso; by_cases e : x4 = 1; exact p (i2 e); exact q (i3 (by omega)).2)⟩ | exact ⟨⟨by omega, by omega⟩, fun j a b => (by rw [show j = from_ by omega]; exact ⟨id, id⟩), fun _ => ⟨fun q => (by exfalso; rw [← kb0] at q; unfold isSm at q; have w := kl0 (by omega); omega), fun q => (by exfalso; rw [← kb0] at q; unfold isDg at q; have w := kd0 (by omega); omega)⟩, fun _ _ => rfl⟩⟩)
        · refine s_blx (lv' := [(3, vI (x3 + 1)), (0, vR 13), (2, vI length), (4, vI x4)]) (st' := []) B19_57_60 rfl ?_
          refine r_goto (tgt := 26) D19_60 rfl ?_
          refine r_loc (lv' := [(0, vR 13), (2, vI length), (3, vI (x3 + 1)), (4, vI x4)]) ⟨rfl, rfl, rfl, rfl, trivial⟩ rfl rfl ?_
          exact ih (x3 + 1) x4 (by omega) (by omega) (by omega) (by omega) (fun j a b => if e : j = x3 then (by rw [e]; first | exact ⟨fun _ => (by rw [← kb]; unfold isSm; exact km1 (by omega)), fun q => (by exfalso; have w := i2 (by omega); unfold isSm at w; unfold isDg at q; omega)⟩ | exact ⟨fun q => absurd q (i3 (by omega)).1, fun _ => (by rw [← kb]; unfold isDg; exact km1 (by omega))⟩) else i4 j a (by omega)) (by omega) (by omega) (by omega) (by omega) (by omega)
      · refine s_blx (lv' := [(0, vR 13), (2, vI length), (3, vI x3), (4, vI x4)]) (st' := [vI x3, vR 13]) B19_36_38 rfl ?_
        refine r_iald (pc' := 39) D19_38 rfl sc_13 H.1 (by omega) ?_
        intro w34 e35 r36
        have b_w34 := H.2 13 (x3) 0 255 rfl
        rw [← e35] at b_w34; clear r36
        have kb := e35
        refine r_sIp (args := [vI w34]) (rest := []) (pc' := 42) D19_39 rfl ck_4_static_78 TE22 rfl (Nat.le_of_ble_eq_true rfl) ⟨Nat.le_of_ble_eq_true rfl, Nat.le_of_ble_eq_true rfl⟩ (by decide) (dp_0 hd rfl) (k22 E (dp_n hd rfl) H w34 (by omega)) ?_
        intro v37 q42
        obtain ⟨q39, q40, q41⟩ := q42
        have km1 := q40; clear q40
        have km0 := q41; clear q41
        refine r_ifc (tgt := 63) (pc' := 45) D19_42 rfl rfl (by unfold inR; omega) (fun (c43 : v37 = 0) => ?_) (fun (c43 : ¬ (v37 = 0)) => ?_)
        · refine s_blx (lv' := [(0, vR 13), (2, vI length), (3, vI x3), (4, vI x4)]) (st' := [vI x3]) B19_63_64 rfl ?_
          exact r_iretI D19_64 rfl (⟨rfl, by omega, by first | exact ⟨⟨by omega, by omega⟩, i4, fun q => (by exfalso; omega), (fun p q => by exfalso; by_cases e : x4 = 1; exact p (i2 e); exact q (i3 (by omega)).2)⟩ | exact ⟨⟨by omega, by omega⟩, i4, fun _ => ⟨fun _ => (by rw [← kb]; unfold isSm; have w := km0 (by omega); omega), fun q => (by exfalso; have w := i2 (by omega); unfold isSm at w; unfold isDg at q; omega)⟩, (fun p q => by exfalso; by_cases e : x4 = 1; exact p (i2 e); exact q (i3 (by omega)).2)⟩ | exact ⟨⟨by omega, by omega⟩, i4, fun _ => ⟨fun q => absurd q (i3 (by omega)).1, fun _ => (by rw [← kb]; unfold isDg; have w := km0 (by omega); omega)⟩, (fun p q => by exfalso; by_cases e : x4 = 1; exact p (i2 e); exact q (i3 (by omega)).2)⟩ | exact ⟨⟨by omega, by omega⟩, fun j a b => (by rw [show j = from_ by omega]; exact ⟨id, id⟩), fun _ => ⟨fun q => (by exfalso; rw [← kb0] at q; unfold isSm at q; have w := kl0 (by omega); omega), fun q => (by exfalso; rw [← kb0] at q; unfold isDg at q; have w := kd0 (by omega); omega)⟩, fun _ _ => rfl⟩⟩)
        · refine r_goto (tgt := 57) D19_45 rfl ?_
          refine s_blx (lv' := [(3, vI (x3 + 1)), (0, vR 13), (2, vI length), (4, vI x4)]) (st' := []) B19_57_60 rfl ?_
          refine r_goto (tgt := 26) D19_60 rfl ?_
          refine r_loc (lv' := [(0, vR 13), (2, vI length), (3, vI (x3 + 1)), (4, vI x4)]) ⟨rfl, rfl, rfl, rfl, trivial⟩ rfl rfl ?_
          exact ih (x3 + 1) x4 (by omega) (by omega) (by omega) (by omega) (fun j a b => if e : j = x3 then (by rw [e]; first | exact ⟨fun _ => (by rw [← kb]; unfold isSm; exact km1 (by omega)), fun q => (by exfalso; have w := i2 (by omega); unfold isSm at w; unfold isDg at q; omega)⟩ | exact ⟨fun q => absurd q (i3 (by omega)).1, fun _ => (by rw [← kb]; unfold isDg; exact km1 (by omega))⟩) else i4 j a (by omega)) (by omega) (by omega) (by omega) (by omega) (by omega)
set_option maxRecDepth 4000 in
theorem k19_13a {base : Nat} {X : Nat → Option mC} {G : Nat → Value} (E : EnvOK base X G) {d : Nat} (hd : 1 ≤ d) {M : mH} (H : HI base M) (from_ : Int) (length : Int) (h0 : 0 ≤ from_ ∧ from_ ≤ 399) (h1 : from_ < length ∧ length ≤ 400) : sOk base X G d T19 [vR 13, vI from_, vI length] M (pI (fun v M' => M' = M ∧ (from_ < v ∧ v ≤ length) ∧ TE (gi M 13) length from_ v)) := by
  refine sOk.of (show sRn base X G d T19 0 [(0, vR 13), (1, vI from_), (2, vI length)] [] M _ from ?_)
  refine s_blx (lv' := [(3, vI (from_ + 1)), (0, vR 13), (1, vI from_), (2, vI length)]) (st' := [vI from_, vR 13]) B19_0_6 rfl ?_
  refine r_iald (pc' := 7) D19_6 rfl sc_13 H.1 (by omega) ?_
  intro w1 e2 r3
  have b_w1 := H.2 13 (from_) 0 255 rfl
  rw [← e2] at b_w1; clear r3
  have kb0 := e2
  refine r_sIp (args := [vI w1]) (rest := []) (pc' := 10) D19_7 rfl ck_4_static_78 TE22 rfl (Nat.le_of_ble_eq_true rfl) ⟨Nat.le_of_ble_eq_true rfl, Nat.le_of_ble_eq_true rfl⟩ (by decide) (dp_0 hd rfl) (k22 E (dp_n hd rfl) H w1 (by omega)) ?_
  intro v4 q9
  obtain ⟨q6, q7, q8⟩ := q9
  have kl1 := q7; clear q7
  have kl0 := q8; clear q8
  refine s_blx (lv' := [(4, vI v4), (3, vI (from_ + 1)), (0, vR 13), (1, vI from_), (2, vI length)]) (st' := [vI v4]) B19_10_14 rfl ?_
  refine r_ifc (tgt := 26) (pc' := 17) D19_14 rfl rfl (by unfold inR; omega) (fun (c10 : v4 ≠ 0) => ?_) (fun (c10 : ¬ (v4 ≠ 0)) => ?_)
  · refine r_loc (lv' := [(0, vR 13), (2, vI length), (3, vI (from_ + 1)), (4, vI v4)]) ⟨rfl, rfl, rfl, rfl, trivial⟩ rfl rfl ?_
    exact (L_k19_13a E hd H from_ length h0 h1 (((400 - (from_ + 1)) * 1 + 0 : Int) + 1).toNat) (from_ + 1) v4 (by omega) (by omega) (fun h => by rw [← kb0]; unfold isSm; exact kl1 h) (fun h => by first | (exfalso; omega) | (rw [← kb0]; unfold isSm isDg; have w := kl0 h; have w2 := kd1 (by omega); omega)) (fun j a b => by rw [show j = from_ by omega]; exact ⟨id, id⟩) (by omega) (by omega) (by omega) (by omega) (by omega)
  · refine s_blx (lv' := [(4, vI v4), (3, vI (from_ + 1)), (0, vR 13), (1, vI from_), (2, vI length)]) (st' := [vI from_, vR 13]) B19_17_19 rfl ?_
    refine r_iald (pc' := 20) D19_19 rfl sc_13 H.1 (by omega) ?_
    intro w11 e12 r13
    have e14 : w1 = w11 := (e12.trans (e2.symm)).symm
    subst e14
    refine r_sIp (args := [vI w1]) (rest := []) (pc' := 23) D19_20 rfl ck_4_static_82 TE23 rfl (Nat.le_of_ble_eq_true rfl) ⟨Nat.le_of_ble_eq_true rfl, Nat.le_of_ble_eq_true rfl⟩ (by decide) (dp_0 hd rfl) (k23 E (dp_n hd rfl) H w1 (by omega)) ?_
    intro v15 q20
    obtain ⟨q17, q18, q19⟩ := q20
    have kd1 := q18; clear q18
    have kd0 := q19; clear q19
    refine r_ifc (tgt := 63) (pc' := 26) D19_23 rfl rfl (by unfold inR; omega) (fun (c21 : v15 = 0) => ?_) (fun (c21 : ¬ (v15 = 0)) => ?_)
    · refine s_blx (lv' := [(4, vI v4), (3, vI (from_ + 1)), (0, vR 13), (1, vI from_), (2, vI length)]) (st' := [vI (from_ + 1)]) B19_63_64 rfl ?_
      exact r_iretI D19_64 rfl (⟨rfl, by omega, by first | exact ⟨⟨by omega, by omega⟩, i4, fun q => (by exfalso; omega), (fun p q => by exfalso; by_cases e : x4 = 1; exact p (i2 e); exact q (i3 (by omega)).2)⟩ | exact ⟨⟨by omega, by omega⟩, i4, fun _ => ⟨fun _ => (by rw [← kb]; unfold isSm; have w := km0 (by omega); omega), fun q => (by exfalso; have w := i2 (by omega); unfold isSm at w; unfold isDg at q; omega)⟩, (fun p q => by exfalso; by_cases e : x4 = 1; exact p (i2 e); exact q (i3 (by omega)).2)⟩ | exact ⟨⟨by omega, by omega⟩, i4, fun _ => ⟨fun q => absurd q (i3 (by omega)).1, fun _ => (by rw [← kb]; unfold isDg; have w := km0 (by omega); omega)⟩, (fun p q => by exfalso; by_cases e : x4 = 1; exact p (i2 e); exact q (i3 (by omega)).2)⟩ | exact ⟨⟨by omega, by omega⟩, fun j a b => (by rw [show j = from_ by omega]; exact ⟨id, id⟩), fun _ => ⟨fun q => (by exfalso; rw [← kb0] at q; unfold isSm at q; have w := kl0 (by omega); omega), fun q => (by exfalso; rw [← kb0] at q; unfold isDg at q; have w := kd0 (by omega); omega)⟩, fun _ _ => rfl⟩⟩)
    · refine r_loc (lv' := [(0, vR 13), (2, vI length), (3, vI (from_ + 1)), (4, vI v4)]) ⟨rfl, rfl, rfl, rfl, trivial⟩ rfl rfl ?_
      exact (L_k19_13a E hd H from_ length h0 h1 (((400 - (from_ + 1)) * 1 + 0 : Int) + 1).toNat) (from_ + 1) v4 (by omega) (by omega) (fun h => by rw [← kb0]; unfold isSm; exact kl1 h) (fun h => by first | (exfalso; omega) | (rw [← kb0]; unfold isSm isDg; have w := kl0 h; have w2 := kd1 (by omega); omega)) (fun j a b => by rw [show j = from_ by omega]; exact ⟨id, id⟩) (by omega) (by omega) (by omega) (by omega) (by omega)
set_option maxRecDepth 4000 in
theorem L_k20_13a {base : Nat} {X : Nat → Option mC} {G : Nat → Value} (E : EnvOK base X G) {d : Nat} (hd : 5 ≤ d) {M : mH} (H : HI base M) (from_ : Int) (to_ : Int) (sz : Int) (h0 : 0 ≤ from_ ∧ from_ ≤ 399) (h1 : from_ < to_ ∧ to_ ≤ 400) (h2 : TE (gi M 13) sz from_ to_) : ∀ mz : Nat, (∀ (x3 x4 : Int), (isDg (gi M 13 from_)) → (x3 = dvF (gi M 13) from_ (x4 - from_).toNat ∨ (x3 = 100001 ∧ 100000 < dvF (gi M 13) from_ (x4 - from_).toNat)) → (from_ ≤ x4 ∧ x4 ≤ to_) → (0 ≤ x3 ∧ x3 ≤ 100001) → ((-48) ≤ x3) → (x3 ≤ 100001) → (0 ≤ x4) → (x4 ≤ 400) → (400 - x4) * 1 + 0 < (mz : Int) → sRn base X G d T20 37 [(0, vR 13), (2, vI to_), (3, vI x3), (4, vI x4)] [] M (s_Q base (pI (fun v M' => M' = M ∧ (0 ≤ v ∧ v ≤ 60000000) ∧ KD (gi M 13) from_ to_ (v % 512) (v / 512))))) := by
  intro mz
  induction mz with
  | zero => exact fun x3 x4 z0 z1 z2 z3 z4 z5 z6 z7 z8 => by omega
  | succ mz ih =>
    intro x3 x4 i0 i1 i2 i3 i4 i5 i6 i7 hmu
    refine s_blx (lv' := [(0, vR 13), (2, vI to_), (3, vI x3), (4, vI x4)]) (st' := [vI to_, vI x4]) B20_37_40 rfl ?_
    refine r_icmp (tgt := 67) (pc' := 43) D20_40 rfl rfl (by unfold inR; omega) (fun (c31 : to_ ≤ x4) => ?_) (fun (c31 : ¬ (to_ ≤ x4)) => ?_)
    · refine s_blx (lv' := [(0, vR 13), (2, vI to_), (3, vI x3), (4, vI x4)]) (st' := [vI x3]) B20_67_68 rfl ?_
      refine r_ldc (e := 100000) (pc' := 70) D20_68 rfl ci_4_89 (by decide) ?_
      refine r_icmp (tgt := 78) (pc' := 73) D20_70 rfl rfl (by unfold inR; omega) (fun (c32 : x3 ≤ 100000) => ?_) (fun (c32 : ¬ (x3 ≤ 100000)) => ?_)
      · refine s_blx (lv' := [(0, vR 13), (2, vI to_), (3, vI x3), (4, vI x4)]) (st' := [vI 9, vI x3]) B20_78_81 rfl ?_
        refine r_shl9 (pc' := 82) D20_81 rfl ?_
        refine s_blx (lv' := [(0, vR 13), (2, vI to_), (3, vI x3), (4, vI x4)]) (st' := [vI 21, vI (x3 * 512)]) B20_82_84 rfl ?_
        refine r_bin (pc' := 85) D20_84 rfl rfl ?_
        intro z33 r34 kq; unfold inR at r34
        have kz := or512_of (by unfold inR; omega) kq (by omega) (by omega) (by omega)
        exact r_iretI D20_85 rfl (⟨rfl, by omega, ⟨fun q => (by exfalso; unfold isSm at q; have w := i0; unfold isDg at w; omega), fun _ => (by rw [show (to_ - from_).toNat = (x4 - from_).toNat by omega]; omega), fun _ q => absurd i0 q⟩⟩)
      · refine s_blx (lv' := [(0, vR 13), (2, vI to_), (3, vI x3), (4, vI x4)]) (st' := [vI 23]) B20_73_75 rfl ?_
        refine r_goto (tgt := 85) D20_75 rfl ?_
        exact r_iretI D20_85 rfl (⟨rfl, by omega, ⟨fun q => (by exfalso; unfold isSm at q; have w := i0; unfold isDg at w; omega), fun _ => (by rw [show (to_ - from_).toNat = (x4 - from_).toNat by omega]; omega), fun _ q => absurd i0 q⟩⟩)
    · refine s_blx (lv' := [(0, vR 13), (2, vI to_), (3, vI x3), (4, vI x4)]) (st' := [vI x4, vR 13, vI (x3 * 10)]) B20_43_50 rfl ?_
      refine r_iald (pc' := 51) D20_50 rfl sc_13 H.1 (by omega) ?_
      intro w35 e36 r37
      have b_w35 := H.2 13 (x4) 0 255 rfl
      rw [← e36] at b_w35; clear r37
      have kb := e36
      have kdg := ((h2.2.1 x4 (by omega) (by omega)).2 i0)
      rw [← kb] at kdg
      unfold isDg at kdg
      refine s_blx (lv' := [(0, vR 13), (2, vI to_), (3, vI x3), (4, vI x4)]) (st' := [vI (((x3 * 10) + w35) - 48)]) B20_51_55 rfl ?_
      refine r_ldc (e := 100001) (pc' := 57) D20_55 rfl ci_4_88 (by decide) ?_
      refine r_min (pc' := 60) D20_57 rfl mc_4_static_46 sp_4_46 (Nat.le_of_ble_eq_true rfl) (by unfold inR; omega) ?_
      intro z38 r39 r40 r41
      refine s_blx (lv' := [(4, vI (x4 + 1)), (3, vI z38), (0, vR 13), (2, vI to_)]) (st' := []) B20_60_64 rfl ?_
      refine r_goto (tgt := 37) D20_64 rfl ?_
      refine r_loc (lv' := [(0, vR 13), (2, vI to_), (3, vI z38), (4, vI (x4 + 1))]) ⟨rfl, rfl, rfl, rfl, trivial⟩ rfl rfl ?_
      exact ih z38 (x4 + 1) (by omega) (by rw [show (x4 + 1 - from_).toNat = (x4 - from_ + 1).toNat by omega, dvF_s (by omega), show from_ + (x4 - from_) = x4 by omega, ← kb]; omega) (by omega) (by omega) (by omega) (by omega) (by omega) (by omega) (by omega)
set_option maxRecDepth 4000 in
theorem k20_13a {base : Nat} {X : Nat → Option mC} {G : Nat → Value} (E : EnvOK base X G) {d : Nat} (hd : 5 ≤ d) {M : mH} (H : HI base M) (from_ : Int) (to_ : Int) (sz : Int) (h0 : 0 ≤ from_ ∧ from_ ≤ 399) (h1 : from_ < to_ ∧ to_ ≤ 400) (h2 : TE (gi M 13) sz from_ to_) : sOk base X G d T20 [vR 13, vI from_, vI to_] M (pI (fun v M' => M' = M ∧ (0 ≤ v ∧ v ≤ 60000000) ∧ KD (gi M 13) from_ to_ (v % 512) (v / 512))) := by
  refine sOk.of (show sRn base X G d T20 0 [(0, vR 13), (1, vI from_), (2, vI to_)] [] M _ from ?_)
  refine s_blx (lv' := [(0, vR 13), (1, vI from_), (2, vI to_)]) (st' := [vI from_, vR 13]) B20_0_2 rfl ?_
  refine r_iald (pc' := 3) D20_2 rfl sc_13 H.1 (by omega) ?_
  intro w1 e2 r3
  have b_w1 := H.2 13 (from_) 0 255 rfl
  rw [← e2] at b_w1; clear r3
  have kb0 := e2
  refine r_sIp (args := [vI w1]) (rest := []) (pc' := 6) D20_3 rfl ck_4_static_78 TE22 rfl (Nat.le_of_ble_eq_true rfl) ⟨Nat.le_of_ble_eq_true rfl, Nat.le_of_ble_eq_true rfl⟩ (by decide) (dp_0 hd rfl) (k22 E (dp_n hd rfl) H w1 (by omega)) ?_
  intro v4 q9
  obtain ⟨q6, q7, q8⟩ := q9
  have kl1 := q7; clear q7
  have kl0 := q8; clear q8
  refine r_ifc (tgt := 16) (pc' := 9) D20_6 rfl rfl (by unfold inR; omega) (fun (c10 : v4 = 0) => ?_) (fun (c10 : ¬ (v4 = 0)) => ?_)
  · refine s_blx (lv' := [(0, vR 13), (1, vI from_), (2, vI to_)]) (st' := [vI from_, vR 13]) B20_16_18 rfl ?_
    refine r_iald (pc' := 19) D20_18 rfl sc_13 H.1 (by omega) ?_
    intro w11 e12 r13
    have e14 : w1 = w11 := (e12.trans (e2.symm)).symm
    subst e14
    refine r_sIp (args := [vI w1]) (rest := []) (pc' := 22) D20_19 rfl ck_4_static_82 TE23 rfl (Nat.le_of_ble_eq_true rfl) ⟨Nat.le_of_ble_eq_true rfl, Nat.le_of_ble_eq_true rfl⟩ (by decide) (dp_0 hd rfl) (k23 E (dp_n hd rfl) H w1 (by omega)) ?_
    intro v15 q20
    obtain ⟨q17, q18, q19⟩ := q20
    have kd1 := q18; clear q18
    have kd0 := q19; clear q19
    refine r_ifc (tgt := 32) (pc' := 25) D20_22 rfl rfl (by unfold inR; omega) (fun (c21 : v15 ≠ 0) => ?_) (fun (c21 : ¬ (v15 ≠ 0)) => ?_)
    · refine s_blx (lv' := [(4, vI from_), (3, vI 0), (0, vR 13), (1, vI from_), (2, vI to_)]) (st' := []) B20_32_37 rfl ?_
      refine r_loc (lv' := [(0, vR 13), (2, vI to_), (3, vI 0), (4, vI from_)]) ⟨rfl, rfl, rfl, rfl, trivial⟩ rfl rfl ?_
      exact (L_k20_13a E hd H from_ to_ sz h0 h1 h2 (((400 - from_) * 1 + 0 : Int) + 1).toNat) 0 from_ (by rw [← kb0]; unfold isDg; exact kd1 (by omega)) (Or.inl (by rw [show (from_ - from_).toNat = 0 by omega]; rfl)) (by omega) (by omega) (by omega) (by omega) (by omega) (by omega) (by omega)
    · refine s_blx (lv' := [(0, vR 13), (1, vI from_), (2, vI to_)]) (st' := [vI from_, vR 13, vI 100]) B20_25_29 rfl ?_
      refine r_iald (pc' := 30) D20_29 rfl sc_13 H.1 (by omega) ?_
      intro w22 e23 r24
      have e25 : w1 = w22 := (e23.trans (e2.symm)).symm
      subst e25
      refine s_blx (lv' := [(0, vR 13), (1, vI from_), (2, vI to_)]) (st' := [vI (100 + w1)]) B20_30_31 rfl ?_
      exact r_iretI D20_31 rfl (⟨rfl, by omega, ⟨fun q => (by exfalso; have w := kl0 (by omega); rw [← kb0] at q; unfold isSm at q; omega), fun q => (by exfalso; have w := kd0 (by omega); rw [← kb0] at q; unfold isDg at q; omega), fun _ _ => (by rw [← kb0]; omega)⟩⟩)
  · refine s_blx (lv' := [(0, vR 13), (1, vI from_), (2, vI to_)]) (st' := [vI to_, vI from_, vR 13]) B20_9_12 rfl ?_
    refine r_sIp (args := [vR 13, vI from_, vI to_]) (rest := []) (pc' := 15) D20_12 rfl ck_4_static_85 TE21 rfl (Nat.le_of_ble_eq_true rfl) ⟨Nat.le_of_ble_eq_true rfl, Nat.le_of_ble_eq_true rfl⟩ (by decide) (dp_0 hd rfl) (k21_13a E (dp_n hd rfl) H from_ to_ (by omega) (by omega)) ?_
    intro v26 q30
    obtain ⟨q28, q29⟩ := q30
    have kw := q29; clear q29
    exact r_iretI D20_15 rfl (⟨rfl, by omega, ⟨fun _ => (by rw [show v26 % 512 = v26 by omega]; exact kw), fun q => (by exfalso; have w := kl1 (by omega); rw [← kb0] at q; unfold isDg at q; omega), fun q => (by exfalso; have w := kl1 (by omega); rw [← kb0] at q; unfold isSm at q; omega)⟩⟩)
set_option maxRecDepth 4000 in
theorem L_k18_14_13a {base : Nat} {X : Nat → Option mC} {G : Nat → Value} (E : EnvOK base X G) {d : Nat} (hd : 6 ≤ d) {M : mH} (H : HI base M) (length : Int) (h0 : 0 ≤ length ∧ length ≤ 400) : ∀ mz : Nat, (∀ (x3 x4 x5 : Int) (N : mH), HI base N → Fr [(15, 0), (16, 0)] M N → (PTK (gi M 13) length x3 (gi N 16) x4) → (∀ j : Int, 0 ≤ j → j < x3 → ∃ e, TE (gi M 13) length (gi N 16 j) e ∧ KD (gi M 13) (gi N 16 j) e (gi N 15 j % 512) (gi N 15 j / 512)) → (0 ≤ x3 ∧ x3 ≤ x4) → (0 ≤ x4 ∧ x4 ≤ length) → (0 ≤ x5 ∧ x5 ≤ x4) → (0 ≤ x3) → (x3 ≤ 401) → (0 ≤ x4) → (x4 ≤ 400) → (0 ≤ x5) → (x5 ≤ 400) → (400 - x5) * 1 + 0 < (mz : Int) → sRn base X G d T18 8 [(0, vR 14), (1, vR 13), (2, vI length), (3, vI x3), (4, vI x4), (5, vI x5)] [] N (s_Q base (pV (fun M' => HI base M' ∧ Fr [(15, 0), (16, 0)] M M' ∧ (∃ n : Int, (0 ≤ n ∧ n ≤ 400) ∧ gi M' 15 n = 22 ∧ TOK (gi M 13) length n (gi M' 16) (fun j => gi M' 15 j % 512) (fun j => gi M' 15 j / 512)))))) := by
  have f0 : Fr [(15, 0), (16, 0)] M M := Fr.rf
  intro mz
  induction mz with
  | zero => exact fun x3 x4 x5 N _ _ z0 z1 z2 z3 z4 z5 z6 z7 z8 z9 z10 z11 => by omega
  | succ mz ih =>
    intro x3 x4 x5 N HN fN i0 i1 i2 i3 i4 i5 i6 i7 i8 i9 i10 hmu
    refine s_blx (lv' := [(0, vR 14), (1, vR 13), (2, vI length), (3, vI x3), (4, vI x4), (5, vI x5)]) (st' := [vI 400, vI x5]) B18_8_13 rfl ?_
    refine r_icmp (tgt := 75) (pc' := 16) D18_13 rfl rfl (by unfold inR; omega) (fun (c1 : 400 ≤ x5) => ?_) (fun (c1 : ¬ (400 ≤ x5)) => ?_)
    · refine s_blx (lv' := [(0, vR 14), (1, vR 13), (2, vI length), (3, vI x3), (4, vI x4), (5, vI x5)]) (st' := [vR 14]) B18_75_76 rfl ?_
      refine r_gfix (r := 16) (pc' := 79) D18_76 rfl gf_4_15_14 HN.1 ?_
      refine s_blx (lv' := [(0, vR 14), (1, vR 13), (2, vI length), (3, vI x3), (4, vI x4), (5, vI x5)]) (st' := [vI length, vI x3, vR 16]) B18_79_81 rfl ?_
      refine r_iast (pc' := 82) D18_81 rfl sc_16 HN (by omega) (by unfold inR; omega) trivial ?_
      intro M2 u3 H4 p5
      have f6 := fN.wr u3 rfl
      have ku3 := u3
      have kp3 := p5
      refine s_blx (lv' := [(0, vR 14), (1, vR 13), (2, vI length), (3, vI x3), (4, vI x4), (5, vI x5)]) (st' := [vR 14]) B18_82_83 rfl ?_
      refine r_gfix (r := 15) (pc' := 86) D18_83 rfl gf_4_9_14 H4.1 ?_
      refine s_blx (lv' := [(0, vR 14), (1, vR 13), (2, vI length), (3, vI x3), (4, vI x4), (5, vI x5)]) (st' := [vI 22, vI x3, vR 15]) B18_86_89 rfl ?_
      refine r_iast (pc' := 90) D18_89 rfl sc_15 H4 (by omega) (by unfold inR; omega) (show 0 ≤ 22 ∧ 22 ≤ 60000000 by omega) ?_
      intro M7 u8 H9 p10
      have f11 := f6.wr u8 rfl
      have ku4 := u8
      have kp4 := p10
      exact r_retV D18_90 rfl (⟨H9, f11, ⟨x3, by omega, kp4, i0.done (by omega) (fun j a b => (ku4.gi_ne (by omega) (Or.inl (by decide))).trans (ku3.gi_ne (by omega) (Or.inr (by omega)))) ((ku4.gi_ne (by omega) (Or.inl (by decide))).trans kp3), fun j a b => by show ∃ e, TE (gi M 13) length (gi M7 16 j) e ∧ KD (gi M 13) (gi M7 16 j) e (gi M7 15 j % 512) (gi M7 15 j / 512); rw [ku4.gi_ne (by omega) (Or.inl (by decide)), ku3.gi_ne (by omega) (Or.inr (by omega)), ku4.gi_ne (by omega) (Or.inr (by omega)), ku3.gi_ne (by omega) (Or.inl (by decide))]; exact i1 j a b, by show gi M7 15 x3 % 512 = 22; omega⟩⟩)
    · refine s_blx (lv' := [(0, vR 14), (1, vR 13), (2, vI length), (3, vI x3), (4, vI x4), (5, vI x5)]) (st' := [vI length, vI x4]) B18_16_19 rfl ?_
      refine r_icmp (tgt := 75) (pc' := 22) D18_19 rfl rfl (by unfold inR; omega) (fun (c12 : length ≤ x4) => ?_) (fun (c12 : ¬ (length ≤ x4)) => ?_)
      · refine s_blx (lv' := [(0, vR 14), (1, vR 13), (2, vI length), (3, vI x3), (4, vI x4), (5, vI x5)]) (st' := [vR 14]) B18_75_76 rfl ?_
        refine r_gfix (r := 16) (pc' := 79) D18_76 rfl gf_4_15_14 HN.1 ?_
        refine s_blx (lv' := [(0, vR 14), (1, vR 13), (2, vI length), (3, vI x3), (4, vI x4), (5, vI x5)]) (st' := [vI length, vI x3, vR 16]) B18_79_81 rfl ?_
        refine r_iast (pc' := 82) D18_81 rfl sc_16 HN (by omega) (by unfold inR; omega) trivial ?_
        intro M13 u14 H15 p16
        have f17 := fN.wr u14 rfl
        have ku3 := u14
        have kp3 := p16
        refine s_blx (lv' := [(0, vR 14), (1, vR 13), (2, vI length), (3, vI x3), (4, vI x4), (5, vI x5)]) (st' := [vR 14]) B18_82_83 rfl ?_
        refine r_gfix (r := 15) (pc' := 86) D18_83 rfl gf_4_9_14 H15.1 ?_
        refine s_blx (lv' := [(0, vR 14), (1, vR 13), (2, vI length), (3, vI x3), (4, vI x4), (5, vI x5)]) (st' := [vI 22, vI x3, vR 15]) B18_86_89 rfl ?_
        refine r_iast (pc' := 90) D18_89 rfl sc_15 H15 (by omega) (by unfold inR; omega) (show 0 ≤ 22 ∧ 22 ≤ 60000000 by omega) ?_
        intro M18 u19 H20 p21
        have f22 := f17.wr u19 rfl
        have ku4 := u19
        have kp4 := p21
        exact r_retV D18_90 rfl (⟨H20, f22, ⟨x3, by omega, kp4, i0.done (by omega) (fun j a b => (ku4.gi_ne (by omega) (Or.inl (by decide))).trans (ku3.gi_ne (by omega) (Or.inr (by omega)))) ((ku4.gi_ne (by omega) (Or.inl (by decide))).trans kp3), fun j a b => by show ∃ e, TE (gi M 13) length (gi M18 16 j) e ∧ KD (gi M 13) (gi M18 16 j) e (gi M18 15 j % 512) (gi M18 15 j / 512); rw [ku4.gi_ne (by omega) (Or.inl (by decide)), ku3.gi_ne (by omega) (Or.inr (by omega)), ku4.gi_ne (by omega) (Or.inr (by omega)), ku3.gi_ne (by omega) (Or.inl (by decide))]; exact i1 j a b, by show gi M18 15 x3 % 512 = 22; omega⟩⟩)
      · refine s_blx (lv' := [(0, vR 14), (1, vR 13), (2, vI length), (3, vI x3), (4, vI x4), (5, vI x5)]) (st' := [vI length, vI x4, vR 13]) B18_22_26 rfl ?_
        refine r_sIp (args := [vR 13, vI x4, vI length]) (rest := []) (pc' := 29) D18_26 rfl ck_4_static_71 TE19 rfl (Nat.le_of_ble_eq_true rfl) ⟨Nat.le_of_ble_eq_true rfl, Nat.le_of_ble_eq_true rfl⟩ (by decide) (dp_0 hd rfl) (k19_13a E (dp_n hd rfl) HN x4 length (by omega) (by omega)) ?_
        intro v23 q27
        obtain ⟨q25, q26⟩ := q27
        have k13 : gi N 13 = gi M 13 := funext fun j => fN.g rfl
        have kte := q26
        rw [k13] at kte
        have kv := v23
        refine s_blx (lv' := [(6, vI v23), (0, vR 14), (1, vR 13), (2, vI length), (3, vI x3), (4, vI x4), (5, vI x5)]) (st' := [vI x4, vR 13]) B18_29_34 rfl ?_
        refine r_iald (pc' := 35) D18_34 rfl sc_13 HN.1 (by omega) ?_
        intro w28 e29 r30
        have b_w28 := HN.2 13 (x4) 0 255 rfl
        rw [← e29] at b_w28; clear r30
        have kb := e29.trans (congrFun k13 x4)
        have kble : w28 = 32 → PTK (gi M 13) length x3 (gi N 16) v23 := fun h => (by have w := kte.2.2.2 (by rw [← kb]; unfold isSm; omega) (by rw [← kb]; unfold isDg; omega); rw [w]; exact i0.blank (by omega) (by rw [← kb]; exact h))
        refine s_blx (lv' := [(6, vI v23), (0, vR 14), (1, vR 13), (2, vI length), (3, vI x3), (4, vI x4), (5, vI x5)]) (st' := [vI 32, vI w28]) B18_35_37 rfl ?_
        refine r_icmp (tgt := 65) (pc' := 40) D18_37 rfl rfl (by unfold inR; omega) (fun (c31 : w28 = 32) => ?_) (fun (c31 : ¬ (w28 = 32)) => ?_)
        · refine s_blx (lv' := [(5, vI (x5 + 1)), (4, vI v23), (6, vI v23), (0, vR 14), (1, vR 13), (2, vI length), (3, vI x3)]) (st' := []) B18_65_72 rfl ?_
          refine r_goto (tgt := 8) D18_72 rfl ?_
          refine r_loc (lv' := [(0, vR 14), (1, vR 13), (2, vI length), (3, vI x3), (4, vI v23), (5, vI (x5 + 1))]) ⟨rfl, rfl, rfl, rfl, rfl, rfl, trivial⟩ rfl rfl ?_
          exact ih x3 v23 (x5 + 1) N HN fN (by first | exact kpt | exact kble (by omega)) (by first | exact kkd | exact i1) (by omega) (by omega) (by omega) (by omega) (by omega) (by omega) (by omega) (by omega) (by omega) (by omega)
        · refine s_blx (lv' := [(6, vI v23), (0, vR 14), (1, vR 13), (2, vI length), (3, vI x3), (4, vI x4), (5, vI x5)]) (st' := [vR 14]) B18_40_41 rfl ?_
          refine r_gfix (r := 16) (pc' := 44) D18_41 rfl gf_4_15_14 HN.1 ?_
          refine s_blx (lv' := [(6, vI v23), (0, vR 14), (1, vR 13), (2, vI length), (3, vI x3), (4, vI x4), (5, vI x5)]) (st' := [vI x4, vI x3, vR 16]) B18_44_47 rfl ?_
          refine r_iast (pc' := 48) D18_47 rfl sc_16 HN (by omega) (by unfold inR; omega) trivial ?_
          intro M32 u33 H34 p35
          have f36 := fN.wr u33 rfl
          have ku1 := u33
          have kp1 := p35
          have k13b : gi M32 13 = gi M 13 := (funext fun j => ku1.gi_ne (by omega) (Or.inl (by decide))).trans k13
          refine s_blx (lv' := [(6, vI v23), (0, vR 14), (1, vR 13), (2, vI length), (3, vI x3), (4, vI x4), (5, vI x5)]) (st' := [vR 14]) B18_48_49 rfl ?_
          refine r_gfix (r := 15) (pc' := 52) D18_49 rfl gf_4_9_14 H34.1 ?_
          refine s_blx (lv' := [(6, vI v23), (0, vR 14), (1, vR 13), (2, vI length), (3, vI x3), (4, vI x4), (5, vI x5)]) (st' := [vI v23, vI x4, vR 13, vI x3, vR 15]) B18_52_58 rfl ?_
          refine r_sIp (args := [vR 13, vI x4, vI v23]) (rest := [vI x3, vR 15]) (pc' := 61) D18_58 rfl ck_4_static_75 TE20 rfl (Nat.le_of_ble_eq_true rfl) ⟨Nat.le_of_ble_eq_true rfl, Nat.le_of_ble_eq_true rfl⟩ (by decide) (dp_0 hd rfl) (k20_13a E (dp_n hd rfl) H34 x4 v23 length (by omega) (by omega) (by rw [k13b]; exact kte)) ?_
          intro v37 q41
          obtain ⟨q39, q40⟩ := q41
          have kkd0 := q40
          rw [k13b] at kkd0
          refine r_iast (pc' := 62) D18_61 rfl sc_15 H34 (by omega) (by unfold inR; omega) (show 0 ≤ v37 ∧ v37 ≤ 60000000 by omega) ?_
          intro M42 u43 H44 p45
          have f46 := f36.wr u43 rfl
          have ku2 := u43
          have kp2 := p45
          have kpt : PTK (gi M 13) length (x3 + 1) (gi M42 16) v23 := i0.tok (by omega) (by rw [← kb]; omega) kte (fun j a b => (ku2.gi_ne (by omega) (Or.inl (by decide))).trans (ku1.gi_ne (by omega) (Or.inr (by omega)))) ((ku2.gi_ne (by omega) (Or.inl (by decide))).trans kp1)
          have kkd : ∀ j : Int, 0 ≤ j → j < x3 + 1 → ∃ e, TE (gi M 13) length (gi M42 16 j) e ∧ KD (gi M 13) (gi M42 16 j) e (gi M42 15 j % 512) (gi M42 15 j / 512) := fun j a b => if e : j = x3 then ⟨v23, by rw [e, ku2.gi_ne (by omega) (Or.inl (by decide)), kp1]; exact kte, by rw [e, kp2, ku2.gi_ne (by omega) (Or.inl (by decide)), kp1]; exact kkd0⟩ else (by rw [ku2.gi_ne (by omega) (Or.inl (by decide)), ku1.gi_ne (by omega) (Or.inr (by omega)), ku2.gi_ne (by omega) (Or.inr (by omega)), ku1.gi_ne (by omega) (Or.inl (by decide))]; exact i1 j a (by omega))
          refine s_blx (lv' := [(5, vI (x5 + 1)), (4, vI v23), (3, vI (x3 + 1)), (6, vI v23), (0, vR 14), (1, vR 13), (2, vI length)]) (st' := []) B18_62_72 rfl ?_
          refine r_goto (tgt := 8) D18_72 rfl ?_
          refine r_loc (lv' := [(0, vR 14), (1, vR 13), (2, vI length), (3, vI (x3 + 1)), (4, vI v23), (5, vI (x5 + 1))]) ⟨rfl, rfl, rfl, rfl, rfl, rfl, trivial⟩ rfl rfl ?_
          exact ih (x3 + 1) v23 (x5 + 1) M42 H44 f46 (by first | exact kpt | exact kble (by omega)) (by first | exact kkd | exact i1) (by omega) (by omega) (by omega) (by omega) (by omega) (by omega) (by omega) (by omega) (by omega) (by omega)
set_option maxRecDepth 4000 in
theorem k18_14_13a {base : Nat} {X : Nat → Option mC} {G : Nat → Value} (E : EnvOK base X G) {d : Nat} (hd : 6 ≤ d) {M : mH} (H : HI base M) (length : Int) (h0 : 0 ≤ length ∧ length ≤ 400) : sOk base X G d T18 [vR 14, vR 13, vI length] M (pV (fun M' => HI base M' ∧ Fr [(15, 0), (16, 0)] M M' ∧ (∃ n : Int, (0 ≤ n ∧ n ≤ 400) ∧ gi M' 15 n = 22 ∧ TOK (gi M 13) length n (gi M' 16) (fun j => gi M' 15 j % 512) (fun j => gi M' 15 j / 512)))) := by
  have f0 : Fr [(15, 0), (16, 0)] M M := Fr.rf
  refine sOk.of (show sRn base X G d T18 0 [(0, vR 14), (1, vR 13), (2, vI length)] [] M _ from ?_)
  refine s_blx (lv' := [(5, vI 0), (4, vI 0), (3, vI 0), (0, vR 14), (1, vR 13), (2, vI length)]) (st' := []) B18_0_8 rfl ?_
  refine r_loc (lv' := [(0, vR 14), (1, vR 13), (2, vI length), (3, vI 0), (4, vI 0), (5, vI 0)]) ⟨rfl, rfl, rfl, rfl, rfl, rfl, trivial⟩ rfl rfl ?_
  exact (L_k18_14_13a E hd H length h0 (((400 - 0) * 1 + 0 : Int) + 1).toNat) 0 0 0 M H f0 (PTK.zero (by omega)) (fun j a b => by omega) (by omega) (by omega) (by omega) (by omega) (by omega) (by omega) (by omega) (by omega) (by omega) (by omega)
set_option maxRecDepth 4000 in
theorem L_k214a {base : Nat} {X : Nat → Option mC} {G : Nat → Value} (E : EnvOK base X G) {d : Nat} (hd : 0 ≤ d) {M : mH} (H : HI base M) (from_ : Int) (to_ : Int) (h0 : WX M) (h1 : 0 ≤ from_ ∧ from_ ≤ 399) (h2 : from_ < to_ ∧ to_ ≤ 400) : ∀ mz : Nat, (∀ (x3 x4 : Int), (1 ≤ x3 ∧ x3 ≤ 22) → (x4 = kwO (x3 - 1)) → (NKW (fun i => gi M 95 i % 256) from_ to_ (x3 - 1)) → (0 ≤ x4 ∧ x4 ≤ 104) → (1 ≤ x3) → (x3 ≤ 22) → (0 ≤ x4) → (x4 ≤ 205) → (104 - x4) * 211 + 210 < (mz : Int) → sRn base X G d T214 5 [(0, vR 77), (1, vI from_), (2, vI to_), (3, vI x3), (4, vI x4)] [] M (s_Q base (pI (fun v M' => M' = M ∧ (0 ≤ v ∧ v ≤ 21) ∧ WRR (fun i => gi M 95 i % 256) from_ to_ v)))) ∧ (∀ (x3 x4 x5 : Int), (1 ≤ x3 ∧ x3 ≤ 21) → (x4 = kwO (x3 - 1)) → (NKW (fun i => gi M 95 i % 256) from_ to_ (x3 - 1)) → (0 ≤ x5 ∧ x5 ≤ kwN (x3 - 1)) → (0 ≤ x4 ∧ x4 + kwN (x3 - 1) ≤ 103) → (2 ≤ kwN (x3 - 1)) → (0 ≤ x5 ∧ x5 ≤ 103) → (1 ≤ x3) → (x3 ≤ 22) → (0 ≤ x4) → (x4 ≤ 103) → (0 ≤ x5) → (x5 ≤ 104) → (104 - x4) * 211 + 0 + (104 - x5) * 1 + 105 < (mz : Int) → sRn base X G d T214 18 [(0, vR 77), (1, vI from_), (2, vI to_), (3, vI x3), (4, vI x4), (5, vI x5)] [] M (s_Q base (pI (fun v M' => M' = M ∧ (0 ≤ v ∧ v ≤ 21) ∧ WRR (fun i => gi M 95 i % 256) from_ to_ v)))) ∧ (∀ (x3 x4 x5 x6 x7 : Int), (1 ≤ x3 ∧ x3 ≤ 21) → (x4 = kwO (x3 - 1)) → (NKW (fun i => gi M 95 i % 256) from_ to_ (x3 - 1)) → (x5 = kwN (x3 - 1)) → (0 ≤ x7 ∧ x7 ≤ x5) → (0 ≤ x6 ∧ x6 ≤ 1) → (x6 = 1 → x5 = to_ - from_ ∧ ∀ j : Int, 0 ≤ j → j < x7 → gi M 95 (from_ + j) % 256 = kwL (x4 + j)) → (x6 = 0 → ¬ eqW (fun i => gi M 95 i % 256) from_ to_ (x3 - 1)) → (0 ≤ x4 ∧ x4 + x5 ≤ 103) → (2 ≤ x5) → (0 ≤ x5 ∧ x5 ≤ 103) → (0 ≤ x7 ∧ x7 ≤ 103) → (1 ≤ x3) → (x3 ≤ 21) → (0 ≤ x4) → (x4 ≤ 103) → (0 ≤ x5) → (x5 ≤ 103) → (0 ≤ x6) → (x6 ≤ 1) → (0 ≤ x7) → (x7 ≤ 103) → (104 - x4) * 211 + 0 + (104 - x7) * 1 + 0 < (mz : Int) → sRn base X G d T214 57 [(0, vR 77), (1, vI from_), (2, vI to_), (3, vI x3), (4, vI x4), (5, vI x5), (6, vI x6), (7, vI x7)] [] M (s_Q base (pI (fun v M' => M' = M ∧ (0 ≤ v ∧ v ≤ 21) ∧ WRR (fun i => gi M 95 i % 256) from_ to_ v)))) := by
  intro mz
  induction mz with
  | zero => exact ⟨fun x3 x4 z0 z1 z2 z3 z4 z5 z6 z7 z8 => by omega, fun x3 x4 x5 z0 z1 z2 z3 z4 z5 z6 z7 z8 z9 z10 z11 z12 z13 => by omega, fun x3 x4 x5 x6 x7 z0 z1 z2 z3 z4 z5 z6 z7 z8 z9 z10 z11 z12 z13 z14 z15 z16 z17 z18 z19 z20 z21 z22 => by omega⟩
  | succ mz ih =>
    refine ⟨?_, ?_, ?_⟩
    · intro x3 x4 i0 i1 i2 i3 i4 i5 i6 i7 hmu
      have kx : x3 = 22 → x4 = 104 := fun h => by rw [i1, h]; decide
      have ky : x3 ≤ 21 → x4 + kwN (x3 - 1) ≤ 103 ∧ 2 ≤ kwN (x3 - 1) := fun h => by have t := kw_t (w := x3 - 1) (by omega); omega
      refine s_blx (lv' := [(0, vR 77), (1, vI from_), (2, vI to_), (3, vI x3), (4, vI x4)]) (st' := [vR 77, vI x4]) B214_5_8 rfl ?_
      refine r_gfix (r := 94) (pc' := 11) D214_8 rfl gf_11_65_77 H.1 ?_
      refine r_len (ni := 104) (pc' := 12) D214_11 rfl sc_94 (by decide) rfl H.1 ?_
      refine r_icmp (tgt := 126) (pc' := 15) D214_12 rfl rfl (by unfold inR; omega) (fun (c1 : 104 ≤ x4) => ?_) (fun (c1 : ¬ (104 ≤ x4)) => ?_)
      · refine s_blx (lv' := [(0, vR 77), (1, vI from_), (2, vI to_), (3, vI x3), (4, vI x4)]) (st' := [vI 0]) B214_126_127 rfl ?_
        exact r_iretI D214_127 rfl (⟨rfl, by omega, Or.inl ⟨rfl, (by have e : x3 - 1 = 21 := (by by_cases c : x3 = 22; omega; (have k := ky (by omega); omega)); rw [e] at i2; exact i2)⟩⟩)
      · refine s_blx (lv' := [(5, vI 0), (0, vR 77), (1, vI from_), (2, vI to_), (3, vI x3), (4, vI x4)]) (st' := []) B214_15_18 rfl ?_
        refine r_loc (lv' := [(0, vR 77), (1, vI from_), (2, vI to_), (3, vI x3), (4, vI x4), (5, vI 0)]) ⟨rfl, rfl, rfl, rfl, rfl, rfl, trivial⟩ rfl rfl ?_
        exact ih.2.1 x3 x4 0 (by omega) (by omega) (i2) (by omega) (by omega) (by omega) (by omega) (by omega) (by omega) (by omega) (by omega) (by omega) (by omega) (by omega)
    · intro x3 x4 x5 i0 i1 i2 i3 i4 i5 i6 i7 i8 i9 i10 i11 i12 hmu
      refine s_blx (lv' := [(0, vR 77), (1, vI from_), (2, vI to_), (3, vI x3), (4, vI x4), (5, vI x5)]) (st' := [vR 77]) B214_18_19 rfl ?_
      refine r_gfix (r := 94) (pc' := 22) D214_19 rfl gf_11_65_77 H.1 ?_
      refine s_blx (lv' := [(0, vR 77), (1, vI from_), (2, vI to_), (3, vI x3), (4, vI x4), (5, vI x5)]) (st' := [vI (x4 + x5), vR 94]) B214_22_27 rfl ?_
      refine r_bald (pc' := 28) D214_27 rfl sc_94 (by decide) H.1 (by omega) ?_
      intro w2 e3 r4
      have b_w2 := H.2 94 (x4 + x5) (-128) 127 rfl
      rw [← e3] at b_w2; clear r4
      have kch : w2 = kwL (kwO (x3 - 1) + x5) := by rw [← i1]; exact e3.trans (h0 (x4 + x5) (by omega) (by omega))
      have kat := kw_at (w := x3 - 1) (by omega) (by omega) kch
      refine s_blx (lv' := [(0, vR 77), (1, vI from_), (2, vI to_), (3, vI x3), (4, vI x4), (5, vI x5)]) (st' := [vI 32, vI w2]) B214_28_30 rfl ?_
      refine r_icmp (tgt := 39) (pc' := 33) D214_30 rfl rfl (by unfold inR; omega) (fun (c5 : w2 = 32) => ?_) (fun (c5 : ¬ (w2 = 32)) => ?_)
      · refine s_blx (lv' := [(0, vR 77), (1, vI from_), (2, vI to_), (3, vI x3), (4, vI x4), (5, vI x5)]) (st' := [vI (to_ - from_), vI x5]) B214_39_44 rfl ?_
        refine r_icmp (tgt := 51) (pc' := 47) D214_44 rfl rfl (by unfold inR; omega) (fun (c6 : x5 ≠ (to_ - from_)) => ?_) (fun (c6 : ¬ (x5 ≠ (to_ - from_))) => ?_)
        · refine s_blx (lv' := [(7, vI 0), (6, vI 0), (0, vR 77), (1, vI from_), (2, vI to_), (3, vI x3), (4, vI x4), (5, vI x5)]) (st' := []) B214_51_57 rfl ?_
          refine r_loc (lv' := [(0, vR 77), (1, vI from_), (2, vI to_), (3, vI x3), (4, vI x4), (5, vI x5), (6, vI 0), (7, vI 0)]) ⟨rfl, rfl, rfl, rfl, rfl, rfl, rfl, rfl, trivial⟩ rfl rfl ?_
          exact ih.2.2 x3 x4 x5 0 0 (by omega) (by omega) (i2) (kat.1 (by omega)) (by omega) (by omega) (by first | exact fun h => ⟨by omega, fun j a b => by omega⟩ | exact fun h => by exfalso; omega) (by first | exact fun h => by exfalso; omega | exact fun _ q => by have w := q.1; have k := kat.1 (by omega); omega) (by omega) (by omega) (by omega) (by omega) (by omega) (by omega) (by omega) (by omega) (by omega) (by omega) (by omega) (by omega) (by omega) (by omega) (by omega)
        · refine s_blx (lv' := [(0, vR 77), (1, vI from_), (2, vI to_), (3, vI x3), (4, vI x4), (5, vI x5)]) (st' := [vI 1]) B214_47_48 rfl ?_
          refine r_goto (tgt := 52) D214_48 rfl ?_
          refine s_blx (lv' := [(7, vI 0), (6, vI 1), (0, vR 77), (1, vI from_), (2, vI to_), (3, vI x3), (4, vI x4), (5, vI x5)]) (st' := []) B214_52_57 rfl ?_
          refine r_loc (lv' := [(0, vR 77), (1, vI from_), (2, vI to_), (3, vI x3), (4, vI x4), (5, vI x5), (6, vI 1), (7, vI 0)]) ⟨rfl, rfl, rfl, rfl, rfl, rfl, rfl, rfl, trivial⟩ rfl rfl ?_
          exact ih.2.2 x3 x4 x5 1 0 (by omega) (by omega) (i2) (kat.1 (by omega)) (by omega) (by omega) (by first | exact fun h => ⟨by omega, fun j a b => by omega⟩ | exact fun h => by exfalso; omega) (by first | exact fun h => by exfalso; omega | exact fun _ q => by have w := q.1; have k := kat.1 (by omega); omega) (by omega) (by omega) (by omega) (by omega) (by omega) (by omega) (by omega) (by omega) (by omega) (by omega) (by omega) (by omega) (by omega) (by omega) (by omega)
      · refine s_blx (lv' := [(5, vI (x5 + 1)), (0, vR 77), (1, vI from_), (2, vI to_), (3, vI x3), (4, vI x4)]) (st' := []) B214_33_36 rfl ?_
        refine r_goto (tgt := 18) D214_36 rfl ?_
        refine r_loc (lv' := [(0, vR 77), (1, vI from_), (2, vI to_), (3, vI x3), (4, vI x4), (5, vI (x5 + 1))]) ⟨rfl, rfl, rfl, rfl, rfl, rfl, trivial⟩ rfl rfl ?_
        exact ih.2.1 x3 x4 (x5 + 1) (by omega) (by omega) (i2) (by omega) (by omega) (by omega) (by omega) (by omega) (by omega) (by omega) (by omega) (by omega) (by omega) (by omega)
    · intro x3 x4 x5 x6 x7 i0 i1 i2 i3 i4 i5 i6 i7 i8 i9 i10 i11 i12 i13 i14 i15 i16 i17 i18 i19 i20 i21 hmu
      refine s_blx (lv' := [(0, vR 77), (1, vI from_), (2, vI to_), (3, vI x3), (4, vI x4), (5, vI x5), (6, vI x6), (7, vI x7)]) (st' := [vI x5, vI x7]) B214_57_61 rfl ?_
      refine r_icmp (tgt := 104) (pc' := 64) D214_61 rfl rfl (by unfold inR; omega) (fun (c7 : x5 ≤ x7) => ?_) (fun (c7 : ¬ (x5 ≤ x7)) => ?_)
      · refine s_blx (lv' := [(0, vR 77), (1, vI from_), (2, vI to_), (3, vI x3), (4, vI x4), (5, vI x5), (6, vI x6), (7, vI x7)]) (st' := [vI x6]) B214_104_106 rfl ?_
        refine r_ifc (tgt := 111) (pc' := 109) D214_106 rfl rfl (by unfold inR; omega) (fun (c8 : x6 = 0) => ?_) (fun (c8 : ¬ (x6 = 0)) => ?_)
        · refine s_blx (lv' := [(3, vI (x3 + 1)), (4, vI (x4 + (x5 + 1))), (0, vR 77), (1, vI from_), (2, vI to_), (5, vI x5), (6, vI x6), (7, vI x7)]) (st' := []) B214_111_123 rfl ?_
          refine r_goto (tgt := 5) D214_123 rfl ?_
          refine r_loc (lv' := [(0, vR 77), (1, vI from_), (2, vI to_), (3, vI (x3 + 1)), (4, vI (x4 + (x5 + 1)))]) ⟨rfl, rfl, rfl, rfl, rfl, trivial⟩ rfl rfl ?_
          exact ih.1 (x3 + 1) (x4 + (x5 + 1)) (by omega) (by have t := (kw_t (w := x3 - 1) (by omega)).2.2.2.1; rw [show x3 - 1 + 1 = x3 + 1 - 1 by omega] at t; omega) (fun u a b => if e : u = x3 - 1 then (by rw [e]; exact i7 (by omega)) else i2 u a (by omega)) (by omega) (by omega) (by omega) (by omega) (by omega) (by omega)
        · refine s_blx (lv' := [(0, vR 77), (1, vI from_), (2, vI to_), (3, vI x3), (4, vI x4), (5, vI x5), (6, vI x6), (7, vI x7)]) (st' := [vI x3]) B214_109_110 rfl ?_
          exact r_iretI D214_110 rfl (⟨rfl, by omega, Or.inr ⟨by omega, ⟨(by have w := (i6 (by omega)).1; omega), fun j a b => (by rw [← i1]; exact (i6 (by omega)).2 j a (by omega))⟩, i2⟩⟩)
      · refine s_blx (lv' := [(0, vR 77), (1, vI from_), (2, vI to_), (3, vI x3), (4, vI x4), (5, vI x5), (6, vI x6), (7, vI x7)]) (st' := [vI x6]) B214_64_66 rfl ?_
        refine r_ifc (tgt := 104) (pc' := 69) D214_66 rfl rfl (by unfold inR; omega) (fun (c9 : x6 = 0) => ?_) (fun (c9 : ¬ (x6 = 0)) => ?_)
        · refine s_blx (lv' := [(0, vR 77), (1, vI from_), (2, vI to_), (3, vI x3), (4, vI x4), (5, vI x5), (6, vI x6), (7, vI x7)]) (st' := [vI x6]) B214_104_106 rfl ?_
          refine r_ifc (tgt := 111) (pc' := 109) D214_106 rfl rfl (by unfold inR; omega) (fun (c10 : x6 = 0) => ?_) (fun (c10 : ¬ (x6 = 0)) => ?_)
          · refine s_blx (lv' := [(3, vI (x3 + 1)), (4, vI (x4 + (x5 + 1))), (0, vR 77), (1, vI from_), (2, vI to_), (5, vI x5), (6, vI x6), (7, vI x7)]) (st' := []) B214_111_123 rfl ?_
            refine r_goto (tgt := 5) D214_123 rfl ?_
            refine r_loc (lv' := [(0, vR 77), (1, vI from_), (2, vI to_), (3, vI (x3 + 1)), (4, vI (x4 + (x5 + 1)))]) ⟨rfl, rfl, rfl, rfl, rfl, trivial⟩ rfl rfl ?_
            exact ih.1 (x3 + 1) (x4 + (x5 + 1)) (by omega) (by have t := (kw_t (w := x3 - 1) (by omega)).2.2.2.1; rw [show x3 - 1 + 1 = x3 + 1 - 1 by omega] at t; omega) (fun u a b => if e : u = x3 - 1 then (by rw [e]; exact i7 (by omega)) else i2 u a (by omega)) (by omega) (by omega) (by omega) (by omega) (by omega) (by omega)
          · exfalso; omega
        · refine s_blx (lv' := [(0, vR 77), (1, vI from_), (2, vI to_), (3, vI x3), (4, vI x4), (5, vI x5), (6, vI x6), (7, vI x7)]) (st' := [vR 77]) B214_69_70 rfl ?_
          refine r_gfix (r := 94) (pc' := 73) D214_70 rfl gf_11_65_77 H.1 ?_
          refine s_blx (lv' := [(0, vR 77), (1, vI from_), (2, vI to_), (3, vI x3), (4, vI x4), (5, vI x5), (6, vI x6), (7, vI x7)]) (st' := [vI (x4 + x7), vR 94]) B214_73_78 rfl ?_
          refine r_bald (pc' := 79) D214_78 rfl sc_94 (by decide) H.1 (by omega) ?_
          intro w11 e12 r13
          have b_w11 := H.2 94 (x4 + x7) (-128) 127 rfl
          rw [← e12] at b_w11; clear r13
          have kw1 := e12.trans (h0 (x4 + x7) (by omega) (by omega))
          have kwb := kwL_b (i := x4 + x7) (by omega)
          rw [← kw1] at kwb
          refine s_blx (lv' := [(0, vR 77), (1, vI from_), (2, vI to_), (3, vI x3), (4, vI x4), (5, vI x5), (6, vI x6), (7, vI x7)]) (st' := [vR 77, vI w11]) B214_79_80 rfl ?_
          refine r_gfix (r := 95) (pc' := 83) D214_80 rfl gf_11_69_77 H.1 ?_
          refine s_blx (lv' := [(0, vR 77), (1, vI from_), (2, vI to_), (3, vI x3), (4, vI x4), (5, vI x5), (6, vI x6), (7, vI x7)]) (st' := [vI (from_ + x7), vR 95, vI w11]) B214_83_87 rfl ?_
          refine r_bald (pc' := 88) D214_87 rfl sc_95 (by decide) H.1 (by omega) ?_
          intro w14 e15 r16
          have b_w14 := H.2 95 (from_ + x7) (-128) 127 rfl
          rw [← e15] at b_w14; clear r16
          have kw2 := e15
          refine r_icmp (tgt := 95) (pc' := 91) D214_88 rfl rfl (by unfold inR; omega) (fun (c17 : w11 ≠ w14) => ?_) (fun (c17 : ¬ (w11 ≠ w14)) => ?_)
          · refine s_blx (lv' := [(7, vI (x7 + 1)), (6, vI 0), (0, vR 77), (1, vI from_), (2, vI to_), (3, vI x3), (4, vI x4), (5, vI x5)]) (st' := []) B214_95_101 rfl ?_
            refine r_goto (tgt := 57) D214_101 rfl ?_
            refine r_loc (lv' := [(0, vR 77), (1, vI from_), (2, vI to_), (3, vI x3), (4, vI x4), (5, vI x5), (6, vI 0), (7, vI (x7 + 1))]) ⟨rfl, rfl, rfl, rfl, rfl, rfl, rfl, rfl, trivial⟩ rfl rfl ?_
            exact ih.2.2 x3 x4 x5 0 (x7 + 1) (by omega) (by omega) (i2) (by omega) (by omega) (by omega) (by first | exact fun h => by exfalso; omega | exact fun h => ⟨(i6 (by omega)).1, fun j a b => if e : j = x7 then (by rw [e, ← kw1, ← kw2]; omega) else (i6 (by omega)).2 j a (by omega)⟩) (by first | exact fun h => by exfalso; omega | exact fun _ q => by have w := q.2 x7 (by omega) (by omega); have w2 : gi M 95 (from_ + x7) % 256 = kwL (kwO (x3 - 1) + x7) := w; rw [← i1, ← kw1, ← kw2] at w2; omega) (by omega) (by omega) (by omega) (by omega) (by omega) (by omega) (by omega) (by omega) (by omega) (by omega) (by omega) (by omega) (by omega) (by omega) (by omega)
          · refine s_blx (lv' := [(0, vR 77), (1, vI from_), (2, vI to_), (3, vI x3), (4, vI x4), (5, vI x5), (6, vI x6), (7, vI x7)]) (st' := [vI 1]) B214_91_92 rfl ?_
            refine r_goto (tgt := 96) D214_92 rfl ?_
            refine s_blx (lv' := [(7, vI (x7 + 1)), (6, vI 1), (0, vR 77), (1, vI from_), (2, vI to_), (3, vI x3), (4, vI x4), (5, vI x5)]) (st' := []) B214_96_101 rfl ?_
            refine r_goto (tgt := 57) D214_101 rfl ?_
            refine r_loc (lv' := [(0, vR 77), (1, vI from_), (2, vI to_), (3, vI x3), (4, vI x4), (5, vI x5), (6, vI 1), (7, vI (x7 + 1))]) ⟨rfl, rfl, rfl, rfl, rfl, rfl, rfl, rfl, trivial⟩ rfl rfl ?_
            exact ih.2.2 x3 x4 x5 1 (x7 + 1) (by omega) (by omega) (i2) (by omega) (by omega) (by omega) (by first | exact fun h => by exfalso; omega | exact fun h => ⟨(i6 (by omega)).1, fun j a b => if e : j = x7 then (by rw [e, ← kw1, ← kw2]; omega) else (i6 (by omega)).2 j a (by omega)⟩) (by first | exact fun h => by exfalso; omega | exact fun _ q => by have w := q.2 x7 (by omega) (by omega); have w2 : gi M 95 (from_ + x7) % 256 = kwL (kwO (x3 - 1) + x7) := w; rw [← i1, ← kw1, ← kw2] at w2; omega) (by omega) (by omega) (by omega) (by omega) (by omega) (by omega) (by omega) (by omega) (by omega) (by omega) (by omega) (by omega) (by omega) (by omega) (by omega)
set_option maxRecDepth 4000 in
theorem k214a {base : Nat} {X : Nat → Option mC} {G : Nat → Value} (E : EnvOK base X G) {d : Nat} (hd : 0 ≤ d) {M : mH} (H : HI base M) (from_ : Int) (to_ : Int) (h0 : WX M) (h1 : 0 ≤ from_ ∧ from_ ≤ 399) (h2 : from_ < to_ ∧ to_ ≤ 400) : sOk base X G d T214 [vR 77, vI from_, vI to_] M (pI (fun v M' => M' = M ∧ (0 ≤ v ∧ v ≤ 21) ∧ WRR (fun i => gi M 95 i % 256) from_ to_ v)) := by
  refine sOk.of (show sRn base X G d T214 0 [(0, vR 77), (1, vI from_), (2, vI to_)] [] M _ from ?_)
  refine s_blx (lv' := [(4, vI 0), (3, vI 1), (0, vR 77), (1, vI from_), (2, vI to_)]) (st' := []) B214_0_5 rfl ?_
  refine r_loc (lv' := [(0, vR 77), (1, vI from_), (2, vI to_), (3, vI 1), (4, vI 0)]) ⟨rfl, rfl, rfl, rfl, rfl, trivial⟩ rfl rfl ?_
  exact (L_k214a E hd H from_ to_ h0 h1 h2 (((104 - 0) * 211 + 210 : Int) + 1).toNat).1 1 0 (by omega) (by decide) (fun u a b => by omega) (by omega) (by omega) (by omega) (by omega) (by omega) (by omega)
set_option maxRecDepth 4000 in
theorem k212a {base : Nat} {X : Nat → Option mC} {G : Nat → Value} (E : EnvOK base X G) {d : Nat} (hd : 0 ≤ d) {M : mH} (H : HI base M) (b : Int) (h0 : -2147483648 ≤ b ∧ b ≤ 2147483647) : sOk base X G d T212 [vI b] M (pI (fun v M' => M' = M ∧ (v = 0 ∨ v = 1) ∧ (v = 1 → 97 ≤ b ∧ b ≤ 122) ∧ (v = 0 → b < 97 ∨ 122 < b))) := by
  refine sOk.of (show sRn base X G d T212 0 [(0, vI b)] [] M _ from ?_)
  refine s_blx (lv' := [(0, vI b)]) (st' := [vI 97, vI b]) B212_0_3 rfl ?_
  refine r_icmp (tgt := 16) (pc' := 6) D212_3 rfl rfl (by unfold inR; omega) (fun (c1 : b < 97) => ?_) (fun (c1 : ¬ (b < 97)) => ?_)
  · refine s_blx (lv' := [(0, vI b)]) (st' := [vI 0]) B212_16_17 rfl ?_
    exact r_zretI D212_17 rfl (by omega) (⟨rfl, by omega, by omega, by omega⟩)
  · refine s_blx (lv' := [(0, vI b)]) (st' := [vI 122, vI b]) B212_6_9 rfl ?_
    refine r_icmp (tgt := 16) (pc' := 12) D212_9 rfl rfl (by unfold inR; omega) (fun (c2 : 122 < b) => ?_) (fun (c2 : ¬ (122 < b)) => ?_)
    · refine s_blx (lv' := [(0, vI b)]) (st' := [vI 0]) B212_16_17 rfl ?_
      exact r_zretI D212_17 rfl (by omega) (⟨rfl, by omega, by omega, by omega⟩)
    · refine s_blx (lv' := [(0, vI b)]) (st' := [vI 1]) B212_12_13 rfl ?_
      refine r_goto (tgt := 17) D212_13 rfl ?_
      exact r_zretI D212_17 rfl (by omega) (⟨rfl, by omega, by omega, by omega⟩)
set_option maxRecDepth 4000 in
theorem k213a {base : Nat} {X : Nat → Option mC} {G : Nat → Value} (E : EnvOK base X G) {d : Nat} (hd : 0 ≤ d) {M : mH} (H : HI base M) (b : Int) (h0 : -2147483648 ≤ b ∧ b ≤ 2147483647) : sOk base X G d T213 [vI b] M (pI (fun v M' => M' = M ∧ (v = 0 ∨ v = 1) ∧ (v = 1 → 48 ≤ b ∧ b ≤ 57) ∧ (v = 0 → b < 48 ∨ 57 < b))) := by
  refine sOk.of (show sRn base X G d T213 0 [(0, vI b)] [] M _ from ?_)
  refine s_blx (lv' := [(0, vI b)]) (st' := [vI 48, vI b]) B213_0_3 rfl ?_
  refine r_icmp (tgt := 16) (pc' := 6) D213_3 rfl rfl (by unfold inR; omega) (fun (c1 : b < 48) => ?_) (fun (c1 : ¬ (b < 48)) => ?_)
  · refine s_blx (lv' := [(0, vI b)]) (st' := [vI 0]) B213_16_17 rfl ?_
    exact r_zretI D213_17 rfl (by omega) (⟨rfl, by omega, by omega, by omega⟩)
  · refine s_blx (lv' := [(0, vI b)]) (st' := [vI 57, vI b]) B213_6_9 rfl ?_
    refine r_icmp (tgt := 16) (pc' := 12) D213_9 rfl rfl (by unfold inR; omega) (fun (c2 : 57 < b) => ?_) (fun (c2 : ¬ (57 < b)) => ?_)
    · refine s_blx (lv' := [(0, vI b)]) (st' := [vI 0]) B213_16_17 rfl ?_
      exact r_zretI D213_17 rfl (by omega) (⟨rfl, by omega, by omega, by omega⟩)
    · refine s_blx (lv' := [(0, vI b)]) (st' := [vI 1]) B213_12_13 rfl ?_
      refine r_goto (tgt := 17) D213_13 rfl ?_
      exact r_zretI D213_17 rfl (by omega) (⟨rfl, by omega, by omega, by omega⟩)
set_option maxRecDepth 4000 in
theorem L_k215a {base : Nat} {X : Nat → Option mC} {G : Nat → Value} (E : EnvOK base X G) {d : Nat} (hd : 1 ≤ d) {M : mH} (H : HI base M) (size : Int) (h0 : WX M) (h1 : 0 ≤ size ∧ size ≤ 400) : ∀ mz : Nat, (∀ (x2 c0 : Int) (N : mH), HI base N → Fr [(77, 37), (97, 0), (98, 0), (99, 0)] M N → (gi N 77 36 = c0) → (PTK (fun i => gi M 95 i % 256) size c0 (gi N 99) x2) → (∀ j : Int, 0 ≤ j → j < c0 → ∃ e, TE (fun i => gi M 95 i % 256) size (gi N 99 j) e ∧ RKD (fun i => gi M 95 i % 256) (gi N 99 j) e (gi N 97 j) (gi N 98 j)) → (0 ≤ c0 ∧ c0 ≤ x2) → (0 ≤ x2 ∧ x2 ≤ size) → (0 ≤ x2) → (x2 ≤ 400) → (400 - x2) * 1204 + 1203 < (mz : Int) → sRn base X G d T215 7 [(0, vR 77), (1, vI size), (2, vI x2)] [] N (s_Q base (pV (fun M' => HI base M' ∧ Fr [(77, 37), (97, 0), (98, 0), (99, 0)] M M' ∧ (0 ≤ gi M' 77 36 ∧ gi M' 77 36 ≤ size) ∧ (gi M' 97 (gi M' 77 36) = 0) ∧ (TOK (fun i => gi M 95 i % 256) size (gi M' 77 36) (gi M' 99) (rkN (gi M' 77 36) (gi M' 97) (gi M' 98)) (gi M' 98)))))) ∧ (∀ (x2 x3 x4 c0 : Int) (N : mH), HI base N → Fr [(77, 37), (97, 0), (98, 0), (99, 0)] M N → (gi N 77 36 = c0) → (PTK (fun i => gi M 95 i % 256) size c0 (gi N 99) x2) → (∀ j : Int, 0 ≤ j → j < c0 → ∃ e, TE (fun i => gi M 95 i % 256) size (gi N 99 j) e ∧ RKD (fun i => gi M 95 i % 256) (gi N 99 j) e (gi N 97 j) (gi N 98 j)) → (0 ≤ c0 ∧ c0 ≤ x2) → (0 ≤ x2 ∧ x2 < size) → (x3 = gi M 95 x2) → (-128 ≤ x3 ∧ x3 ≤ 127) → (x3 ≠ 32) → (x2 < x4 ∧ x4 ≤ size) → (∀ j : Int, x2 ≤ j → j < x4 → isSm (gi M 95 j % 256)) → (0 ≤ x2) → (x2 ≤ 399) → (97 ≤ x3) → (x3 ≤ 122) → (1 ≤ x4) → (x4 ≤ 400) → (400 - x2) * 1204 + 0 + (400 - x4) * 1 + 802 < (mz : Int) → sRn base X G d T215 43 [(0, vR 77), (1, vI size), (2, vI x2), (3, vI x3), (4, vI x4)] [] N (s_Q base (pV (fun M' => HI base M' ∧ Fr [(77, 37), (97, 0), (98, 0), (99, 0)] M M' ∧ (0 ≤ gi M' 77 36 ∧ gi M' 77 36 ≤ size) ∧ (gi M' 97 (gi M' 77 36) = 0) ∧ (TOK (fun i => gi M 95 i % 256) size (gi M' 77 36) (gi M' 99) (rkN (gi M' 77 36) (gi M' 97) (gi M' 98)) (gi M' 98)))))) ∧ (∀ (x2 x3 x4 c0 : Int) (N : mH), HI base N → Fr [(77, 37), (97, 0), (98, 0), (99, 0)] M N → (gi N 77 36 = c0) → (PTK (fun i => gi M 95 i % 256) size c0 (gi N 99) x2) → (∀ j : Int, 0 ≤ j → j < c0 → ∃ e, TE (fun i => gi M 95 i % 256) size (gi N 99 j) e ∧ RKD (fun i => gi M 95 i % 256) (gi N 99 j) e (gi N 97 j) (gi N 98 j)) → (0 ≤ c0 ∧ c0 ≤ x2) → (0 ≤ x2 ∧ x2 < size) → (x3 = gi M 95 x2) → (-128 ≤ x3 ∧ x3 ≤ 127) → (x3 ≠ 32) → (x2 < x4 ∧ x4 ≤ size) → (∀ j : Int, x2 ≤ j → j < x4 → isDg (gi M 95 j % 256)) → (0 ≤ x2) → (x2 ≤ 399) → (48 ≤ x3) → (x3 ≤ 57) → (1 ≤ x4) → (x4 ≤ 400) → (400 - x2) * 1204 + 0 + (400 - x4) * 1 + 401 < (mz : Int) → sRn base X G d T215 75 [(0, vR 77), (1, vI size), (2, vI x2), (3, vI x3), (4, vI x4)] [] N (s_Q base (pV (fun M' => HI base M' ∧ Fr [(77, 37), (97, 0), (98, 0), (99, 0)] M M' ∧ (0 ≤ gi M' 77 36 ∧ gi M' 77 36 ≤ size) ∧ (gi M' 97 (gi M' 77 36) = 0) ∧ (TOK (fun i => gi M 95 i % 256) size (gi M' 77 36) (gi M' 99) (rkN (gi M' 77 36) (gi M' 97) (gi M' 98)) (gi M' 98)))))) ∧ (∀ (x3 x4 x5 c0 kst : Int) (N : mH), HI base N → Fr [(77, 37), (97, 0), (98, 0), (99, 0)] M N → (gi N 77 36 = c0) → (PTK (fun i => gi M 95 i % 256) size c0 (gi N 99) kst) → (∀ j : Int, 0 ≤ j → j < c0 → ∃ e, TE (fun i => gi M 95 i % 256) size (gi N 99 j) e ∧ RKD (fun i => gi M 95 i % 256) (gi N 99 j) e (gi N 97 j) (gi N 98 j)) → (0 ≤ c0 ∧ c0 ≤ kst) → (0 ≤ kst ∧ kst < x4 ∧ x4 ≤ size) → (x3 = gi M 95 kst) → (-128 ≤ x3 ∧ x3 ≤ 127) → (x3 ≠ 32) → (TE (fun i => gi M 95 i % 256) size kst x4) → (gi N 99 c0 = kst) → ((isSm (gi M 95 kst % 256) → WRR (fun i => gi M 95 i % 256) kst x4 (gi N 97 c0)) ∧ (isDg (gi M 95 kst % 256) → gi N 97 c0 = 50) ∧ (¬ isSm (gi M 95 kst % 256) → ¬ isDg (gi M 95 kst % 256) → gi N 97 c0 = 100 + gi M 95 kst % 256)) → (kst ≤ x5 ∧ x5 ≤ x4) → (0 ≤ gi N 98 c0 ∧ gi N 98 c0 ≤ 10000009) → (isDg (gi M 95 kst % 256) → (gi N 98 c0 ≤ 1000000 → gi N 98 c0 = dvF (fun i => gi M 95 i % 256) kst (x5 - kst).toNat) ∧ (1000000 < gi N 98 c0 → 100000 < dvF (fun i => gi M 95 i % 256) kst (x5 - kst).toNat) ∧ 0 ≤ dvF (fun i => gi M 95 i % 256) kst (x5 - kst).toNat) → (0 ≤ c0 ∧ c0 ≤ 399) → ((-128) ≤ x3) → (x3 ≤ 127) → (1 ≤ x4) → (x4 ≤ 400) → (0 ≤ x5) → (x5 ≤ 400) → (400 - x4) * 1204 + 1204 + (400 - x5) < (mz : Int) → sRn base X G d T215 169 [(0, vR 77), (1, vI size), (3, vI x3), (4, vI x4), (5, vI x5)] [] N (s_Q base (pV (fun M' => HI base M' ∧ Fr [(77, 37), (97, 0), (98, 0), (99, 0)] M M' ∧ (0 ≤ gi M' 77 36 ∧ gi M' 77 36 ≤ size) ∧ (gi M' 97 (gi M' 77 36) = 0) ∧ (TOK (fun i => gi M 95 i % 256) size (gi M' 77 36) (gi M' 99) (rkN (gi M' 77 36) (gi M' 97) (gi M' 98)) (gi M' 98)))))) := by
  have f0 : Fr [(77, 37), (97, 0), (98, 0), (99, 0)] M M := Fr.rf
  intro mz
  induction mz with
  | zero => exact ⟨fun x2 c0 N _ _ z0 z1 z2 z3 z4 z5 z6 z7 => by omega, fun x2 x3 x4 c0 N _ _ z0 z1 z2 z3 z4 z5 z6 z7 z8 z9 z10 z11 z12 z13 z14 z15 z16 => by omega, fun x2 x3 x4 c0 N _ _ z0 z1 z2 z3 z4 z5 z6 z7 z8 z9 z10 z11 z12 z13 z14 z15 z16 => by omega, fun x3 x4 x5 c0 kst N _ _ z0 z1 z2 z3 z4 z5 z6 z7 z8 z9 z10 z11 z12 z13 z14 z15 z16 z17 z18 z19 z20 z21 => by omega⟩
  | succ mz ih =>
    refine ⟨?_, ?_, ?_, ?_⟩
    · intro x2 c0 N HN fN i0 i1 i2 i3 i4 i5 i6 hmu
      have k95 : ∀ j : Int, gi N 95 j = gi M 95 j := fun j => fN.g rfl
      refine s_blx (lv' := [(0, vR 77), (1, vI size), (2, vI x2)]) (st' := [vI size, vI x2]) B215_7_9 rfl ?_
      refine r_icmp (tgt := 264) (pc' := 12) D215_9 rfl rfl (by unfold inR; omega) (fun (c7 : size ≤ x2) => ?_) (fun (c7 : ¬ (size ≤ x2)) => ?_)
      · refine s_blx (lv' := [(0, vR 77), (1, vI size), (2, vI x2)]) (st' := [vR 77]) B215_264_265 rfl ?_
        refine r_gfix (r := 99) (pc' := 268) D215_265 rfl gf_11_84_77 HN.1 ?_
        refine s_blx (lv' := [(0, vR 77), (1, vI size), (2, vI x2)]) (st' := [vR 77, vR 99]) B215_268_269 rfl ?_
        refine r_gint (ki := 36) (pc' := 272) D215_269 rfl gf_11_305_77 rfl HN.1 ?_
        intro w8 e9 r10
        have e11 : c0 = w8 := (e9.trans (i0)).symm
        subst e11
        refine s_blx (lv' := [(0, vR 77), (1, vI size), (2, vI x2)]) (st' := [vI size, vI c0, vR 99]) B215_272_273 rfl ?_
        refine r_iast (pc' := 274) D215_273 rfl sc_99 HN (by omega) (by unfold inR; omega) (show 0 ≤ size ∧ size ≤ 400 by omega) ?_
        intro M12 u13 H14 p15
        have f16 := fN.wr u13 rfl
        have ku6 := u13
        have kp6 := p15
        refine s_blx (lv' := [(0, vR 77), (1, vI size), (2, vI x2)]) (st' := [vR 77]) B215_274_275 rfl ?_
        refine r_gfix (r := 97) (pc' := 278) D215_275 rfl gf_11_78_77 H14.1 ?_
        refine s_blx (lv' := [(0, vR 77), (1, vI size), (2, vI x2)]) (st' := [vR 77, vR 97]) B215_278_279 rfl ?_
        refine r_gint (ki := 36) (pc' := 282) D215_279 rfl gf_11_305_77 rfl H14.1 ?_
        intro w17 e18 r19
        have e20 : c0 = w17 := (e18.trans ((u13.gi_ne (by omega) (Or.inl (by decide))).trans (i0))).symm
        subst e20
        refine s_blx (lv' := [(0, vR 77), (1, vI size), (2, vI x2)]) (st' := [vI 0, vI c0, vR 97]) B215_282_283 rfl ?_
        refine r_iast (pc' := 284) D215_283 rfl sc_97 H14 (by omega) (by unfold inR; omega) trivial ?_
        intro M21 u22 H23 p24
        have f25 := f16.wr u22 rfl
        have ku7 := u22
        have kp7 := p24
        refine s_blx (lv' := [(0, vR 77), (1, vI size), (2, vI x2)]) (st' := [vR 77]) B215_284_285 rfl ?_
        refine r_gfix (r := 98) (pc' := 288) D215_285 rfl gf_11_81_77 H23.1 ?_
        refine s_blx (lv' := [(0, vR 77), (1, vI size), (2, vI x2)]) (st' := [vR 77, vR 98]) B215_288_289 rfl ?_
        refine r_gint (ki := 36) (pc' := 292) D215_289 rfl gf_11_305_77 rfl H23.1 ?_
        intro w26 e27 r28
        have e29 : c0 = w26 := (e27.trans ((u22.gi_ne (by omega) (Or.inl (by decide))).trans ((u13.gi_ne (by omega) (Or.inl (by decide))).trans (i0)))).symm
        subst e29
        refine s_blx (lv' := [(0, vR 77), (1, vI size), (2, vI x2)]) (st' := [vI 0, vI c0, vR 98]) B215_292_293 rfl ?_
        refine r_iast (pc' := 294) D215_293 rfl sc_98 H23 (by omega) (by unfold inR; omega) trivial ?_
        intro M30 u31 H32 p33
        have f34 := f25.wr u31 rfl
        have ku8 := u31
        have k36 : gi M30 77 36 = c0 := ((u31.gi_ne (by omega) (Or.inl (by decide))).trans ((u22.gi_ne (by omega) (Or.inl (by decide))).trans ((u13.gi_ne (by omega) (Or.inl (by decide))).trans (i0))))
        have kz : gi M30 97 (gi M30 77 36) = 0 := by rw [k36]; exact (ku8.gi_ne (by omega) (Or.inl (by decide))).trans kp7
        have ktk : TOK (fun i => gi M 95 i % 256) size (gi M30 77 36) (gi M30 99) (rkN (gi M30 77 36) (gi M30 97) (gi M30 98)) (gi M30 98) := by rw [k36]; exact RTOK.tok (i1.done (by omega) (fun j a b => (ku8.gi_ne (by omega) (Or.inl (by decide))).trans ((ku7.gi_ne (by omega) (Or.inl (by decide))).trans ((ku6.gi_ne (by omega) (Or.inr (by omega))).trans (rfl)))) ((ku8.gi_ne (by omega) (Or.inl (by decide))).trans ((ku7.gi_ne (by omega) (Or.inl (by decide))).trans kp6))) (fun j a b => by rw [show gi M30 99 j = gi N 99 j from (fun j a b => (ku8.gi_ne (by omega) (Or.inl (by decide))).trans ((ku7.gi_ne (by omega) (Or.inl (by decide))).trans ((ku6.gi_ne (by omega) (Or.inr (by omega))).trans (rfl)))) j a b, show gi M30 97 j = gi N 97 j from (fun j a b => (ku8.gi_ne (by omega) (Or.inl (by decide))).trans ((ku7.gi_ne (by omega) (Or.inr (by omega))).trans ((ku6.gi_ne (by omega) (Or.inl (by decide))).trans (rfl)))) j a b, show gi M30 98 j = gi N 98 j from (fun j a b => (ku8.gi_ne (by omega) (Or.inr (by omega))).trans ((ku7.gi_ne (by omega) (Or.inl (by decide))).trans ((ku6.gi_ne (by omega) (Or.inl (by decide))).trans (rfl)))) j a b]; exact i2 j a b) (fun i => Int.emod_nonneg _ (by decide))
        have g35 : gi M30 77 36 = c0 := (u31.gi_ne (by omega) (Or.inl (by decide))).trans ((u22.gi_ne (by omega) (Or.inl (by decide))).trans ((u13.gi_ne (by omega) (Or.inl (by decide))).trans (i0)))
        exact r_retV D215_294 rfl (⟨H32, f34, by rw [k36]; omega, kz, ktk⟩)
      · refine s_blx (lv' := [(0, vR 77), (1, vI size), (2, vI x2)]) (st' := [vR 77]) B215_12_13 rfl ?_
        refine r_gfix (r := 95) (pc' := 16) D215_13 rfl gf_11_69_77 HN.1 ?_
        refine s_blx (lv' := [(0, vR 77), (1, vI size), (2, vI x2)]) (st' := [vI x2, vR 95]) B215_16_17 rfl ?_
        refine r_bald (pc' := 18) D215_17 rfl sc_95 (by decide) HN.1 (by omega) ?_
        intro w36 e37 r38
        have b_w36 := HN.2 95 (x2) (-128) 127 rfl
        rw [← e37] at b_w36; clear r38
        have kb : w36 = gi M 95 x2 := e37.trans (k95 x2)
        refine s_blx (lv' := [(3, vI w36), (0, vR 77), (1, vI size), (2, vI x2)]) (st' := [vI 32, vI w36]) B215_18_22 rfl ?_
        refine r_icmp (tgt := 31) (pc' := 25) D215_22 rfl rfl (by unfold inR; omega) (fun (c39 : w36 ≠ 32) => ?_) (fun (c39 : ¬ (w36 ≠ 32)) => ?_)
        · refine s_blx (lv' := [(4, vI (x2 + 1)), (3, vI w36), (0, vR 77), (1, vI size), (2, vI x2)]) (st' := [vI w36]) B215_31_37 rfl ?_
          refine r_sIp (args := [vI w36]) (rest := []) (pc' := 40) D215_37 rfl ck_11_static_308 TE212 rfl (Nat.le_of_ble_eq_true rfl) ⟨Nat.le_of_ble_eq_true rfl, Nat.le_of_ble_eq_true rfl⟩ (by decide) (dp_0 hd rfl) (k212a E (dp_n hd rfl) HN w36 (by omega)) ?_
          intro v40 q45
          obtain ⟨q42, q43, q44⟩ := q45
          have ks1 := q43; clear q43
          have ks0 := q44; clear q44
          refine r_ifc (tgt := 68) (pc' := 43) D215_40 rfl rfl (by unfold inR; omega) (fun (c46 : v40 = 0) => ?_) (fun (c46 : ¬ (v40 = 0)) => ?_)
          · refine s_blx (lv' := [(4, vI (x2 + 1)), (3, vI w36), (0, vR 77), (1, vI size), (2, vI x2)]) (st' := [vI w36]) B215_68_69 rfl ?_
            refine r_sIp (args := [vI w36]) (rest := []) (pc' := 72) D215_69 rfl ck_11_static_311 TE213 rfl (Nat.le_of_ble_eq_true rfl) ⟨Nat.le_of_ble_eq_true rfl, Nat.le_of_ble_eq_true rfl⟩ (by decide) (dp_0 hd rfl) (k213a E (dp_n hd rfl) HN w36 (by omega)) ?_
            intro v47 q52
            obtain ⟨q49, q50, q51⟩ := q52
            have kd1 := q50; clear q50
            have kd0 := q51; clear q51
            refine r_ifc (tgt := 100) (pc' := 75) D215_72 rfl rfl (by unfold inR; omega) (fun (c53 : v47 = 0) => ?_) (fun (c53 : ¬ (v47 = 0)) => ?_)
            · refine s_blx (lv' := [(4, vI (x2 + 1)), (3, vI w36), (0, vR 77), (1, vI size), (2, vI x2)]) (st' := [vR 77]) B215_100_101 rfl ?_
              refine r_gfix (r := 99) (pc' := 104) D215_101 rfl gf_11_84_77 HN.1 ?_
              refine s_blx (lv' := [(4, vI (x2 + 1)), (3, vI w36), (0, vR 77), (1, vI size), (2, vI x2)]) (st' := [vR 77, vR 99]) B215_104_105 rfl ?_
              refine r_gint (ki := 36) (pc' := 108) D215_105 rfl gf_11_305_77 rfl HN.1 ?_
              intro w54 e55 r56
              have e57 : c0 = w54 := (e55.trans (i0)).symm
              subst e57
              refine s_blx (lv' := [(4, vI (x2 + 1)), (3, vI w36), (0, vR 77), (1, vI size), (2, vI x2)]) (st' := [vI x2, vI c0, vR 99]) B215_108_109 rfl ?_
              refine r_iast (pc' := 110) D215_109 rfl sc_99 HN (by omega) (by unfold inR; omega) (show 0 ≤ x2 ∧ x2 ≤ 400 by omega) ?_
              intro M58 u59 H60 p61
              have f62 := fN.wr u59 rfl
              have ku1 := u59
              have kp1 := p61
              refine s_blx (lv' := [(4, vI (x2 + 1)), (3, vI w36), (0, vR 77), (1, vI size), (2, vI x2)]) (st' := [vR 77]) B215_110_111 rfl ?_
              refine r_gfix (r := 98) (pc' := 114) D215_111 rfl gf_11_81_77 H60.1 ?_
              refine s_blx (lv' := [(4, vI (x2 + 1)), (3, vI w36), (0, vR 77), (1, vI size), (2, vI x2)]) (st' := [vR 77, vR 98]) B215_114_115 rfl ?_
              refine r_gint (ki := 36) (pc' := 118) D215_115 rfl gf_11_305_77 rfl H60.1 ?_
              intro w63 e64 r65
              have e66 : c0 = w63 := (e64.trans ((u59.gi_ne (by omega) (Or.inl (by decide))).trans (i0))).symm
              subst e66
              refine s_blx (lv' := [(4, vI (x2 + 1)), (3, vI w36), (0, vR 77), (1, vI size), (2, vI x2)]) (st' := [vI 0, vI c0, vR 98]) B215_118_119 rfl ?_
              refine r_iast (pc' := 120) D215_119 rfl sc_98 H60 (by omega) (by unfold inR; omega) trivial ?_
              intro M67 u68 H69 p70
              have f71 := f62.wr u68 rfl
              have ku2 := u68
              have kp2 := p70
              refine s_blx (lv' := [(4, vI (x2 + 1)), (3, vI w36), (0, vR 77), (1, vI size), (2, vI x2)]) (st' := [vR 77]) B215_120_121 rfl ?_
              refine r_gfix (r := 97) (pc' := 124) D215_121 rfl gf_11_78_77 H69.1 ?_
              refine s_blx (lv' := [(4, vI (x2 + 1)), (3, vI w36), (0, vR 77), (1, vI size), (2, vI x2)]) (st' := [vR 77, vR 97]) B215_124_125 rfl ?_
              refine r_gint (ki := 36) (pc' := 128) D215_125 rfl gf_11_305_77 rfl H69.1 ?_
              intro w72 e73 r74
              have e75 : c0 = w72 := (e73.trans ((u68.gi_ne (by omega) (Or.inl (by decide))).trans ((u59.gi_ne (by omega) (Or.inl (by decide))).trans (i0)))).symm
              subst e75
              refine s_blx (lv' := [(4, vI (x2 + 1)), (3, vI w36), (0, vR 77), (1, vI size), (2, vI x2)]) (st' := [vI w36, vI c0, vR 97]) B215_128_129 rfl ?_
              refine r_sIp (args := [vI w36]) (rest := [vI c0, vR 97]) (pc' := 132) D215_129 rfl ck_11_static_308 TE212 rfl (Nat.le_of_ble_eq_true rfl) ⟨Nat.le_of_ble_eq_true rfl, Nat.le_of_ble_eq_true rfl⟩ (by decide) (dp_0 hd rfl) (k212a E (dp_n hd rfl) H69 w36 (by omega)) ?_
              intro v76 q81
              obtain ⟨q78, q79, q80⟩ := q81
              have kt1 := q79; clear q79
              have kt0 := q80; clear q80
              refine r_ifc (tgt := 145) (pc' := 135) D215_132 rfl rfl (by unfold inR; omega) (fun (c82 : v76 = 0) => ?_) (fun (c82 : ¬ (v76 = 0)) => ?_)
              · refine s_blx (lv' := [(4, vI (x2 + 1)), (3, vI w36), (0, vR 77), (1, vI size), (2, vI x2)]) (st' := [vI w36, vI c0, vR 97]) B215_145_146 rfl ?_
                refine r_sIp (args := [vI w36]) (rest := [vI c0, vR 97]) (pc' := 149) D215_146 rfl ck_11_static_311 TE213 rfl (Nat.le_of_ble_eq_true rfl) ⟨Nat.le_of_ble_eq_true rfl, Nat.le_of_ble_eq_true rfl⟩ (by decide) (dp_0 hd rfl) (k213a E (dp_n hd rfl) H69 w36 (by omega)) ?_
                intro v83 q88
                obtain ⟨q85, q86, q87⟩ := q88
                have ke1 := q86; clear q86
                have ke0 := q87; clear q87
                refine r_ifc (tgt := 157) (pc' := 152) D215_149 rfl rfl (by unfold inR; omega) (fun (c89 : v83 = 0) => ?_) (fun (c89 : ¬ (v83 = 0)) => ?_)
                · refine s_blx (lv' := [(4, vI (x2 + 1)), (3, vI w36), (0, vR 77), (1, vI size), (2, vI x2)]) (st' := [vI 255, vI w36, vI 100, vI c0, vR 97]) B215_157_163 rfl ?_
                  refine r_and255 (pc' := 164) D215_163 rfl ?_
                  refine s_blx (lv' := [(4, vI (x2 + 1)), (3, vI w36), (0, vR 77), (1, vI size), (2, vI x2)]) (st' := [vI (100 + (w36 % 256)), vI c0, vR 97]) B215_164_165 rfl ?_
                  refine r_iast (pc' := 166) D215_165 rfl sc_97 H69 (by omega) (by unfold inR; omega) trivial ?_
                  intro M90 u91 H92 p93
                  have f94 := f71.wr u91 rfl
                  have ku3 := u91
                  have kp3 := p93
                  have kpc : PTK (fun i => gi M 95 i % 256) size c0 (gi M90 99) x2 := i1.cong (fun j a b => (ku3.gi_ne (by omega) (Or.inl (by decide))).trans ((ku2.gi_ne (by omega) (Or.inl (by decide))).trans ((ku1.gi_ne (by omega) (Or.inr (by omega))).trans (rfl))))
                  have kkc : ∀ j : Int, 0 ≤ j → j < c0 → ∃ e, TE (fun i => gi M 95 i % 256) size (gi M90 99 j) e ∧ RKD (fun i => gi M 95 i % 256) (gi M90 99 j) e (gi M90 97 j) (gi M90 98 j) := fun j a b => by rw [show gi M90 99 j = gi N 99 j from (fun j a b => (ku3.gi_ne (by omega) (Or.inl (by decide))).trans ((ku2.gi_ne (by omega) (Or.inl (by decide))).trans ((ku1.gi_ne (by omega) (Or.inr (by omega))).trans (rfl)))) j a b, show gi M90 97 j = gi N 97 j from (fun j a b => (ku3.gi_ne (by omega) (Or.inr (by omega))).trans ((ku2.gi_ne (by omega) (Or.inl (by decide))).trans ((ku1.gi_ne (by omega) (Or.inl (by decide))).trans (rfl)))) j a b, show gi M90 98 j = gi N 98 j from (fun j a b => (ku3.gi_ne (by omega) (Or.inl (by decide))).trans ((ku2.gi_ne (by omega) (Or.inr (by omega))).trans ((ku1.gi_ne (by omega) (Or.inl (by decide))).trans (rfl)))) j a b]; exact i2 j a b
                  have kg0 : gi M90 99 c0 = x2 := (ku3.gi_ne (by omega) (Or.inl (by decide))).trans ((ku2.gi_ne (by omega) (Or.inl (by decide))).trans kp1)
                  have kv0 : gi M90 98 c0 = 0 := (ku3.gi_ne (by omega) (Or.inl (by decide))).trans kp2
                  refine s_blx (lv' := [(5, vI x2), (4, vI (x2 + 1)), (3, vI w36), (0, vR 77), (1, vI size), (2, vI x2)]) (st' := []) B215_166_169 rfl ?_
                  refine r_loc (lv' := [(0, vR 77), (1, vI size), (3, vI w36), (4, vI (x2 + 1)), (5, vI x2)]) ⟨rfl, rfl, rfl, rfl, rfl, trivial⟩ rfl rfl ?_
                  have g95 : gi M90 77 36 = c0 := (u91.gi_ne (by omega) (Or.inl (by decide))).trans ((u68.gi_ne (by omega) (Or.inl (by decide))).trans ((u59.gi_ne (by omega) (Or.inl (by decide))).trans (i0)))
                  have g96 : gi M90 99 c0 = x2 := (u91.gi_ne (by omega) (Or.inl (by decide))).trans ((u68.gi_ne (by omega) (Or.inl (by decide))).trans (p61))
                  have g97 : gi M90 97 c0 = 100 + (w36 % 256) := p93
                  have g98 : gi M90 98 c0 = 0 := (u91.gi_ne (by omega) (Or.inl (by decide))).trans (p70)
                  exact ih.2.2.2 w36 (x2 + 1) x2 c0 x2 M90 H92 f94 (by omega) (kpc) (kkc) (by omega) (by omega) (kb) (by omega) (by omega) (by exact ⟨⟨by omega, by omega⟩, fun j a b => (by rw [show j = x2 by omega]; exact ⟨id, id⟩), fun _ => ⟨fun q => (by exfalso; have q2 : isSm (gi M 95 x2 % 256) := q; unfold isSm at q2; have w := ks0 (by omega); omega), fun q => (by exfalso; have q2 : isDg (gi M 95 x2 % 256) := q; unfold isDg at q2; have w := kd0 (by omega); omega)⟩, fun _ _ => rfl⟩) (kg0) (by first | exact ⟨fun _ => (by rw [kp3]; exact kwr), fun q => (by exfalso; unfold isDg at q; have w := kt1 (by omega); omega), fun q => (by exfalso; exact q (by unfold isSm; have w := kt1 (by omega); omega))⟩ | exact ⟨fun q => (by exfalso; unfold isSm at q; have w := kt0 (by omega); omega), fun _ => kp3, fun _ q => (by exfalso; exact q (by unfold isDg; have w := ke1 (by omega); omega))⟩ | exact ⟨fun q => (by exfalso; unfold isSm at q; have w := kt0 (by omega); omega), fun q => (by exfalso; unfold isDg at q; have w := ke0 (by omega); omega), fun _ _ => (by rw [kp3]; omega)⟩) (by omega) (by rw [kv0]; omega) (fun _ => by rw [show (x2 - x2).toNat = 0 by omega, kv0]; exact ⟨fun _ => rfl, fun h => (by omega), Int.le_refl _⟩) (by omega) (by omega) (by omega) (by omega) (by omega) (by omega) (by omega) (by omega)
                · refine s_blx (lv' := [(4, vI (x2 + 1)), (3, vI w36), (0, vR 77), (1, vI size), (2, vI x2)]) (st' := [vI 50, vI c0, vR 97]) B215_152_154 rfl ?_
                  refine r_goto (tgt := 165) D215_154 rfl ?_
                  refine r_iast (pc' := 166) D215_165 rfl sc_97 H69 (by omega) (by unfold inR; omega) trivial ?_
                  intro M99 u100 H101 p102
                  have f103 := f71.wr u100 rfl
                  have ku3 := u100
                  have kp3 := p102
                  have kpc : PTK (fun i => gi M 95 i % 256) size c0 (gi M99 99) x2 := i1.cong (fun j a b => (ku3.gi_ne (by omega) (Or.inl (by decide))).trans ((ku2.gi_ne (by omega) (Or.inl (by decide))).trans ((ku1.gi_ne (by omega) (Or.inr (by omega))).trans (rfl))))
                  have kkc : ∀ j : Int, 0 ≤ j → j < c0 → ∃ e, TE (fun i => gi M 95 i % 256) size (gi M99 99 j) e ∧ RKD (fun i => gi M 95 i % 256) (gi M99 99 j) e (gi M99 97 j) (gi M99 98 j) := fun j a b => by rw [show gi M99 99 j = gi N 99 j from (fun j a b => (ku3.gi_ne (by omega) (Or.inl (by decide))).trans ((ku2.gi_ne (by omega) (Or.inl (by decide))).trans ((ku1.gi_ne (by omega) (Or.inr (by omega))).trans (rfl)))) j a b, show gi M99 97 j = gi N 97 j from (fun j a b => (ku3.gi_ne (by omega) (Or.inr (by omega))).trans ((ku2.gi_ne (by omega) (Or.inl (by decide))).trans ((ku1.gi_ne (by omega) (Or.inl (by decide))).trans (rfl)))) j a b, show gi M99 98 j = gi N 98 j from (fun j a b => (ku3.gi_ne (by omega) (Or.inl (by decide))).trans ((ku2.gi_ne (by omega) (Or.inr (by omega))).trans ((ku1.gi_ne (by omega) (Or.inl (by decide))).trans (rfl)))) j a b]; exact i2 j a b
                  have kg0 : gi M99 99 c0 = x2 := (ku3.gi_ne (by omega) (Or.inl (by decide))).trans ((ku2.gi_ne (by omega) (Or.inl (by decide))).trans kp1)
                  have kv0 : gi M99 98 c0 = 0 := (ku3.gi_ne (by omega) (Or.inl (by decide))).trans kp2
                  refine s_blx (lv' := [(5, vI x2), (4, vI (x2 + 1)), (3, vI w36), (0, vR 77), (1, vI size), (2, vI x2)]) (st' := []) B215_166_169 rfl ?_
                  refine r_loc (lv' := [(0, vR 77), (1, vI size), (3, vI w36), (4, vI (x2 + 1)), (5, vI x2)]) ⟨rfl, rfl, rfl, rfl, rfl, trivial⟩ rfl rfl ?_
                  have g104 : gi M99 77 36 = c0 := (u100.gi_ne (by omega) (Or.inl (by decide))).trans ((u68.gi_ne (by omega) (Or.inl (by decide))).trans ((u59.gi_ne (by omega) (Or.inl (by decide))).trans (i0)))
                  have g105 : gi M99 99 c0 = x2 := (u100.gi_ne (by omega) (Or.inl (by decide))).trans ((u68.gi_ne (by omega) (Or.inl (by decide))).trans (p61))
                  have g106 : gi M99 97 c0 = 50 := p102
                  have g107 : gi M99 98 c0 = 0 := (u100.gi_ne (by omega) (Or.inl (by decide))).trans (p70)
                  exact ih.2.2.2 w36 (x2 + 1) x2 c0 x2 M99 H101 f103 (by omega) (kpc) (kkc) (by omega) (by omega) (kb) (by omega) (by omega) (by exact ⟨⟨by omega, by omega⟩, fun j a b => (by rw [show j = x2 by omega]; exact ⟨id, id⟩), fun _ => ⟨fun q => (by exfalso; have q2 : isSm (gi M 95 x2 % 256) := q; unfold isSm at q2; have w := ks0 (by omega); omega), fun q => (by exfalso; have q2 : isDg (gi M 95 x2 % 256) := q; unfold isDg at q2; have w := kd0 (by omega); omega)⟩, fun _ _ => rfl⟩) (kg0) (by first | exact ⟨fun _ => (by rw [kp3]; exact kwr), fun q => (by exfalso; unfold isDg at q; have w := kt1 (by omega); omega), fun q => (by exfalso; exact q (by unfold isSm; have w := kt1 (by omega); omega))⟩ | exact ⟨fun q => (by exfalso; unfold isSm at q; have w := kt0 (by omega); omega), fun _ => kp3, fun _ q => (by exfalso; exact q (by unfold isDg; have w := ke1 (by omega); omega))⟩ | exact ⟨fun q => (by exfalso; unfold isSm at q; have w := kt0 (by omega); omega), fun q => (by exfalso; unfold isDg at q; have w := ke0 (by omega); omega), fun _ _ => (by rw [kp3]; omega)⟩) (by omega) (by rw [kv0]; omega) (fun _ => by rw [show (x2 - x2).toNat = 0 by omega, kv0]; exact ⟨fun _ => rfl, fun h => (by omega), Int.le_refl _⟩) (by omega) (by omega) (by omega) (by omega) (by omega) (by omega) (by omega) (by omega)
              · refine s_blx (lv' := [(4, vI (x2 + 1)), (3, vI w36), (0, vR 77), (1, vI size), (2, vI x2)]) (st' := [vI (x2 + 1), vI x2, vR 77, vI c0, vR 97]) B215_135_139 rfl ?_
                refine r_vIp (c := 77) (args := [vI x2, vI (x2 + 1)]) (rest := [vI c0, vR 97]) (pc' := 142) D215_139 rfl ck_11_virtual_314 TE214 rfl (Nat.le_of_ble_eq_true rfl) ⟨Nat.le_of_ble_eq_true rfl, Nat.le_of_ble_eq_true rfl⟩ sc_77 ⟨rfl, by decide⟩ H69.1 (dp_0 hd rfl) (k214a E (dp_n hd rfl) H69 x2 (x2 + 1) ((h0.fr f71 rfl)) (by omega) (by omega)) ?_
                intro v108 q112
                obtain ⟨q110, q111⟩ := q112
                have kwr := q111
                rw [show (fun i => gi M67 95 i % 256) = (fun i => gi M 95 i % 256) from funext fun i => by rw [show gi M67 95 i = gi M 95 i from (f71).g rfl]] at kwr
                refine r_goto (tgt := 165) D215_142 rfl ?_
                refine r_iast (pc' := 166) D215_165 rfl sc_97 H69 (by omega) (by unfold inR; omega) trivial ?_
                intro M113 u114 H115 p116
                have f117 := f71.wr u114 rfl
                have ku3 := u114
                have kp3 := p116
                have kpc : PTK (fun i => gi M 95 i % 256) size c0 (gi M113 99) x2 := i1.cong (fun j a b => (ku3.gi_ne (by omega) (Or.inl (by decide))).trans ((ku2.gi_ne (by omega) (Or.inl (by decide))).trans ((ku1.gi_ne (by omega) (Or.inr (by omega))).trans (rfl))))
                have kkc : ∀ j : Int, 0 ≤ j → j < c0 → ∃ e, TE (fun i => gi M 95 i % 256) size (gi M113 99 j) e ∧ RKD (fun i => gi M 95 i % 256) (gi M113 99 j) e (gi M113 97 j) (gi M113 98 j) := fun j a b => by rw [show gi M113 99 j = gi N 99 j from (fun j a b => (ku3.gi_ne (by omega) (Or.inl (by decide))).trans ((ku2.gi_ne (by omega) (Or.inl (by decide))).trans ((ku1.gi_ne (by omega) (Or.inr (by omega))).trans (rfl)))) j a b, show gi M113 97 j = gi N 97 j from (fun j a b => (ku3.gi_ne (by omega) (Or.inr (by omega))).trans ((ku2.gi_ne (by omega) (Or.inl (by decide))).trans ((ku1.gi_ne (by omega) (Or.inl (by decide))).trans (rfl)))) j a b, show gi M113 98 j = gi N 98 j from (fun j a b => (ku3.gi_ne (by omega) (Or.inl (by decide))).trans ((ku2.gi_ne (by omega) (Or.inr (by omega))).trans ((ku1.gi_ne (by omega) (Or.inl (by decide))).trans (rfl)))) j a b]; exact i2 j a b
                have kg0 : gi M113 99 c0 = x2 := (ku3.gi_ne (by omega) (Or.inl (by decide))).trans ((ku2.gi_ne (by omega) (Or.inl (by decide))).trans kp1)
                have kv0 : gi M113 98 c0 = 0 := (ku3.gi_ne (by omega) (Or.inl (by decide))).trans kp2
                refine s_blx (lv' := [(5, vI x2), (4, vI (x2 + 1)), (3, vI w36), (0, vR 77), (1, vI size), (2, vI x2)]) (st' := []) B215_166_169 rfl ?_
                refine r_loc (lv' := [(0, vR 77), (1, vI size), (3, vI w36), (4, vI (x2 + 1)), (5, vI x2)]) ⟨rfl, rfl, rfl, rfl, rfl, trivial⟩ rfl rfl ?_
                have g118 : gi M113 77 36 = c0 := (u114.gi_ne (by omega) (Or.inl (by decide))).trans ((u68.gi_ne (by omega) (Or.inl (by decide))).trans ((u59.gi_ne (by omega) (Or.inl (by decide))).trans (i0)))
                have g119 : gi M113 99 c0 = x2 := (u114.gi_ne (by omega) (Or.inl (by decide))).trans ((u68.gi_ne (by omega) (Or.inl (by decide))).trans (p61))
                have g120 : gi M113 97 c0 = v108 := p116
                have g121 : gi M113 98 c0 = 0 := (u114.gi_ne (by omega) (Or.inl (by decide))).trans (p70)
                exact ih.2.2.2 w36 (x2 + 1) x2 c0 x2 M113 H115 f117 (by omega) (kpc) (kkc) (by omega) (by omega) (kb) (by omega) (by omega) (by exact ⟨⟨by omega, by omega⟩, fun j a b => (by rw [show j = x2 by omega]; exact ⟨id, id⟩), fun _ => ⟨fun q => (by exfalso; have q2 : isSm (gi M 95 x2 % 256) := q; unfold isSm at q2; have w := ks0 (by omega); omega), fun q => (by exfalso; have q2 : isDg (gi M 95 x2 % 256) := q; unfold isDg at q2; have w := kd0 (by omega); omega)⟩, fun _ _ => rfl⟩) (kg0) (by first | exact ⟨fun _ => (by rw [kp3]; exact kwr), fun q => (by exfalso; unfold isDg at q; have w := kt1 (by omega); omega), fun q => (by exfalso; exact q (by unfold isSm; have w := kt1 (by omega); omega))⟩ | exact ⟨fun q => (by exfalso; unfold isSm at q; have w := kt0 (by omega); omega), fun _ => kp3, fun _ q => (by exfalso; exact q (by unfold isDg; have w := ke1 (by omega); omega))⟩ | exact ⟨fun q => (by exfalso; unfold isSm at q; have w := kt0 (by omega); omega), fun q => (by exfalso; unfold isDg at q; have w := ke0 (by omega); omega), fun _ _ => (by rw [kp3]; omega)⟩) (by omega) (by rw [kv0]; omega) (fun _ => by rw [show (x2 - x2).toNat = 0 by omega, kv0]; exact ⟨fun _ => rfl, fun h => (by omega), Int.le_refl _⟩) (by omega) (by omega) (by omega) (by omega) (by omega) (by omega) (by omega) (by omega)
            · refine r_loc (lv' := [(0, vR 77), (1, vI size), (2, vI x2), (3, vI w36), (4, vI (x2 + 1))]) ⟨rfl, rfl, rfl, rfl, rfl, trivial⟩ rfl rfl ?_
              exact ih.2.2.1 x2 w36 (x2 + 1) c0 N HN fN (by omega) (i1) (i2) (by omega) (by omega) (kb) (by omega) (by omega) (by omega) (fun j a b => by rw [show j = x2 by omega]; unfold isDg; have w := kd1 (by omega); omega) (by omega) (by omega) (by omega) (by omega) (by omega) (by omega) (by omega)
          · refine r_loc (lv' := [(0, vR 77), (1, vI size), (2, vI x2), (3, vI w36), (4, vI (x2 + 1))]) ⟨rfl, rfl, rfl, rfl, rfl, trivial⟩ rfl rfl ?_
            exact ih.2.1 x2 w36 (x2 + 1) c0 N HN fN (by omega) (i1) (i2) (by omega) (by omega) (kb) (by omega) (by omega) (by omega) (fun j a b => by rw [show j = x2 by omega]; unfold isSm; have w := ks1 (by omega); omega) (by omega) (by omega) (by omega) (by omega) (by omega) (by omega) (by omega)
        · refine s_blx (lv' := [(2, vI (x2 + 1)), (3, vI w36), (0, vR 77), (1, vI size)]) (st' := []) B215_25_28 rfl ?_
          refine r_goto (tgt := 7) D215_28 rfl ?_
          refine r_loc (lv' := [(0, vR 77), (1, vI size), (2, vI (x2 + 1))]) ⟨rfl, rfl, rfl, trivial⟩ rfl rfl ?_
          exact ih.1 (x2 + 1) c0 N HN fN (by omega) (i1.blank (by omega) (by show gi M 95 x2 % 256 = 32; omega)) (i2) (by omega) (by omega) (by omega) (by omega) (by omega)
    · intro x2 x3 x4 c0 N HN fN i0 i1 i2 i3 i4 i5 i6 i7 i8 i9 i10 i11 i12 i13 i14 i15 hmu
      have k95 : ∀ j : Int, gi N 95 j = gi M 95 j := fun j => fN.g rfl
      refine s_blx (lv' := [(0, vR 77), (1, vI size), (2, vI x2), (3, vI x3), (4, vI x4)]) (st' := [vI size, vI x4]) B215_43_46 rfl ?_
      refine r_icmp (tgt := 68) (pc' := 49) D215_46 rfl rfl (by unfold inR; omega) (fun (c318 : size ≤ x4) => ?_) (fun (c318 : ¬ (size ≤ x4)) => ?_)
      · refine s_blx (lv' := [(0, vR 77), (1, vI size), (2, vI x2), (3, vI x3), (4, vI x4)]) (st' := [vI x3]) B215_68_69 rfl ?_
        refine r_sIp (args := [vI x3]) (rest := []) (pc' := 72) D215_69 rfl ck_11_static_311 TE213 rfl (Nat.le_of_ble_eq_true rfl) ⟨Nat.le_of_ble_eq_true rfl, Nat.le_of_ble_eq_true rfl⟩ (by decide) (dp_0 hd rfl) (k213a E (dp_n hd rfl) HN x3 (by omega)) ?_
        intro v319 q324
        obtain ⟨q321, q322, q323⟩ := q324
        have kd1 := q322; clear q322
        have kd0 := q323; clear q323
        refine r_ifc (tgt := 100) (pc' := 75) D215_72 rfl rfl (by unfold inR; omega) (fun (c325 : v319 = 0) => ?_) (fun (c325 : ¬ (v319 = 0)) => ?_)
        · refine s_blx (lv' := [(0, vR 77), (1, vI size), (2, vI x2), (3, vI x3), (4, vI x4)]) (st' := [vR 77]) B215_100_101 rfl ?_
          refine r_gfix (r := 99) (pc' := 104) D215_101 rfl gf_11_84_77 HN.1 ?_
          refine s_blx (lv' := [(0, vR 77), (1, vI size), (2, vI x2), (3, vI x3), (4, vI x4)]) (st' := [vR 77, vR 99]) B215_104_105 rfl ?_
          refine r_gint (ki := 36) (pc' := 108) D215_105 rfl gf_11_305_77 rfl HN.1 ?_
          intro w326 e327 r328
          have e329 : c0 = w326 := (e327.trans (i0)).symm
          subst e329
          refine s_blx (lv' := [(0, vR 77), (1, vI size), (2, vI x2), (3, vI x3), (4, vI x4)]) (st' := [vI x2, vI c0, vR 99]) B215_108_109 rfl ?_
          refine r_iast (pc' := 110) D215_109 rfl sc_99 HN (by omega) (by unfold inR; omega) (show 0 ≤ x2 ∧ x2 ≤ 400 by omega) ?_
          intro M330 u331 H332 p333
          have f334 := fN.wr u331 rfl
          have ku1 := u331
          have kp1 := p333
          refine s_blx (lv' := [(0, vR 77), (1, vI size), (2, vI x2), (3, vI x3), (4, vI x4)]) (st' := [vR 77]) B215_110_111 rfl ?_
          refine r_gfix (r := 98) (pc' := 114) D215_111 rfl gf_11_81_77 H332.1 ?_
          refine s_blx (lv' := [(0, vR 77), (1, vI size), (2, vI x2), (3, vI x3), (4, vI x4)]) (st' := [vR 77, vR 98]) B215_114_115 rfl ?_
          refine r_gint (ki := 36) (pc' := 118) D215_115 rfl gf_11_305_77 rfl H332.1 ?_
          intro w335 e336 r337
          have e338 : c0 = w335 := (e336.trans ((u331.gi_ne (by omega) (Or.inl (by decide))).trans (i0))).symm
          subst e338
          refine s_blx (lv' := [(0, vR 77), (1, vI size), (2, vI x2), (3, vI x3), (4, vI x4)]) (st' := [vI 0, vI c0, vR 98]) B215_118_119 rfl ?_
          refine r_iast (pc' := 120) D215_119 rfl sc_98 H332 (by omega) (by unfold inR; omega) trivial ?_
          intro M339 u340 H341 p342
          have f343 := f334.wr u340 rfl
          have ku2 := u340
          have kp2 := p342
          refine s_blx (lv' := [(0, vR 77), (1, vI size), (2, vI x2), (3, vI x3), (4, vI x4)]) (st' := [vR 77]) B215_120_121 rfl ?_
          refine r_gfix (r := 97) (pc' := 124) D215_121 rfl gf_11_78_77 H341.1 ?_
          refine s_blx (lv' := [(0, vR 77), (1, vI size), (2, vI x2), (3, vI x3), (4, vI x4)]) (st' := [vR 77, vR 97]) B215_124_125 rfl ?_
          refine r_gint (ki := 36) (pc' := 128) D215_125 rfl gf_11_305_77 rfl H341.1 ?_
          intro w344 e345 r346
          have e347 : c0 = w344 := (e345.trans ((u340.gi_ne (by omega) (Or.inl (by decide))).trans ((u331.gi_ne (by omega) (Or.inl (by decide))).trans (i0)))).symm
          subst e347
          refine s_blx (lv' := [(0, vR 77), (1, vI size), (2, vI x2), (3, vI x3), (4, vI x4)]) (st' := [vI x3, vI c0, vR 97]) B215_128_129 rfl ?_
          refine r_sIp (args := [vI x3]) (rest := [vI c0, vR 97]) (pc' := 132) D215_129 rfl ck_11_static_308 TE212 rfl (Nat.le_of_ble_eq_true rfl) ⟨Nat.le_of_ble_eq_true rfl, Nat.le_of_ble_eq_true rfl⟩ (by decide) (dp_0 hd rfl) (k212a E (dp_n hd rfl) H341 x3 (by omega)) ?_
          intro v348 q353
          obtain ⟨q350, q351, q352⟩ := q353
          have kt1 := q351; clear q351
          have kt0 := q352; clear q352
          refine r_ifc (tgt := 145) (pc' := 135) D215_132 rfl rfl (by unfold inR; omega) (fun (c354 : v348 = 0) => ?_) (fun (c354 : ¬ (v348 = 0)) => ?_)
          · refine s_blx (lv' := [(0, vR 77), (1, vI size), (2, vI x2), (3, vI x3), (4, vI x4)]) (st' := [vI x3, vI c0, vR 97]) B215_145_146 rfl ?_
            refine r_sIp (args := [vI x3]) (rest := [vI c0, vR 97]) (pc' := 149) D215_146 rfl ck_11_static_311 TE213 rfl (Nat.le_of_ble_eq_true rfl) ⟨Nat.le_of_ble_eq_true rfl, Nat.le_of_ble_eq_true rfl⟩ (by decide) (dp_0 hd rfl) (k213a E (dp_n hd rfl) H341 x3 (by omega)) ?_
            intro v355 q360
            obtain ⟨q357, q358, q359⟩ := q360
            have ke1 := q358; clear q358
            have ke0 := q359; clear q359
            refine r_ifc (tgt := 157) (pc' := 152) D215_149 rfl rfl (by unfold inR; omega) (fun (c361 : v355 = 0) => ?_) (fun (c361 : ¬ (v355 = 0)) => ?_)
            · refine s_blx (lv' := [(0, vR 77), (1, vI size), (2, vI x2), (3, vI x3), (4, vI x4)]) (st' := [vI 255, vI x3, vI 100, vI c0, vR 97]) B215_157_163 rfl ?_
              refine r_and255 (pc' := 164) D215_163 rfl ?_
              refine s_blx (lv' := [(0, vR 77), (1, vI size), (2, vI x2), (3, vI x3), (4, vI x4)]) (st' := [vI (100 + (x3 % 256)), vI c0, vR 97]) B215_164_165 rfl ?_
              refine r_iast (pc' := 166) D215_165 rfl sc_97 H341 (by omega) (by unfold inR; omega) trivial ?_
              intro M362 u363 H364 p365
              have f366 := f343.wr u363 rfl
              have ku3 := u363
              have kp3 := p365
              have kpc : PTK (fun i => gi M 95 i % 256) size c0 (gi M362 99) x2 := i1.cong (fun j a b => (ku3.gi_ne (by omega) (Or.inl (by decide))).trans ((ku2.gi_ne (by omega) (Or.inl (by decide))).trans ((ku1.gi_ne (by omega) (Or.inr (by omega))).trans (rfl))))
              have kkc : ∀ j : Int, 0 ≤ j → j < c0 → ∃ e, TE (fun i => gi M 95 i % 256) size (gi M362 99 j) e ∧ RKD (fun i => gi M 95 i % 256) (gi M362 99 j) e (gi M362 97 j) (gi M362 98 j) := fun j a b => by rw [show gi M362 99 j = gi N 99 j from (fun j a b => (ku3.gi_ne (by omega) (Or.inl (by decide))).trans ((ku2.gi_ne (by omega) (Or.inl (by decide))).trans ((ku1.gi_ne (by omega) (Or.inr (by omega))).trans (rfl)))) j a b, show gi M362 97 j = gi N 97 j from (fun j a b => (ku3.gi_ne (by omega) (Or.inr (by omega))).trans ((ku2.gi_ne (by omega) (Or.inl (by decide))).trans ((ku1.gi_ne (by omega) (Or.inl (by decide))).trans (rfl)))) j a b, show gi M362 98 j = gi N 98 j from (fun j a b => (ku3.gi_ne (by omega) (Or.inl (by decide))).trans ((ku2.gi_ne (by omega) (Or.inr (by omega))).trans ((ku1.gi_ne (by omega) (Or.inl (by decide))).trans (rfl)))) j a b]; exact i2 j a b
              have kg0 : gi M362 99 c0 = x2 := (ku3.gi_ne (by omega) (Or.inl (by decide))).trans ((ku2.gi_ne (by omega) (Or.inl (by decide))).trans kp1)
              have kv0 : gi M362 98 c0 = 0 := (ku3.gi_ne (by omega) (Or.inl (by decide))).trans kp2
              refine s_blx (lv' := [(5, vI x2), (0, vR 77), (1, vI size), (2, vI x2), (3, vI x3), (4, vI x4)]) (st' := []) B215_166_169 rfl ?_
              refine r_loc (lv' := [(0, vR 77), (1, vI size), (3, vI x3), (4, vI x4), (5, vI x2)]) ⟨rfl, rfl, rfl, rfl, rfl, trivial⟩ rfl rfl ?_
              have g367 : gi M362 77 36 = c0 := (u363.gi_ne (by omega) (Or.inl (by decide))).trans ((u340.gi_ne (by omega) (Or.inl (by decide))).trans ((u331.gi_ne (by omega) (Or.inl (by decide))).trans (i0)))
              have g368 : gi M362 99 c0 = x2 := (u363.gi_ne (by omega) (Or.inl (by decide))).trans ((u340.gi_ne (by omega) (Or.inl (by decide))).trans (p333))
              have g369 : gi M362 97 c0 = 100 + (x3 % 256) := p365
              have g370 : gi M362 98 c0 = 0 := (u363.gi_ne (by omega) (Or.inl (by decide))).trans (p342)
              exact ih.2.2.2 x3 x4 x2 c0 x2 M362 H364 f366 (by omega) (kpc) (kkc) (by omega) (by omega) (i5) (by omega) (by omega) (by first | exact ⟨⟨by omega, by omega⟩, fun j a b => ⟨fun _ => i9 j a b, fun q => (by exfalso; have w := i9 x2 (by omega) (by omega); unfold isSm at w; have q2 : isDg (gi M 95 x2 % 256) := q; unfold isDg at q2; omega)⟩, fun q => (by exfalso; omega), fun q => absurd (i9 x2 (by omega) (by omega)) q⟩ | exact ⟨⟨by omega, by omega⟩, fun j a b => ⟨fun _ => i9 j a b, fun q => (by exfalso; have w := i9 x2 (by omega) (by omega); unfold isSm at w; have q2 : isDg (gi M 95 x2 % 256) := q; unfold isDg at q2; omega)⟩, fun _ => ⟨fun _ => (by show ¬ isSm (gi M 95 x4 % 256); unfold isSm; have w := km0 (by omega); omega), fun q => (by exfalso; have w := i9 x2 (by omega) (by omega); unfold isSm at w; have q2 : isDg (gi M 95 x2 % 256) := q; unfold isDg at q2; omega)⟩, fun q => absurd (i9 x2 (by omega) (by omega)) q⟩) (kg0) (by first | exact ⟨fun _ => (by rw [kp3]; exact kwr), fun q => (by exfalso; unfold isDg at q; have w := kt1 (by omega); omega), fun q => (by exfalso; exact q (by unfold isSm; have w := kt1 (by omega); omega))⟩ | exact ⟨fun q => (by exfalso; unfold isSm at q; have w := kt0 (by omega); omega), fun _ => kp3, fun _ q => (by exfalso; exact q (by unfold isDg; have w := ke1 (by omega); omega))⟩ | exact ⟨fun q => (by exfalso; unfold isSm at q; have w := kt0 (by omega); omega), fun q => (by exfalso; unfold isDg at q; have w := ke0 (by omega); omega), fun _ _ => (by rw [kp3]; omega)⟩) (by omega) (by rw [kv0]; omega) (fun _ => by rw [show (x2 - x2).toNat = 0 by omega, kv0]; exact ⟨fun _ => rfl, fun h => (by omega), Int.le_refl _⟩) (by omega) (by omega) (by omega) (by omega) (by omega) (by omega) (by omega) (by omega)
            · exfalso; omega
          · refine s_blx (lv' := [(0, vR 77), (1, vI size), (2, vI x2), (3, vI x3), (4, vI x4)]) (st' := [vI x4, vI x2, vR 77, vI c0, vR 97]) B215_135_139 rfl ?_
            refine r_vIp (c := 77) (args := [vI x2, vI x4]) (rest := [vI c0, vR 97]) (pc' := 142) D215_139 rfl ck_11_virtual_314 TE214 rfl (Nat.le_of_ble_eq_true rfl) ⟨Nat.le_of_ble_eq_true rfl, Nat.le_of_ble_eq_true rfl⟩ sc_77 ⟨rfl, by decide⟩ H341.1 (dp_0 hd rfl) (k214a E (dp_n hd rfl) H341 x2 x4 ((h0.fr f343 rfl)) (by omega) (by omega)) ?_
            intro v371 q375
            obtain ⟨q373, q374⟩ := q375
            have kwr := q374
            rw [show (fun i => gi M339 95 i % 256) = (fun i => gi M 95 i % 256) from funext fun i => by rw [show gi M339 95 i = gi M 95 i from (f343).g rfl]] at kwr
            refine r_goto (tgt := 165) D215_142 rfl ?_
            refine r_iast (pc' := 166) D215_165 rfl sc_97 H341 (by omega) (by unfold inR; omega) trivial ?_
            intro M376 u377 H378 p379
            have f380 := f343.wr u377 rfl
            have ku3 := u377
            have kp3 := p379
            have kpc : PTK (fun i => gi M 95 i % 256) size c0 (gi M376 99) x2 := i1.cong (fun j a b => (ku3.gi_ne (by omega) (Or.inl (by decide))).trans ((ku2.gi_ne (by omega) (Or.inl (by decide))).trans ((ku1.gi_ne (by omega) (Or.inr (by omega))).trans (rfl))))
            have kkc : ∀ j : Int, 0 ≤ j → j < c0 → ∃ e, TE (fun i => gi M 95 i % 256) size (gi M376 99 j) e ∧ RKD (fun i => gi M 95 i % 256) (gi M376 99 j) e (gi M376 97 j) (gi M376 98 j) := fun j a b => by rw [show gi M376 99 j = gi N 99 j from (fun j a b => (ku3.gi_ne (by omega) (Or.inl (by decide))).trans ((ku2.gi_ne (by omega) (Or.inl (by decide))).trans ((ku1.gi_ne (by omega) (Or.inr (by omega))).trans (rfl)))) j a b, show gi M376 97 j = gi N 97 j from (fun j a b => (ku3.gi_ne (by omega) (Or.inr (by omega))).trans ((ku2.gi_ne (by omega) (Or.inl (by decide))).trans ((ku1.gi_ne (by omega) (Or.inl (by decide))).trans (rfl)))) j a b, show gi M376 98 j = gi N 98 j from (fun j a b => (ku3.gi_ne (by omega) (Or.inl (by decide))).trans ((ku2.gi_ne (by omega) (Or.inr (by omega))).trans ((ku1.gi_ne (by omega) (Or.inl (by decide))).trans (rfl)))) j a b]; exact i2 j a b
            have kg0 : gi M376 99 c0 = x2 := (ku3.gi_ne (by omega) (Or.inl (by decide))).trans ((ku2.gi_ne (by omega) (Or.inl (by decide))).trans kp1)
            have kv0 : gi M376 98 c0 = 0 := (ku3.gi_ne (by omega) (Or.inl (by decide))).trans kp2
            refine s_blx (lv' := [(5, vI x2), (0, vR 77), (1, vI size), (2, vI x2), (3, vI x3), (4, vI x4)]) (st' := []) B215_166_169 rfl ?_
            refine r_loc (lv' := [(0, vR 77), (1, vI size), (3, vI x3), (4, vI x4), (5, vI x2)]) ⟨rfl, rfl, rfl, rfl, rfl, trivial⟩ rfl rfl ?_
            have g381 : gi M376 77 36 = c0 := (u377.gi_ne (by omega) (Or.inl (by decide))).trans ((u340.gi_ne (by omega) (Or.inl (by decide))).trans ((u331.gi_ne (by omega) (Or.inl (by decide))).trans (i0)))
            have g382 : gi M376 99 c0 = x2 := (u377.gi_ne (by omega) (Or.inl (by decide))).trans ((u340.gi_ne (by omega) (Or.inl (by decide))).trans (p333))
            have g383 : gi M376 97 c0 = v371 := p379
            have g384 : gi M376 98 c0 = 0 := (u377.gi_ne (by omega) (Or.inl (by decide))).trans (p342)
            exact ih.2.2.2 x3 x4 x2 c0 x2 M376 H378 f380 (by omega) (kpc) (kkc) (by omega) (by omega) (i5) (by omega) (by omega) (by first | exact ⟨⟨by omega, by omega⟩, fun j a b => ⟨fun _ => i9 j a b, fun q => (by exfalso; have w := i9 x2 (by omega) (by omega); unfold isSm at w; have q2 : isDg (gi M 95 x2 % 256) := q; unfold isDg at q2; omega)⟩, fun q => (by exfalso; omega), fun q => absurd (i9 x2 (by omega) (by omega)) q⟩ | exact ⟨⟨by omega, by omega⟩, fun j a b => ⟨fun _ => i9 j a b, fun q => (by exfalso; have w := i9 x2 (by omega) (by omega); unfold isSm at w; have q2 : isDg (gi M 95 x2 % 256) := q; unfold isDg at q2; omega)⟩, fun _ => ⟨fun _ => (by show ¬ isSm (gi M 95 x4 % 256); unfold isSm; have w := km0 (by omega); omega), fun q => (by exfalso; have w := i9 x2 (by omega) (by omega); unfold isSm at w; have q2 : isDg (gi M 95 x2 % 256) := q; unfold isDg at q2; omega)⟩, fun q => absurd (i9 x2 (by omega) (by omega)) q⟩) (kg0) (by first | exact ⟨fun _ => (by rw [kp3]; exact kwr), fun q => (by exfalso; unfold isDg at q; have w := kt1 (by omega); omega), fun q => (by exfalso; exact q (by unfold isSm; have w := kt1 (by omega); omega))⟩ | exact ⟨fun q => (by exfalso; unfold isSm at q; have w := kt0 (by omega); omega), fun _ => kp3, fun _ q => (by exfalso; exact q (by unfold isDg; have w := ke1 (by omega); omega))⟩ | exact ⟨fun q => (by exfalso; unfold isSm at q; have w := kt0 (by omega); omega), fun q => (by exfalso; unfold isDg at q; have w := ke0 (by omega); omega), fun _ _ => (by rw [kp3]; omega)⟩) (by omega) (by rw [kv0]; omega) (fun _ => by rw [show (x2 - x2).toNat = 0 by omega, kv0]; exact ⟨fun _ => rfl, fun h => (by omega), Int.le_refl _⟩) (by omega) (by omega) (by omega) (by omega) (by omega) (by omega) (by omega) (by omega)
        · exfalso; omega
      · refine s_blx (lv' := [(0, vR 77), (1, vI size), (2, vI x2), (3, vI x3), (4, vI x4)]) (st' := [vR 77]) B215_49_50 rfl ?_
        refine r_gfix (r := 95) (pc' := 53) D215_50 rfl gf_11_69_77 HN.1 ?_
        refine s_blx (lv' := [(0, vR 77), (1, vI size), (2, vI x2), (3, vI x3), (4, vI x4)]) (st' := [vI x4, vR 95]) B215_53_55 rfl ?_
        refine r_bald (pc' := 56) D215_55 rfl sc_95 (by decide) HN.1 (by omega) ?_
        intro w385 e386 r387
        have b_w385 := HN.2 95 (x4) (-128) 127 rfl
        rw [← e386] at b_w385; clear r387
        have kb2 : w385 = gi M 95 x4 := e386.trans (k95 x4)
        refine r_sIp (args := [vI w385]) (rest := []) (pc' := 59) D215_56 rfl ck_11_static_308 TE212 rfl (Nat.le_of_ble_eq_true rfl) ⟨Nat.le_of_ble_eq_true rfl, Nat.le_of_ble_eq_true rfl⟩ (by decide) (dp_0 hd rfl) (k212a E (dp_n hd rfl) HN w385 (by omega)) ?_
        intro v388 q393
        obtain ⟨q390, q391, q392⟩ := q393
        have km1 := q391; clear q391
        have km0 := q392; clear q392
        refine r_ifc (tgt := 68) (pc' := 62) D215_59 rfl rfl (by unfold inR; omega) (fun (c394 : v388 = 0) => ?_) (fun (c394 : ¬ (v388 = 0)) => ?_)
        · refine s_blx (lv' := [(0, vR 77), (1, vI size), (2, vI x2), (3, vI x3), (4, vI x4)]) (st' := [vI x3]) B215_68_69 rfl ?_
          refine r_sIp (args := [vI x3]) (rest := []) (pc' := 72) D215_69 rfl ck_11_static_311 TE213 rfl (Nat.le_of_ble_eq_true rfl) ⟨Nat.le_of_ble_eq_true rfl, Nat.le_of_ble_eq_true rfl⟩ (by decide) (dp_0 hd rfl) (k213a E (dp_n hd rfl) HN x3 (by omega)) ?_
          intro v395 q400
          obtain ⟨q397, q398, q399⟩ := q400
          have kd1 := q398; clear q398
          have kd0 := q399; clear q399
          refine r_ifc (tgt := 100) (pc' := 75) D215_72 rfl rfl (by unfold inR; omega) (fun (c401 : v395 = 0) => ?_) (fun (c401 : ¬ (v395 = 0)) => ?_)
          · refine s_blx (lv' := [(0, vR 77), (1, vI size), (2, vI x2), (3, vI x3), (4, vI x4)]) (st' := [vR 77]) B215_100_101 rfl ?_
            refine r_gfix (r := 99) (pc' := 104) D215_101 rfl gf_11_84_77 HN.1 ?_
            refine s_blx (lv' := [(0, vR 77), (1, vI size), (2, vI x2), (3, vI x3), (4, vI x4)]) (st' := [vR 77, vR 99]) B215_104_105 rfl ?_
            refine r_gint (ki := 36) (pc' := 108) D215_105 rfl gf_11_305_77 rfl HN.1 ?_
            intro w402 e403 r404
            have e405 : c0 = w402 := (e403.trans (i0)).symm
            subst e405
            refine s_blx (lv' := [(0, vR 77), (1, vI size), (2, vI x2), (3, vI x3), (4, vI x4)]) (st' := [vI x2, vI c0, vR 99]) B215_108_109 rfl ?_
            refine r_iast (pc' := 110) D215_109 rfl sc_99 HN (by omega) (by unfold inR; omega) (show 0 ≤ x2 ∧ x2 ≤ 400 by omega) ?_
            intro M406 u407 H408 p409
            have f410 := fN.wr u407 rfl
            have ku1 := u407
            have kp1 := p409
            refine s_blx (lv' := [(0, vR 77), (1, vI size), (2, vI x2), (3, vI x3), (4, vI x4)]) (st' := [vR 77]) B215_110_111 rfl ?_
            refine r_gfix (r := 98) (pc' := 114) D215_111 rfl gf_11_81_77 H408.1 ?_
            refine s_blx (lv' := [(0, vR 77), (1, vI size), (2, vI x2), (3, vI x3), (4, vI x4)]) (st' := [vR 77, vR 98]) B215_114_115 rfl ?_
            refine r_gint (ki := 36) (pc' := 118) D215_115 rfl gf_11_305_77 rfl H408.1 ?_
            intro w411 e412 r413
            have e414 : c0 = w411 := (e412.trans ((u407.gi_ne (by omega) (Or.inl (by decide))).trans (i0))).symm
            subst e414
            refine s_blx (lv' := [(0, vR 77), (1, vI size), (2, vI x2), (3, vI x3), (4, vI x4)]) (st' := [vI 0, vI c0, vR 98]) B215_118_119 rfl ?_
            refine r_iast (pc' := 120) D215_119 rfl sc_98 H408 (by omega) (by unfold inR; omega) trivial ?_
            intro M415 u416 H417 p418
            have f419 := f410.wr u416 rfl
            have ku2 := u416
            have kp2 := p418
            refine s_blx (lv' := [(0, vR 77), (1, vI size), (2, vI x2), (3, vI x3), (4, vI x4)]) (st' := [vR 77]) B215_120_121 rfl ?_
            refine r_gfix (r := 97) (pc' := 124) D215_121 rfl gf_11_78_77 H417.1 ?_
            refine s_blx (lv' := [(0, vR 77), (1, vI size), (2, vI x2), (3, vI x3), (4, vI x4)]) (st' := [vR 77, vR 97]) B215_124_125 rfl ?_
            refine r_gint (ki := 36) (pc' := 128) D215_125 rfl gf_11_305_77 rfl H417.1 ?_
            intro w420 e421 r422
            have e423 : c0 = w420 := (e421.trans ((u416.gi_ne (by omega) (Or.inl (by decide))).trans ((u407.gi_ne (by omega) (Or.inl (by decide))).trans (i0)))).symm
            subst e423
            refine s_blx (lv' := [(0, vR 77), (1, vI size), (2, vI x2), (3, vI x3), (4, vI x4)]) (st' := [vI x3, vI c0, vR 97]) B215_128_129 rfl ?_
            refine r_sIp (args := [vI x3]) (rest := [vI c0, vR 97]) (pc' := 132) D215_129 rfl ck_11_static_308 TE212 rfl (Nat.le_of_ble_eq_true rfl) ⟨Nat.le_of_ble_eq_true rfl, Nat.le_of_ble_eq_true rfl⟩ (by decide) (dp_0 hd rfl) (k212a E (dp_n hd rfl) H417 x3 (by omega)) ?_
            intro v424 q429
            obtain ⟨q426, q427, q428⟩ := q429
            have kt1 := q427; clear q427
            have kt0 := q428; clear q428
            refine r_ifc (tgt := 145) (pc' := 135) D215_132 rfl rfl (by unfold inR; omega) (fun (c430 : v424 = 0) => ?_) (fun (c430 : ¬ (v424 = 0)) => ?_)
            · refine s_blx (lv' := [(0, vR 77), (1, vI size), (2, vI x2), (3, vI x3), (4, vI x4)]) (st' := [vI x3, vI c0, vR 97]) B215_145_146 rfl ?_
              refine r_sIp (args := [vI x3]) (rest := [vI c0, vR 97]) (pc' := 149) D215_146 rfl ck_11_static_311 TE213 rfl (Nat.le_of_ble_eq_true rfl) ⟨Nat.le_of_ble_eq_true rfl, Nat.le_of_ble_eq_true rfl⟩ (by decide) (dp_0 hd rfl) (k213a E (dp_n hd rfl) H417 x3 (by omega)) ?_
              intro v431 q436
              obtain ⟨q433, q434, q435⟩ := q436
              have ke1 := q434; clear q434
              have ke0 := q435; clear q435
              refine r_ifc (tgt := 157) (pc' := 152) D215_149 rfl rfl (by unfold inR; omega) (fun (c437 : v431 = 0) => ?_) (fun (c437 : ¬ (v431 = 0)) => ?_)
              · refine s_blx (lv' := [(0, vR 77), (1, vI size), (2, vI x2), (3, vI x3), (4, vI x4)]) (st' := [vI 255, vI x3, vI 100, vI c0, vR 97]) B215_157_163 rfl ?_
                refine r_and255 (pc' := 164) D215_163 rfl ?_
                refine s_blx (lv' := [(0, vR 77), (1, vI size), (2, vI x2), (3, vI x3), (4, vI x4)]) (st' := [vI (100 + (x3 % 256)), vI c0, vR 97]) B215_164_165 rfl ?_
                refine r_iast (pc' := 166) D215_165 rfl sc_97 H417 (by omega) (by unfold inR; omega) trivial ?_
                intro M438 u439 H440 p441
                have f442 := f419.wr u439 rfl
                have ku3 := u439
                have kp3 := p441
                have kpc : PTK (fun i => gi M 95 i % 256) size c0 (gi M438 99) x2 := i1.cong (fun j a b => (ku3.gi_ne (by omega) (Or.inl (by decide))).trans ((ku2.gi_ne (by omega) (Or.inl (by decide))).trans ((ku1.gi_ne (by omega) (Or.inr (by omega))).trans (rfl))))
                have kkc : ∀ j : Int, 0 ≤ j → j < c0 → ∃ e, TE (fun i => gi M 95 i % 256) size (gi M438 99 j) e ∧ RKD (fun i => gi M 95 i % 256) (gi M438 99 j) e (gi M438 97 j) (gi M438 98 j) := fun j a b => by rw [show gi M438 99 j = gi N 99 j from (fun j a b => (ku3.gi_ne (by omega) (Or.inl (by decide))).trans ((ku2.gi_ne (by omega) (Or.inl (by decide))).trans ((ku1.gi_ne (by omega) (Or.inr (by omega))).trans (rfl)))) j a b, show gi M438 97 j = gi N 97 j from (fun j a b => (ku3.gi_ne (by omega) (Or.inr (by omega))).trans ((ku2.gi_ne (by omega) (Or.inl (by decide))).trans ((ku1.gi_ne (by omega) (Or.inl (by decide))).trans (rfl)))) j a b, show gi M438 98 j = gi N 98 j from (fun j a b => (ku3.gi_ne (by omega) (Or.inl (by decide))).trans ((ku2.gi_ne (by omega) (Or.inr (by omega))).trans ((ku1.gi_ne (by omega) (Or.inl (by decide))).trans (rfl)))) j a b]; exact i2 j a b
                have kg0 : gi M438 99 c0 = x2 := (ku3.gi_ne (by omega) (Or.inl (by decide))).trans ((ku2.gi_ne (by omega) (Or.inl (by decide))).trans kp1)
                have kv0 : gi M438 98 c0 = 0 := (ku3.gi_ne (by omega) (Or.inl (by decide))).trans kp2
                refine s_blx (lv' := [(5, vI x2), (0, vR 77), (1, vI size), (2, vI x2), (3, vI x3), (4, vI x4)]) (st' := []) B215_166_169 rfl ?_
                refine r_loc (lv' := [(0, vR 77), (1, vI size), (3, vI x3), (4, vI x4), (5, vI x2)]) ⟨rfl, rfl, rfl, rfl, rfl, trivial⟩ rfl rfl ?_
                have g443 : gi M438 77 36 = c0 := (u439.gi_ne (by omega) (Or.inl (by decide))).trans ((u416.gi_ne (by omega) (Or.inl (by decide))).trans ((u407.gi_ne (by omega) (Or.inl (by decide))).trans (i0)))
                have g444 : gi M438 99 c0 = x2 := (u439.gi_ne (by omega) (Or.inl (by decide))).trans ((u416.gi_ne (by omega) (Or.inl (by decide))).trans (p409))
                have g445 : gi M438 97 c0 = 100 + (x3 % 256) := p441
                have g446 : gi M438 98 c0 = 0 := (u439.gi_ne (by omega) (Or.inl (by decide))).trans (p418)
                exact ih.2.2.2 x3 x4 x2 c0 x2 M438 H440 f442 (by omega) (kpc) (kkc) (by omega) (by omega) (i5) (by omega) (by omega) (by first | exact ⟨⟨by omega, by omega⟩, fun j a b => ⟨fun _ => i9 j a b, fun q => (by exfalso; have w := i9 x2 (by omega) (by omega); unfold isSm at w; have q2 : isDg (gi M 95 x2 % 256) := q; unfold isDg at q2; omega)⟩, fun q => (by exfalso; omega), fun q => absurd (i9 x2 (by omega) (by omega)) q⟩ | exact ⟨⟨by omega, by omega⟩, fun j a b => ⟨fun _ => i9 j a b, fun q => (by exfalso; have w := i9 x2 (by omega) (by omega); unfold isSm at w; have q2 : isDg (gi M 95 x2 % 256) := q; unfold isDg at q2; omega)⟩, fun _ => ⟨fun _ => (by show ¬ isSm (gi M 95 x4 % 256); unfold isSm; have w := km0 (by omega); omega), fun q => (by exfalso; have w := i9 x2 (by omega) (by omega); unfold isSm at w; have q2 : isDg (gi M 95 x2 % 256) := q; unfold isDg at q2; omega)⟩, fun q => absurd (i9 x2 (by omega) (by omega)) q⟩) (kg0) (by first | exact ⟨fun _ => (by rw [kp3]; exact kwr), fun q => (by exfalso; unfold isDg at q; have w := kt1 (by omega); omega), fun q => (by exfalso; exact q (by unfold isSm; have w := kt1 (by omega); omega))⟩ | exact ⟨fun q => (by exfalso; unfold isSm at q; have w := kt0 (by omega); omega), fun _ => kp3, fun _ q => (by exfalso; exact q (by unfold isDg; have w := ke1 (by omega); omega))⟩ | exact ⟨fun q => (by exfalso; unfold isSm at q; have w := kt0 (by omega); omega), fun q => (by exfalso; unfold isDg at q; have w := ke0 (by omega); omega), fun _ _ => (by rw [kp3]; omega)⟩) (by omega) (by rw [kv0]; omega) (fun _ => by rw [show (x2 - x2).toNat = 0 by omega, kv0]; exact ⟨fun _ => rfl, fun h => (by omega), Int.le_refl _⟩) (by omega) (by omega) (by omega) (by omega) (by omega) (by omega) (by omega) (by omega)
              · exfalso; omega
            · refine s_blx (lv' := [(0, vR 77), (1, vI size), (2, vI x2), (3, vI x3), (4, vI x4)]) (st' := [vI x4, vI x2, vR 77, vI c0, vR 97]) B215_135_139 rfl ?_
              refine r_vIp (c := 77) (args := [vI x2, vI x4]) (rest := [vI c0, vR 97]) (pc' := 142) D215_139 rfl ck_11_virtual_314 TE214 rfl (Nat.le_of_ble_eq_true rfl) ⟨Nat.le_of_ble_eq_true rfl, Nat.le_of_ble_eq_true rfl⟩ sc_77 ⟨rfl, by decide⟩ H417.1 (dp_0 hd rfl) (k214a E (dp_n hd rfl) H417 x2 x4 ((h0.fr f419 rfl)) (by omega) (by omega)) ?_
              intro v447 q451
              obtain ⟨q449, q450⟩ := q451
              have kwr := q450
              rw [show (fun i => gi M415 95 i % 256) = (fun i => gi M 95 i % 256) from funext fun i => by rw [show gi M415 95 i = gi M 95 i from (f419).g rfl]] at kwr
              refine r_goto (tgt := 165) D215_142 rfl ?_
              refine r_iast (pc' := 166) D215_165 rfl sc_97 H417 (by omega) (by unfold inR; omega) trivial ?_
              intro M452 u453 H454 p455
              have f456 := f419.wr u453 rfl
              have ku3 := u453
              have kp3 := p455
              have kpc : PTK (fun i => gi M 95 i % 256) size c0 (gi M452 99) x2 := i1.cong (fun j a b => (ku3.gi_ne (by omega) (Or.inl (by decide))).trans ((ku2.gi_ne (by omega) (Or.inl (by decide))).trans ((ku1.gi_ne (by omega) (Or.inr (by omega))).trans (rfl))))
              have kkc : ∀ j : Int, 0 ≤ j → j < c0 → ∃ e, TE (fun i => gi M 95 i % 256) size (gi M452 99 j) e ∧ RKD (fun i => gi M 95 i % 256) (gi M452 99 j) e (gi M452 97 j) (gi M452 98 j) := fun j a b => by rw [show gi M452 99 j = gi N 99 j from (fun j a b => (ku3.gi_ne (by omega) (Or.inl (by decide))).trans ((ku2.gi_ne (by omega) (Or.inl (by decide))).trans ((ku1.gi_ne (by omega) (Or.inr (by omega))).trans (rfl)))) j a b, show gi M452 97 j = gi N 97 j from (fun j a b => (ku3.gi_ne (by omega) (Or.inr (by omega))).trans ((ku2.gi_ne (by omega) (Or.inl (by decide))).trans ((ku1.gi_ne (by omega) (Or.inl (by decide))).trans (rfl)))) j a b, show gi M452 98 j = gi N 98 j from (fun j a b => (ku3.gi_ne (by omega) (Or.inl (by decide))).trans ((ku2.gi_ne (by omega) (Or.inr (by omega))).trans ((ku1.gi_ne (by omega) (Or.inl (by decide))).trans (rfl)))) j a b]; exact i2 j a b
              have kg0 : gi M452 99 c0 = x2 := (ku3.gi_ne (by omega) (Or.inl (by decide))).trans ((ku2.gi_ne (by omega) (Or.inl (by decide))).trans kp1)
              have kv0 : gi M452 98 c0 = 0 := (ku3.gi_ne (by omega) (Or.inl (by decide))).trans kp2
              refine s_blx (lv' := [(5, vI x2), (0, vR 77), (1, vI size), (2, vI x2), (3, vI x3), (4, vI x4)]) (st' := []) B215_166_169 rfl ?_
              refine r_loc (lv' := [(0, vR 77), (1, vI size), (3, vI x3), (4, vI x4), (5, vI x2)]) ⟨rfl, rfl, rfl, rfl, rfl, trivial⟩ rfl rfl ?_
              have g457 : gi M452 77 36 = c0 := (u453.gi_ne (by omega) (Or.inl (by decide))).trans ((u416.gi_ne (by omega) (Or.inl (by decide))).trans ((u407.gi_ne (by omega) (Or.inl (by decide))).trans (i0)))
              have g458 : gi M452 99 c0 = x2 := (u453.gi_ne (by omega) (Or.inl (by decide))).trans ((u416.gi_ne (by omega) (Or.inl (by decide))).trans (p409))
              have g459 : gi M452 97 c0 = v447 := p455
              have g460 : gi M452 98 c0 = 0 := (u453.gi_ne (by omega) (Or.inl (by decide))).trans (p418)
              exact ih.2.2.2 x3 x4 x2 c0 x2 M452 H454 f456 (by omega) (kpc) (kkc) (by omega) (by omega) (i5) (by omega) (by omega) (by first | exact ⟨⟨by omega, by omega⟩, fun j a b => ⟨fun _ => i9 j a b, fun q => (by exfalso; have w := i9 x2 (by omega) (by omega); unfold isSm at w; have q2 : isDg (gi M 95 x2 % 256) := q; unfold isDg at q2; omega)⟩, fun q => (by exfalso; omega), fun q => absurd (i9 x2 (by omega) (by omega)) q⟩ | exact ⟨⟨by omega, by omega⟩, fun j a b => ⟨fun _ => i9 j a b, fun q => (by exfalso; have w := i9 x2 (by omega) (by omega); unfold isSm at w; have q2 : isDg (gi M 95 x2 % 256) := q; unfold isDg at q2; omega)⟩, fun _ => ⟨fun _ => (by show ¬ isSm (gi M 95 x4 % 256); unfold isSm; have w := km0 (by omega); omega), fun q => (by exfalso; have w := i9 x2 (by omega) (by omega); unfold isSm at w; have q2 : isDg (gi M 95 x2 % 256) := q; unfold isDg at q2; omega)⟩, fun q => absurd (i9 x2 (by omega) (by omega)) q⟩) (kg0) (by first | exact ⟨fun _ => (by rw [kp3]; exact kwr), fun q => (by exfalso; unfold isDg at q; have w := kt1 (by omega); omega), fun q => (by exfalso; exact q (by unfold isSm; have w := kt1 (by omega); omega))⟩ | exact ⟨fun q => (by exfalso; unfold isSm at q; have w := kt0 (by omega); omega), fun _ => kp3, fun _ q => (by exfalso; exact q (by unfold isDg; have w := ke1 (by omega); omega))⟩ | exact ⟨fun q => (by exfalso; unfold isSm at q; have w := kt0 (by omega); omega), fun q => (by exfalso; unfold isDg at q; have w := ke0 (by omega); omega), fun _ _ => (by rw [kp3]; omega)⟩) (by omega) (by rw [kv0]; omega) (fun _ => by rw [show (x2 - x2).toNat = 0 by omega, kv0]; exact ⟨fun _ => rfl, fun h => (by omega), Int.le_refl _⟩) (by omega) (by omega) (by omega) (by omega) (by omega) (by omega) (by omega) (by omega)
          · exfalso; omega
        · refine s_blx (lv' := [(4, vI (x4 + 1)), (0, vR 77), (1, vI size), (2, vI x2), (3, vI x3)]) (st' := []) B215_62_65 rfl ?_
          refine r_goto (tgt := 43) D215_65 rfl ?_
          refine r_loc (lv' := [(0, vR 77), (1, vI size), (2, vI x2), (3, vI x3), (4, vI (x4 + 1))]) ⟨rfl, rfl, rfl, rfl, rfl, trivial⟩ rfl rfl ?_
          exact ih.2.1 x2 x3 (x4 + 1) c0 N HN fN (by omega) (i1) (i2) (by omega) (by omega) (i5) (by omega) (by omega) (by omega) (fun j a b => if e : j = x4 then (by rw [e]; unfold isSm; have w := km1 (by omega); omega) else i9 j a (by omega)) (by omega) (by omega) (by omega) (by omega) (by omega) (by omega) (by omega)
    · intro x2 x3 x4 c0 N HN fN i0 i1 i2 i3 i4 i5 i6 i7 i8 i9 i10 i11 i12 i13 i14 i15 hmu
      have k95 : ∀ j : Int, gi N 95 j = gi M 95 j := fun j => fN.g rfl
      refine s_blx (lv' := [(0, vR 77), (1, vI size), (2, vI x2), (3, vI x3), (4, vI x4)]) (st' := [vI size, vI x4]) B215_75_78 rfl ?_
      refine r_icmp (tgt := 100) (pc' := 81) D215_78 rfl rfl (by unfold inR; omega) (fun (c199 : size ≤ x4) => ?_) (fun (c199 : ¬ (size ≤ x4)) => ?_)
      · refine s_blx (lv' := [(0, vR 77), (1, vI size), (2, vI x2), (3, vI x3), (4, vI x4)]) (st' := [vR 77]) B215_100_101 rfl ?_
        refine r_gfix (r := 99) (pc' := 104) D215_101 rfl gf_11_84_77 HN.1 ?_
        refine s_blx (lv' := [(0, vR 77), (1, vI size), (2, vI x2), (3, vI x3), (4, vI x4)]) (st' := [vR 77, vR 99]) B215_104_105 rfl ?_
        refine r_gint (ki := 36) (pc' := 108) D215_105 rfl gf_11_305_77 rfl HN.1 ?_
        intro w200 e201 r202
        have e203 : c0 = w200 := (e201.trans (i0)).symm
        subst e203
        refine s_blx (lv' := [(0, vR 77), (1, vI size), (2, vI x2), (3, vI x3), (4, vI x4)]) (st' := [vI x2, vI c0, vR 99]) B215_108_109 rfl ?_
        refine r_iast (pc' := 110) D215_109 rfl sc_99 HN (by omega) (by unfold inR; omega) (show 0 ≤ x2 ∧ x2 ≤ 400 by omega) ?_
        intro M204 u205 H206 p207
        have f208 := fN.wr u205 rfl
        have ku1 := u205
        have kp1 := p207
        refine s_blx (lv' := [(0, vR 77), (1, vI size), (2, vI x2), (3, vI x3), (4, vI x4)]) (st' := [vR 77]) B215_110_111 rfl ?_
        refine r_gfix (r := 98) (pc' := 114) D215_111 rfl gf_11_81_77 H206.1 ?_
        refine s_blx (lv' := [(0, vR 77), (1, vI size), (2, vI x2), (3, vI x3), (4, vI x4)]) (st' := [vR 77, vR 98]) B215_114_115 rfl ?_
        refine r_gint (ki := 36) (pc' := 118) D215_115 rfl gf_11_305_77 rfl H206.1 ?_
        intro w209 e210 r211
        have e212 : c0 = w209 := (e210.trans ((u205.gi_ne (by omega) (Or.inl (by decide))).trans (i0))).symm
        subst e212
        refine s_blx (lv' := [(0, vR 77), (1, vI size), (2, vI x2), (3, vI x3), (4, vI x4)]) (st' := [vI 0, vI c0, vR 98]) B215_118_119 rfl ?_
        refine r_iast (pc' := 120) D215_119 rfl sc_98 H206 (by omega) (by unfold inR; omega) trivial ?_
        intro M213 u214 H215 p216
        have f217 := f208.wr u214 rfl
        have ku2 := u214
        have kp2 := p216
        refine s_blx (lv' := [(0, vR 77), (1, vI size), (2, vI x2), (3, vI x3), (4, vI x4)]) (st' := [vR 77]) B215_120_121 rfl ?_
        refine r_gfix (r := 97) (pc' := 124) D215_121 rfl gf_11_78_77 H215.1 ?_
        refine s_blx (lv' := [(0, vR 77), (1, vI size), (2, vI x2), (3, vI x3), (4, vI x4)]) (st' := [vR 77, vR 97]) B215_124_125 rfl ?_
        refine r_gint (ki := 36) (pc' := 128) D215_125 rfl gf_11_305_77 rfl H215.1 ?_
        intro w218 e219 r220
        have e221 : c0 = w218 := (e219.trans ((u214.gi_ne (by omega) (Or.inl (by decide))).trans ((u205.gi_ne (by omega) (Or.inl (by decide))).trans (i0)))).symm
        subst e221
        refine s_blx (lv' := [(0, vR 77), (1, vI size), (2, vI x2), (3, vI x3), (4, vI x4)]) (st' := [vI x3, vI c0, vR 97]) B215_128_129 rfl ?_
        refine r_sIp (args := [vI x3]) (rest := [vI c0, vR 97]) (pc' := 132) D215_129 rfl ck_11_static_308 TE212 rfl (Nat.le_of_ble_eq_true rfl) ⟨Nat.le_of_ble_eq_true rfl, Nat.le_of_ble_eq_true rfl⟩ (by decide) (dp_0 hd rfl) (k212a E (dp_n hd rfl) H215 x3 (by omega)) ?_
        intro v222 q227
        obtain ⟨q224, q225, q226⟩ := q227
        have kt1 := q225; clear q225
        have kt0 := q226; clear q226
        refine r_ifc (tgt := 145) (pc' := 135) D215_132 rfl rfl (by unfold inR; omega) (fun (c228 : v222 = 0) => ?_) (fun (c228 : ¬ (v222 = 0)) => ?_)
        · refine s_blx (lv' := [(0, vR 77), (1, vI size), (2, vI x2), (3, vI x3), (4, vI x4)]) (st' := [vI x3, vI c0, vR 97]) B215_145_146 rfl ?_
          refine r_sIp (args := [vI x3]) (rest := [vI c0, vR 97]) (pc' := 149) D215_146 rfl ck_11_static_311 TE213 rfl (Nat.le_of_ble_eq_true rfl) ⟨Nat.le_of_ble_eq_true rfl, Nat.le_of_ble_eq_true rfl⟩ (by decide) (dp_0 hd rfl) (k213a E (dp_n hd rfl) H215 x3 (by omega)) ?_
          intro v229 q234
          obtain ⟨q231, q232, q233⟩ := q234
          have ke1 := q232; clear q232
          have ke0 := q233; clear q233
          refine r_ifc (tgt := 157) (pc' := 152) D215_149 rfl rfl (by unfold inR; omega) (fun (c235 : v229 = 0) => ?_) (fun (c235 : ¬ (v229 = 0)) => ?_)
          · refine s_blx (lv' := [(0, vR 77), (1, vI size), (2, vI x2), (3, vI x3), (4, vI x4)]) (st' := [vI 255, vI x3, vI 100, vI c0, vR 97]) B215_157_163 rfl ?_
            refine r_and255 (pc' := 164) D215_163 rfl ?_
            refine s_blx (lv' := [(0, vR 77), (1, vI size), (2, vI x2), (3, vI x3), (4, vI x4)]) (st' := [vI (100 + (x3 % 256)), vI c0, vR 97]) B215_164_165 rfl ?_
            refine r_iast (pc' := 166) D215_165 rfl sc_97 H215 (by omega) (by unfold inR; omega) trivial ?_
            intro M236 u237 H238 p239
            have f240 := f217.wr u237 rfl
            have ku3 := u237
            have kp3 := p239
            have kpc : PTK (fun i => gi M 95 i % 256) size c0 (gi M236 99) x2 := i1.cong (fun j a b => (ku3.gi_ne (by omega) (Or.inl (by decide))).trans ((ku2.gi_ne (by omega) (Or.inl (by decide))).trans ((ku1.gi_ne (by omega) (Or.inr (by omega))).trans (rfl))))
            have kkc : ∀ j : Int, 0 ≤ j → j < c0 → ∃ e, TE (fun i => gi M 95 i % 256) size (gi M236 99 j) e ∧ RKD (fun i => gi M 95 i % 256) (gi M236 99 j) e (gi M236 97 j) (gi M236 98 j) := fun j a b => by rw [show gi M236 99 j = gi N 99 j from (fun j a b => (ku3.gi_ne (by omega) (Or.inl (by decide))).trans ((ku2.gi_ne (by omega) (Or.inl (by decide))).trans ((ku1.gi_ne (by omega) (Or.inr (by omega))).trans (rfl)))) j a b, show gi M236 97 j = gi N 97 j from (fun j a b => (ku3.gi_ne (by omega) (Or.inr (by omega))).trans ((ku2.gi_ne (by omega) (Or.inl (by decide))).trans ((ku1.gi_ne (by omega) (Or.inl (by decide))).trans (rfl)))) j a b, show gi M236 98 j = gi N 98 j from (fun j a b => (ku3.gi_ne (by omega) (Or.inl (by decide))).trans ((ku2.gi_ne (by omega) (Or.inr (by omega))).trans ((ku1.gi_ne (by omega) (Or.inl (by decide))).trans (rfl)))) j a b]; exact i2 j a b
            have kg0 : gi M236 99 c0 = x2 := (ku3.gi_ne (by omega) (Or.inl (by decide))).trans ((ku2.gi_ne (by omega) (Or.inl (by decide))).trans kp1)
            have kv0 : gi M236 98 c0 = 0 := (ku3.gi_ne (by omega) (Or.inl (by decide))).trans kp2
            refine s_blx (lv' := [(5, vI x2), (0, vR 77), (1, vI size), (2, vI x2), (3, vI x3), (4, vI x4)]) (st' := []) B215_166_169 rfl ?_
            refine r_loc (lv' := [(0, vR 77), (1, vI size), (3, vI x3), (4, vI x4), (5, vI x2)]) ⟨rfl, rfl, rfl, rfl, rfl, trivial⟩ rfl rfl ?_
            have g241 : gi M236 77 36 = c0 := (u237.gi_ne (by omega) (Or.inl (by decide))).trans ((u214.gi_ne (by omega) (Or.inl (by decide))).trans ((u205.gi_ne (by omega) (Or.inl (by decide))).trans (i0)))
            have g242 : gi M236 99 c0 = x2 := (u237.gi_ne (by omega) (Or.inl (by decide))).trans ((u214.gi_ne (by omega) (Or.inl (by decide))).trans (p207))
            have g243 : gi M236 97 c0 = 100 + (x3 % 256) := p239
            have g244 : gi M236 98 c0 = 0 := (u237.gi_ne (by omega) (Or.inl (by decide))).trans (p216)
            exact ih.2.2.2 x3 x4 x2 c0 x2 M236 H238 f240 (by omega) (kpc) (kkc) (by omega) (by omega) (i5) (by omega) (by omega) (by first | exact ⟨⟨by omega, by omega⟩, fun j a b => ⟨fun q => (by exfalso; have w := i9 x2 (by omega) (by omega); unfold isDg at w; have q2 : isSm (gi M 95 x2 % 256) := q; unfold isSm at q2; omega), fun _ => i9 j a b⟩, fun q => (by exfalso; omega), fun _ q => absurd (i9 x2 (by omega) (by omega)) q⟩ | exact ⟨⟨by omega, by omega⟩, fun j a b => ⟨fun q => (by exfalso; have w := i9 x2 (by omega) (by omega); unfold isDg at w; have q2 : isSm (gi M 95 x2 % 256) := q; unfold isSm at q2; omega), fun _ => i9 j a b⟩, fun _ => ⟨fun q => (by exfalso; have w := i9 x2 (by omega) (by omega); unfold isDg at w; have q2 : isSm (gi M 95 x2 % 256) := q; unfold isSm at q2; omega), fun _ => (by show ¬ isDg (gi M 95 x4 % 256); unfold isDg; have w := kn0 (by omega); omega)⟩, fun _ q => absurd (i9 x2 (by omega) (by omega)) q⟩) (kg0) (by first | exact ⟨fun _ => (by rw [kp3]; exact kwr), fun q => (by exfalso; unfold isDg at q; have w := kt1 (by omega); omega), fun q => (by exfalso; exact q (by unfold isSm; have w := kt1 (by omega); omega))⟩ | exact ⟨fun q => (by exfalso; unfold isSm at q; have w := kt0 (by omega); omega), fun _ => kp3, fun _ q => (by exfalso; exact q (by unfold isDg; have w := ke1 (by omega); omega))⟩ | exact ⟨fun q => (by exfalso; unfold isSm at q; have w := kt0 (by omega); omega), fun q => (by exfalso; unfold isDg at q; have w := ke0 (by omega); omega), fun _ _ => (by rw [kp3]; omega)⟩) (by omega) (by rw [kv0]; omega) (fun _ => by rw [show (x2 - x2).toNat = 0 by omega, kv0]; exact ⟨fun _ => rfl, fun h => (by omega), Int.le_refl _⟩) (by omega) (by omega) (by omega) (by omega) (by omega) (by omega) (by omega) (by omega)
          · refine s_blx (lv' := [(0, vR 77), (1, vI size), (2, vI x2), (3, vI x3), (4, vI x4)]) (st' := [vI 50, vI c0, vR 97]) B215_152_154 rfl ?_
            refine r_goto (tgt := 165) D215_154 rfl ?_
            refine r_iast (pc' := 166) D215_165 rfl sc_97 H215 (by omega) (by unfold inR; omega) trivial ?_
            intro M245 u246 H247 p248
            have f249 := f217.wr u246 rfl
            have ku3 := u246
            have kp3 := p248
            have kpc : PTK (fun i => gi M 95 i % 256) size c0 (gi M245 99) x2 := i1.cong (fun j a b => (ku3.gi_ne (by omega) (Or.inl (by decide))).trans ((ku2.gi_ne (by omega) (Or.inl (by decide))).trans ((ku1.gi_ne (by omega) (Or.inr (by omega))).trans (rfl))))
            have kkc : ∀ j : Int, 0 ≤ j → j < c0 → ∃ e, TE (fun i => gi M 95 i % 256) size (gi M245 99 j) e ∧ RKD (fun i => gi M 95 i % 256) (gi M245 99 j) e (gi M245 97 j) (gi M245 98 j) := fun j a b => by rw [show gi M245 99 j = gi N 99 j from (fun j a b => (ku3.gi_ne (by omega) (Or.inl (by decide))).trans ((ku2.gi_ne (by omega) (Or.inl (by decide))).trans ((ku1.gi_ne (by omega) (Or.inr (by omega))).trans (rfl)))) j a b, show gi M245 97 j = gi N 97 j from (fun j a b => (ku3.gi_ne (by omega) (Or.inr (by omega))).trans ((ku2.gi_ne (by omega) (Or.inl (by decide))).trans ((ku1.gi_ne (by omega) (Or.inl (by decide))).trans (rfl)))) j a b, show gi M245 98 j = gi N 98 j from (fun j a b => (ku3.gi_ne (by omega) (Or.inl (by decide))).trans ((ku2.gi_ne (by omega) (Or.inr (by omega))).trans ((ku1.gi_ne (by omega) (Or.inl (by decide))).trans (rfl)))) j a b]; exact i2 j a b
            have kg0 : gi M245 99 c0 = x2 := (ku3.gi_ne (by omega) (Or.inl (by decide))).trans ((ku2.gi_ne (by omega) (Or.inl (by decide))).trans kp1)
            have kv0 : gi M245 98 c0 = 0 := (ku3.gi_ne (by omega) (Or.inl (by decide))).trans kp2
            refine s_blx (lv' := [(5, vI x2), (0, vR 77), (1, vI size), (2, vI x2), (3, vI x3), (4, vI x4)]) (st' := []) B215_166_169 rfl ?_
            refine r_loc (lv' := [(0, vR 77), (1, vI size), (3, vI x3), (4, vI x4), (5, vI x2)]) ⟨rfl, rfl, rfl, rfl, rfl, trivial⟩ rfl rfl ?_
            have g250 : gi M245 77 36 = c0 := (u246.gi_ne (by omega) (Or.inl (by decide))).trans ((u214.gi_ne (by omega) (Or.inl (by decide))).trans ((u205.gi_ne (by omega) (Or.inl (by decide))).trans (i0)))
            have g251 : gi M245 99 c0 = x2 := (u246.gi_ne (by omega) (Or.inl (by decide))).trans ((u214.gi_ne (by omega) (Or.inl (by decide))).trans (p207))
            have g252 : gi M245 97 c0 = 50 := p248
            have g253 : gi M245 98 c0 = 0 := (u246.gi_ne (by omega) (Or.inl (by decide))).trans (p216)
            exact ih.2.2.2 x3 x4 x2 c0 x2 M245 H247 f249 (by omega) (kpc) (kkc) (by omega) (by omega) (i5) (by omega) (by omega) (by first | exact ⟨⟨by omega, by omega⟩, fun j a b => ⟨fun q => (by exfalso; have w := i9 x2 (by omega) (by omega); unfold isDg at w; have q2 : isSm (gi M 95 x2 % 256) := q; unfold isSm at q2; omega), fun _ => i9 j a b⟩, fun q => (by exfalso; omega), fun _ q => absurd (i9 x2 (by omega) (by omega)) q⟩ | exact ⟨⟨by omega, by omega⟩, fun j a b => ⟨fun q => (by exfalso; have w := i9 x2 (by omega) (by omega); unfold isDg at w; have q2 : isSm (gi M 95 x2 % 256) := q; unfold isSm at q2; omega), fun _ => i9 j a b⟩, fun _ => ⟨fun q => (by exfalso; have w := i9 x2 (by omega) (by omega); unfold isDg at w; have q2 : isSm (gi M 95 x2 % 256) := q; unfold isSm at q2; omega), fun _ => (by show ¬ isDg (gi M 95 x4 % 256); unfold isDg; have w := kn0 (by omega); omega)⟩, fun _ q => absurd (i9 x2 (by omega) (by omega)) q⟩) (kg0) (by first | exact ⟨fun _ => (by rw [kp3]; exact kwr), fun q => (by exfalso; unfold isDg at q; have w := kt1 (by omega); omega), fun q => (by exfalso; exact q (by unfold isSm; have w := kt1 (by omega); omega))⟩ | exact ⟨fun q => (by exfalso; unfold isSm at q; have w := kt0 (by omega); omega), fun _ => kp3, fun _ q => (by exfalso; exact q (by unfold isDg; have w := ke1 (by omega); omega))⟩ | exact ⟨fun q => (by exfalso; unfold isSm at q; have w := kt0 (by omega); omega), fun q => (by exfalso; unfold isDg at q; have w := ke0 (by omega); omega), fun _ _ => (by rw [kp3]; omega)⟩) (by omega) (by rw [kv0]; omega) (fun _ => by rw [show (x2 - x2).toNat = 0 by omega, kv0]; exact ⟨fun _ => rfl, fun h => (by omega), Int.le_refl _⟩) (by omega) (by omega) (by omega) (by omega) (by omega) (by omega) (by omega) (by omega)
        · exfalso; omega
      · refine s_blx (lv' := [(0, vR 77), (1, vI size), (2, vI x2), (3, vI x3), (4, vI x4)]) (st' := [vR 77]) B215_81_82 rfl ?_
        refine r_gfix (r := 95) (pc' := 85) D215_82 rfl gf_11_69_77 HN.1 ?_
        refine s_blx (lv' := [(0, vR 77), (1, vI size), (2, vI x2), (3, vI x3), (4, vI x4)]) (st' := [vI x4, vR 95]) B215_85_87 rfl ?_
        refine r_bald (pc' := 88) D215_87 rfl sc_95 (by decide) HN.1 (by omega) ?_
        intro w254 e255 r256
        have b_w254 := HN.2 95 (x4) (-128) 127 rfl
        rw [← e255] at b_w254; clear r256
        have kb2 : w254 = gi M 95 x4 := e255.trans (k95 x4)
        refine r_sIp (args := [vI w254]) (rest := []) (pc' := 91) D215_88 rfl ck_11_static_311 TE213 rfl (Nat.le_of_ble_eq_true rfl) ⟨Nat.le_of_ble_eq_true rfl, Nat.le_of_ble_eq_true rfl⟩ (by decide) (dp_0 hd rfl) (k213a E (dp_n hd rfl) HN w254 (by omega)) ?_
        intro v257 q262
        obtain ⟨q259, q260, q261⟩ := q262
        have kn1 := q260; clear q260
        have kn0 := q261; clear q261
        refine r_ifc (tgt := 100) (pc' := 94) D215_91 rfl rfl (by unfold inR; omega) (fun (c263 : v257 = 0) => ?_) (fun (c263 : ¬ (v257 = 0)) => ?_)
        · refine s_blx (lv' := [(0, vR 77), (1, vI size), (2, vI x2), (3, vI x3), (4, vI x4)]) (st' := [vR 77]) B215_100_101 rfl ?_
          refine r_gfix (r := 99) (pc' := 104) D215_101 rfl gf_11_84_77 HN.1 ?_
          refine s_blx (lv' := [(0, vR 77), (1, vI size), (2, vI x2), (3, vI x3), (4, vI x4)]) (st' := [vR 77, vR 99]) B215_104_105 rfl ?_
          refine r_gint (ki := 36) (pc' := 108) D215_105 rfl gf_11_305_77 rfl HN.1 ?_
          intro w264 e265 r266
          have e267 : c0 = w264 := (e265.trans (i0)).symm
          subst e267
          refine s_blx (lv' := [(0, vR 77), (1, vI size), (2, vI x2), (3, vI x3), (4, vI x4)]) (st' := [vI x2, vI c0, vR 99]) B215_108_109 rfl ?_
          refine r_iast (pc' := 110) D215_109 rfl sc_99 HN (by omega) (by unfold inR; omega) (show 0 ≤ x2 ∧ x2 ≤ 400 by omega) ?_
          intro M268 u269 H270 p271
          have f272 := fN.wr u269 rfl
          have ku1 := u269
          have kp1 := p271
          refine s_blx (lv' := [(0, vR 77), (1, vI size), (2, vI x2), (3, vI x3), (4, vI x4)]) (st' := [vR 77]) B215_110_111 rfl ?_
          refine r_gfix (r := 98) (pc' := 114) D215_111 rfl gf_11_81_77 H270.1 ?_
          refine s_blx (lv' := [(0, vR 77), (1, vI size), (2, vI x2), (3, vI x3), (4, vI x4)]) (st' := [vR 77, vR 98]) B215_114_115 rfl ?_
          refine r_gint (ki := 36) (pc' := 118) D215_115 rfl gf_11_305_77 rfl H270.1 ?_
          intro w273 e274 r275
          have e276 : c0 = w273 := (e274.trans ((u269.gi_ne (by omega) (Or.inl (by decide))).trans (i0))).symm
          subst e276
          refine s_blx (lv' := [(0, vR 77), (1, vI size), (2, vI x2), (3, vI x3), (4, vI x4)]) (st' := [vI 0, vI c0, vR 98]) B215_118_119 rfl ?_
          refine r_iast (pc' := 120) D215_119 rfl sc_98 H270 (by omega) (by unfold inR; omega) trivial ?_
          intro M277 u278 H279 p280
          have f281 := f272.wr u278 rfl
          have ku2 := u278
          have kp2 := p280
          refine s_blx (lv' := [(0, vR 77), (1, vI size), (2, vI x2), (3, vI x3), (4, vI x4)]) (st' := [vR 77]) B215_120_121 rfl ?_
          refine r_gfix (r := 97) (pc' := 124) D215_121 rfl gf_11_78_77 H279.1 ?_
          refine s_blx (lv' := [(0, vR 77), (1, vI size), (2, vI x2), (3, vI x3), (4, vI x4)]) (st' := [vR 77, vR 97]) B215_124_125 rfl ?_
          refine r_gint (ki := 36) (pc' := 128) D215_125 rfl gf_11_305_77 rfl H279.1 ?_
          intro w282 e283 r284
          have e285 : c0 = w282 := (e283.trans ((u278.gi_ne (by omega) (Or.inl (by decide))).trans ((u269.gi_ne (by omega) (Or.inl (by decide))).trans (i0)))).symm
          subst e285
          refine s_blx (lv' := [(0, vR 77), (1, vI size), (2, vI x2), (3, vI x3), (4, vI x4)]) (st' := [vI x3, vI c0, vR 97]) B215_128_129 rfl ?_
          refine r_sIp (args := [vI x3]) (rest := [vI c0, vR 97]) (pc' := 132) D215_129 rfl ck_11_static_308 TE212 rfl (Nat.le_of_ble_eq_true rfl) ⟨Nat.le_of_ble_eq_true rfl, Nat.le_of_ble_eq_true rfl⟩ (by decide) (dp_0 hd rfl) (k212a E (dp_n hd rfl) H279 x3 (by omega)) ?_
          intro v286 q291
          obtain ⟨q288, q289, q290⟩ := q291
          have kt1 := q289; clear q289
          have kt0 := q290; clear q290
          refine r_ifc (tgt := 145) (pc' := 135) D215_132 rfl rfl (by unfold inR; omega) (fun (c292 : v286 = 0) => ?_) (fun (c292 : ¬ (v286 = 0)) => ?_)
          · refine s_blx (lv' := [(0, vR 77), (1, vI size), (2, vI x2), (3, vI x3), (4, vI x4)]) (st' := [vI x3, vI c0, vR 97]) B215_145_146 rfl ?_
            refine r_sIp (args := [vI x3]) (rest := [vI c0, vR 97]) (pc' := 149) D215_146 rfl ck_11_static_311 TE213 rfl (Nat.le_of_ble_eq_true rfl) ⟨Nat.le_of_ble_eq_true rfl, Nat.le_of_ble_eq_true rfl⟩ (by decide) (dp_0 hd rfl) (k213a E (dp_n hd rfl) H279 x3 (by omega)) ?_
            intro v293 q298
            obtain ⟨q295, q296, q297⟩ := q298
            have ke1 := q296; clear q296
            have ke0 := q297; clear q297
            refine r_ifc (tgt := 157) (pc' := 152) D215_149 rfl rfl (by unfold inR; omega) (fun (c299 : v293 = 0) => ?_) (fun (c299 : ¬ (v293 = 0)) => ?_)
            · refine s_blx (lv' := [(0, vR 77), (1, vI size), (2, vI x2), (3, vI x3), (4, vI x4)]) (st' := [vI 255, vI x3, vI 100, vI c0, vR 97]) B215_157_163 rfl ?_
              refine r_and255 (pc' := 164) D215_163 rfl ?_
              refine s_blx (lv' := [(0, vR 77), (1, vI size), (2, vI x2), (3, vI x3), (4, vI x4)]) (st' := [vI (100 + (x3 % 256)), vI c0, vR 97]) B215_164_165 rfl ?_
              refine r_iast (pc' := 166) D215_165 rfl sc_97 H279 (by omega) (by unfold inR; omega) trivial ?_
              intro M300 u301 H302 p303
              have f304 := f281.wr u301 rfl
              have ku3 := u301
              have kp3 := p303
              have kpc : PTK (fun i => gi M 95 i % 256) size c0 (gi M300 99) x2 := i1.cong (fun j a b => (ku3.gi_ne (by omega) (Or.inl (by decide))).trans ((ku2.gi_ne (by omega) (Or.inl (by decide))).trans ((ku1.gi_ne (by omega) (Or.inr (by omega))).trans (rfl))))
              have kkc : ∀ j : Int, 0 ≤ j → j < c0 → ∃ e, TE (fun i => gi M 95 i % 256) size (gi M300 99 j) e ∧ RKD (fun i => gi M 95 i % 256) (gi M300 99 j) e (gi M300 97 j) (gi M300 98 j) := fun j a b => by rw [show gi M300 99 j = gi N 99 j from (fun j a b => (ku3.gi_ne (by omega) (Or.inl (by decide))).trans ((ku2.gi_ne (by omega) (Or.inl (by decide))).trans ((ku1.gi_ne (by omega) (Or.inr (by omega))).trans (rfl)))) j a b, show gi M300 97 j = gi N 97 j from (fun j a b => (ku3.gi_ne (by omega) (Or.inr (by omega))).trans ((ku2.gi_ne (by omega) (Or.inl (by decide))).trans ((ku1.gi_ne (by omega) (Or.inl (by decide))).trans (rfl)))) j a b, show gi M300 98 j = gi N 98 j from (fun j a b => (ku3.gi_ne (by omega) (Or.inl (by decide))).trans ((ku2.gi_ne (by omega) (Or.inr (by omega))).trans ((ku1.gi_ne (by omega) (Or.inl (by decide))).trans (rfl)))) j a b]; exact i2 j a b
              have kg0 : gi M300 99 c0 = x2 := (ku3.gi_ne (by omega) (Or.inl (by decide))).trans ((ku2.gi_ne (by omega) (Or.inl (by decide))).trans kp1)
              have kv0 : gi M300 98 c0 = 0 := (ku3.gi_ne (by omega) (Or.inl (by decide))).trans kp2
              refine s_blx (lv' := [(5, vI x2), (0, vR 77), (1, vI size), (2, vI x2), (3, vI x3), (4, vI x4)]) (st' := []) B215_166_169 rfl ?_
              refine r_loc (lv' := [(0, vR 77), (1, vI size), (3, vI x3), (4, vI x4), (5, vI x2)]) ⟨rfl, rfl, rfl, rfl, rfl, trivial⟩ rfl rfl ?_
              have g305 : gi M300 77 36 = c0 := (u301.gi_ne (by omega) (Or.inl (by decide))).trans ((u278.gi_ne (by omega) (Or.inl (by decide))).trans ((u269.gi_ne (by omega) (Or.inl (by decide))).trans (i0)))
              have g306 : gi M300 99 c0 = x2 := (u301.gi_ne (by omega) (Or.inl (by decide))).trans ((u278.gi_ne (by omega) (Or.inl (by decide))).trans (p271))
              have g307 : gi M300 97 c0 = 100 + (x3 % 256) := p303
              have g308 : gi M300 98 c0 = 0 := (u301.gi_ne (by omega) (Or.inl (by decide))).trans (p280)
              exact ih.2.2.2 x3 x4 x2 c0 x2 M300 H302 f304 (by omega) (kpc) (kkc) (by omega) (by omega) (i5) (by omega) (by omega) (by first | exact ⟨⟨by omega, by omega⟩, fun j a b => ⟨fun q => (by exfalso; have w := i9 x2 (by omega) (by omega); unfold isDg at w; have q2 : isSm (gi M 95 x2 % 256) := q; unfold isSm at q2; omega), fun _ => i9 j a b⟩, fun q => (by exfalso; omega), fun _ q => absurd (i9 x2 (by omega) (by omega)) q⟩ | exact ⟨⟨by omega, by omega⟩, fun j a b => ⟨fun q => (by exfalso; have w := i9 x2 (by omega) (by omega); unfold isDg at w; have q2 : isSm (gi M 95 x2 % 256) := q; unfold isSm at q2; omega), fun _ => i9 j a b⟩, fun _ => ⟨fun q => (by exfalso; have w := i9 x2 (by omega) (by omega); unfold isDg at w; have q2 : isSm (gi M 95 x2 % 256) := q; unfold isSm at q2; omega), fun _ => (by show ¬ isDg (gi M 95 x4 % 256); unfold isDg; have w := kn0 (by omega); omega)⟩, fun _ q => absurd (i9 x2 (by omega) (by omega)) q⟩) (kg0) (by first | exact ⟨fun _ => (by rw [kp3]; exact kwr), fun q => (by exfalso; unfold isDg at q; have w := kt1 (by omega); omega), fun q => (by exfalso; exact q (by unfold isSm; have w := kt1 (by omega); omega))⟩ | exact ⟨fun q => (by exfalso; unfold isSm at q; have w := kt0 (by omega); omega), fun _ => kp3, fun _ q => (by exfalso; exact q (by unfold isDg; have w := ke1 (by omega); omega))⟩ | exact ⟨fun q => (by exfalso; unfold isSm at q; have w := kt0 (by omega); omega), fun q => (by exfalso; unfold isDg at q; have w := ke0 (by omega); omega), fun _ _ => (by rw [kp3]; omega)⟩) (by omega) (by rw [kv0]; omega) (fun _ => by rw [show (x2 - x2).toNat = 0 by omega, kv0]; exact ⟨fun _ => rfl, fun h => (by omega), Int.le_refl _⟩) (by omega) (by omega) (by omega) (by omega) (by omega) (by omega) (by omega) (by omega)
            · refine s_blx (lv' := [(0, vR 77), (1, vI size), (2, vI x2), (3, vI x3), (4, vI x4)]) (st' := [vI 50, vI c0, vR 97]) B215_152_154 rfl ?_
              refine r_goto (tgt := 165) D215_154 rfl ?_
              refine r_iast (pc' := 166) D215_165 rfl sc_97 H279 (by omega) (by unfold inR; omega) trivial ?_
              intro M309 u310 H311 p312
              have f313 := f281.wr u310 rfl
              have ku3 := u310
              have kp3 := p312
              have kpc : PTK (fun i => gi M 95 i % 256) size c0 (gi M309 99) x2 := i1.cong (fun j a b => (ku3.gi_ne (by omega) (Or.inl (by decide))).trans ((ku2.gi_ne (by omega) (Or.inl (by decide))).trans ((ku1.gi_ne (by omega) (Or.inr (by omega))).trans (rfl))))
              have kkc : ∀ j : Int, 0 ≤ j → j < c0 → ∃ e, TE (fun i => gi M 95 i % 256) size (gi M309 99 j) e ∧ RKD (fun i => gi M 95 i % 256) (gi M309 99 j) e (gi M309 97 j) (gi M309 98 j) := fun j a b => by rw [show gi M309 99 j = gi N 99 j from (fun j a b => (ku3.gi_ne (by omega) (Or.inl (by decide))).trans ((ku2.gi_ne (by omega) (Or.inl (by decide))).trans ((ku1.gi_ne (by omega) (Or.inr (by omega))).trans (rfl)))) j a b, show gi M309 97 j = gi N 97 j from (fun j a b => (ku3.gi_ne (by omega) (Or.inr (by omega))).trans ((ku2.gi_ne (by omega) (Or.inl (by decide))).trans ((ku1.gi_ne (by omega) (Or.inl (by decide))).trans (rfl)))) j a b, show gi M309 98 j = gi N 98 j from (fun j a b => (ku3.gi_ne (by omega) (Or.inl (by decide))).trans ((ku2.gi_ne (by omega) (Or.inr (by omega))).trans ((ku1.gi_ne (by omega) (Or.inl (by decide))).trans (rfl)))) j a b]; exact i2 j a b
              have kg0 : gi M309 99 c0 = x2 := (ku3.gi_ne (by omega) (Or.inl (by decide))).trans ((ku2.gi_ne (by omega) (Or.inl (by decide))).trans kp1)
              have kv0 : gi M309 98 c0 = 0 := (ku3.gi_ne (by omega) (Or.inl (by decide))).trans kp2
              refine s_blx (lv' := [(5, vI x2), (0, vR 77), (1, vI size), (2, vI x2), (3, vI x3), (4, vI x4)]) (st' := []) B215_166_169 rfl ?_
              refine r_loc (lv' := [(0, vR 77), (1, vI size), (3, vI x3), (4, vI x4), (5, vI x2)]) ⟨rfl, rfl, rfl, rfl, rfl, trivial⟩ rfl rfl ?_
              have g314 : gi M309 77 36 = c0 := (u310.gi_ne (by omega) (Or.inl (by decide))).trans ((u278.gi_ne (by omega) (Or.inl (by decide))).trans ((u269.gi_ne (by omega) (Or.inl (by decide))).trans (i0)))
              have g315 : gi M309 99 c0 = x2 := (u310.gi_ne (by omega) (Or.inl (by decide))).trans ((u278.gi_ne (by omega) (Or.inl (by decide))).trans (p271))
              have g316 : gi M309 97 c0 = 50 := p312
              have g317 : gi M309 98 c0 = 0 := (u310.gi_ne (by omega) (Or.inl (by decide))).trans (p280)
              exact ih.2.2.2 x3 x4 x2 c0 x2 M309 H311 f313 (by omega) (kpc) (kkc) (by omega) (by omega) (i5) (by omega) (by omega) (by first | exact ⟨⟨by omega, by omega⟩, fun j a b => ⟨fun q => (by exfalso; have w := i9 x2 (by omega) (by omega); unfold isDg at w; have q2 : isSm (gi M 95 x2 % 256) := q; unfold isSm at q2; omega), fun _ => i9 j a b⟩, fun q => (by exfalso; omega), fun _ q => absurd (i9 x2 (by omega) (by omega)) q⟩ | exact ⟨⟨by omega, by omega⟩, fun j a b => ⟨fun q => (by exfalso; have w := i9 x2 (by omega) (by omega); unfold isDg at w; have q2 : isSm (gi M 95 x2 % 256) := q; unfold isSm at q2; omega), fun _ => i9 j a b⟩, fun _ => ⟨fun q => (by exfalso; have w := i9 x2 (by omega) (by omega); unfold isDg at w; have q2 : isSm (gi M 95 x2 % 256) := q; unfold isSm at q2; omega), fun _ => (by show ¬ isDg (gi M 95 x4 % 256); unfold isDg; have w := kn0 (by omega); omega)⟩, fun _ q => absurd (i9 x2 (by omega) (by omega)) q⟩) (kg0) (by first | exact ⟨fun _ => (by rw [kp3]; exact kwr), fun q => (by exfalso; unfold isDg at q; have w := kt1 (by omega); omega), fun q => (by exfalso; exact q (by unfold isSm; have w := kt1 (by omega); omega))⟩ | exact ⟨fun q => (by exfalso; unfold isSm at q; have w := kt0 (by omega); omega), fun _ => kp3, fun _ q => (by exfalso; exact q (by unfold isDg; have w := ke1 (by omega); omega))⟩ | exact ⟨fun q => (by exfalso; unfold isSm at q; have w := kt0 (by omega); omega), fun q => (by exfalso; unfold isDg at q; have w := ke0 (by omega); omega), fun _ _ => (by rw [kp3]; omega)⟩) (by omega) (by rw [kv0]; omega) (fun _ => by rw [show (x2 - x2).toNat = 0 by omega, kv0]; exact ⟨fun _ => rfl, fun h => (by omega), Int.le_refl _⟩) (by omega) (by omega) (by omega) (by omega) (by omega) (by omega) (by omega) (by omega)
          · exfalso; omega
        · refine s_blx (lv' := [(4, vI (x4 + 1)), (0, vR 77), (1, vI size), (2, vI x2), (3, vI x3)]) (st' := []) B215_94_97 rfl ?_
          refine r_goto (tgt := 75) D215_97 rfl ?_
          refine r_loc (lv' := [(0, vR 77), (1, vI size), (2, vI x2), (3, vI x3), (4, vI (x4 + 1))]) ⟨rfl, rfl, rfl, rfl, rfl, trivial⟩ rfl rfl ?_
          exact ih.2.2.1 x2 x3 (x4 + 1) c0 N HN fN (by omega) (i1) (i2) (by omega) (by omega) (i5) (by omega) (by omega) (by omega) (fun j a b => if e : j = x4 then (by rw [e]; unfold isDg; have w := kn1 (by omega); omega) else i9 j a (by omega)) (by omega) (by omega) (by omega) (by omega) (by omega) (by omega) (by omega)
    · intro x3 x4 x5 c0 kst N HN fN i0 i1 i2 i3 i4 i5 i6 i7 i8 i9 i10 i11 i12 i13 i14 i15 i16 i17 i18 i19 i20 hmu
      have k95 : ∀ j : Int, gi N 95 j = gi M 95 j := fun j => fN.g rfl
      refine s_blx (lv' := [(0, vR 77), (1, vI size), (3, vI x3), (4, vI x4), (5, vI x5)]) (st' := [vI x4, vI x5]) B215_169_173 rfl ?_
      refine r_icmp (tgt := 248) (pc' := 176) D215_173 rfl rfl (by unfold inR; omega) (fun (c122 : x4 ≤ x5) => ?_) (fun (c122 : ¬ (x4 ≤ x5)) => ?_)
      · refine s_blx (lv' := [(0, vR 77), (1, vI size), (3, vI x3), (4, vI x4), (5, vI x5)]) (st' := [vR 77, vR 77]) B215_248_250 rfl ?_
        refine r_gint (ki := 36) (pc' := 253) D215_250 rfl gf_11_305_77 rfl HN.1 ?_
        intro w123 e124 r125
        have e126 : c0 = w123 := (e124.trans (i0)).symm
        subst e126
        refine s_blx (lv' := [(0, vR 77), (1, vI size), (3, vI x3), (4, vI x4), (5, vI x5)]) (st' := [vI (c0 + 1), vR 77]) B215_253_255 rfl ?_
        refine r_pint (ki := 36) (pc' := 258) D215_255 rfl pf_11_305_77 rfl HN (by unfold inR; omega) (show 0 ≤ (c0 + 1) ∧ (c0 + 1) ≤ 400 by omega) ?_
        intro M127 u128 H129 p130
        have f131 := fN.wr u128 rfl
        have ku5 := u128
        have kp5 := p130
        have kpt : PTK (fun i => gi M 95 i % 256) size (c0 + 1) (gi M127 99) x4 := i1.tok (by omega) (by show gi M 95 kst % 256 ≠ 32; omega) i8 (fun j a b => ku5.gi_ne (by omega) (Or.inl (by decide))) ((ku5.gi_ne (by omega) (Or.inl (by decide))).trans i9)
        have kkd : ∀ j : Int, 0 ≤ j → j < c0 + 1 → ∃ e, TE (fun i => gi M 95 i % 256) size (gi M127 99 j) e ∧ RKD (fun i => gi M 95 i % 256) (gi M127 99 j) e (gi M127 97 j) (gi M127 98 j) := fun j a b => by rw [show gi M127 99 j = gi N 99 j from ku5.gi_ne (by omega) (Or.inl (by decide)), show gi M127 97 j = gi N 97 j from ku5.gi_ne (by omega) (Or.inl (by decide)), show gi M127 98 j = gi N 98 j from ku5.gi_ne (by omega) (Or.inl (by decide))]; exact if e : j = c0 then ⟨x4, by rw [e, i9]; exact i8, by rw [e, i9]; exact ⟨i10.1, fun q => ⟨i10.2.1 q, (by first | (have w := i13 q; rw [show x5 = x4 by omega] at w; omega) | (exfalso; have q2 : isDg (gi M 95 kst % 256) := q; unfold isDg at q2; have w := kz0 (by omega); omega))⟩, i10.2.2⟩⟩ else i2 j a (by omega)
        refine s_blx (lv' := [(2, vI x4), (0, vR 77), (1, vI size), (3, vI x3), (4, vI x4), (5, vI x5)]) (st' := []) B215_258_261 rfl ?_
        refine r_goto (tgt := 7) D215_261 rfl ?_
        refine r_loc (lv' := [(0, vR 77), (1, vI size), (2, vI x4)]) ⟨rfl, rfl, rfl, trivial⟩ rfl rfl ?_
        have g132 : gi M127 77 36 = c0 + 1 := p130
        exact ih.1 x4 (c0 + 1) M127 H129 f131 (by omega) (kpt) (kkd) (by omega) (by omega) (by omega) (by omega) (by omega)
      · refine s_blx (lv' := [(0, vR 77), (1, vI size), (3, vI x3), (4, vI x4), (5, vI x5)]) (st' := [vI x3]) B215_176_177 rfl ?_
        refine r_sIp (args := [vI x3]) (rest := []) (pc' := 180) D215_177 rfl ck_11_static_311 TE213 rfl (Nat.le_of_ble_eq_true rfl) ⟨Nat.le_of_ble_eq_true rfl, Nat.le_of_ble_eq_true rfl⟩ (by decide) (dp_0 hd rfl) (k213a E (dp_n hd rfl) HN x3 (by omega)) ?_
        intro v133 q138
        obtain ⟨q135, q136, q137⟩ := q138
        have kz1 := q136; clear q136
        have kz0 := q137; clear q137
        refine r_ifc (tgt := 248) (pc' := 183) D215_180 rfl rfl (by unfold inR; omega) (fun (c139 : v133 = 0) => ?_) (fun (c139 : ¬ (v133 = 0)) => ?_)
        · refine s_blx (lv' := [(0, vR 77), (1, vI size), (3, vI x3), (4, vI x4), (5, vI x5)]) (st' := [vR 77, vR 77]) B215_248_250 rfl ?_
          refine r_gint (ki := 36) (pc' := 253) D215_250 rfl gf_11_305_77 rfl HN.1 ?_
          intro w140 e141 r142
          have e143 : c0 = w140 := (e141.trans (i0)).symm
          subst e143
          refine s_blx (lv' := [(0, vR 77), (1, vI size), (3, vI x3), (4, vI x4), (5, vI x5)]) (st' := [vI (c0 + 1), vR 77]) B215_253_255 rfl ?_
          refine r_pint (ki := 36) (pc' := 258) D215_255 rfl pf_11_305_77 rfl HN (by unfold inR; omega) (show 0 ≤ (c0 + 1) ∧ (c0 + 1) ≤ 400 by omega) ?_
          intro M144 u145 H146 p147
          have f148 := fN.wr u145 rfl
          have ku5 := u145
          have kp5 := p147
          have kpt : PTK (fun i => gi M 95 i % 256) size (c0 + 1) (gi M144 99) x4 := i1.tok (by omega) (by show gi M 95 kst % 256 ≠ 32; omega) i8 (fun j a b => ku5.gi_ne (by omega) (Or.inl (by decide))) ((ku5.gi_ne (by omega) (Or.inl (by decide))).trans i9)
          have kkd : ∀ j : Int, 0 ≤ j → j < c0 + 1 → ∃ e, TE (fun i => gi M 95 i % 256) size (gi M144 99 j) e ∧ RKD (fun i => gi M 95 i % 256) (gi M144 99 j) e (gi M144 97 j) (gi M144 98 j) := fun j a b => by rw [show gi M144 99 j = gi N 99 j from ku5.gi_ne (by omega) (Or.inl (by decide)), show gi M144 97 j = gi N 97 j from ku5.gi_ne (by omega) (Or.inl (by decide)), show gi M144 98 j = gi N 98 j from ku5.gi_ne (by omega) (Or.inl (by decide))]; exact if e : j = c0 then ⟨x4, by rw [e, i9]; exact i8, by rw [e, i9]; exact ⟨i10.1, fun q => ⟨i10.2.1 q, (by first | (have w := i13 q; rw [show x5 = x4 by omega] at w; omega) | (exfalso; have q2 : isDg (gi M 95 kst % 256) := q; unfold isDg at q2; have w := kz0 (by omega); omega))⟩, i10.2.2⟩⟩ else i2 j a (by omega)
          refine s_blx (lv' := [(2, vI x4), (0, vR 77), (1, vI size), (3, vI x3), (4, vI x4), (5, vI x5)]) (st' := []) B215_258_261 rfl ?_
          refine r_goto (tgt := 7) D215_261 rfl ?_
          refine r_loc (lv' := [(0, vR 77), (1, vI size), (2, vI x4)]) ⟨rfl, rfl, rfl, trivial⟩ rfl rfl ?_
          have g149 : gi M144 77 36 = c0 + 1 := p147
          exact ih.1 x4 (c0 + 1) M144 H146 f148 (by omega) (kpt) (kkd) (by omega) (by omega) (by omega) (by omega) (by omega)
        · refine s_blx (lv' := [(0, vR 77), (1, vI size), (3, vI x3), (4, vI x4), (5, vI x5)]) (st' := [vR 77]) B215_183_184 rfl ?_
          refine r_gfix (r := 98) (pc' := 187) D215_184 rfl gf_11_81_77 HN.1 ?_
          refine s_blx (lv' := [(0, vR 77), (1, vI size), (3, vI x3), (4, vI x4), (5, vI x5)]) (st' := [vR 77, vR 98]) B215_187_188 rfl ?_
          refine r_gint (ki := 36) (pc' := 191) D215_188 rfl gf_11_305_77 rfl HN.1 ?_
          intro w150 e151 r152
          have e153 : c0 = w150 := (e151.trans (i0)).symm
          subst e153
          refine s_blx (lv' := [(0, vR 77), (1, vI size), (3, vI x3), (4, vI x4), (5, vI x5)]) (st' := [vR 77, vI c0, vR 98]) B215_191_192 rfl ?_
          refine r_gfix (r := 98) (pc' := 195) D215_192 rfl gf_11_81_77 HN.1 ?_
          refine s_blx (lv' := [(0, vR 77), (1, vI size), (3, vI x3), (4, vI x4), (5, vI x5)]) (st' := [vR 77, vR 98, vI c0, vR 98]) B215_195_196 rfl ?_
          refine r_gint (ki := 36) (pc' := 199) D215_196 rfl gf_11_305_77 rfl HN.1 ?_
          intro w154 e155 r156
          have e157 : c0 = w154 := (e155.trans (i0)).symm
          subst e157
          refine r_iald (pc' := 200) D215_199 rfl sc_98 HN.1 (by omega) ?_
          intro w158 e159 r160
          unfold inR at r160
          have kdk : isDg (gi M 95 kst % 256) := by unfold isDg; have w := kz1 (by omega); omega
          have kdx : isDg (gi M 95 x5 % 256) := (i8.2.1 x5 (by omega) (by omega)).2 kdk
          unfold isDg at kdx
          have kvr := i13 kdk
          have kwv := e159
          refine r_ldcw (e := 1000000) (pc' := 203) D215_200 rfl ci_11_317 (by decide) ?_
          refine r_icmp (tgt := 218) (pc' := 206) D215_203 rfl rfl (by unfold inR; omega) (fun (c161 : w158 ≤ 1000000) => ?_) (fun (c161 : ¬ (w158 ≤ 1000000)) => ?_)
          · refine s_blx (lv' := [(0, vR 77), (1, vI size), (3, vI x3), (4, vI x4), (5, vI x5)]) (st' := [vR 77, vI 10, vI c0, vR 98]) B215_218_221 rfl ?_
            refine r_gfix (r := 98) (pc' := 224) D215_221 rfl gf_11_81_77 HN.1 ?_
            refine s_blx (lv' := [(0, vR 77), (1, vI size), (3, vI x3), (4, vI x4), (5, vI x5)]) (st' := [vR 77, vR 98, vI 10, vI c0, vR 98]) B215_224_225 rfl ?_
            refine r_gint (ki := 36) (pc' := 228) D215_225 rfl gf_11_305_77 rfl HN.1 ?_
            intro w162 e163 r164
            have e165 : c0 = w162 := (e163.trans (i0)).symm
            subst e165
            refine r_iald (pc' := 229) D215_228 rfl sc_98 HN.1 (by omega) ?_
            intro w166 e167 r168
            have e169 : w158 = w166 := (e167.trans (e159.symm)).symm
            subst e169
            refine s_blx (lv' := [(0, vR 77), (1, vI size), (3, vI x3), (4, vI x4), (5, vI x5)]) (st' := [vR 77, vI (10 * w158), vI c0, vR 98]) B215_229_231 rfl ?_
            refine r_gfix (r := 95) (pc' := 234) D215_231 rfl gf_11_69_77 HN.1 ?_
            refine s_blx (lv' := [(0, vR 77), (1, vI size), (3, vI x3), (4, vI x4), (5, vI x5)]) (st' := [vI x5, vR 95, vI (10 * w158), vI c0, vR 98]) B215_234_236 rfl ?_
            refine r_bald (pc' := 237) D215_236 rfl sc_95 (by decide) HN.1 (by omega) ?_
            intro w170 e171 r172
            have b_w170 := HN.2 95 (x5) (-128) 127 rfl
            rw [← e171] at b_w170; clear r172
            have kb3 : w170 = gi M 95 x5 := e171.trans (k95 x5)
            refine s_blx (lv' := [(0, vR 77), (1, vI size), (3, vI x3), (4, vI x4), (5, vI x5)]) (st' := [vI (((10 * w158) + w170) - 48), vI c0, vR 98]) B215_237_241 rfl ?_
            refine r_iast (pc' := 242) D215_241 rfl sc_98 HN (by omega) (by unfold inR; omega) trivial ?_
            intro M173 u174 H175 p176
            have f177 := fN.wr u174 rfl
            have ku4 := u174
            have kp4 := p176
            have kkc : ∀ j : Int, 0 ≤ j → j < c0 → ∃ e, TE (fun i => gi M 95 i % 256) size (gi M173 99 j) e ∧ RKD (fun i => gi M 95 i % 256) (gi M173 99 j) e (gi M173 97 j) (gi M173 98 j) := fun j a b => by rw [show gi M173 99 j = gi N 99 j from (fun j a b => (ku4.gi_ne (by omega) (Or.inl (by decide))).trans (rfl)) j a b, show gi M173 97 j = gi N 97 j from (fun j a b => (ku4.gi_ne (by omega) (Or.inl (by decide))).trans (rfl)) j a b, show gi M173 98 j = gi N 98 j from (fun j a b => (ku4.gi_ne (by omega) (Or.inr (by omega))).trans (rfl)) j a b]; exact i2 j a b
            have kcd : (isSm (gi M 95 kst % 256) → WRR (fun i => gi M 95 i % 256) kst x4 (gi M173 97 c0)) ∧ (isDg (gi M 95 kst % 256) → gi M173 97 c0 = 50) ∧ (¬ isSm (gi M 95 kst % 256) → ¬ isDg (gi M 95 kst % 256) → gi M173 97 c0 = 100 + gi M 95 kst % 256) := by rw [show gi M173 97 c0 = gi N 97 c0 from ku4.gi_ne (by omega) (Or.inl (by decide))]; exact i10
            refine s_blx (lv' := [(5, vI (x5 + 1)), (0, vR 77), (1, vI size), (3, vI x3), (4, vI x4)]) (st' := []) B215_242_245 rfl ?_
            refine r_goto (tgt := 169) D215_245 rfl ?_
            refine r_loc (lv' := [(0, vR 77), (1, vI size), (3, vI x3), (4, vI x4), (5, vI (x5 + 1))]) ⟨rfl, rfl, rfl, rfl, rfl, trivial⟩ rfl rfl ?_
            have g178 : gi M173 77 36 = c0 := (u174.gi_ne (by omega) (Or.inl (by decide))).trans (i0)
            have g179 : gi M173 99 c0 = gi N 99 c0 := (u174.gi_ne (by omega) (Or.inl (by decide))).trans (rfl)
            have g180 : gi M173 97 c0 = gi N 97 c0 := (u174.gi_ne (by omega) (Or.inl (by decide))).trans (rfl)
            have g181 : gi M173 98 c0 = ((10 * w158) + w170) - 48 := p176
            exact ih.2.2.2 x3 x4 (x5 + 1) c0 kst M173 H175 f177 (by omega) (i1.cong (fun j a b => ku4.gi_ne (by omega) (Or.inl (by decide)))) (kkc) (by omega) (by omega) (i5) (by omega) (by omega) (i8) ((ku4.gi_ne (by omega) (Or.inl (by decide))).trans i9) (kcd) (by omega) (by rw [kp4]; omega) (fun _ => by rw [kp4, show (x5 + 1 - kst).toNat = (x5 - kst + 1).toNat by omega, dvF_s (by omega), show kst + (x5 - kst) = x5 by omega]; (try dsimp only); omega) (by omega) (by omega) (by omega) (by omega) (by omega) (by omega) (by omega) (by omega)
          · refine s_blx (lv' := [(0, vR 77), (1, vI size), (3, vI x3), (4, vI x4), (5, vI x5)]) (st' := [vR 77, vI c0, vR 98]) B215_206_207 rfl ?_
            refine r_gfix (r := 98) (pc' := 210) D215_207 rfl gf_11_81_77 HN.1 ?_
            refine s_blx (lv' := [(0, vR 77), (1, vI size), (3, vI x3), (4, vI x4), (5, vI x5)]) (st' := [vR 77, vR 98, vI c0, vR 98]) B215_210_211 rfl ?_
            refine r_gint (ki := 36) (pc' := 214) D215_211 rfl gf_11_305_77 rfl HN.1 ?_
            intro w182 e183 r184
            have e185 : c0 = w182 := (e183.trans (i0)).symm
            subst e185
            refine r_iald (pc' := 215) D215_214 rfl sc_98 HN.1 (by omega) ?_
            intro w186 e187 r188
            have e189 : w158 = w186 := (e187.trans (e159.symm)).symm
            subst e189
            refine r_goto (tgt := 241) D215_215 rfl ?_
            refine r_iast (pc' := 242) D215_241 rfl sc_98 HN (by omega) (by unfold inR; omega) trivial ?_
            intro M190 u191 H192 p193
            have f194 := fN.wr u191 rfl
            have ku4 := u191
            have kp4 := p193
            have kkc : ∀ j : Int, 0 ≤ j → j < c0 → ∃ e, TE (fun i => gi M 95 i % 256) size (gi M190 99 j) e ∧ RKD (fun i => gi M 95 i % 256) (gi M190 99 j) e (gi M190 97 j) (gi M190 98 j) := fun j a b => by rw [show gi M190 99 j = gi N 99 j from (fun j a b => (ku4.gi_ne (by omega) (Or.inl (by decide))).trans (rfl)) j a b, show gi M190 97 j = gi N 97 j from (fun j a b => (ku4.gi_ne (by omega) (Or.inl (by decide))).trans (rfl)) j a b, show gi M190 98 j = gi N 98 j from (fun j a b => (ku4.gi_ne (by omega) (Or.inr (by omega))).trans (rfl)) j a b]; exact i2 j a b
            have kcd : (isSm (gi M 95 kst % 256) → WRR (fun i => gi M 95 i % 256) kst x4 (gi M190 97 c0)) ∧ (isDg (gi M 95 kst % 256) → gi M190 97 c0 = 50) ∧ (¬ isSm (gi M 95 kst % 256) → ¬ isDg (gi M 95 kst % 256) → gi M190 97 c0 = 100 + gi M 95 kst % 256) := by rw [show gi M190 97 c0 = gi N 97 c0 from ku4.gi_ne (by omega) (Or.inl (by decide))]; exact i10
            refine s_blx (lv' := [(5, vI (x5 + 1)), (0, vR 77), (1, vI size), (3, vI x3), (4, vI x4)]) (st' := []) B215_242_245 rfl ?_
            refine r_goto (tgt := 169) D215_245 rfl ?_
            refine r_loc (lv' := [(0, vR 77), (1, vI size), (3, vI x3), (4, vI x4), (5, vI (x5 + 1))]) ⟨rfl, rfl, rfl, rfl, rfl, trivial⟩ rfl rfl ?_
            have g195 : gi M190 77 36 = c0 := (u191.gi_ne (by omega) (Or.inl (by decide))).trans (i0)
            have g196 : gi M190 99 c0 = gi N 99 c0 := (u191.gi_ne (by omega) (Or.inl (by decide))).trans (rfl)
            have g197 : gi M190 97 c0 = gi N 97 c0 := (u191.gi_ne (by omega) (Or.inl (by decide))).trans (rfl)
            have g198 : gi M190 98 c0 = w158 := p193
            exact ih.2.2.2 x3 x4 (x5 + 1) c0 kst M190 H192 f194 (by omega) (i1.cong (fun j a b => ku4.gi_ne (by omega) (Or.inl (by decide)))) (kkc) (by omega) (by omega) (i5) (by omega) (by omega) (i8) ((ku4.gi_ne (by omega) (Or.inl (by decide))).trans i9) (kcd) (by omega) (by rw [kp4]; omega) (fun _ => by rw [kp4, show (x5 + 1 - kst).toNat = (x5 - kst + 1).toNat by omega, dvF_s (by omega), show kst + (x5 - kst) = x5 by omega]; (try dsimp only); omega) (by omega) (by omega) (by omega) (by omega) (by omega) (by omega) (by omega) (by omega)
set_option maxRecDepth 4000 in
theorem k215a {base : Nat} {X : Nat → Option mC} {G : Nat → Value} (E : EnvOK base X G) {d : Nat} (hd : 1 ≤ d) {M : mH} (H : HI base M) (size : Int) (h0 : WX M) (h1 : 0 ≤ size ∧ size ≤ 400) : sOk base X G d T215 [vR 77, vI size] M (pV (fun M' => HI base M' ∧ Fr [(77, 37), (97, 0), (98, 0), (99, 0)] M M' ∧ (0 ≤ gi M' 77 36 ∧ gi M' 77 36 ≤ size) ∧ (gi M' 97 (gi M' 77 36) = 0) ∧ (TOK (fun i => gi M 95 i % 256) size (gi M' 77 36) (gi M' 99) (rkN (gi M' 77 36) (gi M' 97) (gi M' 98)) (gi M' 98)))) := by
  have f0 : Fr [(77, 37), (97, 0), (98, 0), (99, 0)] M M := Fr.rf
  refine sOk.of (show sRn base X G d T215 0 [(0, vR 77), (1, vI size)] [] M _ from ?_)
  refine s_blx (lv' := [(0, vR 77), (1, vI size)]) (st' := [vI 0, vR 77]) B215_0_2 rfl ?_
  refine r_pint (ki := 36) (pc' := 5) D215_2 rfl pf_11_305_77 rfl H (by unfold inR; omega) (show 0 ≤ 0 ∧ 0 ≤ 400 by omega) ?_
  intro M1 u2 H3 p4
  have f5 := f0.wr u2 rfl
  refine s_blx (lv' := [(2, vI 0), (0, vR 77), (1, vI size)]) (st' := []) B215_5_7 rfl ?_
  refine r_loc (lv' := [(0, vR 77), (1, vI size), (2, vI 0)]) ⟨rfl, rfl, rfl, trivial⟩ rfl rfl ?_
  have g6 : gi M1 77 36 = 0 := p4
  exact (L_k215a E hd H size h0 h1 (((400 - 0) * 1204 + 1203 : Int) + 1).toNat).1 0 0 M1 H3 f5 (by omega) (PTK.zero (by omega)) (fun j a b => by omega) (by omega) (by omega) (by omega) (by omega) (by omega)
