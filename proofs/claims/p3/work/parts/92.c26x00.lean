/-! Which moves can be chosen. -/
theorem j32 (z : Int) : ((Int64.ofInt z).toBitVec.toNat : Int) % 32 = z % 32 := by
  have e : (Int64.ofInt z).toBitVec = BitVec.ofInt 64 z := rfl
  rw [e, BitVec.toNat_ofInt]
  omega
theorem j_or {z1 z2 m : Int} (h2 : Int64.ofInt z2 = Int64.ofInt z1 ||| Int64.ofInt m) (h1 : z1 % 32 = 0) (hm : 0 ≤ m ∧ m ≤ 31) : z2 % 32 = m := by
  have a := j32 z2
  rw [h2, Int64.toBitVec_or, BitVec.toNat_or] at a
  have b := j32 z1
  have c := j32 m
  have d := Nat.or_mod_two_pow (a := (Int64.ofInt z1).toBitVec.toNat) (b := (Int64.ofInt m).toBitVec.toNat) (n := 5)
  have b' : (Int64.ofInt z1).toBitVec.toNat % 2 ^ 5 = 0 := by
    have : (Int64.ofInt z1).toBitVec.toNat % 32 = 0 := by omega
    exact this
  rw [b', Nat.zero_or] at d
  have d' : ((Int64.ofInt z1).toBitVec.toNat ||| (Int64.ofInt m).toBitVec.toNat) % 32 = (Int64.ofInt m).toBitVec.toNat % 32 := d
  omega
theorem j_shl {z1 loss : Int} (h1 : Int64.ofInt z1 = Int64.ofInt loss <<< ((Int32.ofInt 5).toInt64 &&& 63)) : z1 % 32 = 0 := by
  have e : ((Int32.ofInt 5).toInt64 &&& 63) = (5 : Int64) := by decide
  rw [e] at h1
  have a := j32 z1
  have s : (Int64.ofInt loss <<< (5 : Int64)).toBitVec = (Int64.ofInt loss).toBitVec <<< 5 := by
    rw [Int64.toBitVec_shiftLeft]
    rfl
  rw [h1, s, BitVec.toNat_shiftLeft, Nat.shiftLeft_eq] at a
  omega
theorem j_and {z v : Int} (hz : inJ z) (h : Int64.ofInt z = Int64.ofInt v &&& Int64.ofInt 31) : z = v % 32 := by
  have a := j32 v
  have e : (Int64.ofInt z).toBitVec.toNat = (Int64.ofInt v).toBitVec.toNat % 32 := by
    rw [h, Int64.toBitVec_and, BitVec.toNat_and]
    exact Nat.and_two_pow_sub_one_eq_mod _ 5
  have q : (Int64.ofInt z).toBitVec = BitVec.ofInt 64 z := rfl
  rw [q, BitVec.toNat_ofInt] at e
  unfold inJ at hz
  omega
theorem r_minE {base : Nat} {X : Nat → Option mC} {G : Nat → Value} {d : Nat} {t : mT} {pc pc' : Nat} {lv : sL} {st : List mV} {M : mH} {Q : Option Value → mH → Prop} {i : Nat} {a b : Int} (hd : decode t.2.2.1 pc = .ok (.invokestatic i, 3)) (hn : pc + 3 = pc') (hk : m_call t.1 (.invokestatic i) = none) (hs : m_sp t.1 i = some 4) (h1 : s_sz st ≤ 8) (h : ∀ e, e = a ∨ e = b → sRn base X G d t pc' lv (vL e :: st) M Q) : sRn base X G d t pc lv (vL b :: vL a :: st) M Q := r_minL hd hn hk hs h1 (h a (Or.inl rfl)) (h b (Or.inr rfl))
theorem chg1 {s g x : Int} (hs : 1 ≤ s ∧ s ≤ 10) (hg : -1 ≤ g ∧ g ≤ 7) (hx : x = g - (s - 1)) : 0 ≤ s + x ∧ s + x ≤ 1110 := by omega
theorem chg2 {s g x : Int} (hs : 11 ≤ s ∧ s ≤ 110) (hg : -1 ≤ g ∧ g ≤ 7) (hx : x = 10 * (g - (s - 11) / 10)) : 0 ≤ s + x ∧ s + x ≤ 1110 := by omega
theorem chg3 {s g x : Int} (hs : 11 ≤ s ∧ s ≤ 110) (hg : -1 ≤ g ∧ g ≤ 7) (hx : x = g - (s - 11) % 10) : 0 ≤ s + x ∧ s + x ≤ 1110 := by omega
theorem chg4 {s g x : Int} (hs : 111 ≤ s ∧ s ≤ 1110) (hg : -1 ≤ g ∧ g ≤ 7) (hx : x = 100 * (g - (s - 111) / 100)) : 0 ≤ s + x ∧ s + x ≤ 1110 := by omega
theorem chg5 {s g x : Int} (hs : 111 ≤ s ∧ s ≤ 1110) (hg : -1 ≤ g ∧ g ≤ 7) (hx : x = 10 * (g - (s - 111) / 10 % 10)) : 0 ≤ s + x ∧ s + x ≤ 1110 := by omega
theorem chg6 {s g x : Int} (hs : 111 ≤ s ∧ s ≤ 1110) (hg : -1 ≤ g ∧ g ≤ 7) (hx : x = g - (s - 111) % 10) : 0 ≤ s + x ∧ s + x ≤ 1110 := by omega
theorem chg0 {s g x : Int} (hs : 0 ≤ s ∧ s ≤ 110) (hg : -1 ≤ g ∧ g ≤ 7) (hx : x = g - -1) : 0 ≤ s + x ∧ s + x ≤ 1110 := by omega
theorem chg {s k a g t x i : Int} (hs : (k = 0 ∧ s = 0) ∨ (k = 1 ∧ 1 ≤ s ∧ s ≤ 10) ∨ (k = 2 ∧ 11 ≤ s ∧ s ≤ 110) ∨ (k = 3 ∧ 111 ≤ s ∧ s ≤ 1110)) (ha : 0 ≤ a ∧ a ≤ 2) (hg : -1 ≤ g ∧ g ≤ 7) (hi : (a ≤ i ∧ i ≤ k - 1) ∨ (i = k - 1 ∧ k ≤ a)) (he : i ≤ a) (h9 : k ≤ a → t = -1)
    (x0 : k - 1 - i = 0 → x = g - t) (x1 : k - 1 - i = 1 → x = 10 * (g - t)) (x2 : k - 1 - i = 2 → x = 100 * (g - t))
    (d1 : k = 1 → a = 0 → t = s - 1) (d2 : k = 2 → a = 0 → t = (s - 11) / 10) (d3 : k = 2 → a = 1 → t = (s - 11) % 10) (d4 : k = 3 → a = 0 → t = (s - 111) / 100) (d5 : k = 3 → a = 1 → t = (s - 111) / 10 % 10) (d6 : k = 3 → a = 2 → t = (s - 111) % 10) : 0 ≤ s + x ∧ s + x ≤ 1110 := by
  by_cases hk : k ≤ a
  · have e : i = k - 1 := by clear x0 x1 x2 d1 d2 d3 d4 d5 d6 h9; omega
    have q := x0 (by rw [e]; clear x0 x1 x2 d1 d2 d3 d4 d5 d6 h9; omega)
    rw [h9 hk] at q
    refine chg0 (g := g) ?_ hg q
    clear x0 x1 x2 d1 d2 d3 d4 d5 d6 h9 q
    omega
  · have e : i = a := by clear x0 x1 x2 d1 d2 d3 d4 d5 d6 h9; omega
    subst e
    rcases hs with ⟨rfl, _⟩ | ⟨rfl, hs⟩ | ⟨rfl, hs⟩ | ⟨rfl, hs⟩
    · exact absurd ha.1 (by clear x0 x1 x2 d1 d2 d3 d4 d5 d6 h9; omega)
    · have z : i = 0 := by clear x0 x1 x2 d1 d2 d3 d4 d5 d6 h9; omega
      subst z
      have q := x0 rfl
      rw [d1 rfl rfl] at q
      exact chg1 hs hg q
    · have z : i = 0 ∨ i = 1 := by clear x0 x1 x2 d1 d2 d3 d4 d5 d6 h9; omega
      rcases z with rfl | rfl
      · have q := x1 rfl
        rw [d2 rfl rfl] at q
        exact chg2 hs hg q
      · have q := x0 rfl
        rw [d3 rfl rfl] at q
        exact chg3 hs hg q
    · have z : i = 0 ∨ i = 1 ∨ i = 2 := by clear x0 x1 x2 d1 d2 d3 d4 d5 d6 h9; omega
      rcases z with rfl | rfl | rfl
      · have q := x2 rfl
        rw [d4 rfl rfl] at q
        exact chg4 hs hg q
      · have q := x1 rfl
        rw [d5 rfl rfl] at q
        exact chg5 hs hg q
      · have q := x0 rfl
        rw [d6 rfl rfl] at q
        exact chg6 hs hg q
def DGk (s k a t : Int) : Prop := (k = 1 → a = 0 → t = s - 1) ∧ (k = 2 → a = 0 → t = (s - 11) / 10) ∧ (k = 2 → a = 1 → t = (s - 11) % 10) ∧ (k = 3 → a = 0 → t = (s - 111) / 100) ∧ (k = 3 → a = 1 → t = (s - 111) / 10 % 10) ∧ (k = 3 → a = 2 → t = (s - 111) % 10)

