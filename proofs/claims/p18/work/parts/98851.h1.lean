/-! CHAIN, of both sides: a row of BOXES is a number of base n, a place more each time. -/
theorem r_ldivE {base : Nat} {X : Nat → Option mC} {G : Nat → Value} {d : Nat} {t : mT} {pc pc' : Nat} {lv : sL} {st : List mV} {M : mH} {Q : Option Value → mH → Prop} {a b : Int} (hd : decode t.2.2.1 pc = .ok (.ldiv, 1)) (hn : pc + 1 = pc') (hr : 0 ≤ a ∧ a ≤ 9223372036854775807 ∧ 0 < b ∧ b ≤ 9223372036854775807) (h : sRn base X G d t pc' lv (vL (a / b) :: st) M Q) : sRn base X G d t pc lv (vL b :: vL a :: st) M Q := by
  subst hn
  have hb : inJ b := by unfold inJ; omega
  have h0 : ¬ (Int64.ofInt b = 0) := by
    intro q
    have w := congrArg Int64.toInt q
    rw [s_i64 hb] at w
    have w2 : b = 0 := w
    omega
  refine r_B (st := st) (v := .long (Int64.ofInt a / Int64.ofInt b)) hd rfl rfl rfl rfl rfl rfl ?_ ?_
  · simp only [m_stB, em_s, List.map_cons, em, m_ll, if_neg h0]
  · have e : Int64.ofInt a / Int64.ofInt b = Int64.ofInt (a / b) := by
      rw [← Int.tdiv_eq_ediv_of_nonneg hr.1, Int64.ofInt_tdiv]
      all_goals simp only [Int64.toInt_minValue, Int64.toInt_maxValue]; omega
    rw [e]
    exact h
noncomputable def cnS (B : Int → Int) (q : Int × Int × Int) (b : Int) : Int × Int × Int := ((if B (3 * b + 2) < q.2.1 then q.1 * B (3 * b + 1) / 100 / 2 else q.1 * B (3 * b + 1) / 100), q.2.1 + B (3 * b), orI q.2.2 (shI 1 b))
/-- what is kept, the LAGS together, which BOXES there were, behind i places of a row -/
noncomputable def cnF (B : Int → Int) (n : Int) : Nat → Int → Int × Int × Int
  | 0, _ => (1000000, 0, 0)
  | i + 1, P => cnS B (cnF B n i (P / n)) (P % n)
noncomputable def pwN (n : Int) : Nat → Int
  | 0 => 1
  | k + 1 => pwN n k * n
noncomputable def qdF (n : Int) : Nat → Int → Int
  | 0, r => r
  | k + 1, r => qdF n k (r / n)
/-- which BOX stands at a place of a row of so many places -/
noncomputable def dgA (n a P i : Int) : Int := qdF n (a - 1 - i).toNat P % n
noncomputable def flN (n : Int) : Int := shI 1 n - 1
noncomputable def cnO (B : Int → Int) (n r : Int) : Prop := (cnF B n n.toNat r).2.2 = flN n
noncomputable def cnV (B : Int → Int) (n r : Int) : Int := (cnF B n n.toNat r).1
theorem qdF_s {n : Int} : ∀ (k : Nat) (r : Int), qdF n (k + 1) r = qdF n k r / n := by
  intro k
  induction k with
  | zero => intro r; rfl
  | succ k ih => intro r; exact ih (r / n)
theorem qdF_in {n Q : Int} (hn : 1 ≤ n) : ∀ (k : Nat) (r : Int), Q * pwN n k ≤ r → r < (Q + 1) * pwN n k → qdF n k r = Q := by
  intro k
  induction k with
  | zero =>
    intro r h1 h2
    have h3 : Q * 1 ≤ r := h1
    have h4 : r < (Q + 1) * 1 := h2
    show r = Q
    omega
  | succ k ih =>
    intro r h1 h2
    have h3 : Q * (pwN n k * n) ≤ r := h1
    have h4 : r < (Q + 1) * (pwN n k * n) := h2
    rw [← Int.mul_assoc] at h3 h4
    exact ih (r / n) (Int.le_ediv_of_mul_le (by omega) h3) (Int.ediv_lt_of_lt_mul (by omega) h4)
theorem dv_1 {P n b : Int} (hb : 0 ≤ b ∧ b < n) : (P * n + b) / n = P ∧ (P * n + b) % n = b := by
  constructor
  · rw [Int.add_comm, Int.add_mul_ediv_right _ _ (by omega), Int.ediv_eq_zero_of_lt hb.1 hb.2]
    omega
  · rw [Int.add_comm, Int.add_mul_emod_self_right]
    exact Int.emod_eq_of_lt hb.1 hb.2
theorem pwN_pos {n : Int} (hn : 1 ≤ n) : ∀ k : Nat, 1 ≤ pwN n k := by
  intro k
  induction k with
  | zero => exact Int.le_refl _
  | succ k ih =>
    have q := Int.mul_le_mul ih hn (by decide) (by omega)
    show 1 ≤ pwN n k * n
    omega
theorem pw_beg {n a P : Int} (ha : a < n) : (P * n + 0) * pwN n (n - (a + 1)).toNat = P * pwN n (n - a).toNat := by
  have e : (n - a).toNat = (n - (a + 1)).toNat + 1 := by omega
  rw [e, Int.add_zero]
  show P * n * pwN n (n - (a + 1)).toNat = P * (pwN n (n - (a + 1)).toNat * n)
  rw [Int.mul_assoc, Int.mul_comm n]
theorem pwq_end {n a P x : Int} (ha : a < n) (hx : x = n) : (P * n + x) * pwN n (n - (a + 1)).toNat = (P + 1) * pwN n (n - a).toNat := by
  have e := pw_beg (P := P + 1) ha
  rw [Int.add_zero, Int.add_mul, Int.one_mul] at e
  rw [hx]
  exact e
noncomputable def o1T (n z b : Nat) : Bool := decide ((z : Int) ≤ flN n) && decide (b < n)
noncomputable def o1U (n z b : Nat) : Bool := decide (0 ≤ orI z (shI 1 b)) && decide (orI z (shI 1 b) ≤ flN n)
set_option maxRecDepth 20000 in
theorem o1_sU : ∀ n : Nat, n < 7 → ∀ z : Nat, z < 64 → ∀ b : Nat, b < 6 → (!(o1T n z b) || o1U n z b) = true := by decide +kernel
theorem o1_sA (n : Nat) (hn : n < 7) (z : Nat) (hz : z < 64) (b : Nat) (hb : b < 6) (h1 : (z : Int) ≤ flN n) (h2 : b < n) : 0 ≤ orI z (shI 1 b) ∧ orI z (shI 1 b) ≤ flN n := by
  have q := o1_sU n hn z hz b hb
  have e : o1T n z b = true := by
    unfold o1T
    rw [decide_eq_true h1, decide_eq_true h2]
    rfl
  rw [e] at q
  have w : o1U n z b = true := q
  unfold o1U at w
  rw [Bool.and_eq_true] at w
  exact ⟨of_decide_eq_true w.1, of_decide_eq_true w.2⟩
set_option maxRecDepth 20000 in
set_option synthInstance.maxHeartbeats 400000 in
theorem o1_sB : ∀ z : Nat, z < 64 → ∀ b : Nat, b < 6 → (srI z b % 2 = 1 → o1F (orI z (shI 1 b)) 16 = o1F z 16) ∧ (¬ srI z b % 2 = 1 → o1F (orI z (shI 1 b)) 16 = o1F z 16 + 1) := by decide +kernel
theorem o1_st (n : Nat) (hn : n < 7) (z : Nat) (hz : z < 64) (h : (z : Int) ≤ flN n) (b : Nat) (hb : b < n) : (0 ≤ orI z (shI 1 b) ∧ orI z (shI 1 b) ≤ flN n) ∧ o1F (orI z (shI 1 b)) 16 = o1F z 16 + (if srI z b % 2 = 1 then 0 else 1) := by
  refine ⟨o1_sA n hn z hz b (by omega) h hb, ?_⟩
  have q := o1_sB z hz b (by omega)
  split
  · next c => rw [q.1 c]; omega
  · next c => exact q.2 c
theorem fl_pc : ∀ n : Nat, n < 7 → o1F (flN n) 16 = n ∧ 0 ≤ flN n ∧ flN n < 64 := by decide +kernel
set_option maxRecDepth 20000 in
theorem fl_of : ∀ n : Nat, n < 7 → ∀ u : Nat, u < 64 → (u : Int) ≤ flN n → o1F u 16 = n → (u : Int) = flN n := by decide +kernel
theorem fl_b {n : Int} (hn : 1 ≤ n ∧ n ≤ 6) : o1F (flN n) 16 = n ∧ 0 ≤ flN n ∧ flN n < 64 := by
  have q := fl_pc n.toNat (by omega)
  rw [show ((n.toNat : Nat) : Int) = n by omega] at q
  exact q
theorem cn_used {n u b z : Int} (hn : 1 ≤ n ∧ n ≤ 6) (hu : 0 ≤ u ∧ u ≤ flN n) (hb : 0 ≤ b ∧ b < n) (hz : z = orI u (shI 1 b)) : (0 ≤ z ∧ z ≤ flN n) ∧ o1F z 16 = o1F u 16 + (if srI u b % 2 = 1 then 0 else 1) := by
  have f := fl_b hn
  have q := o1_st n.toNat (by omega) u.toNat (by omega) (by rw [show ((n.toNat : Nat) : Int) = n by omega]; omega) b.toNat (by omega)
  rw [show ((n.toNat : Nat) : Int) = n by omega, show ((u.toNat : Nat) : Int) = u by omega, show ((b.toNat : Nat) : Int) = b by omega] at q
  rw [hz]
  exact q
theorem cn_full {n u : Int} (hn : 1 ≤ n ∧ n ≤ 6) (hu : 0 ≤ u ∧ u ≤ flN n) (h : o1F u 16 = n) : u = flN n := by
  have f := fl_b hn
  have q := fl_of n.toNat (by omega) u.toNat (by omega) (by rw [show ((n.toNat : Nat) : Int) = n by omega]; omega)
  rw [show ((n.toNat : Nat) : Int) = n by omega, show ((u.toNat : Nat) : Int) = u by omega] at q
  exact q h
theorem pm_b {P n : Int} (hn : 1 ≤ n) : 0 ≤ P % n ∧ P % n < n := ⟨Int.emod_nonneg P (by omega), Int.emod_lt_of_pos P (by omega)⟩
theorem cnF_u {B : Int → Int} {n : Int} (hn : 1 ≤ n ∧ n ≤ 6) : ∀ (i : Nat) (P : Int), (0 ≤ (cnF B n i P).2.2 ∧ (cnF B n i P).2.2 ≤ flN n) ∧ o1F (cnF B n i P).2.2 16 ≤ i := by
  intro i
  induction i with
  | zero => intro P; exact ⟨⟨(show (0 : Int) ≤ 0 by decide), (show (0 : Int) ≤ flN n from (fl_b hn).2.1)⟩, (show o1F 0 16 ≤ ((0 : Nat) : Int) by decide)⟩
  | succ i ih =>
    intro P
    have q := ih (P / n)
    have w := cn_used hn q.1 (pm_b (P := P) hn.1) rfl
    show (0 ≤ orI (cnF B n i (P / n)).2.2 (shI 1 (P % n)) ∧ orI (cnF B n i (P / n)).2.2 (shI 1 (P % n)) ≤ flN n) ∧ o1F (orI (cnF B n i (P / n)).2.2 (shI 1 (P % n))) 16 ≤ ((i + 1 : Nat) : Int)
    refine ⟨w.1, ?_⟩
    rw [w.2]
    split <;> omega
theorem cnF_pc {B : Int → Int} {n : Int} (hn : 1 ≤ n ∧ n ≤ 6) (i : Nat) : ∀ (k : Nat) (r : Int), o1F (cnF B n (i + k) r).2.2 16 ≤ o1F (cnF B n i (qdF n k r)).2.2 16 + k := by
  intro k
  induction k with
  | zero => intro r; show o1F (cnF B n i r).2.2 16 ≤ o1F (cnF B n i r).2.2 16 + ((0 : Nat) : Int); omega
  | succ k ih =>
    intro r
    have q := ih (r / n)
    have w := cn_used hn (cnF_u (B := B) hn (i + k) (r / n)).1 (pm_b (P := r) hn.1) rfl
    show o1F (orI (cnF B n (i + k) (r / n)).2.2 (shI 1 (r % n))) 16 ≤ o1F (cnF B n i (qdF n k (r / n))).2.2 16 + ((k + 1 : Nat) : Int)
    rw [w.2]
    split <;> omega
theorem cn_next {B : Int → Int} {n a P b v l u : Int} (ha : 0 ≤ a) (hb : 0 ≤ b ∧ b < n) (e1 : v = (cnF B n a.toNat P).1) (e2 : l = (cnF B n a.toNat P).2.1) (e3 : u = (cnF B n a.toNat P).2.2) : cnF B n (a + 1).toNat (P * n + b) = ((if B (3 * b + 2) < l then v * B (3 * b + 1) / 100 / 2 else v * B (3 * b + 1) / 100), l + B (3 * b), orI u (shI 1 b)) := by
  have e : (a + 1).toNat = a.toNat + 1 := by omega
  rw [e]
  show cnS B (cnF B n a.toNat ((P * n + b) / n)) ((P * n + b) % n) = _
  rw [(dv_1 hb).1, (dv_1 hb).2, e1, e2, e3]
  rfl
/-- no row with a BOX twice counts -/
theorem cn_dead {B : Int → Int} {n a P b : Int} (hn : 1 ≤ n ∧ n ≤ 6) (ha : 0 ≤ a ∧ a < n) (hb : 0 ≤ b ∧ b < n) (hs : srI (cnF B n a.toNat P).2.2 b % 2 = 1) {r : Int} (h1 : (P * n + b) * pwN n (n - (a + 1)).toNat ≤ r) (h2 : r < (P * n + b + 1) * pwN n (n - (a + 1)).toNat) : ¬ cnO B n r := by
  intro h
  have q := qdF_in hn.1 _ r h1 h2
  have w := cnF_pc (B := B) hn (a + 1).toNat (n - (a + 1)).toNat r
  rw [q, cn_next ha.1 hb rfl rfl rfl, show (a + 1).toNat + (n - (a + 1)).toNat = n.toNat by omega] at w
  have h' : (cnF B n n.toNat r).2.2 = flN n := h
  rw [h', (fl_b hn).1] at w
  have s := cn_used hn (cnF_u (B := B) hn a.toNat P).1 hb rfl
  have p := (cnF_u (B := B) hn a.toNat P).2
  rw [if_pos hs] at s
  have w2 : n ≤ o1F (orI (cnF B n a.toNat P).2.2 (shI 1 b)) 16 + (((n - (a + 1)).toNat : Nat) : Int) := w
  rw [s.2] at w2
  omega
/-- the best of the rows below T -/
noncomputable def CBX (B : Int → Int) (n T m : Int) (L : Int → Int) : Prop := -1 ≤ m ∧ (∀ r : Int, 0 ≤ r → r < T → cnO B n r → cnV B n r ≤ m) ∧ ((m = -1 ∧ ∀ r : Int, 0 ≤ r → r < T → ¬ cnO B n r) ∨ ∃ r0 : Int, (0 ≤ r0 ∧ r0 < T) ∧ cnO B n r0 ∧ cnV B n r0 = m ∧ (∀ r : Int, 0 ≤ r → r < r0 → cnO B n r → cnV B n r < m) ∧ ∀ i : Int, 0 ≤ i → i < n → L i = dgA n n r0 i)
section
variable {B : Int → Int} {n T T' m m' : Int} {L L' : Int → Int}
theorem CBX.zero : CBX B n 0 (-1) L := ⟨Int.le_refl _, fun r a b => by omega, Or.inl ⟨rfl, fun r a b => by omega⟩⟩
theorem CBX.skip (h : CBX B n T m L) (hT : T ≤ T') (d : ∀ r : Int, T ≤ r → r < T' → ¬ cnO B n r) : CBX B n T' m L := by
  obtain ⟨h0, h1, h2⟩ := h
  refine ⟨h0, fun r a b c => ?_, ?_⟩
  · by_cases e : r < T
    · exact h1 r a e c
    · exact absurd c (d r (by omega) b)
  · rcases h2 with ⟨a, b⟩ | ⟨r0, a, b, c, e, f⟩
    · refine Or.inl ⟨a, fun r x y => ?_⟩
      by_cases e : r < T
      · exact b r x e
      · exact d r (by omega) y
    · exact Or.inr ⟨r0, ⟨a.1, by omega⟩, b, c, e, f⟩
theorem CBX.take (h : CBX B n T m L) (ho : cnO B n T) (hv : m < cnV B n T) (hT : 0 ≤ T) (hL : ∀ i : Int, 0 ≤ i → i < n → L' i = dgA n n T i) : CBX B n (T + 1) (cnV B n T) L' := by
  obtain ⟨h0, h1, h2⟩ := h
  refine ⟨by omega, fun r a b c => ?_, Or.inr ⟨T, ⟨hT, by omega⟩, ho, rfl, fun r a b c => ?_, hL⟩⟩
  · by_cases e : r = T
    · rw [e]; exact Int.le_refl _
    · have := h1 r a (by omega) c; omega
  · have := h1 r a b c; omega
theorem CBX.pass (h : CBX B n T m L) (hv : cnV B n T ≤ m) (h0 : 0 ≤ cnV B n T) : CBX B n (T + 1) m L := by
  obtain ⟨g0, h1, h2⟩ := h
  refine ⟨g0, fun r a b c => ?_, ?_⟩
  · by_cases e : r = T
    · rw [e]; exact hv
    · exact h1 r a (by omega) c
  · rcases h2 with ⟨a, b⟩ | ⟨r0, a, b, c, e, f⟩
    · exfalso; omega
    · exact Or.inr ⟨r0, ⟨a.1, by omega⟩, b, c, e, f⟩
theorem CBX.cong (h : CBX B n T m L) (e : ∀ i : Int, 0 ≤ i → i < n → L' i = L i) : CBX B n T m L' := by
  obtain ⟨h0, h1, h2⟩ := h
  refine ⟨h0, h1, ?_⟩
  rcases h2 with a | ⟨r0, a, b, c, d, f⟩
  · exact Or.inl a
  · exact Or.inr ⟨r0, a, b, c, d, fun i x y => by rw [e i x y]; exact f i x y⟩
theorem CBX.uniq (h : CBX B n T m L) (h' : CBX B n T m' L') (hex : ∃ r : Int, (0 ≤ r ∧ r < T) ∧ cnO B n r) : m = m' ∧ ∀ i : Int, 0 ≤ i → i < n → L i = L' i := by
  obtain ⟨h0, h1, h2⟩ := h
  obtain ⟨g0, g1, g2⟩ := h'
  obtain ⟨x, hx, ho⟩ := hex
  rcases h2 with ⟨-, b⟩ | ⟨r0, a, b, c, d, f⟩
  · exact absurd ho (b x hx.1 hx.2)
  rcases g2 with ⟨-, b'⟩ | ⟨r1, a', b', c', d', f'⟩
  · exact absurd ho (b' x hx.1 hx.2)
  have q1 := h1 r1 a'.1 a'.2 b'
  have q2 := g1 r0 a.1 a.2 b
  have em : m = m' := by omega
  have e : r0 = r1 := by
    by_cases y : r0 < r1
    · have := d' r0 a.1 y b; omega
    by_cases z : r1 < r0
    · have := d r1 a'.1 z b'; omega
    omega
  exact ⟨em, fun i x y => by rw [f i x y, f' i x y, e]⟩
end
noncomputable def usF (n : Int) : Nat → Int → Int
  | 0, _ => 0
  | i + 1, P => orI (usF n i (P / n)) (shI 1 (P % n))
theorem cnF_us {B : Int → Int} {n : Int} : ∀ (i : Nat) (P : Int), (cnF B n i P).2.2 = usF n i P := by
  intro i
  induction i with
  | zero => intro P; rfl
  | succ i ih =>
    intro P
    show orI (cnF B n i (P / n)).2.2 (shI 1 (P % n)) = orI (usF n i (P / n)) (shI 1 (P % n))
    rw [ih]
noncomputable def idR (n : Nat) : Int := [0, 0, 1, 5, 27, 194, 1865].getD n 0
theorem id_ok : ∀ n : Nat, n < 7 → 1 ≤ n → (0 ≤ idR n ∧ idR n < pwN n n) ∧ usF n n (idR n) = flN n := by decide +kernel
theorem cn_ex {B : Int → Int} {n : Int} (hn : 1 ≤ n ∧ n ≤ 6) : ∃ r : Int, (0 ≤ r ∧ r < pwN n n.toNat) ∧ cnO B n r := by
  have q := id_ok n.toNat (by omega) (by omega)
  rw [show ((n.toNat : Nat) : Int) = n by omega] at q
  exact ⟨idR n.toNat, q.1, by unfold cnO; rw [cnF_us]; exact q.2⟩
theorem dgA_hi {n a P b : Int} (hb : 0 ≤ b ∧ b < n) : dgA n (a + 1) (P * n + b) a = b := by
  unfold dgA
  rw [show (a + 1 - 1 - a).toNat = 0 by omega]
  exact (dv_1 hb).2
theorem dgA_lo {n a P b i : Int} (hb : 0 ≤ b ∧ b < n) (hi : 0 ≤ i ∧ i < a) : dgA n (a + 1) (P * n + b) i = dgA n a P i := by
  unfold dgA
  rw [show (a + 1 - 1 - i).toNat = (a - 1 - i).toNat + 1 by omega]
  show qdF n (a - 1 - i).toNat ((P * n + b) / n) % n = _
  rw [(dv_1 hb).1]
/-- one place more, from the number's own places -/
theorem cn_go {B : Int → Int} {n r i v l : Int} (hi : 0 ≤ i ∧ i < n) (e1 : v = (cnF B n i.toNat (qdF n (n - i).toNat r)).1) (e2 : l = (cnF B n i.toNat (qdF n (n - i).toNat r)).2.1) : (cnF B n (i + 1).toNat (qdF n (n - (i + 1)).toNat r)).1 = (if B (3 * dgA n n r i + 2) < l then v * B (3 * dgA n n r i + 1) / 100 / 2 else v * B (3 * dgA n n r i + 1) / 100) ∧ (cnF B n (i + 1).toNat (qdF n (n - (i + 1)).toNat r)).2.1 = l + B (3 * dgA n n r i) := by
  have e : (i + 1).toNat = i.toNat + 1 := by omega
  have q : qdF n (n - (i + 1)).toNat r / n = qdF n (n - i).toNat r := by
    rw [show (n - i).toNat = (n - (i + 1)).toNat + 1 by omega]
    exact (qdF_s _ _).symm
  have d : qdF n (n - (i + 1)).toNat r % n = dgA n n r i := by
    unfold dgA
    rw [show (n - 1 - i).toNat = (n - (i + 1)).toNat by omega]
  rw [e]
  show (cnS B (cnF B n i.toNat (qdF n (n - (i + 1)).toNat r / n)) (qdF n (n - (i + 1)).toNat r % n)).1 = _ ∧ (cnS B (cnF B n i.toNat (qdF n (n - (i + 1)).toNat r / n)) (qdF n (n - (i + 1)).toNat r % n)).2.1 = _
  rw [q, d, e1, e2]
  exact ⟨rfl, rfl⟩
theorem cn_us {B : Int → Int} {n r i u : Int} (hi : 0 ≤ i ∧ i < n) (e3 : u = (cnF B n i.toNat (qdF n (n - i).toNat r)).2.2) : (cnF B n (i + 1).toNat (qdF n (n - (i + 1)).toNat r)).2.2 = orI u (shI 1 (dgA n n r i)) := by
  have e : (i + 1).toNat = i.toNat + 1 := by omega
  have q : qdF n (n - (i + 1)).toNat r / n = qdF n (n - i).toNat r := by
    rw [show (n - i).toNat = (n - (i + 1)).toNat + 1 by omega]
    exact (qdF_s _ _).symm
  have d : qdF n (n - (i + 1)).toNat r % n = dgA n n r i := by
    unfold dgA
    rw [show (n - 1 - i).toNat = (n - (i + 1)).toNat by omega]
  rw [e]
  show (cnS B (cnF B n i.toNat (qdF n (n - (i + 1)).toNat r / n)) (qdF n (n - (i + 1)).toNat r % n)).2.2 = _
  rw [q, d, e3]
  rfl
theorem cnV_b {B : Int → Int} {n : Int} (hB : ∀ b : Int, 0 ≤ b → b < 6 → 0 ≤ B (3 * b + 1) ∧ B (3 * b + 1) ≤ 100) (hn : 1 ≤ n ∧ n ≤ 6) : ∀ (i : Nat) (P : Int), 0 ≤ (cnF B n i P).1 ∧ (cnF B n i P).1 ≤ 1000000 := by
  intro i
  induction i with
  | zero => intro P; exact ⟨(show (0 : Int) ≤ 1000000 by decide), Int.le_refl _⟩
  | succ i ih =>
    intro P
    have q := ih (P / n)
    have p := pm_b (P := P) hn.1
    have w := mulb (A := 1000000) (B := 100) q (hB (P % n) p.1 (by omega))
    show 0 ≤ (if B (3 * (P % n) + 2) < (cnF B n i (P / n)).2.1 then (cnF B n i (P / n)).1 * B (3 * (P % n) + 1) / 100 / 2 else (cnF B n i (P / n)).1 * B (3 * (P % n) + 1) / 100) ∧ (if B (3 * (P % n) + 2) < (cnF B n i (P / n)).2.1 then (cnF B n i (P / n)).1 * B (3 * (P % n) + 1) / 100 / 2 else (cnF B n i (P / n)).1 * B (3 * (P % n) + 1) / 100) ≤ 1000000
    split <;> omega
noncomputable def bxK (K : Int → Int) : Int → Int := fun k => K (391 + k)
theorem CBX.leafp {B : Int → Int} {n a P m v : Int} {L : Int → Int} (h : CBX B n (P * pwN n (n - a).toNat) m L) (ha : a = n) (hv : v = (cnF B n a.toNat P).1) (h0 : 0 ≤ v) (hm : v ≤ m) : CBX B n ((P + 1) * pwN n (n - a).toNat) m L := by
  subst ha
  have e : ∀ x : Int, x * pwN a (a - a).toNat = x := fun x => by
    rw [show (a - a).toNat = 0 by omega]
    exact Int.mul_one x
  rw [e] at h ⊢
  have w : cnV B a P = v := hv.symm
  exact h.pass (by omega) (by omega)
theorem CBX.leaft {B : Int → Int} {n a P m v : Int} {L L' : Int → Int} (h : CBX B n (P * pwN n (n - a).toNat) m L) (ha : a = n) (hv : v = (cnF B n a.toNat P).1) (hu : (cnF B n a.toNat P).2.2 = flN n) (hP : 0 ≤ P) (hm : m < v) (hL : ∀ i : Int, 0 ≤ i → i < n → L' i = dgA n a P i) : CBX B n ((P + 1) * pwN n (n - a).toNat) v L' := by
  subst ha
  have e : ∀ x : Int, x * pwN a (a - a).toNat = x := fun x => by
    rw [show (a - a).toNat = 0 by omega]
    exact Int.mul_one x
  rw [e] at h ⊢
  have w : cnV B a P = v := hv.symm
  rw [← w]
  exact h.take hu (by omega) hP hL
theorem cn_end {B : Int → Int} {n i r : Int} (h : i = n) : cnF B n i.toNat (qdF n (n - i).toNat r) = cnF B n n.toNat r := by
  subst h
  rw [show (i - i).toNat = 0 by omega]
  rfl
theorem pwN_s {n k : Int} (hk : 0 ≤ k) : pwN n (k + 1).toNat = pwN n k.toNat * n := by
  rw [show (k + 1).toNat = k.toNat + 1 by omega]
  rfl
theorem pw_dec : ∀ n : Nat, n < 7 → 1 ≤ n → ∀ k : Nat, k < 7 → 1 ≤ pwN n k ∧ pwN n k ≤ 46656 := by decide +kernel
theorem pwN_b {n k : Int} (hn : 1 ≤ n ∧ n ≤ 6) (hk : 0 ≤ k ∧ k ≤ 6) : 1 ≤ pwN n k.toNat ∧ pwN n k.toNat ≤ 46656 := by
  have q := pw_dec n.toNat (by omega) (by omega) k.toNat (by omega)
  rw [show ((n.toNat : Nat) : Int) = n by omega] at q
  exact q
noncomputable def lkF (c : Int) (C : Int → Int) (i : Int) : Int := if 0 ≤ i ∧ i < c then C i else -1
noncomputable def chF (c : Int) (C : Int → Int) (i : Int) : Int := if i = -1 then c else lkF c C i
theorem lkF_in {c i v : Int} {C : Int → Int} (h : 0 ≤ i ∧ i < c) (e : v = C i) : v = lkF c C i := by unfold lkF; rw [if_pos h]; exact e
theorem lkF_out {c i : Int} {C : Int → Int} (h : i < 0 ∨ c ≤ i) : -1 = lkF c C i := by unfold lkF; rw [if_neg (by omega)]
theorem chF_n {c i v : Int} {C : Int → Int} (h : i = -1) (e : v = c) : v = chF c C i := by unfold chF; rw [if_pos h]; exact e
theorem chF_i {c i v : Int} {C : Int → Int} (h : i ≠ -1) (e : v = lkF c C i) : v = chF c C i := by unfold chF; rw [if_neg h]; exact e

set_option maxRecDepth 4000 in
theorem L_k11_66_10h {base : Nat} {X : Nat → Option mC} {G : Nat → Value} (E : EnvOK base X G) {rr : Nat} (ihr : ∀ {d : Nat} (_ : 0 + 1 * rr ≤ d) {M : mH} (_ : HI base M) (at_ : Int) (usedBits : Int) (amount : Int) (lags : Int) (P : Int) (n : Int) (B : Int → Int), (1 ≤ n ∧ n ≤ 6) → (0 ≤ at_ ∧ at_ ≤ n) → (usedBits = (cnF B n at_.toNat P).2.2) → (amount = (cnF B n at_.toNat P).1) → (lags = (cnF B n at_.toNat P).2.1) → (0 ≤ amount ∧ amount ≤ 1000000) → (0 ≤ lags ∧ lags ≤ 300 * at_) → (o1F usedBits 16 = at_) → (0 ≤ usedBits ∧ usedBits ≤ 63) → (0 ≤ P) → (gi M 66 1 = n) → (∀ j : Int, 0 ≤ j → j < 18 → gi M 10 j = B j) → (∀ b : Int, 0 ≤ b → b < 6 → 0 ≤ B (3 * b + 1) ∧ B (3 * b + 1) ≤ 100) → (∀ j : Int, 0 ≤ j → j < at_ → gi M 68 j = dgA n at_ P j) → (CBX B n (P * pwN n (n - at_).toNat) (gi M 66 3) (gi M 67)) → 6 - at_ < ((rr : Nat) : Int) → sOk base X G d T11 [vR 66, vR 10, vI at_, vI usedBits, vI amount, vI lags] M (pV (fun M' => HI base M' ∧ Fr [(66, 4), (67, 0), (68, 0)] M M' ∧ (CBX B n ((P + 1) * pwN n (n - at_).toNat) (gi M' 66 3) (gi M' 67)) ∧ (∀ i : Int, 0 ≤ i → i < at_ → gi M' 68 i = gi M 68 i)))) {d : Nat} (hd : 0 + 1 * (rr + 1) ≤ d) {M : mH} (H : HI base M) (at_ : Int) (usedBits : Int) (amount : Int) (lags : Int) (P : Int) (n : Int) (B : Int → Int) (h0 : 1 ≤ n ∧ n ≤ 6) (h1 : 0 ≤ at_ ∧ at_ ≤ n) (h2 : usedBits = (cnF B n at_.toNat P).2.2) (h3 : amount = (cnF B n at_.toNat P).1) (h4 : lags = (cnF B n at_.toNat P).2.1) (h5 : 0 ≤ amount ∧ amount ≤ 1000000) (h6 : 0 ≤ lags ∧ lags ≤ 300 * at_) (h7 : o1F usedBits 16 = at_) (h8 : 0 ≤ usedBits ∧ usedBits ≤ 63) (h9 : 0 ≤ P) (h10 : gi M 66 1 = n) (h11 : ∀ j : Int, 0 ≤ j → j < 18 → gi M 10 j = B j) (h12 : ∀ b : Int, 0 ≤ b → b < 6 → 0 ≤ B (3 * b + 1) ∧ B (3 * b + 1) ≤ 100) (h13 : ∀ j : Int, 0 ≤ j → j < at_ → gi M 68 j = dgA n at_ P j) (h14 : CBX B n (P * pwN n (n - at_).toNat) (gi M 66 3) (gi M 67)) (hrr : 6 - at_ < ((rr + 1 : Nat) : Int)) : ∀ mz : Nat, (∀ (x6 : Int) (N : mH), HI base N → Fr [(66, 4), (67, 0), (68, 0)] M N → (0 ≤ x6 ∧ x6 ≤ n) → (at_ + 1 ≤ n) → (CBX B n ((P * n + x6) * pwN n (n - (at_ + 1)).toNat) (gi N 66 3) (gi N 67)) → (gi N 66 1 = n) → (∀ i : Int, 0 ≤ i → i < at_ → gi N 68 i = dgA n at_ P i) → (0 ≤ x6) → (x6 ≤ 6) → (0 ≤ at_) → (at_ ≤ 5) → (n - x6) * 1 + 0 < (mz : Int) → sRn base X G d T11 44 [(0, vR 66), (1, vR 10), (2, vI at_), (3, vI usedBits), (4, vI amount), (5, vI lags), (6, vI x6)] [] N (s_Q base (pV (fun M' => HI base M' ∧ Fr [(66, 4), (67, 0), (68, 0)] M M' ∧ (CBX B n ((P + 1) * pwN n (n - at_).toNat) (gi M' 66 3) (gi M' 67)) ∧ (∀ i : Int, 0 ≤ i → i < at_ → gi M' 68 i = gi M 68 i))))) := by
  have f0 : Fr [(66, 4), (67, 0), (68, 0)] M M := Fr.rf
  intro mz
  induction mz with
  | zero => exact fun x6 N _ _ z0 z1 z2 z3 z4 z5 z6 z7 z8 z9 => by omega
  | succ mz ih =>
    intro x6 N HN fN i0 i1 i2 i3 i4 i5 i6 i7 i8 hmu
    refine s_blx (lv' := [(0, vR 66), (1, vR 10), (2, vI at_), (3, vI usedBits), (4, vI amount), (5, vI lags), (6, vI x6)]) (st' := [vR 66, vI x6]) B11_44_47 rfl ?_
    refine r_gint (ki := 1) (pc' := 50) D11_47 rfl gf_1_15_66 rfl HN.1 ?_
    intro w26 e27 r28
    have b_w26 := HN.2 66 (1) 0 6 rfl
    rw [← e27] at b_w26; clear r28
    refine r_icmp (tgt := 145) (pc' := 53) D11_50 rfl rfl (by unfold inR; omega) (fun (c29 : w26 ≤ x6) => ?_) (fun (c29 : ¬ (w26 ≤ x6)) => ?_)
    · exact r_retV D11_145 rfl (⟨HN, fN, by rw [← pwq_end (x := x6) (show at_ < n by omega) (by omega)]; exact i2, fun i a b => (i4 i a b).trans (h13 i a b).symm⟩)
    · refine s_blx (lv' := [(0, vR 66), (1, vR 10), (2, vI at_), (3, vI usedBits), (4, vI amount), (5, vI lags), (6, vI x6)]) (st' := [vI x6, vI usedBits]) B11_53_56 rfl ?_
      refine r_bin (pc' := 57) D11_56 rfl rfl ?_
      intro z30 r31 kq0; unfold inR at r31
      refine s_blx (lv' := [(0, vR 66), (1, vR 10), (2, vI at_), (3, vI usedBits), (4, vI amount), (5, vI lags), (6, vI x6)]) (st' := [vI 1, vI z30]) B11_57_58 rfl ?_
      refine r_and1 (pc' := 59) D11_58 rfl ?_
      refine r_ifc (tgt := 139) (pc' := 62) D11_59 rfl rfl (by unfold inR; omega) (fun (c32 : (z30 % 2) ≠ 0) => ?_) (fun (c32 : ¬ ((z30 % 2) ≠ 0)) => ?_)
      · refine s_blx (lv' := [(6, vI (x6 + 1)), (0, vR 66), (1, vR 10), (2, vI at_), (3, vI usedBits), (4, vI amount), (5, vI lags)]) (st' := []) B11_139_142 rfl ?_
        refine r_goto (tgt := 44) D11_142 rfl ?_
        refine r_loc (lv' := [(0, vR 66), (1, vR 10), (2, vI at_), (3, vI usedBits), (4, vI amount), (5, vI lags), (6, vI (x6 + 1))]) ⟨rfl, rfl, rfl, rfl, rfl, rfl, rfl, trivial⟩ rfl rfl ?_
        exact ih (x6 + 1) N HN fN (by omega) (by omega) (by rw [show P * n + (x6 + 1) = P * n + x6 + 1 by omega]; first | exact kq | exact i2.skip (Int.mul_le_mul_of_nonneg_right (by omega) (by have q := pwN_pos h0.1 (n - (at_ + 1)).toNat; omega)) (fun r a b => cn_dead h0 ⟨by omega, by omega⟩ ⟨by omega, by omega⟩ (by rw [← h2, ← srI_of (by unfold inR; omega) kq0]; omega) a b)) (by omega) (by first | exact fun i a b => by rw [kt i a (by omega), kuT.gi_ne (by omega) (Or.inr (by omega))]; exact i4 i a b | exact i4) (by omega) (by omega) (by omega) (by omega) (by omega)
      · refine s_blx (lv' := [(0, vR 66), (1, vR 10), (2, vI at_), (3, vI usedBits), (4, vI amount), (5, vI lags), (6, vI x6)]) (st' := [vR 66]) B11_62_63 rfl ?_
        refine r_gfix (r := 68) (pc' := 66) D11_63 rfl gf_1_19_66 HN.1 ?_
        refine s_blx (lv' := [(0, vR 66), (1, vR 10), (2, vI at_), (3, vI usedBits), (4, vI amount), (5, vI lags), (6, vI x6)]) (st' := [vI x6, vI at_, vR 68]) B11_66_69 rfl ?_
        refine r_iast (pc' := 70) D11_69 rfl sc_68 HN (by omega) (by unfold inR; omega) trivial ?_
        intro M33 u34 H35 p36
        have f37 := fN.wr u34 rfl
        have kuT := u34
        have kpT := p36
        have kPn : 0 ≤ P * n := Int.mul_nonneg h9 (by omega)
        have kcn := cn_next (B := B) (P := P) (show 0 ≤ at_ by omega) (show 0 ≤ x6 ∧ x6 < n by omega) h3 h4 h2
        have kp11 : ∀ i : Int, 0 ≤ i → i < 18 → gi M33 10 i = B i := fun i a b => ((f37).g rfl).trans (h11 i a b)
        have kp13 : ∀ i : Int, 0 ≤ i → i < at_ + 1 → gi M33 68 i = dgA n (at_ + 1) (P * n + x6) i := fun i a b => if e : i = at_ then (by rw [e, kpT, dgA_hi ⟨by omega, by omega⟩]) else (by rw [kuT.gi_ne (by omega) (Or.inr (by omega)), i4 i a (by omega), dgA_lo ⟨by omega, by omega⟩ ⟨by omega, by omega⟩])
        have kp14 : CBX B n ((P * n + x6) * pwN n (n - (at_ + 1)).toNat) (gi M33 66 3) (gi M33 67) := by rw [show gi M33 66 3 = gi N 66 3 from kuT.gi_ne (by omega) (Or.inl (by decide)), show gi M33 67 = gi N 67 from funext fun i => kuT.gi_ne (by omega) (Or.inl (by decide))]; exact i2
        refine s_blx (lv' := [(0, vR 66), (1, vR 10), (2, vI at_), (3, vI usedBits), (4, vI amount), (5, vI lags), (6, vI x6)]) (st' := [vI amount]) B11_70_72 rfl ?_
        refine r_i2l (pc' := 73) D11_72 rfl (by unfold inR; omega) ?_
        refine s_blx (lv' := [(0, vR 66), (1, vR 10), (2, vI at_), (3, vI usedBits), (4, vI amount), (5, vI lags), (6, vI x6)]) (st' := [vI ((x6 * 3) + 1), vR 10, vL amount]) B11_73_80 rfl ?_
        refine r_iald (pc' := 81) D11_80 rfl sc_10 H35.1 (by omega) ?_
        intro w38 e39 r40
        have b_w38 := H35.2 10 ((x6 * 3) + 1) 0 300 rfl
        rw [← e39] at b_w38; clear r40
        have kw1 : w38 = B (3 * x6 + 1) := by rw [e39, show gi M33 10 (x6 * 3 + 1) = gi M 10 (x6 * 3 + 1) from (f37).g rfl, h11 (x6 * 3 + 1) (by omega) (by omega)]; congr 1; omega
        have kmb := mulb (a := amount) (b := w38) (A := 1000000) (B := 100) (by omega) (by rw [kw1]; exact h12 x6 (by omega) (by omega))
        refine r_i2l (pc' := 82) D11_81 rfl (by unfold inR; omega) ?_
        refine s_blx (lv' := [(0, vR 66), (1, vR 10), (2, vI at_), (3, vI usedBits), (4, vI amount), (5, vI lags), (6, vI x6)]) (st' := [vL (amount * w38)]) B11_82_83 rfl ?_
        refine r_ldc2 (e := 100) (pc' := 86) D11_83 rfl cl_1_36 (by decide) ?_
        refine r_ldivE (pc' := 87) D11_86 rfl (by omega) ?_
        refine r_l2i (pc' := 88) D11_87 rfl ?_
        refine s_blx (lv' := [(7, vI ((amount * w38) / 100)), (0, vR 66), (1, vR 10), (2, vI at_), (3, vI usedBits), (4, vI amount), (5, vI lags), (6, vI x6)]) (st' := [vI ((x6 * 3) + 2), vR 10, vI lags]) B11_88_99 rfl ?_
        refine r_iald (pc' := 100) D11_99 rfl sc_10 H35.1 (by omega) ?_
        intro w41 e42 r43
        have b_w41 := H35.2 10 ((x6 * 3) + 2) 0 300 rfl
        rw [← e42] at b_w41; clear r43
        have kw2 : w41 = B (3 * x6 + 2) := by rw [e42, show gi M33 10 (x6 * 3 + 2) = gi M 10 (x6 * 3 + 2) from (f37).g rfl, h11 (x6 * 3 + 2) (by omega) (by omega)]; congr 1; omega
        refine r_icmp (tgt := 110) (pc' := 103) D11_100 rfl rfl (by unfold inR; omega) (fun (c44 : lags ≤ w41) => ?_) (fun (c44 : ¬ (lags ≤ w41)) => ?_)
        · refine s_blx (lv' := [(7, vI ((amount * w38) / 100)), (0, vR 66), (1, vR 10), (2, vI at_), (3, vI usedBits), (4, vI amount), (5, vI lags), (6, vI x6)]) (st' := [vI x6, vI 1, vI usedBits, vI (at_ + 1), vR 10, vR 66]) B11_110_123 rfl ?_
          refine r_bin (pc' := 124) D11_123 rfl rfl ?_
          intro z45 r46 kq1; unfold inR at r46
          refine r_bin (pc' := 125) D11_124 rfl rfl ?_
          intro z47 r48 kq2; unfold inR at r48
          have kz : z47 = orI usedBits (shI 1 x6) := by rw [← shI_of (by unfold inR; omega) kq1]; exact orI_of (by unfold inR; omega) kq2
          have kcu := cn_used h0 (u := usedBits) (b := x6) (by rw [h2]; exact (cnF_u h0 _ _).1) ⟨by omega, by omega⟩ kz
          have kfl := fl_b h0
          rw [if_neg (show ¬ srI usedBits x6 % 2 = 1 by rw [← srI_of (by unfold inR; omega) kq0]; omega)] at kcu
          have kp2 : z47 = (cnF B n (at_ + 1).toNat (P * n + x6)).2.2 := by rw [kcn]; exact kz
          refine s_blx (lv' := [(7, vI ((amount * w38) / 100)), (0, vR 66), (1, vR 10), (2, vI at_), (3, vI usedBits), (4, vI amount), (5, vI lags), (6, vI x6)]) (st' := [vI (x6 * 3), vR 10, vI lags, vI ((amount * w38) / 100), vI z47, vI (at_ + 1), vR 10, vR 66]) B11_125_134 rfl ?_
          refine r_iald (pc' := 135) D11_134 rfl sc_10 H35.1 (by omega) ?_
          intro w49 e50 r51
          have b_w49 := H35.2 10 (x6 * 3) 0 300 rfl
          rw [← e50] at b_w49; clear r51
          have kw3 : w49 = B (3 * x6) := by rw [e50, show gi M33 10 (x6 * 3) = gi M 10 (x6 * 3) from (f37).g rfl, h11 (x6 * 3) (by omega) (by omega)]; congr 1; omega
          have kp4 : lags + w49 = (cnF B n (at_ + 1).toNat (P * n + x6)).2.1 := by rw [kcn, kw3]
          refine s_blx (lv' := [(7, vI ((amount * w38) / 100)), (0, vR 66), (1, vR 10), (2, vI at_), (3, vI usedBits), (4, vI amount), (5, vI lags), (6, vI x6)]) (st' := [vI (lags + w49), vI ((amount * w38) / 100), vI z47, vI (at_ + 1), vR 10, vR 66]) B11_135_136 rfl ?_
          have kp3 : ((amount * w38) / 100) = (cnF B n (at_ + 1).toNat (P * n + x6)).1 := by rw [kcn]; dsimp only; first | rw [if_pos (show B (3 * x6 + 2) < lags by omega), ← kw1] | rw [if_neg (show ¬ B (3 * x6 + 2) < lags by omega), ← kw1]
          have g52 : gi M33 66 1 = w26 := (u34.gi_ne (by omega) (Or.inl (by decide))).trans (e27.symm)
          have g53 : gi M33 66 3 = gi N 66 3 := (u34.gi_ne (by omega) (Or.inl (by decide))).trans (rfl)
          refine r_vV (c := 66) (args := [vR 10, vI (at_ + 1), vI z47, vI ((amount * w38) / 100), vI (lags + w49)]) (rest := []) (pc' := 139) D11_136 rfl ck_1_virtual_26 TE11 rfl (Nat.le_of_ble_eq_true rfl) ⟨Nat.le_of_ble_eq_true rfl, Nat.le_of_ble_eq_true rfl⟩ sc_66 ⟨rfl, by decide⟩ H35.1 (by omega) (ihr (by omega) H35 (at_ + 1) z47 ((amount * w38) / 100) (lags + w49) (P * n + x6) n B (by omega) (by omega) (kp2) (kp3) (kp4) (by omega) (by omega) (by omega) (by omega) (by omega) (by omega) (kp11) (h12) (kp13) (kp14) (by omega)) ?_
          intro M55 q60
          obtain ⟨H56, f57, q58, q59⟩ := q60
          have f61 := f37.tr (f57.up rfl)
          have kq := q58; clear q58
          have kt := q59; clear q59
          refine s_blx (lv' := [(6, vI (x6 + 1)), (7, vI ((amount * w38) / 100)), (0, vR 66), (1, vR 10), (2, vI at_), (3, vI usedBits), (4, vI amount), (5, vI lags)]) (st' := []) B11_139_142 rfl ?_
          refine r_goto (tgt := 44) D11_142 rfl ?_
          refine r_loc (lv' := [(0, vR 66), (1, vR 10), (2, vI at_), (3, vI usedBits), (4, vI amount), (5, vI lags), (6, vI (x6 + 1))]) ⟨rfl, rfl, rfl, rfl, rfl, rfl, rfl, trivial⟩ rfl rfl ?_
          have g62 : gi M55 66 1 = w26 := (f57.g rfl).trans ((u34.gi_ne (by omega) (Or.inl (by decide))).trans (e27.symm))
          exact ih (x6 + 1) M55 H56 f61 (by omega) (by omega) (by rw [show P * n + (x6 + 1) = P * n + x6 + 1 by omega]; first | exact kq | exact i2.skip (Int.mul_le_mul_of_nonneg_right (by omega) (by have q := pwN_pos h0.1 (n - (at_ + 1)).toNat; omega)) (fun r a b => cn_dead h0 ⟨by omega, by omega⟩ ⟨by omega, by omega⟩ (by rw [← h2, ← srI_of (by unfold inR; omega) kq0]; omega) a b)) (by omega) (by first | exact fun i a b => by rw [kt i a (by omega), kuT.gi_ne (by omega) (Or.inr (by omega))]; exact i4 i a b | exact i4) (by omega) (by omega) (by omega) (by omega) (by omega)
        · refine s_blx (lv' := [(7, vI ((amount * w38) / 100)), (0, vR 66), (1, vR 10), (2, vI at_), (3, vI usedBits), (4, vI amount), (5, vI lags), (6, vI x6)]) (st' := [vI 2, vI ((amount * w38) / 100)]) B11_103_106 rfl ?_
          refine r_idiv (pc' := 107) D11_106 rfl (by omega) ?_
          refine r_goto (tgt := 112) D11_107 rfl ?_
          refine s_blx (lv' := [(7, vI (((amount * w38) / 100) / 2)), (0, vR 66), (1, vR 10), (2, vI at_), (3, vI usedBits), (4, vI amount), (5, vI lags), (6, vI x6)]) (st' := [vI x6, vI 1, vI usedBits, vI (at_ + 1), vR 10, vR 66]) B11_112_123 rfl ?_
          refine r_bin (pc' := 124) D11_123 rfl rfl ?_
          intro z63 r64 kq1; unfold inR at r64
          refine r_bin (pc' := 125) D11_124 rfl rfl ?_
          intro z65 r66 kq2; unfold inR at r66
          have kz : z65 = orI usedBits (shI 1 x6) := by rw [← shI_of (by unfold inR; omega) kq1]; exact orI_of (by unfold inR; omega) kq2
          have kcu := cn_used h0 (u := usedBits) (b := x6) (by rw [h2]; exact (cnF_u h0 _ _).1) ⟨by omega, by omega⟩ kz
          have kfl := fl_b h0
          rw [if_neg (show ¬ srI usedBits x6 % 2 = 1 by rw [← srI_of (by unfold inR; omega) kq0]; omega)] at kcu
          have kp2 : z65 = (cnF B n (at_ + 1).toNat (P * n + x6)).2.2 := by rw [kcn]; exact kz
          refine s_blx (lv' := [(7, vI (((amount * w38) / 100) / 2)), (0, vR 66), (1, vR 10), (2, vI at_), (3, vI usedBits), (4, vI amount), (5, vI lags), (6, vI x6)]) (st' := [vI (x6 * 3), vR 10, vI lags, vI (((amount * w38) / 100) / 2), vI z65, vI (at_ + 1), vR 10, vR 66]) B11_125_134 rfl ?_
          refine r_iald (pc' := 135) D11_134 rfl sc_10 H35.1 (by omega) ?_
          intro w67 e68 r69
          have b_w67 := H35.2 10 (x6 * 3) 0 300 rfl
          rw [← e68] at b_w67; clear r69
          have kw3 : w67 = B (3 * x6) := by rw [e68, show gi M33 10 (x6 * 3) = gi M 10 (x6 * 3) from (f37).g rfl, h11 (x6 * 3) (by omega) (by omega)]; congr 1; omega
          have kp4 : lags + w67 = (cnF B n (at_ + 1).toNat (P * n + x6)).2.1 := by rw [kcn, kw3]
          refine s_blx (lv' := [(7, vI (((amount * w38) / 100) / 2)), (0, vR 66), (1, vR 10), (2, vI at_), (3, vI usedBits), (4, vI amount), (5, vI lags), (6, vI x6)]) (st' := [vI (lags + w67), vI (((amount * w38) / 100) / 2), vI z65, vI (at_ + 1), vR 10, vR 66]) B11_135_136 rfl ?_
          have kp3 : (((amount * w38) / 100) / 2) = (cnF B n (at_ + 1).toNat (P * n + x6)).1 := by rw [kcn]; dsimp only; first | rw [if_pos (show B (3 * x6 + 2) < lags by omega), ← kw1] | rw [if_neg (show ¬ B (3 * x6 + 2) < lags by omega), ← kw1]
          have g70 : gi M33 66 1 = w26 := (u34.gi_ne (by omega) (Or.inl (by decide))).trans (e27.symm)
          have g71 : gi M33 66 3 = gi N 66 3 := (u34.gi_ne (by omega) (Or.inl (by decide))).trans (rfl)
          refine r_vV (c := 66) (args := [vR 10, vI (at_ + 1), vI z65, vI (((amount * w38) / 100) / 2), vI (lags + w67)]) (rest := []) (pc' := 139) D11_136 rfl ck_1_virtual_26 TE11 rfl (Nat.le_of_ble_eq_true rfl) ⟨Nat.le_of_ble_eq_true rfl, Nat.le_of_ble_eq_true rfl⟩ sc_66 ⟨rfl, by decide⟩ H35.1 (by omega) (ihr (by omega) H35 (at_ + 1) z65 (((amount * w38) / 100) / 2) (lags + w67) (P * n + x6) n B (by omega) (by omega) (kp2) (kp3) (kp4) (by omega) (by omega) (by omega) (by omega) (by omega) (by omega) (kp11) (h12) (kp13) (kp14) (by omega)) ?_
          intro M73 q78
          obtain ⟨H74, f75, q76, q77⟩ := q78
          have f79 := f37.tr (f75.up rfl)
          have kq := q76; clear q76
          have kt := q77; clear q77
          refine s_blx (lv' := [(6, vI (x6 + 1)), (7, vI (((amount * w38) / 100) / 2)), (0, vR 66), (1, vR 10), (2, vI at_), (3, vI usedBits), (4, vI amount), (5, vI lags)]) (st' := []) B11_139_142 rfl ?_
          refine r_goto (tgt := 44) D11_142 rfl ?_
          refine r_loc (lv' := [(0, vR 66), (1, vR 10), (2, vI at_), (3, vI usedBits), (4, vI amount), (5, vI lags), (6, vI (x6 + 1))]) ⟨rfl, rfl, rfl, rfl, rfl, rfl, rfl, trivial⟩ rfl rfl ?_
          have g80 : gi M73 66 1 = w26 := (f75.g rfl).trans ((u34.gi_ne (by omega) (Or.inl (by decide))).trans (e27.symm))
          exact ih (x6 + 1) M73 H74 f79 (by omega) (by omega) (by rw [show P * n + (x6 + 1) = P * n + x6 + 1 by omega]; first | exact kq | exact i2.skip (Int.mul_le_mul_of_nonneg_right (by omega) (by have q := pwN_pos h0.1 (n - (at_ + 1)).toNat; omega)) (fun r a b => cn_dead h0 ⟨by omega, by omega⟩ ⟨by omega, by omega⟩ (by rw [← h2, ← srI_of (by unfold inR; omega) kq0]; omega) a b)) (by omega) (by first | exact fun i a b => by rw [kt i a (by omega), kuT.gi_ne (by omega) (Or.inr (by omega))]; exact i4 i a b | exact i4) (by omega) (by omega) (by omega) (by omega) (by omega)
set_option maxRecDepth 4000 in
theorem k11_66_10hr {base : Nat} {X : Nat → Option mC} {G : Nat → Value} (E : EnvOK base X G) : ∀ rr : Nat, ∀ {d : Nat} (_ : 0 + 1 * rr ≤ d) {M : mH} (_ : HI base M) (at_ : Int) (usedBits : Int) (amount : Int) (lags : Int) (P : Int) (n : Int) (B : Int → Int), (1 ≤ n ∧ n ≤ 6) → (0 ≤ at_ ∧ at_ ≤ n) → (usedBits = (cnF B n at_.toNat P).2.2) → (amount = (cnF B n at_.toNat P).1) → (lags = (cnF B n at_.toNat P).2.1) → (0 ≤ amount ∧ amount ≤ 1000000) → (0 ≤ lags ∧ lags ≤ 300 * at_) → (o1F usedBits 16 = at_) → (0 ≤ usedBits ∧ usedBits ≤ 63) → (0 ≤ P) → (gi M 66 1 = n) → (∀ j : Int, 0 ≤ j → j < 18 → gi M 10 j = B j) → (∀ b : Int, 0 ≤ b → b < 6 → 0 ≤ B (3 * b + 1) ∧ B (3 * b + 1) ≤ 100) → (∀ j : Int, 0 ≤ j → j < at_ → gi M 68 j = dgA n at_ P j) → (CBX B n (P * pwN n (n - at_).toNat) (gi M 66 3) (gi M 67)) → 6 - at_ < ((rr : Nat) : Int) → sOk base X G d T11 [vR 66, vR 10, vI at_, vI usedBits, vI amount, vI lags] M (pV (fun M' => HI base M' ∧ Fr [(66, 4), (67, 0), (68, 0)] M M' ∧ (CBX B n ((P + 1) * pwN n (n - at_).toNat) (gi M' 66 3) (gi M' 67)) ∧ (∀ i : Int, 0 ≤ i → i < at_ → gi M' 68 i = gi M 68 i))) := by
  intro rr
  induction rr with
  | zero => intro d hd M H at_ usedBits amount lags P n B h0 h1 h2 h3 h4 h5 h6 h7 h8 h9 h10 h11 h12 h13 h14 hrr; exfalso; omega
  | succ rr ihr =>
  intro d hd M H at_ usedBits amount lags P n B h0 h1 h2 h3 h4 h5 h6 h7 h8 h9 h10 h11 h12 h13 h14 hrr
  have f0 : Fr [(66, 4), (67, 0), (68, 0)] M M := Fr.rf
  refine sOk.of (show sRn base X G d T11 0 [(0, vR 66), (1, vR 10), (2, vI at_), (3, vI usedBits), (4, vI amount), (5, vI lags)] [] M _ from ?_)
  refine s_blx (lv' := [(0, vR 66), (1, vR 10), (2, vI at_), (3, vI usedBits), (4, vI amount), (5, vI lags)]) (st' := [vR 66, vI at_]) B11_0_2 rfl ?_
  refine r_gint (ki := 1) (pc' := 5) D11_2 rfl gf_1_15_66 rfl H.1 ?_
  intro w1 e2 r3
  have b_w1 := H.2 66 (1) 0 6 rfl
  rw [← e2] at b_w1; clear r3
  have kln : w1 = n := e2.trans h10
  refine r_icmp (tgt := 41) (pc' := 8) D11_5 rfl rfl (by unfold inR; omega) (fun (c4 : at_ < w1) => ?_) (fun (c4 : ¬ (at_ < w1)) => ?_)
  · refine s_blx (lv' := [(6, vI 0), (0, vR 66), (1, vR 10), (2, vI at_), (3, vI usedBits), (4, vI amount), (5, vI lags)]) (st' := []) B11_41_44 rfl ?_
    refine r_loc (lv' := [(0, vR 66), (1, vR 10), (2, vI at_), (3, vI usedBits), (4, vI amount), (5, vI lags), (6, vI 0)]) ⟨rfl, rfl, rfl, rfl, rfl, rfl, rfl, trivial⟩ rfl rfl ?_
    have g5 : gi M 66 3 = gi M 66 3 := rfl
    have g6 : gi M 66 1 = w1 := e2.symm
    exact (L_k11_66_10h E ihr hd H at_ usedBits amount lags P n B h0 h1 h2 h3 h4 h5 h6 h7 h8 h9 h10 h11 h12 h13 h14 hrr (((n - 0) * 1 + 0 : Int) + 1).toNat) 0 M H f0 (by omega) (by omega) (by rw [pw_beg (by omega)]; exact h14) (by omega) (h13) (by omega) (by omega) (by omega) (by omega) (by omega)
  · refine s_blx (lv' := [(0, vR 66), (1, vR 10), (2, vI at_), (3, vI usedBits), (4, vI amount), (5, vI lags)]) (st' := [vR 66, vI amount]) B11_8_11 rfl ?_
    refine r_gint (ki := 3) (pc' := 14) D11_11 rfl gf_1_22_66 rfl H.1 ?_
    intro w7 e8 r9
    unfold inR at r9
    refine r_icmp (tgt := 40) (pc' := 17) D11_14 rfl rfl (by unfold inR; omega) (fun (c10 : amount ≤ w7) => ?_) (fun (c10 : ¬ (amount ≤ w7)) => ?_)
    · have g11 : gi M 66 3 = w7 := e8.symm
      exact r_retV D11_40 rfl (⟨H, f0, by first | exact ktk | exact CBX.leafp h14 (by omega) h3 (by omega) (by omega), by first | exact fun i _ _ => rfl | exact fun i _ _ => (kcp.gi_ne (by decide) i).trans (kum.gi_ne (by decide) (Or.inl (by decide)))⟩)
    · refine s_blx (lv' := [(0, vR 66), (1, vR 10), (2, vI at_), (3, vI usedBits), (4, vI amount), (5, vI lags)]) (st' := [vI amount, vR 66]) B11_17_20 rfl ?_
      refine r_pint (ki := 3) (pc' := 23) D11_20 rfl pf_1_22_66 rfl H (by unfold inR; omega) trivial ?_
      intro M12 u13 H14 p15
      have f16 := f0.wr u13 rfl
      have kum := u13
      have kpm := p15
      refine s_blx (lv' := [(0, vR 66), (1, vR 10), (2, vI at_), (3, vI usedBits), (4, vI amount), (5, vI lags)]) (st' := [vR 66]) B11_23_24 rfl ?_
      refine r_gfix (r := 68) (pc' := 27) D11_24 rfl gf_1_19_66 H14.1 ?_
      refine s_blx (lv' := [(0, vR 66), (1, vR 10), (2, vI at_), (3, vI usedBits), (4, vI amount), (5, vI lags)]) (st' := [vR 66, vI 0, vR 68]) B11_27_29 rfl ?_
      refine r_gfix (r := 67) (pc' := 32) D11_29 rfl gf_1_9_66 H14.1 ?_
      refine s_blx (lv' := [(0, vR 66), (1, vR 10), (2, vI at_), (3, vI usedBits), (4, vI amount), (5, vI lags)]) (st' := [vR 66, vI 0, vR 67, vI 0, vR 68]) B11_32_34 rfl ?_
      refine r_gint (ki := 1) (pc' := 37) D11_34 rfl gf_1_15_66 rfl H14.1 ?_
      intro w17 e18 r19
      have e20 : w1 = w17 := (e18.trans ((u13.gi_ne (by decide) (Or.inr (by decide))).trans (e2.symm))).symm
      subst e20
      refine r_acpy (pc' := 40) D11_37 rfl mc_1_static_30 sp_1_30 (Nat.le_of_ble_eq_true rfl) sc_68 sc_67 H14 (by omega) (fun _ _ _ => trivial) ?_
      intro M21 u22 H23
      have f24 := f16.cp u22 (fun _ => rfl)
      have kcp := u22
      have ktk : CBX B n ((P + 1) * pwN n (n - at_).toNat) (gi M21 66 3) (gi M21 67) := by rw [show gi M21 66 3 = amount from (kcp.gi_ne (by decide) 3).trans kpm]; exact CBX.leaft h14 (by omega) h3 (by rw [← h2]; exact cn_full h0 (by rw [h2]; exact (cnF_u h0 _ _).1) (by omega)) h9 (by omega) (fun i a b => (kcp.gi_in (by omega) (by omega)).trans ((congrArg (gi M12 68) (show _ = i by omega)).trans ((kum.gi_ne (by decide) (Or.inl (by decide))).trans (h13 i a (by omega)))))
      have g25 : gi M21 66 3 = amount := (u22.gi_ne (by decide) _).trans (p15)
      exact r_retV D11_40 rfl (⟨H23, f24, by first | exact ktk | exact CBX.leafp h14 (by omega) h3 (by omega) (by omega), by first | exact fun i _ _ => rfl | exact fun i _ _ => (kcp.gi_ne (by decide) i).trans (kum.gi_ne (by decide) (Or.inl (by decide)))⟩)
theorem k11_66_10h {base : Nat} {X : Nat → Option mC} {G : Nat → Value} (E : EnvOK base X G) {d : Nat} (hd : 7 ≤ d) {M : mH} (H : HI base M) (at_ : Int) (usedBits : Int) (amount : Int) (lags : Int) (P : Int) (n : Int) (B : Int → Int) (h0 : 1 ≤ n ∧ n ≤ 6) (h1 : 0 ≤ at_ ∧ at_ ≤ n) (h2 : usedBits = (cnF B n at_.toNat P).2.2) (h3 : amount = (cnF B n at_.toNat P).1) (h4 : lags = (cnF B n at_.toNat P).2.1) (h5 : 0 ≤ amount ∧ amount ≤ 1000000) (h6 : 0 ≤ lags ∧ lags ≤ 300 * at_) (h7 : o1F usedBits 16 = at_) (h8 : 0 ≤ usedBits ∧ usedBits ≤ 63) (h9 : 0 ≤ P) (h10 : gi M 66 1 = n) (h11 : ∀ j : Int, 0 ≤ j → j < 18 → gi M 10 j = B j) (h12 : ∀ b : Int, 0 ≤ b → b < 6 → 0 ≤ B (3 * b + 1) ∧ B (3 * b + 1) ≤ 100) (h13 : ∀ j : Int, 0 ≤ j → j < at_ → gi M 68 j = dgA n at_ P j) (h14 : CBX B n (P * pwN n (n - at_).toNat) (gi M 66 3) (gi M 67)) : sOk base X G d T11 [vR 66, vR 10, vI at_, vI usedBits, vI amount, vI lags] M (pV (fun M' => HI base M' ∧ Fr [(66, 4), (67, 0), (68, 0)] M M' ∧ (CBX B n ((P + 1) * pwN n (n - at_).toNat) (gi M' 66 3) (gi M' 67)) ∧ (∀ i : Int, 0 ≤ i → i < at_ → gi M' 68 i = gi M 68 i))) := k11_66_10hr E 7 (by omega) H at_ usedBits amount lags P n B h0 h1 h2 h3 h4 h5 h6 h7 h8 h9 h10 h11 h12 h13 h14 (by omega)
set_option maxRecDepth 4000 in
theorem k10_66_10h {base : Nat} {X : Nat → Option mC} {G : Nat → Value} (E : EnvOK base X G) {d : Nat} (hd : 8 ≤ d) {M : mH} (H : HI base M) (boxCount : Int) (B : Int → Int) (h0 : 1 ≤ boxCount ∧ boxCount ≤ 6) (h1 : ∀ j : Int, 0 ≤ j → j < 18 → gi M 10 j = B j) (h2 : ∀ b : Int, 0 ≤ b → b < 6 → 0 ≤ B (3 * b + 1) ∧ B (3 * b + 1) ≤ 100) : sOk base X G d T10 [vR 66, vR 10, vI boxCount] M (pI (fun v M' => HI base M' ∧ Fr [(66, 2), (66, 4), (67, 0), (68, 0)] M M' ∧ (-2147483648 ≤ v ∧ v ≤ 2147483647) ∧ (CBX B boxCount (pwN boxCount boxCount.toNat) v (gi M' 67)) ∧ (gi M' 66 1 = boxCount))) := by
  have f0 : Fr [(66, 2), (66, 4), (67, 0), (68, 0)] M M := Fr.rf
  refine sOk.of (show sRn base X G d T10 0 [(0, vR 66), (1, vR 10), (2, vI boxCount)] [] M _ from ?_)
  refine s_blx (lv' := [(0, vR 66), (1, vR 10), (2, vI boxCount)]) (st' := [vI boxCount, vR 66]) B10_0_2 rfl ?_
  refine r_pint (ki := 1) (pc' := 5) D10_2 rfl pf_1_15_66 rfl H (by unfold inR; omega) (show 0 ≤ boxCount ∧ boxCount ≤ 6 by omega) ?_
  intro M1 u2 H3 p4
  have f5 := f0.wr u2 rfl
  refine s_blx (lv' := [(0, vR 66), (1, vR 10), (2, vI boxCount)]) (st' := [vI (-1), vR 66]) B10_5_7 rfl ?_
  refine r_pint (ki := 3) (pc' := 10) D10_7 rfl pf_1_22_66 rfl H3 (by unfold inR; omega) trivial ?_
  intro M6 u7 H8 p9
  have f10 := f5.wr u7 rfl
  have kpm := p9
  have kp11 : ∀ i : Int, 0 ≤ i → i < 18 → gi M6 10 i = B i := fun i a b => ((f10).g rfl).trans (h1 i a b)
  have kp14 : CBX B boxCount (0 * pwN boxCount (boxCount - 0).toNat) (gi M6 66 3) (gi M6 67) := by rw [Int.zero_mul, kpm]; exact CBX.zero
  refine s_blx (lv' := [(0, vR 66), (1, vR 10), (2, vI boxCount)]) (st' := [vI 0, vI 0, vR 10, vR 66]) B10_10_14 rfl ?_
  refine r_ldc (e := 1000000) (pc' := 16) D10_14 rfl ci_1_25 (by decide) ?_
  refine s_blx (lv' := [(0, vR 66), (1, vR 10), (2, vI boxCount)]) (st' := [vI 0, vI 1000000, vI 0, vI 0, vR 10, vR 66]) B10_16_17 rfl ?_
  have g11 : gi M6 66 1 = boxCount := (u7.gi_ne (by decide) (Or.inr (by decide))).trans (p4)
  have g12 : gi M6 66 3 = -1 := p9
  refine r_vV (c := 66) (args := [vR 10, vI 0, vI 0, vI 1000000, vI 0]) (rest := []) (pc' := 20) D10_17 rfl ck_1_virtual_26 TE11 rfl (Nat.le_of_ble_eq_true rfl) ⟨Nat.le_of_ble_eq_true rfl, Nat.le_of_ble_eq_true rfl⟩ sc_66 ⟨rfl, by decide⟩ H8.1 (dp_0 hd rfl) (k11_66_10h E (dp_n hd rfl) H8 0 0 1000000 0 0 boxCount B (by omega) (by omega) (rfl) (rfl) (rfl) (by omega) (by omega) (by decide) (by omega) (by omega) (by omega) (kp11) (h2) (fun i a b => by omega) (kp14)) ?_
  intro M14 q19
  obtain ⟨H15, f16, q17, q18⟩ := q19
  have f20 := f10.tr (f16.up rfl)
  have kq := q17
  rw [show (0 : Int) + 1 = 1 from rfl, Int.one_mul, show boxCount - 0 = boxCount by omega] at kq
  refine s_blx (lv' := [(0, vR 66), (1, vR 10), (2, vI boxCount)]) (st' := [vR 66]) B10_20_21 rfl ?_
  refine r_gint (ki := 3) (pc' := 24) D10_21 rfl gf_1_22_66 rfl H15.1 ?_
  intro w21 e22 r23
  unfold inR at r23
  have kv := e22
  have g24 : gi M14 66 1 = boxCount := (f16.g rfl).trans ((u7.gi_ne (by decide) (Or.inr (by decide))).trans (p4))
  exact r_iretI D10_24 rfl (⟨H15, f20, by omega, by rw [kv]; exact kq, by omega⟩)
set_option maxRecDepth 4000 in
theorem k120h {base : Nat} {X : Nat → Option mC} {G : Nat → Value} (E : EnvOK base X G) {d : Nat} (hd : 9 ≤ d) {M : mH} (H : HI base M) (B : Int → Int) (h0 : ∀ j : Int, 0 ≤ j → j < 18 → gi M 10 j = B j) (h1 : ∀ b : Int, 0 ≤ b → b < 6 → 0 ≤ B (3 * b + 1) ∧ B (3 * b + 1) ≤ 100) : sOk base X G d T120 [vR 0] M (pI (fun v M' => HI base M' ∧ Fr [(66, 2), (66, 4), (67, 0), (68, 0)] M M' ∧ (-2147483648 ≤ v ∧ v ≤ 2147483647) ∧ (1 ≤ gi M 1 14 → CBX B (gi M 1 14) (pwN (gi M 1 14) (gi M 1 14).toNat) v (gi M' 67) ∧ gi M' 66 1 = gi M 1 14) ∧ (gi M 1 14 < 1 → v = -1 ∧ gi M' 66 1 = gi M 66 1 ∧ ∀ i : Int, gi M' 67 i = gi M 67 i))) := by
  have f0 : Fr [(66, 2), (66, 4), (67, 0), (68, 0)] M M := Fr.rf
  refine sOk.of (show sRn base X G d T120 0 [(0, vR 0)] [] M _ from ?_)
  refine s_blx (lv' := [(0, vR 0)]) (st' := [vR 0]) B120_0_1 rfl ?_
  refine r_gfix (r := 1) (pc' := 4) D120_1 rfl gf_10_10_0 H.1 ?_
  refine r_gint (ki := 14) (pc' := 7) D120_4 rfl gf_10_279_1 rfl H.1 ?_
  intro w1 e2 r3
  have b_w1 := H.2 1 (14) 0 6 rfl
  rw [← e2] at b_w1; clear r3
  have kn := e2
  refine s_blx (lv' := [(0, vR 0)]) (st' := [vI 1, vI w1]) B120_7_8 rfl ?_
  refine r_icmp (tgt := 15) (pc' := 11) D120_8 rfl rfl (by unfold inR; omega) (fun (c4 : 1 ≤ w1) => ?_) (fun (c4 : ¬ (1 ≤ w1)) => ?_)
  · refine s_blx (lv' := [(0, vR 0)]) (st' := [vR 0]) B120_15_16 rfl ?_
    refine r_gfix (r := 66) (pc' := 19) D120_16 rfl gf_10_80_0 H.1 ?_
    refine s_blx (lv' := [(0, vR 0)]) (st' := [vR 0, vR 66]) B120_19_20 rfl ?_
    refine r_gfix (r := 1) (pc' := 23) D120_20 rfl gf_10_10_0 H.1 ?_
    refine r_gfix (r := 10) (pc' := 26) D120_23 rfl gf_10_285_1 H.1 ?_
    refine s_blx (lv' := [(0, vR 0)]) (st' := [vR 0, vR 10, vR 66]) B120_26_27 rfl ?_
    refine r_gfix (r := 1) (pc' := 30) D120_27 rfl gf_10_10_0 H.1 ?_
    refine r_gint (ki := 14) (pc' := 33) D120_30 rfl gf_10_279_1 rfl H.1 ?_
    intro w5 e6 r7
    have e8 : w1 = w5 := (e6.trans (e2.symm)).symm
    subst e8
    refine r_vI (c := 66) (args := [vR 10, vI w1]) (rest := []) (pc' := 36) D120_33 rfl ck_10_virtual_288 TE10 rfl (Nat.le_of_ble_eq_true rfl) ⟨Nat.le_of_ble_eq_true rfl, Nat.le_of_ble_eq_true rfl⟩ sc_66 ⟨rfl, by decide⟩ H.1 (dp_0 hd rfl) (k10_66_10h E (dp_n hd rfl) H w1 B (by omega) (h0) (h1)) ?_
    intro v9 M10 q16
    obtain ⟨H11, f12, q13, q14, q15⟩ := q16
    have f17 := f0.tr (f12.up rfl)
    have kq := q14
    have kl := q15
    rw [kn] at kq kl
    have g18 : gi M10 66 1 = w1 := q15
    exact r_iretI D120_36 rfl (⟨H11, f17, by omega, by first | exact fun h => by exfalso; omega | exact fun _ => ⟨kq, kl⟩, by first | exact fun h => ⟨by omega, rfl, fun _ => rfl⟩ | exact fun h => by exfalso; omega⟩)
  · refine s_blx (lv' := [(0, vR 0)]) (st' := [vI (-1)]) B120_11_12 rfl ?_
    refine r_goto (tgt := 36) D120_12 rfl ?_
    exact r_iretI D120_36 rfl (⟨H, f0, by omega, by first | exact fun h => by exfalso; omega | exact fun _ => ⟨kq, kl⟩, by first | exact fun h => ⟨by omega, rfl, fun _ => rfl⟩ | exact fun h => by exfalso; omega⟩)
set_option maxRecDepth 4000 in
theorem k121h {base : Nat} {X : Nat → Option mC} {G : Nat → Value} (E : EnvOK base X G) {d : Nat} (hd : 1 ≤ d) {M : mH} (H : HI base M) (i : Int) (h0 : -2147483648 ≤ i ∧ i ≤ 2147483647) : sOk base X G d T121 [vR 0, vI i] M (pI (fun v M' => M' = M ∧ (-2147483648 ≤ v ∧ v ≤ 2147483647) ∧ v = lkF (gi M 66 1) (gi M 67) i)) := by
  refine sOk.of (show sRn base X G d T121 0 [(0, vR 0), (1, vI i)] [] M _ from ?_)
  refine s_blx (lv' := [(0, vR 0), (1, vI i)]) (st' := [vR 0, vI 0, vI i]) B121_0_3 rfl ?_
  refine r_gfix (r := 66) (pc' := 6) D121_3 rfl gf_10_80_0 H.1 ?_
  refine r_gint (ki := 1) (pc' := 9) D121_6 rfl gf_10_291_66 rfl H.1 ?_
  intro w1 e2 r3
  have b_w1 := H.2 66 (1) 0 6 rfl
  rw [← e2] at b_w1; clear r3
  have kn := e2
  refine s_blx (lv' := [(0, vR 0), (1, vI i)]) (st' := [vI (w1 - 1), vI 0, vI i]) B121_9_11 rfl ?_
  refine r_sIp (args := [vI i, vI 0, vI (w1 - 1)]) (rest := []) (pc' := 14) D121_11 rfl ck_10_static_102 TE142 rfl (Nat.le_of_ble_eq_true rfl) ⟨Nat.le_of_ble_eq_true rfl, Nat.le_of_ble_eq_true rfl⟩ (by decide) (dp_0 hd rfl) (k142 E (dp_n hd rfl) H i 0 (w1 - 1) (by omega) (by omega) (by omega)) ?_
  intro v4 q9
  obtain ⟨q6, q7, q8⟩ := q9
  have k1 := q7; clear q7
  have k0 := q8; clear q8
  refine r_ifc (tgt := 29) (pc' := 17) D121_14 rfl rfl (by unfold inR; omega) (fun (c10 : v4 = 0) => ?_) (fun (c10 : ¬ (v4 = 0)) => ?_)
  · refine s_blx (lv' := [(0, vR 0), (1, vI i)]) (st' := [vI (-1)]) B121_29_30 rfl ?_
    exact r_iretI D121_30 rfl (⟨rfl, by omega, by first | exact lkF_in (by have q := k1 (by omega); omega) ke | exact lkF_out (by have q := k0 (by omega); omega)⟩)
  · refine s_blx (lv' := [(0, vR 0), (1, vI i)]) (st' := [vR 0]) B121_17_18 rfl ?_
    refine r_gfix (r := 66) (pc' := 21) D121_18 rfl gf_10_80_0 H.1 ?_
    refine r_gfix (r := 67) (pc' := 24) D121_21 rfl gf_10_294_66 H.1 ?_
    refine s_blx (lv' := [(0, vR 0), (1, vI i)]) (st' := [vI i, vR 67]) B121_24_25 rfl ?_
    refine r_iald (pc' := 26) D121_25 rfl sc_67 H.1 (by omega) ?_
    intro w11 e12 r13
    unfold inR at r13
    have ke := e12
    refine r_goto (tgt := 30) D121_26 rfl ?_
    exact r_iretI D121_30 rfl (⟨rfl, by omega, by first | exact lkF_in (by have q := k1 (by omega); omega) ke | exact lkF_out (by have q := k0 (by omega); omega)⟩)
set_option maxRecDepth 4000 in
theorem k124h {base : Nat} {X : Nat → Option mC} {G : Nat → Value} (E : EnvOK base X G) {d : Nat} (hd : 1 ≤ d) {M : mH} (H : HI base M) (i : Int) (h0 : -2147483648 ≤ i ∧ i ≤ 2147483647) : sOk base X G d T124 [vR 0, vI i] M (pI (fun v M' => M' = M ∧ (-2147483648 ≤ v ∧ v ≤ 2147483647) ∧ v = chF (gi M 69 1) (gi M 70) i)) := by
  refine sOk.of (show sRn base X G d T124 0 [(0, vR 0), (1, vI i)] [] M _ from ?_)
  refine s_blx (lv' := [(0, vR 0), (1, vI i)]) (st' := [vI (-1), vI i]) B124_0_2 rfl ?_
  refine r_icmp (tgt := 13) (pc' := 5) D124_2 rfl rfl (by unfold inR; omega) (fun (c1 : i ≠ (-1)) => ?_) (fun (c1 : ¬ (i ≠ (-1))) => ?_)
  · refine s_blx (lv' := [(0, vR 0), (1, vI i)]) (st' := [vR 0, vI 0, vI i]) B124_13_16 rfl ?_
    refine r_gfix (r := 69) (pc' := 19) D124_16 rfl gf_10_87_0 H.1 ?_
    refine r_gint (ki := 1) (pc' := 22) D124_19 rfl gf_10_302_69 rfl H.1 ?_
    intro w2 e3 r4
    have b_w2 := H.2 69 (1) (-1) 120 rfl
    rw [← e3] at b_w2; clear r4
    have kn := e3
    refine s_blx (lv' := [(0, vR 0), (1, vI i)]) (st' := [vI (w2 - 1), vI 0, vI i]) B124_22_24 rfl ?_
    refine r_sIp (args := [vI i, vI 0, vI (w2 - 1)]) (rest := []) (pc' := 27) D124_24 rfl ck_10_static_102 TE142 rfl (Nat.le_of_ble_eq_true rfl) ⟨Nat.le_of_ble_eq_true rfl, Nat.le_of_ble_eq_true rfl⟩ (by decide) (dp_0 hd rfl) (k142 E (dp_n hd rfl) H i 0 (w2 - 1) (by omega) (by omega) (by omega)) ?_
    intro v5 q10
    obtain ⟨q7, q8, q9⟩ := q10
    have k1 := q8; clear q8
    have k0 := q9; clear q9
    refine r_ifc (tgt := 42) (pc' := 30) D124_27 rfl rfl (by unfold inR; omega) (fun (c11 : v5 = 0) => ?_) (fun (c11 : ¬ (v5 = 0)) => ?_)
    · refine s_blx (lv' := [(0, vR 0), (1, vI i)]) (st' := [vI (-1)]) B124_42_43 rfl ?_
      exact r_iretI D124_43 rfl (⟨rfl, by omega, by first | exact chF_i (by omega) (lkF_in (by have q := k1 (by omega); omega) ke) | exact chF_i (by omega) (lkF_out (by have q := k0 (by omega); omega))⟩)
    · refine s_blx (lv' := [(0, vR 0), (1, vI i)]) (st' := [vR 0]) B124_30_31 rfl ?_
      refine r_gfix (r := 69) (pc' := 34) D124_31 rfl gf_10_87_0 H.1 ?_
      refine r_gfix (r := 70) (pc' := 37) D124_34 rfl gf_10_305_69 H.1 ?_
      refine s_blx (lv' := [(0, vR 0), (1, vI i)]) (st' := [vI i, vR 70]) B124_37_38 rfl ?_
      refine r_iald (pc' := 39) D124_38 rfl sc_70 H.1 (by omega) ?_
      intro w12 e13 r14
      unfold inR at r14
      have ke := e13
      refine r_goto (tgt := 43) D124_39 rfl ?_
      exact r_iretI D124_43 rfl (⟨rfl, by omega, by first | exact chF_i (by omega) (lkF_in (by have q := k1 (by omega); omega) ke) | exact chF_i (by omega) (lkF_out (by have q := k0 (by omega); omega))⟩)
  · refine s_blx (lv' := [(0, vR 0), (1, vI i)]) (st' := [vR 0]) B124_5_6 rfl ?_
    refine r_gfix (r := 69) (pc' := 9) D124_6 rfl gf_10_87_0 H.1 ?_
    refine r_gint (ki := 1) (pc' := 12) D124_9 rfl gf_10_302_69 rfl H.1 ?_
    intro w15 e16 r17
    have b_w15 := H.2 69 (1) (-1) 120 rfl
    rw [← e16] at b_w15; clear r17
    have kn := e16
    exact r_iretI D124_12 rfl (⟨rfl, by omega, chF_n (by omega) kn⟩)
set_option maxRecDepth 4000 in
theorem L_k253h {base : Nat} {X : Nat → Option mC} {G : Nat → Value} (E : EnvOK base X G) {d : Nat} (hd : 0 ≤ d) {M : mH} (H : HI base M) (n : Int) (r : Int) (B : Int → Int) (h0 : 1 ≤ n ∧ n ≤ 6) (h1 : ∀ j : Int, 0 ≤ j → j < n → gi M 104 j = dgA n n r j) : ∀ mz : Nat, (∀ (x2 x3 : Int), (x2 = (cnF B n x3.toNat (qdF n (n - x3).toNat r)).2.2) → (-2147483648 ≤ x2 ∧ x2 ≤ 2147483647) → (0 ≤ x3 ∧ x3 ≤ n) → ((-2147483648) ≤ x2) → (x2 ≤ 2147483647) → (0 ≤ x3) → (x3 ≤ 6) → (n - x3) * 1 + 0 < (mz : Int) → sRn base X G d T253 4 [(0, vR 77), (1, vI n), (2, vI x2), (3, vI x3)] [] M (s_Q base (pI (fun v M' => M' = M ∧ (v = 0 ∨ v = 1) ∧ (v = 1 → cnO B n r) ∧ (v = 0 → ¬ cnO B n r))))) := by
  intro mz
  induction mz with
  | zero => exact fun x2 x3 z0 z1 z2 z3 z4 z5 z6 z7 => by omega
  | succ mz ih =>
    intro x2 x3 i0 i1 i2 i3 i4 i5 i6 hmu
    refine s_blx (lv' := [(0, vR 77), (1, vI n), (2, vI x2), (3, vI x3)]) (st' := [vI n, vI x3]) B253_4_6 rfl ?_
    refine r_icmp (tgt := 26) (pc' := 9) D253_6 rfl rfl (by unfold inR; omega) (fun (c1 : n ≤ x3) => ?_) (fun (c1 : ¬ (n ≤ x3)) => ?_)
    · refine s_blx (lv' := [(0, vR 77), (1, vI n), (2, vI x2), (3, vI x3)]) (st' := [vI n, vI 1, vI x2]) B253_26_29 rfl ?_
      refine r_bin (pc' := 30) D253_29 rfl rfl ?_
      intro z2 r3 kq3; unfold inR at r3
      have ksh : z2 = shI 1 n := shI_of (by unfold inR; omega) kq3
      have kfl := fl_b h0
      have kfn : flN n = shI 1 n - 1 := rfl
      refine s_blx (lv' := [(0, vR 77), (1, vI n), (2, vI x2), (3, vI x3)]) (st' := [vI (z2 - 1), vI x2]) B253_30_32 rfl ?_
      refine r_icmp (tgt := 39) (pc' := 35) D253_32 rfl rfl (by unfold inR; omega) (fun (c4 : x2 ≠ (z2 - 1)) => ?_) (fun (c4 : ¬ (x2 ≠ (z2 - 1))) => ?_)
      · refine s_blx (lv' := [(0, vR 77), (1, vI n), (2, vI x2), (3, vI x3)]) (st' := [vI 0]) B253_39_40 rfl ?_
        exact r_zretI D253_40 rfl (by omega) (⟨rfl, by omega, by first | exact fun h => by exfalso; omega | exact fun _ => by unfold cnO; rw [← cn_end (i := x3) (by omega), ← i0]; omega, by first | exact fun h => by exfalso; omega | exact fun _ hc => by unfold cnO at hc; rw [← cn_end (i := x3) (by omega), ← i0] at hc; omega⟩)
      · refine s_blx (lv' := [(0, vR 77), (1, vI n), (2, vI x2), (3, vI x3)]) (st' := [vI 1]) B253_35_36 rfl ?_
        refine r_goto (tgt := 40) D253_36 rfl ?_
        exact r_zretI D253_40 rfl (by omega) (⟨rfl, by omega, by first | exact fun h => by exfalso; omega | exact fun _ => by unfold cnO; rw [← cn_end (i := x3) (by omega), ← i0]; omega, by first | exact fun h => by exfalso; omega | exact fun _ hc => by unfold cnO at hc; rw [← cn_end (i := x3) (by omega), ← i0] at hc; omega⟩)
    · refine s_blx (lv' := [(0, vR 77), (1, vI n), (2, vI x2), (3, vI x3)]) (st' := [vR 77, vI 1, vI x2]) B253_9_12 rfl ?_
      refine r_gfix (r := 104) (pc' := 15) D253_12 rfl gf_11_99_77 H.1 ?_
      refine s_blx (lv' := [(0, vR 77), (1, vI n), (2, vI x2), (3, vI x3)]) (st' := [vI x3, vR 104, vI 1, vI x2]) B253_15_16 rfl ?_
      refine r_iald (pc' := 17) D253_16 rfl sc_104 H.1 (by omega) ?_
      intro w5 e6 r7
      have b_w5 := H.2 104 (x3) 0 5 rfl
      rw [← e6] at b_w5; clear r7
      have kd := e6.trans (h1 x3 (by omega) (by omega))
      refine r_bin (pc' := 18) D253_17 rfl rfl ?_
      intro z8 r9 kq1; unfold inR at r9
      refine r_bin (pc' := 19) D253_18 rfl rfl ?_
      intro z10 r11 kq2; unfold inR at r11
      refine s_blx (lv' := [(3, vI (x3 + 1)), (2, vI z10), (0, vR 77), (1, vI n)]) (st' := []) B253_19_23 rfl ?_
      refine r_goto (tgt := 4) D253_23 rfl ?_
      refine r_loc (lv' := [(0, vR 77), (1, vI n), (2, vI z10), (3, vI (x3 + 1))]) ⟨rfl, rfl, rfl, rfl, trivial⟩ rfl rfl ?_
      exact ih z10 (x3 + 1) (by rw [cn_us ⟨by omega, by omega⟩ i0, ← kd, ← shI_of (by unfold inR; omega) kq1]; exact orI_of (by unfold inR; omega) kq2) (by omega) (by omega) (by omega) (by omega) (by omega) (by omega) (by omega)
set_option maxRecDepth 4000 in
theorem k253h {base : Nat} {X : Nat → Option mC} {G : Nat → Value} (E : EnvOK base X G) {d : Nat} (hd : 0 ≤ d) {M : mH} (H : HI base M) (n : Int) (r : Int) (B : Int → Int) (h0 : 1 ≤ n ∧ n ≤ 6) (h1 : ∀ j : Int, 0 ≤ j → j < n → gi M 104 j = dgA n n r j) : sOk base X G d T253 [vR 77, vI n] M (pI (fun v M' => M' = M ∧ (v = 0 ∨ v = 1) ∧ (v = 1 → cnO B n r) ∧ (v = 0 → ¬ cnO B n r))) := by
  refine sOk.of (show sRn base X G d T253 0 [(0, vR 77), (1, vI n)] [] M _ from ?_)
  refine s_blx (lv' := [(3, vI 0), (2, vI 0), (0, vR 77), (1, vI n)]) (st' := []) B253_0_4 rfl ?_
  refine r_loc (lv' := [(0, vR 77), (1, vI n), (2, vI 0), (3, vI 0)]) ⟨rfl, rfl, rfl, rfl, trivial⟩ rfl rfl ?_
  exact (L_k253h E hd H n r B h0 h1 (((n - 0) * 1 + 0 : Int) + 1).toNat) 0 0 (rfl) (by omega) (by omega) (by omega) (by omega) (by omega) (by omega) (by omega)
set_option maxRecDepth 4000 in
theorem L_k252h {base : Nat} {X : Nat → Option mC} {G : Nat → Value} (E : EnvOK base X G) {d : Nat} (hd : 0 ≤ d) {M : mH} (H : HI base M) (K : Int → Int) (n : Int) (r : Int) (B : Int → Int) (h0 : KK K M) (h1 : 1 ≤ n ∧ n ≤ 6) (h2 : ∀ j : Int, 0 ≤ j → j < n → gi M 104 j = dgA n n r j) (h3 : ∀ i : Int, 0 ≤ i → i < 18 → K (391 + i) = B i) (h4 : ∀ b : Int, 0 ≤ b → b < 6 → 0 ≤ B (3 * b + 1) ∧ B (3 * b + 1) ≤ 100) (h5 : K 472 = n) : ∀ mz : Nat, (∀ (x1 x2 x3 : Int), (x1 = (cnF B n x3.toNat (qdF n (n - x3).toNat r)).1) → (x2 = (cnF B n x3.toNat (qdF n (n - x3).toNat r)).2.1) → (0 ≤ x1 ∧ x1 ≤ 1000000) → (0 ≤ x2 ∧ x2 ≤ 300 * x3) → (0 ≤ x3 ∧ x3 ≤ n) → (0 ≤ x1) → (x1 ≤ 3000000) → (0 ≤ x2) → (x2 ≤ 2100) → (0 ≤ x3) → (x3 ≤ 6) → (n - x3) * 1 + 0 < (mz : Int) → sRn base X G d T252 8 [(0, vR 77), (1, vI x1), (2, vI x2), (3, vI x3)] [] M (s_Q base (pI (fun v M' => M' = M ∧ v = cnV B n r ∧ (0 ≤ v ∧ v ≤ 1000000))))) := by
  intro mz
  induction mz with
  | zero => exact fun x1 x2 x3 z0 z1 z2 z3 z4 z5 z6 z7 z8 z9 z10 z11 => by omega
  | succ mz ih =>
    intro x1 x2 x3 i0 i1 i2 i3 i4 i5 i6 i7 i8 i9 i10 hmu
    refine s_blx (lv' := [(0, vR 77), (1, vI x1), (2, vI x2), (3, vI x3)]) (st' := [vR 77, vI x3]) B252_8_10 rfl ?_
    refine r_gfix (r := 78) (pc' := 13) D252_10 rfl gf_11_13_77 H.1 ?_
    refine s_blx (lv' := [(0, vR 77), (1, vI x1), (2, vI x2), (3, vI x3)]) (st' := [vI 472, vR 78, vI x3]) B252_13_16 rfl ?_
    refine r_iald (pc' := 17) D252_16 rfl sc_78 H.1 (by omega) ?_
    intro w1 e2 r3
    have kk_w1 := (h0) (472)
    have b_w1 := H.2 78 (472) 0 6 (rk_boxmany (by omega))
    rw [← e2] at b_w1; clear r3
    refine r_icmp (tgt := 82) (pc' := 20) D252_17 rfl rfl (by unfold inR; omega) (fun (c4 : w1 ≤ x3) => ?_) (fun (c4 : ¬ (w1 ≤ x3)) => ?_)
    · refine s_blx (lv' := [(0, vR 77), (1, vI x1), (2, vI x2), (3, vI x3)]) (st' := [vI x1]) B252_82_83 rfl ?_
      exact r_iretI D252_83 rfl (⟨rfl, by unfold cnV; rw [← cn_end (i := x3) (by omega)]; exact i0, by omega⟩)
    · refine s_blx (lv' := [(0, vR 77), (1, vI x1), (2, vI x2), (3, vI x3)]) (st' := [vR 77, vI 3, vI 391]) B252_20_25 rfl ?_
      refine r_gfix (r := 104) (pc' := 28) D252_25 rfl gf_11_99_77 H.1 ?_
      refine s_blx (lv' := [(0, vR 77), (1, vI x1), (2, vI x2), (3, vI x3)]) (st' := [vI x3, vR 104, vI 3, vI 391]) B252_28_29 rfl ?_
      refine r_iald (pc' := 30) D252_29 rfl sc_104 H.1 (by omega) ?_
      intro w5 e6 r7
      have b_w5 := H.2 104 (x3) 0 5 rfl
      rw [← e6] at b_w5; clear r7
      have kd := e6.trans (h2 x3 (by omega) (by omega))
      refine s_blx (lv' := [(4, vI (391 + (3 * w5))), (0, vR 77), (1, vI x1), (2, vI x2), (3, vI x3)]) (st' := [vR 77, vI x1]) B252_30_36 rfl ?_
      refine r_gfix (r := 78) (pc' := 39) D252_36 rfl gf_11_13_77 H.1 ?_
      refine s_blx (lv' := [(4, vI (391 + (3 * w5))), (0, vR 77), (1, vI x1), (2, vI x2), (3, vI x3)]) (st' := [vI ((391 + (3 * w5)) + 1), vR 78, vI x1]) B252_39_43 rfl ?_
      refine r_iald (pc' := 44) D252_43 rfl sc_78 H.1 (by omega) ?_
      intro w8 e9 r10
      have kk_w8 := (h0) ((391 + (3 * w5)) + 1)
      have b_w8 := H.2 78 ((391 + (3 * w5)) + 1) 0 300 (rk_box (by omega))
      rw [← e9] at b_w8; clear r10
      have kw1 : w8 = B (3 * dgA n n r x3 + 1) := by rw [← kd]; exact e9.trans (((h0) _).trans ((congrArg K (by omega)).trans (h3 (3 * w5 + 1) (by omega) (by omega))))
      have kmb := mulb (a := x1) (b := w8) (A := 1000000) (B := 100) (by omega) (by rw [kw1, ← kd]; exact h4 w5 (by omega) (by omega))
      refine s_blx (lv' := [(4, vI (391 + (3 * w5))), (0, vR 77), (1, vI x1), (2, vI x2), (3, vI x3)]) (st' := [vI 100, vI (x1 * w8)]) B252_44_47 rfl ?_
      refine r_idiv (pc' := 48) D252_47 rfl (by omega) ?_
      refine s_blx (lv' := [(1, vI ((x1 * w8) / 100)), (4, vI (391 + (3 * w5))), (0, vR 77), (2, vI x2), (3, vI x3)]) (st' := [vR 77, vI x2]) B252_48_51 rfl ?_
      refine r_gfix (r := 78) (pc' := 54) D252_51 rfl gf_11_13_77 H.1 ?_
      refine s_blx (lv' := [(1, vI ((x1 * w8) / 100)), (4, vI (391 + (3 * w5))), (0, vR 77), (2, vI x2), (3, vI x3)]) (st' := [vI ((391 + (3 * w5)) + 2), vR 78, vI x2]) B252_54_58 rfl ?_
      refine r_iald (pc' := 59) D252_58 rfl sc_78 H.1 (by omega) ?_
      intro w11 e12 r13
      have kk_w11 := (h0) ((391 + (3 * w5)) + 2)
      have b_w11 := H.2 78 ((391 + (3 * w5)) + 2) 0 300 (rk_box (by omega))
      rw [← e12] at b_w11; clear r13
      have kw2 : w11 = B (3 * dgA n n r x3 + 2) := by rw [← kd]; exact e12.trans (((h0) _).trans ((congrArg K (by omega)).trans (h3 (3 * w5 + 2) (by omega) (by omega))))
      refine r_icmp (tgt := 66) (pc' := 62) D252_59 rfl rfl (by unfold inR; omega) (fun (c14 : x2 ≤ w11) => ?_) (fun (c14 : ¬ (x2 ≤ w11)) => ?_)
      · refine s_blx (lv' := [(1, vI ((x1 * w8) / 100)), (4, vI (391 + (3 * w5))), (0, vR 77), (2, vI x2), (3, vI x3)]) (st' := [vR 77, vI x2]) B252_66_68 rfl ?_
        refine r_gfix (r := 78) (pc' := 71) D252_68 rfl gf_11_13_77 H.1 ?_
        refine s_blx (lv' := [(1, vI ((x1 * w8) / 100)), (4, vI (391 + (3 * w5))), (0, vR 77), (2, vI x2), (3, vI x3)]) (st' := [vI (391 + (3 * w5)), vR 78, vI x2]) B252_71_73 rfl ?_
        refine r_iald (pc' := 74) D252_73 rfl sc_78 H.1 (by omega) ?_
        intro w15 e16 r17
        have kk_w15 := (h0) (391 + (3 * w5))
        have b_w15 := H.2 78 (391 + (3 * w5)) 0 300 (rk_box (by omega))
        rw [← e16] at b_w15; clear r17
        have kw3 : w15 = B (3 * dgA n n r x3) := by rw [← kd]; exact e16.trans (((h0) _).trans ((congrArg K (by omega)).trans (h3 (3 * w5) (by omega) (by omega))))
        have kgo := cn_go (B := B) (r := r) (i := x3) ⟨by omega, by omega⟩ i0 i1
        refine s_blx (lv' := [(3, vI (x3 + 1)), (2, vI (x2 + w15)), (1, vI ((x1 * w8) / 100)), (4, vI (391 + (3 * w5))), (0, vR 77)]) (st' := []) B252_74_79 rfl ?_
        refine r_goto (tgt := 8) D252_79 rfl ?_
        refine r_loc (lv' := [(0, vR 77), (1, vI ((x1 * w8) / 100)), (2, vI (x2 + w15)), (3, vI (x3 + 1))]) ⟨rfl, rfl, rfl, rfl, trivial⟩ rfl rfl ?_
        exact ih ((x1 * w8) / 100) (x2 + w15) (x3 + 1) (by rw [kgo.1]; first | rw [if_pos (show B (3 * dgA n n r x3 + 2) < x2 by omega), ← kw1] | rw [if_neg (show ¬ B (3 * dgA n n r x3 + 2) < x2 by omega), ← kw1]) (by rw [kgo.2, ← kw3]) (by omega) (by omega) (by omega) (by omega) (by omega) (by omega) (by omega) (by omega) (by omega) (by omega)
      · refine s_blx (lv' := [(1, vI ((x1 * w8) / 100)), (4, vI (391 + (3 * w5))), (0, vR 77), (2, vI x2), (3, vI x3)]) (st' := [vI 2, vI ((x1 * w8) / 100)]) B252_62_64 rfl ?_
        refine r_idiv (pc' := 65) D252_64 rfl (by omega) ?_
        refine s_blx (lv' := [(1, vI (((x1 * w8) / 100) / 2)), (4, vI (391 + (3 * w5))), (0, vR 77), (2, vI x2), (3, vI x3)]) (st' := [vR 77, vI x2]) B252_65_68 rfl ?_
        refine r_gfix (r := 78) (pc' := 71) D252_68 rfl gf_11_13_77 H.1 ?_
        refine s_blx (lv' := [(1, vI (((x1 * w8) / 100) / 2)), (4, vI (391 + (3 * w5))), (0, vR 77), (2, vI x2), (3, vI x3)]) (st' := [vI (391 + (3 * w5)), vR 78, vI x2]) B252_71_73 rfl ?_
        refine r_iald (pc' := 74) D252_73 rfl sc_78 H.1 (by omega) ?_
        intro w18 e19 r20
        have kk_w18 := (h0) (391 + (3 * w5))
        have b_w18 := H.2 78 (391 + (3 * w5)) 0 300 (rk_box (by omega))
        rw [← e19] at b_w18; clear r20
        have kw3 : w18 = B (3 * dgA n n r x3) := by rw [← kd]; exact e19.trans (((h0) _).trans ((congrArg K (by omega)).trans (h3 (3 * w5) (by omega) (by omega))))
        have kgo := cn_go (B := B) (r := r) (i := x3) ⟨by omega, by omega⟩ i0 i1
        refine s_blx (lv' := [(3, vI (x3 + 1)), (2, vI (x2 + w18)), (1, vI (((x1 * w8) / 100) / 2)), (4, vI (391 + (3 * w5))), (0, vR 77)]) (st' := []) B252_74_79 rfl ?_
        refine r_goto (tgt := 8) D252_79 rfl ?_
        refine r_loc (lv' := [(0, vR 77), (1, vI (((x1 * w8) / 100) / 2)), (2, vI (x2 + w18)), (3, vI (x3 + 1))]) ⟨rfl, rfl, rfl, rfl, trivial⟩ rfl rfl ?_
        exact ih (((x1 * w8) / 100) / 2) (x2 + w18) (x3 + 1) (by rw [kgo.1]; first | rw [if_pos (show B (3 * dgA n n r x3 + 2) < x2 by omega), ← kw1] | rw [if_neg (show ¬ B (3 * dgA n n r x3 + 2) < x2 by omega), ← kw1]) (by rw [kgo.2, ← kw3]) (by omega) (by omega) (by omega) (by omega) (by omega) (by omega) (by omega) (by omega) (by omega) (by omega)
set_option maxRecDepth 4000 in
theorem k252h {base : Nat} {X : Nat → Option mC} {G : Nat → Value} (E : EnvOK base X G) {d : Nat} (hd : 0 ≤ d) {M : mH} (H : HI base M) (K : Int → Int) (n : Int) (r : Int) (B : Int → Int) (h0 : KK K M) (h1 : 1 ≤ n ∧ n ≤ 6) (h2 : ∀ j : Int, 0 ≤ j → j < n → gi M 104 j = dgA n n r j) (h3 : ∀ i : Int, 0 ≤ i → i < 18 → K (391 + i) = B i) (h4 : ∀ b : Int, 0 ≤ b → b < 6 → 0 ≤ B (3 * b + 1) ∧ B (3 * b + 1) ≤ 100) (h5 : K 472 = n) : sOk base X G d T252 [vR 77] M (pI (fun v M' => M' = M ∧ v = cnV B n r ∧ (0 ≤ v ∧ v ≤ 1000000))) := by
  refine sOk.of (show sRn base X G d T252 0 [(0, vR 77)] [] M _ from ?_)
  refine r_ldcw (e := 1000000) (pc' := 3) D252_0 rfl ci_11_317 (by decide) ?_
  refine s_blx (lv' := [(3, vI 0), (2, vI 0), (1, vI 1000000), (0, vR 77)]) (st' := []) B252_3_8 rfl ?_
  refine r_loc (lv' := [(0, vR 77), (1, vI 1000000), (2, vI 0), (3, vI 0)]) ⟨rfl, rfl, rfl, rfl, trivial⟩ rfl rfl ?_
  exact (L_k252h E hd H K n r B h0 h1 h2 h3 h4 h5 (((n - 0) * 1 + 0 : Int) + 1).toNat) 1000000 0 0 (rfl) (rfl) (by omega) (by omega) (by omega) (by omega) (by omega) (by omega) (by omega) (by omega) (by omega) (by omega)
set_option maxRecDepth 4000 in
theorem L_k254h {base : Nat} {X : Nat → Option mC} {G : Nat → Value} (E : EnvOK base X G) {d : Nat} (hd : 1 ≤ d) {M : mH} (H : HI base M) (K : Int → Int) (B : Int → Int) (h0 : KK K M) (h1 : ∀ i : Int, 0 ≤ i → i < 18 → K (391 + i) = B i) (h2 : ∀ b : Int, 0 ≤ b → b < 6 → 0 ≤ B (3 * b + 1) ∧ B (3 * b + 1) ≤ 100) : ∀ mz : Nat, (∀ (x1 x2 x3 : Int) (N : mH), HI base N → Fr [(77, 52), (103, 0), (104, 0)] M N → (x2 = pwN x1 x3.toNat) → (1 ≤ x2 ∧ x2 ≤ 46656) → (1 ≤ x1 ∧ x1 ≤ 6) → (0 ≤ x3 ∧ x3 ≤ x1) → (x1 = K 472) → (1 ≤ x1) → (x1 ≤ 6) → (1 ≤ x2) → (x2 ≤ 279936) → (0 ≤ x3) → (x3 ≤ 6) → (6 - x3) * 1 + 699855 < (mz : Int) → sRn base X G d T254 19 [(0, vR 77), (1, vI x1), (2, vI x2), (3, vI x3)] [] N (s_Q base (pI (fun v M' => HI base M' ∧ Fr [(77, 52), (103, 0), (104, 0)] M M' ∧ (-2147483648 ≤ v ∧ v ≤ 2147483647) ∧ (1 ≤ K 472 → CBX B (K 472) (pwN (K 472) (K 472).toNat) v (gi M' 103) ∧ gi M' 77 51 = K 472) ∧ (K 472 < 1 → v = -1 ∧ gi M' 77 51 = gi M 77 51 ∧ ∀ i : Int, gi M' 103 i = gi M 103 i))))) ∧ (∀ (x1 x2 x3 x4 : Int) (N : mH), HI base N → Fr [(77, 52), (103, 0), (104, 0)] M N → (x2 = pwN x1 x1.toNat) → (1 ≤ x2 ∧ x2 ≤ 46656) → (0 ≤ x4 ∧ x4 ≤ x2) → (1 ≤ x1 ∧ x1 ≤ 6) → (x1 = K 472) → (CBX B x1 x4 x3 (gi N 103)) → (-1 ≤ x3 ∧ x3 ≤ 1000000) → (1 ≤ x1) → (x1 ≤ 6) → (1 ≤ x2) → (x2 ≤ 46656) → ((-1) ≤ x3) → (x3 ≤ 1000000) → (0 ≤ x4) → (x4 ≤ 46656) → (x2 - x4) * 15 + 14 < (mz : Int) → sRn base X G d T254 39 [(0, vR 77), (1, vI x1), (2, vI x2), (3, vI x3), (4, vI x4)] [] N (s_Q base (pI (fun v M' => HI base M' ∧ Fr [(77, 52), (103, 0), (104, 0)] M M' ∧ (-2147483648 ≤ v ∧ v ≤ 2147483647) ∧ (1 ≤ K 472 → CBX B (K 472) (pwN (K 472) (K 472).toNat) v (gi M' 103) ∧ gi M' 77 51 = K 472) ∧ (K 472 < 1 → v = -1 ∧ gi M' 77 51 = gi M 77 51 ∧ ∀ i : Int, gi M' 103 i = gi M 103 i))))) ∧ (∀ (x1 x2 x3 x4 x5 x6 : Int) (N : mH), HI base N → Fr [(77, 52), (103, 0), (104, 0)] M N → (x2 = pwN x1 x1.toNat) → (1 ≤ x2 ∧ x2 ≤ 46656) → (0 ≤ x4 ∧ x4 < x2) → (1 ≤ x1 ∧ x1 ≤ 6) → (x1 = K 472) → (CBX B x1 x4 x3 (gi N 103)) → (-1 ≤ x3 ∧ x3 ≤ 1000000) → (x5 = qdF x1 (x1 - 1 - x6).toNat x4) → (0 ≤ x5 ∧ x5 ≤ 46656) → (-1 ≤ x6 ∧ x6 ≤ x1 - 1) → (∀ i : Int, x6 < i → i < x1 → gi N 104 i = dgA x1 x1 x4 i) → (1 ≤ x1) → (x1 ≤ 6) → (1 ≤ x2) → (x2 ≤ 46656) → ((-1) ≤ x3) → (x3 ≤ 1000000) → (0 ≤ x4) → (x4 ≤ 46655) → (0 ≤ x5) → (x5 ≤ 46656) → ((-1) ≤ x6) → (x6 ≤ 5) → (x2 - x4) * 15 + 0 + (x6 + 1) * 1 + 7 < (mz : Int) → sRn base X G d T254 54 [(0, vR 77), (1, vI x1), (2, vI x2), (3, vI x3), (4, vI x4), (5, vI x5), (6, vI x6)] [] N (s_Q base (pI (fun v M' => HI base M' ∧ Fr [(77, 52), (103, 0), (104, 0)] M M' ∧ (-2147483648 ≤ v ∧ v ≤ 2147483647) ∧ (1 ≤ K 472 → CBX B (K 472) (pwN (K 472) (K 472).toNat) v (gi M' 103) ∧ gi M' 77 51 = K 472) ∧ (K 472 < 1 → v = -1 ∧ gi M' 77 51 = gi M 77 51 ∧ ∀ i : Int, gi M' 103 i = gi M 103 i))))) ∧ (∀ (x1 x2 x3 x4 x7 : Int) (N : mH), HI base N → Fr [(77, 52), (103, 0), (104, 0)] M N → (x2 = pwN x1 x1.toNat) → (1 ≤ x2 ∧ x2 ≤ 46656) → (0 ≤ x4 ∧ x4 < x2) → (1 ≤ x1 ∧ x1 ≤ 6) → (x1 = K 472) → (∃ (m0 : Int) (L0 : Int → Int), CBX B x1 x4 m0 L0 ∧ m0 < x3) → (0 ≤ x3 ∧ x3 ≤ 1000000) → (x3 = cnV B x1 x4) → (cnO B x1 x4) → (0 ≤ x7 ∧ x7 ≤ x1) → (∀ i : Int, 0 ≤ i → i < x1 → gi N 104 i = dgA x1 x1 x4 i) → (∀ i : Int, 0 ≤ i → i < x7 → gi N 103 i = dgA x1 x1 x4 i) → (1 ≤ x1) → (x1 ≤ 6) → (1 ≤ x2) → (x2 ≤ 46656) → (0 ≤ x3) → (x3 ≤ 1000000) → (0 ≤ x4) → (x4 ≤ 46655) → (0 ≤ x7) → (x7 ≤ 6) → (x2 - x4) * 15 + 0 + (x1 - x7) * 1 + 0 < (mz : Int) → sRn base X G d T254 114 [(0, vR 77), (1, vI x1), (2, vI x2), (3, vI x3), (4, vI x4), (7, vI x7)] [] N (s_Q base (pI (fun v M' => HI base M' ∧ Fr [(77, 52), (103, 0), (104, 0)] M M' ∧ (-2147483648 ≤ v ∧ v ≤ 2147483647) ∧ (1 ≤ K 472 → CBX B (K 472) (pwN (K 472) (K 472).toNat) v (gi M' 103) ∧ gi M' 77 51 = K 472) ∧ (K 472 < 1 → v = -1 ∧ gi M' 77 51 = gi M 77 51 ∧ ∀ i : Int, gi M' 103 i = gi M 103 i))))) := by
  have f0 : Fr [(77, 52), (103, 0), (104, 0)] M M := Fr.rf
  intro mz
  induction mz with
  | zero => exact ⟨fun x1 x2 x3 N _ _ z0 z1 z2 z3 z4 z5 z6 z7 z8 z9 z10 z11 => by omega, fun x1 x2 x3 x4 N _ _ z0 z1 z2 z3 z4 z5 z6 z7 z8 z9 z10 z11 z12 z13 z14 z15 => by omega, fun x1 x2 x3 x4 x5 x6 N _ _ z0 z1 z2 z3 z4 z5 z6 z7 z8 z9 z10 z11 z12 z13 z14 z15 z16 z17 z18 z19 z20 z21 z22 z23 => by omega, fun x1 x2 x3 x4 x7 N _ _ z0 z1 z2 z3 z4 z5 z6 z7 z8 z9 z10 z11 z12 z13 z14 z15 z16 z17 z18 z19 z20 z21 z22 => by omega⟩
  | succ mz ih =>
    refine ⟨?_, ?_, ?_, ?_⟩
    · intro x1 x2 x3 N HN fN i0 i1 i2 i3 i4 i5 i6 i7 i8 i9 i10 hmu
      refine s_blx (lv' := [(0, vR 77), (1, vI x1), (2, vI x2), (3, vI x3)]) (st' := [vI x1, vI x3]) B254_19_21 rfl ?_
      refine r_icmp (tgt := 34) (pc' := 24) D254_21 rfl rfl (by unfold inR; omega) (fun (c5 : x1 ≤ x3) => ?_) (fun (c5 : ¬ (x1 ≤ x3)) => ?_)
      · refine s_blx (lv' := [(4, vI 0), (3, vI (-1)), (0, vR 77), (1, vI x1), (2, vI x2)]) (st' := []) B254_34_39 rfl ?_
        refine r_loc (lv' := [(0, vR 77), (1, vI x1), (2, vI x2), (3, vI (-1)), (4, vI 0)]) ⟨rfl, rfl, rfl, rfl, rfl, trivial⟩ rfl rfl ?_
        exact ih.2.1 x1 x2 (-1) 0 N HN fN (by rw [show x1.toNat = x3.toNat by omega]; exact i0) (by omega) (by omega) (by omega) (by omega) (CBX.zero) (by omega) (by omega) (by omega) (by omega) (by omega) (by omega) (by omega) (by omega) (by omega) (by omega)
      · refine s_blx (lv' := [(3, vI (x3 + 1)), (2, vI (x2 * x1)), (0, vR 77), (1, vI x1)]) (st' := []) B254_24_31 rfl ?_
        have kpw := pwN_b (n := x1) (k := x3 + 1) (by omega) (by omega)
        rw [pwN_s (by omega), ← i0] at kpw
        refine r_goto (tgt := 19) D254_31 rfl ?_
        refine r_loc (lv' := [(0, vR 77), (1, vI x1), (2, vI (x2 * x1)), (3, vI (x3 + 1))]) ⟨rfl, rfl, rfl, rfl, trivial⟩ rfl rfl ?_
        exact ih.1 x1 (x2 * x1) (x3 + 1) N HN fN (by rw [pwN_s (by omega), ← i0]) (by have q := pwN_b (n := x1) (k := x3 + 1) (by omega) (by omega); rw [pwN_s (by omega), ← i0] at q; exact q) (by omega) (by omega) (by omega) (by omega) (by omega) (by omega) (by omega) (by omega) (by omega) (by omega)
    · intro x1 x2 x3 x4 N HN fN i0 i1 i2 i3 i4 i5 i6 i7 i8 i9 i10 i11 i12 i13 i14 hmu
      refine s_blx (lv' := [(0, vR 77), (1, vI x1), (2, vI x2), (3, vI x3), (4, vI x4)]) (st' := [vI x2, vI x4]) B254_39_42 rfl ?_
      refine r_icmp (tgt := 146) (pc' := 45) D254_42 rfl rfl (by unfold inR; omega) (fun (c6 : x2 ≤ x4) => ?_) (fun (c6 : ¬ (x2 ≤ x4)) => ?_)
      · refine s_blx (lv' := [(0, vR 77), (1, vI x1), (2, vI x2), (3, vI x3), (4, vI x4)]) (st' := [vI x1, vR 77]) B254_146_148 rfl ?_
        refine r_pint (ki := 51) (pc' := 151) D254_148 rfl pf_11_459_77 rfl HN (by unfold inR; omega) (show 0 ≤ x1 ∧ x1 ≤ 6 by omega) ?_
        intro M7 u8 H9 p10
        have f11 := fN.wr u8 rfl
        have kul := u8
        have kpl := p10
        have kcb : CBX B (K 472) (pwN (K 472) (K 472).toNat) x3 (gi M7 103) := by rw [show gi M7 103 = gi N 103 from funext fun i => kul.gi_ne (by decide) (Or.inl (by decide)), ← i4, ← i0, show x2 = x4 by omega]; exact i5
        refine s_blx (lv' := [(0, vR 77), (1, vI x1), (2, vI x2), (3, vI x3), (4, vI x4)]) (st' := [vI x3]) B254_151_152 rfl ?_
        have g12 : gi M7 77 51 = x1 := p10
        exact r_iretI D254_152 rfl (⟨H9, f11, by omega, fun _ => ⟨kcb, by rw [kpl]; exact i4⟩, fun h => by exfalso; omega⟩)
      · refine s_blx (lv' := [(6, vI (x1 - 1)), (5, vI x4), (0, vR 77), (1, vI x1), (2, vI x2), (3, vI x3), (4, vI x4)]) (st' := []) B254_45_54 rfl ?_
        refine r_loc (lv' := [(0, vR 77), (1, vI x1), (2, vI x2), (3, vI x3), (4, vI x4), (5, vI x4), (6, vI (x1 - 1))]) ⟨rfl, rfl, rfl, rfl, rfl, rfl, rfl, trivial⟩ rfl rfl ?_
        exact ih.2.2.1 x1 x2 x3 x4 x4 (x1 - 1) N HN fN (by omega) (by omega) (by omega) (by omega) (by omega) (i5) (by omega) (by rw [show (x1 - 1 - (x1 - 1)).toNat = 0 by omega]; rfl) (by omega) (by omega) (fun i a b => by omega) (by omega) (by omega) (by omega) (by omega) (by omega) (by omega) (by omega) (by omega) (by omega) (by omega) (by omega) (by omega) (by omega)
    · intro x1 x2 x3 x4 x5 x6 N HN fN i0 i1 i2 i3 i4 i5 i6 i7 i8 i9 i10 i11 i12 i13 i14 i15 i16 i17 i18 i19 i20 i21 i22 hmu
      refine s_blx (lv' := [(0, vR 77), (1, vI x1), (2, vI x2), (3, vI x3), (4, vI x4), (5, vI x5), (6, vI x6)]) (st' := [vI x6]) B254_54_56 rfl ?_
      refine r_ifc (tgt := 82) (pc' := 59) D254_56 rfl rfl (by unfold inR; omega) (fun (c13 : x6 < 0) => ?_) (fun (c13 : ¬ (x6 < 0)) => ?_)
      · refine s_blx (lv' := [(0, vR 77), (1, vI x1), (2, vI x2), (3, vI x3), (4, vI x4), (5, vI x5), (6, vI x6)]) (st' := [vI x1, vR 77]) B254_82_84 rfl ?_
        refine r_vIp (c := 77) (args := [vI x1]) (rest := []) (pc' := 87) D254_84 rfl ck_11_virtual_453 TE253 rfl (Nat.le_of_ble_eq_true rfl) ⟨Nat.le_of_ble_eq_true rfl, Nat.le_of_ble_eq_true rfl⟩ sc_77 ⟨rfl, by decide⟩ HN.1 (dp_0 hd rfl) (k253h E (dp_n hd rfl) HN x1 x4 B (by omega) (fun i a b => i10 i (by omega) b)) ?_
        intro v14 q19
        obtain ⟨q16, q17, q18⟩ := q19
        have ko1 := q17; clear q17
        have ko0 := q18; clear q18
        refine r_ifc (tgt := 93) (pc' := 90) D254_87 rfl rfl (by unfold inR; omega) (fun (c20 : v14 ≠ 0) => ?_) (fun (c20 : ¬ (v14 ≠ 0)) => ?_)
        · refine s_blx (lv' := [(0, vR 77), (1, vI x1), (2, vI x2), (3, vI x3), (4, vI x4), (5, vI x5), (6, vI x6)]) (st' := [vR 77]) B254_93_94 rfl ?_
          refine r_vIp (c := 77) (args := []) (rest := []) (pc' := 97) D254_94 rfl ck_11_virtual_456 TE252 rfl (Nat.le_of_ble_eq_true rfl) ⟨Nat.le_of_ble_eq_true rfl, Nat.le_of_ble_eq_true rfl⟩ sc_77 ⟨rfl, by decide⟩ HN.1 (dp_0 hd rfl) (k252h E (dp_n hd rfl) HN K x1 x4 B ((h0.fr fN rfl)) (by omega) (fun i a b => i10 i (by omega) b) (h1) (h2) (by omega)) ?_
          intro v21 q25
          obtain ⟨q23, q24⟩ := q25
          have kv := q23; clear q23
          refine s_blx (lv' := [(6, vI v21), (0, vR 77), (1, vI x1), (2, vI x2), (3, vI x3), (4, vI x4), (5, vI x5)]) (st' := [vI x3, vI v21]) B254_97_102 rfl ?_
          refine r_icmp (tgt := 108) (pc' := 105) D254_102 rfl rfl (by unfold inR; omega) (fun (c26 : x3 < v21) => ?_) (fun (c26 : ¬ (x3 < v21)) => ?_)
          · refine s_blx (lv' := [(7, vI 0), (3, vI v21), (6, vI v21), (0, vR 77), (1, vI x1), (2, vI x2), (4, vI x4), (5, vI x5)]) (st' := []) B254_108_114 rfl ?_
            refine r_loc (lv' := [(0, vR 77), (1, vI x1), (2, vI x2), (3, vI v21), (4, vI x4), (7, vI 0)]) ⟨rfl, rfl, rfl, rfl, rfl, rfl, trivial⟩ rfl rfl ?_
            exact ih.2.2.2 x1 x2 v21 x4 0 N HN fN (by omega) (by omega) (by omega) (by omega) (by omega) (⟨x3, gi N 103, i5, by omega⟩) (by omega) (kv) (ko1 (by omega)) (by omega) (fun i a b => i10 i (by omega) b) (fun i a b => by omega) (by omega) (by omega) (by omega) (by omega) (by omega) (by omega) (by omega) (by omega) (by omega) (by omega) (by omega)
          · refine r_goto (tgt := 140) D254_105 rfl ?_
            refine s_blx (lv' := [(4, vI (x4 + 1)), (6, vI v21), (0, vR 77), (1, vI x1), (2, vI x2), (3, vI x3), (5, vI x5)]) (st' := []) B254_140_143 rfl ?_
            refine r_goto (tgt := 39) D254_143 rfl ?_
            refine r_loc (lv' := [(0, vR 77), (1, vI x1), (2, vI x2), (3, vI x3), (4, vI (x4 + 1))]) ⟨rfl, rfl, rfl, rfl, rfl, trivial⟩ rfl rfl ?_
            exact ih.2.1 x1 x2 x3 (x4 + 1) N HN fN (by omega) (by omega) (by omega) (by omega) (by omega) (by first | exact i5.skip (by omega) (fun r a b => by rw [show r = x4 by omega]; exact ko0 (by omega)) | exact i5.pass (by rw [← kv]; omega) (by rw [← kv]; omega)) (by omega) (by omega) (by omega) (by omega) (by omega) (by omega) (by omega) (by omega) (by omega) (by omega)
        · refine r_goto (tgt := 140) D254_90 rfl ?_
          refine s_blx (lv' := [(4, vI (x4 + 1)), (0, vR 77), (1, vI x1), (2, vI x2), (3, vI x3), (5, vI x5), (6, vI x6)]) (st' := []) B254_140_143 rfl ?_
          refine r_goto (tgt := 39) D254_143 rfl ?_
          refine r_loc (lv' := [(0, vR 77), (1, vI x1), (2, vI x2), (3, vI x3), (4, vI (x4 + 1))]) ⟨rfl, rfl, rfl, rfl, rfl, trivial⟩ rfl rfl ?_
          exact ih.2.1 x1 x2 x3 (x4 + 1) N HN fN (by omega) (by omega) (by omega) (by omega) (by omega) (by first | exact i5.skip (by omega) (fun r a b => by rw [show r = x4 by omega]; exact ko0 (by omega)) | exact i5.pass (by rw [← kv]; omega) (by rw [← kv]; omega)) (by omega) (by omega) (by omega) (by omega) (by omega) (by omega) (by omega) (by omega) (by omega) (by omega)
      · refine s_blx (lv' := [(0, vR 77), (1, vI x1), (2, vI x2), (3, vI x3), (4, vI x4), (5, vI x5), (6, vI x6)]) (st' := [vR 77]) B254_59_60 rfl ?_
        refine r_gfix (r := 104) (pc' := 63) D254_60 rfl gf_11_99_77 HN.1 ?_
        refine s_blx (lv' := [(0, vR 77), (1, vI x1), (2, vI x2), (3, vI x3), (4, vI x4), (5, vI x5), (6, vI x6)]) (st' := [vI x1, vI x5, vI x6, vR 104]) B254_63_68 rfl ?_
        refine r_irem (pc' := 69) D254_68 rfl (by omega) ?_
        have r29 := Int.emod_nonneg x5 (show x1 ≠ 0 by omega)
        have r30 := Int.emod_lt_of_pos x5 (show 0 < x1 by omega)
        obtain ⟨z27, kz⟩ : ∃ q_, q_ = x5 % x1 := ⟨_, rfl⟩
        have kz := kz.symm
        rw [kz] at r29 r30 ⊢
        refine r_iast (pc' := 70) D254_69 rfl sc_104 HN (by omega) (by unfold inR; omega) (show 0 ≤ z27 ∧ z27 ≤ 5 by omega) ?_
        intro M31 u32 H33 p34
        have f35 := fN.wr u32 rfl
        have ku9 := u32
        have kp9 := p34
        have kcb : CBX B x1 x4 x3 (gi M31 103) := by rw [show gi M31 103 = gi N 103 from funext fun i => ku9.gi_ne (by omega) (Or.inl (by decide))]; exact i5
        refine s_blx (lv' := [(0, vR 77), (1, vI x1), (2, vI x2), (3, vI x3), (4, vI x4), (5, vI x5), (6, vI x6)]) (st' := [vI x1, vI x5]) B254_70_73 rfl ?_
        refine r_idiv (pc' := 74) D254_73 rfl (by omega) ?_
        have r38 := Int.ediv_nonneg (show 0 ≤ x5 by omega) (show 0 ≤ x1 by omega)
        have r39 := Int.ediv_le_self (x1) (show 0 ≤ x5 by omega)
        obtain ⟨z36, ky⟩ : ∃ q_, q_ = x5 / x1 := ⟨_, rfl⟩
        have ky := ky.symm
        rw [ky] at r38 r39 ⊢
        refine s_blx (lv' := [(6, vI (x6 + (-1))), (5, vI z36), (0, vR 77), (1, vI x1), (2, vI x2), (3, vI x3), (4, vI x4)]) (st' := []) B254_74_79 rfl ?_
        refine r_goto (tgt := 54) D254_79 rfl ?_
        refine r_loc (lv' := [(0, vR 77), (1, vI x1), (2, vI x2), (3, vI x3), (4, vI x4), (5, vI z36), (6, vI (x6 + (-1)))]) ⟨rfl, rfl, rfl, rfl, rfl, rfl, rfl, trivial⟩ rfl rfl ?_
        exact ih.2.2.1 x1 x2 x3 x4 z36 (x6 + (-1)) M31 H33 f35 (by omega) (by omega) (by omega) (by omega) (by omega) (kcb) (by omega) (by rw [show (x1 - 1 - (x6 + (-1))).toNat = (x1 - 1 - x6).toNat + 1 by omega, qdF_s, ← i7, ky]) (by omega) (by omega) (fun i a b => if e : i = x6 then (by rw [e, kp9, ← kz]; unfold dgA; rw [← i7]) else (by rw [ku9.gi_ne (by omega) (Or.inr (by omega))]; exact i10 i (by omega) b)) (by omega) (by omega) (by omega) (by omega) (by omega) (by omega) (by omega) (by omega) (by omega) (by omega) (by omega) (by omega) (by omega)
    · intro x1 x2 x3 x4 x7 N HN fN i0 i1 i2 i3 i4 i5 i6 i7 i8 i9 i10 i11 i12 i13 i14 i15 i16 i17 i18 i19 i20 i21 hmu
      refine s_blx (lv' := [(0, vR 77), (1, vI x1), (2, vI x2), (3, vI x3), (4, vI x4), (7, vI x7)]) (st' := [vI x1, vI x7]) B254_114_117 rfl ?_
      refine r_icmp (tgt := 140) (pc' := 120) D254_117 rfl rfl (by unfold inR; omega) (fun (c40 : x1 ≤ x7) => ?_) (fun (c40 : ¬ (x1 ≤ x7)) => ?_)
      · refine s_blx (lv' := [(4, vI (x4 + 1)), (0, vR 77), (1, vI x1), (2, vI x2), (3, vI x3), (7, vI x7)]) (st' := []) B254_140_143 rfl ?_
        refine r_goto (tgt := 39) D254_143 rfl ?_
        refine r_loc (lv' := [(0, vR 77), (1, vI x1), (2, vI x2), (3, vI x3), (4, vI (x4 + 1))]) ⟨rfl, rfl, rfl, rfl, rfl, trivial⟩ rfl rfl ?_
        exact ih.2.1 x1 x2 x3 (x4 + 1) N HN fN (by omega) (by omega) (by omega) (by omega) (by omega) (by obtain ⟨m0, L0, q1, q2⟩ := i5; have t := q1.take i8 (by rw [← i7]; exact q2) (by omega) (fun i a b => i11 i a (by omega)); rw [← i7] at t; exact t) (by omega) (by omega) (by omega) (by omega) (by omega) (by omega) (by omega) (by omega) (by omega) (by omega)
      · refine s_blx (lv' := [(0, vR 77), (1, vI x1), (2, vI x2), (3, vI x3), (4, vI x4), (7, vI x7)]) (st' := [vR 77]) B254_120_121 rfl ?_
        refine r_gfix (r := 103) (pc' := 124) D254_121 rfl gf_11_96_77 HN.1 ?_
        refine s_blx (lv' := [(0, vR 77), (1, vI x1), (2, vI x2), (3, vI x3), (4, vI x4), (7, vI x7)]) (st' := [vR 77, vI x7, vR 103]) B254_124_127 rfl ?_
        refine r_gfix (r := 104) (pc' := 130) D254_127 rfl gf_11_99_77 HN.1 ?_
        refine s_blx (lv' := [(0, vR 77), (1, vI x1), (2, vI x2), (3, vI x3), (4, vI x4), (7, vI x7)]) (st' := [vI x7, vR 104, vI x7, vR 103]) B254_130_132 rfl ?_
        refine r_iald (pc' := 133) D254_132 rfl sc_104 HN.1 (by omega) ?_
        intro w41 e42 r43
        have b_w41 := HN.2 104 (x7) 0 5 rfl
        rw [← e42] at b_w41; clear r43
        have kw7 := e42.trans (i10 x7 (by omega) (by omega))
        refine r_iast (pc' := 134) D254_133 rfl sc_103 HN (by omega) (by unfold inR; omega) trivial ?_
        intro M44 u45 H46 p47
        have f48 := fN.wr u45 rfl
        have ku7 := u45
        have kp7 := p47
        refine s_blx (lv' := [(7, vI (x7 + 1)), (0, vR 77), (1, vI x1), (2, vI x2), (3, vI x3), (4, vI x4)]) (st' := []) B254_134_137 rfl ?_
        refine r_goto (tgt := 114) D254_137 rfl ?_
        refine r_loc (lv' := [(0, vR 77), (1, vI x1), (2, vI x2), (3, vI x3), (4, vI x4), (7, vI (x7 + 1))]) ⟨rfl, rfl, rfl, rfl, rfl, rfl, trivial⟩ rfl rfl ?_
        exact ih.2.2.2 x1 x2 x3 x4 (x7 + 1) M44 H46 f48 (by omega) (by omega) (by omega) (by omega) (by omega) (i5) (by omega) (i7) (i8) (by omega) (fun i a b => by rw [ku7.gi_ne (by omega) (Or.inl (by decide))]; exact i10 i a b) (fun i a b => if e : i = x7 then (by rw [e, kp7, kw7]) else (by rw [ku7.gi_ne (by omega) (Or.inr (by omega))]; exact i11 i a (by omega))) (by omega) (by omega) (by omega) (by omega) (by omega) (by omega) (by omega) (by omega) (by omega) (by omega) (by omega)
set_option maxRecDepth 4000 in
theorem k254h {base : Nat} {X : Nat → Option mC} {G : Nat → Value} (E : EnvOK base X G) {d : Nat} (hd : 1 ≤ d) {M : mH} (H : HI base M) (K : Int → Int) (B : Int → Int) (h0 : KK K M) (h1 : ∀ i : Int, 0 ≤ i → i < 18 → K (391 + i) = B i) (h2 : ∀ b : Int, 0 ≤ b → b < 6 → 0 ≤ B (3 * b + 1) ∧ B (3 * b + 1) ≤ 100) : sOk base X G d T254 [vR 77] M (pI (fun v M' => HI base M' ∧ Fr [(77, 52), (103, 0), (104, 0)] M M' ∧ (-2147483648 ≤ v ∧ v ≤ 2147483647) ∧ (1 ≤ K 472 → CBX B (K 472) (pwN (K 472) (K 472).toNat) v (gi M' 103) ∧ gi M' 77 51 = K 472) ∧ (K 472 < 1 → v = -1 ∧ gi M' 77 51 = gi M 77 51 ∧ ∀ i : Int, gi M' 103 i = gi M 103 i))) := by
  have f0 : Fr [(77, 52), (103, 0), (104, 0)] M M := Fr.rf
  refine sOk.of (show sRn base X G d T254 0 [(0, vR 77)] [] M _ from ?_)
  refine s_blx (lv' := [(0, vR 77)]) (st' := [vR 77]) B254_0_1 rfl ?_
  refine r_gfix (r := 78) (pc' := 4) D254_1 rfl gf_11_13_77 H.1 ?_
  refine s_blx (lv' := [(0, vR 77)]) (st' := [vI 472, vR 78]) B254_4_7 rfl ?_
  refine r_iald (pc' := 8) D254_7 rfl sc_78 H.1 (by omega) ?_
  intro w1 e2 r3
  have kk_w1 := (h0) (472)
  have b_w1 := H.2 78 (472) 0 6 (rk_boxmany (by omega))
  rw [← e2] at b_w1; clear r3
  refine s_blx (lv' := [(1, vI w1), (0, vR 77)]) (st' := [vI w1]) B254_8_10 rfl ?_
  refine r_ifc (tgt := 15) (pc' := 13) D254_10 rfl rfl (by unfold inR; omega) (fun (c4 : w1 ≠ 0) => ?_) (fun (c4 : ¬ (w1 ≠ 0)) => ?_)
  · refine s_blx (lv' := [(3, vI 0), (2, vI 1), (1, vI w1), (0, vR 77)]) (st' := []) B254_15_19 rfl ?_
    refine r_loc (lv' := [(0, vR 77), (1, vI w1), (2, vI 1), (3, vI 0)]) ⟨rfl, rfl, rfl, rfl, trivial⟩ rfl rfl ?_
    exact (L_k254h E hd H K B h0 h1 h2 (((6 - 0) * 1 + 699855 : Int) + 1).toNat).1 w1 1 0 M H f0 (rfl) (by omega) (by omega) (by omega) (by omega) (by omega) (by omega) (by omega) (by omega) (by omega) (by omega) (by omega)
  · refine s_blx (lv' := [(1, vI w1), (0, vR 77)]) (st' := [vI (-1)]) B254_13_14 rfl ?_
    exact r_iretI D254_14 rfl (⟨H, f0, by omega, fun h => by exfalso; omega, fun h => ⟨rfl, rfl, fun _ => rfl⟩⟩)
set_option maxRecDepth 4000 in
theorem k255h {base : Nat} {X : Nat → Option mC} {G : Nat → Value} (E : EnvOK base X G) {d : Nat} (hd : 1 ≤ d) {M : mH} (H : HI base M) (i : Int) (h0 : -2147483648 ≤ i ∧ i ≤ 2147483647) : sOk base X G d T255 [vR 77, vI i] M (pI (fun v M' => M' = M ∧ (-2147483648 ≤ v ∧ v ≤ 2147483647) ∧ v = lkF (gi M 77 51) (gi M 103) i)) := by
  refine sOk.of (show sRn base X G d T255 0 [(0, vR 77), (1, vI i)] [] M _ from ?_)
  refine s_blx (lv' := [(0, vR 77), (1, vI i)]) (st' := [vR 77, vI 0, vI i]) B255_0_3 rfl ?_
  refine r_gint (ki := 51) (pc' := 6) D255_3 rfl gf_11_459_77 rfl H.1 ?_
  intro w1 e2 r3
  have b_w1 := H.2 77 (51) 0 6 rfl
  rw [← e2] at b_w1; clear r3
  have kn := e2
  refine s_blx (lv' := [(0, vR 77), (1, vI i)]) (st' := [vI (w1 - 1), vI 0, vI i]) B255_6_8 rfl ?_
  refine r_sIp (args := [vI i, vI 0, vI (w1 - 1)]) (rest := []) (pc' := 11) D255_8 rfl ck_11_static_123 TE147 rfl (Nat.le_of_ble_eq_true rfl) ⟨Nat.le_of_ble_eq_true rfl, Nat.le_of_ble_eq_true rfl⟩ (by decide) (dp_0 hd rfl) (k147 E (dp_n hd rfl) H i 0 (w1 - 1) (by omega) (by omega) (by omega)) ?_
  intro v4 q9
  obtain ⟨q6, q7, q8⟩ := q9
  have k1 := q7; clear q7
  have k0 := q8; clear q8
  refine r_ifc (tgt := 23) (pc' := 14) D255_11 rfl rfl (by unfold inR; omega) (fun (c10 : v4 = 0) => ?_) (fun (c10 : ¬ (v4 = 0)) => ?_)
  · refine s_blx (lv' := [(0, vR 77), (1, vI i)]) (st' := [vI (-1)]) B255_23_24 rfl ?_
    exact r_iretI D255_24 rfl (⟨rfl, by omega, by first | exact lkF_in (by have q := k1 (by omega); omega) ke | exact lkF_out (by have q := k0 (by omega); omega)⟩)
  · refine s_blx (lv' := [(0, vR 77), (1, vI i)]) (st' := [vR 77]) B255_14_15 rfl ?_
    refine r_gfix (r := 103) (pc' := 18) D255_15 rfl gf_11_96_77 H.1 ?_
    refine s_blx (lv' := [(0, vR 77), (1, vI i)]) (st' := [vI i, vR 103]) B255_18_19 rfl ?_
    refine r_iald (pc' := 20) D255_19 rfl sc_103 H.1 (by omega) ?_
    intro w11 e12 r13
    unfold inR at r13
    have ke := e12
    refine r_goto (tgt := 24) D255_20 rfl ?_
    exact r_iretI D255_24 rfl (⟨rfl, by omega, by first | exact lkF_in (by have q := k1 (by omega); omega) ke | exact lkF_out (by have q := k0 (by omega); omega)⟩)
set_option maxRecDepth 4000 in
theorem k258h {base : Nat} {X : Nat → Option mC} {G : Nat → Value} (E : EnvOK base X G) {d : Nat} (hd : 1 ≤ d) {M : mH} (H : HI base M) (i : Int) (h0 : -2147483648 ≤ i ∧ i ≤ 2147483647) : sOk base X G d T258 [vR 77, vI i] M (pI (fun v M' => M' = M ∧ (-2147483648 ≤ v ∧ v ≤ 2147483647) ∧ v = chF (gi M 77 55) (gi M 107) i)) := by
  refine sOk.of (show sRn base X G d T258 0 [(0, vR 77), (1, vI i)] [] M _ from ?_)
  refine s_blx (lv' := [(0, vR 77), (1, vI i)]) (st' := [vR 77]) B258_0_1 rfl ?_
  refine r_gint (ki := 55) (pc' := 4) D258_1 rfl gf_11_111_77 rfl H.1 ?_
  intro w1 e2 r3
  have b_w1 := H.2 77 (55) (-1) 120 rfl
  rw [← e2] at b_w1; clear r3
  have kn := e2
  refine s_blx (lv' := [(0, vR 77), (1, vI i)]) (st' := [vI (-1), vI w1]) B258_4_5 rfl ?_
  refine r_icmp (tgt := 22) (pc' := 8) D258_5 rfl rfl (by unfold inR; omega) (fun (c4 : w1 = (-1)) => ?_) (fun (c4 : ¬ (w1 = (-1))) => ?_)
  · refine s_blx (lv' := [(0, vR 77), (1, vI i)]) (st' := [vI (-1)]) B258_22_23 rfl ?_
    exact r_iretI D258_23 rfl (⟨rfl, by omega, by first | (by_cases ei : i = -1; exact chF_n ei (by omega); exact chF_i ei (lkF_out (by omega))) | (by_cases ei : i = -1; exact chF_n ei (by have q := k0 (by omega); omega); exact chF_i ei (lkF_out (by have q := k0 (by omega); omega)))⟩)
  · refine s_blx (lv' := [(0, vR 77), (1, vI i)]) (st' := [vR 77, vI (-1), vI i]) B258_8_11 rfl ?_
    refine r_gint (ki := 55) (pc' := 14) D258_11 rfl gf_11_111_77 rfl H.1 ?_
    intro w5 e6 r7
    have e8 : w1 = w5 := (e6.trans (e2.symm)).symm
    subst e8
    refine s_blx (lv' := [(0, vR 77), (1, vI i)]) (st' := [vI (w1 - 1), vI (-1), vI i]) B258_14_16 rfl ?_
    refine r_sIp (args := [vI i, vI (-1), vI (w1 - 1)]) (rest := []) (pc' := 19) D258_16 rfl ck_11_static_123 TE147 rfl (Nat.le_of_ble_eq_true rfl) ⟨Nat.le_of_ble_eq_true rfl, Nat.le_of_ble_eq_true rfl⟩ (by decide) (dp_0 hd rfl) (k147 E (dp_n hd rfl) H i (-1) (w1 - 1) (by omega) (by omega) (by omega)) ?_
    intro v9 q14
    obtain ⟨q11, q12, q13⟩ := q14
    have k1 := q12; clear q12
    have k0 := q13; clear q13
    refine r_ifc (tgt := 24) (pc' := 22) D258_19 rfl rfl (by unfold inR; omega) (fun (c15 : v9 ≠ 0) => ?_) (fun (c15 : ¬ (v9 ≠ 0)) => ?_)
    · refine s_blx (lv' := [(0, vR 77), (1, vI i)]) (st' := [vI (-1), vI i]) B258_24_26 rfl ?_
      refine r_icmp (tgt := 36) (pc' := 29) D258_26 rfl rfl (by unfold inR; omega) (fun (c16 : i ≠ (-1)) => ?_) (fun (c16 : ¬ (i ≠ (-1))) => ?_)
      · refine s_blx (lv' := [(0, vR 77), (1, vI i)]) (st' := [vR 77]) B258_36_37 rfl ?_
        refine r_gfix (r := 107) (pc' := 40) D258_37 rfl gf_11_108_77 H.1 ?_
        refine s_blx (lv' := [(0, vR 77), (1, vI i)]) (st' := [vI i, vR 107]) B258_40_41 rfl ?_
        refine r_iald (pc' := 42) D258_41 rfl sc_107 H.1 (by omega) ?_
        intro w17 e18 r19
        unfold inR at r19
        have ke := e18
        exact r_iretI D258_42 rfl (⟨rfl, by omega, by first | exact chF_i (by omega) (lkF_in (by have q := k1 (by omega); omega) ke) | exact chF_n (by omega) (by omega)⟩)
      · refine s_blx (lv' := [(0, vR 77), (1, vI i)]) (st' := [vR 77]) B258_29_30 rfl ?_
        refine r_gint (ki := 55) (pc' := 33) D258_30 rfl gf_11_111_77 rfl H.1 ?_
        intro w20 e21 r22
        have e23 : w1 = w20 := (e21.trans (e2.symm)).symm
        subst e23
        refine r_goto (tgt := 42) D258_33 rfl ?_
        exact r_iretI D258_42 rfl (⟨rfl, by omega, by first | exact chF_i (by omega) (lkF_in (by have q := k1 (by omega); omega) ke) | exact chF_n (by omega) (by omega)⟩)
    · refine s_blx (lv' := [(0, vR 77), (1, vI i)]) (st' := [vI (-1)]) B258_22_23 rfl ?_
      exact r_iretI D258_23 rfl (⟨rfl, by omega, by first | (by_cases ei : i = -1; exact chF_n ei (by omega); exact chF_i ei (lkF_out (by omega))) | (by_cases ei : i = -1; exact chF_n ei (by have q := k0 (by omega); omega); exact chF_i ei (lkF_out (by have q := k0 (by omega); omega)))⟩)
