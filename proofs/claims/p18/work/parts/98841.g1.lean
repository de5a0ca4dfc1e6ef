/-! The state of the class by the places of the reference; sets, sums, chances. -/
theorem sr_bt {z k : Int} (hk : 0 ≤ k ∧ k ≤ 30) : srI z k % 2 = 1 ↔ bt z k := bt_test (by unfold srI; rw [Int32.ofInt_toInt]) hk
theorem bt_and {e a b k : Int} (h : Int32.ofInt e = Int32.ofInt a &&& Int32.ofInt b) : bt e k ↔ bt a k ∧ bt b k := by
  unfold bt
  rw [h]
  show ((Int32.ofInt a).toBitVec &&& (Int32.ofInt b).toBitVec).getLsbD k.toNat = true ↔ _
  rw [BitVec.getLsbD_and, Bool.and_eq_true]
section
variable {base : Nat} {M : mH}
theorem cS_len {s : Int} (hs : 0 ≤ s ∧ s < 16) : gi M 6 s = cS 1 M (135 + 16 * s) := (cS_at (slA_l hs)).symm
theorem cS_row {s i : Int} (hs : 0 ≤ s ∧ s < 16) (hi : 0 ≤ i ∧ i < 8) : gi M 5 (s * 8 + i) = cS 1 M (135 + 16 * s + 1 + i) := by
  rw [show 135 + 16 * s + 1 + i = 136 + 16 * s + i by omega, cS_at (slA_r hs hi), show 8 * s + i = s * 8 + i by omega]
theorem cS_val {s i : Int} (hs : 0 ≤ s ∧ s < 16) (hi : 0 ≤ i ∧ i < 3) : gi M 7 (s * 3 + i) = cS 1 M (135 + 16 * s + 9 + i) := by
  rw [show 135 + 16 * s + 9 + i = 144 + 16 * s + i by omega, cS_at (slA_v hs hi), show 3 * s + i = s * 3 + i by omega]
theorem cS_who : gi M 1 5 = cS 1 M 474 := (cS_at slA_474).symm
theorem cS_many : gi M 1 10 = cS 1 M 469 := (cS_at slA_469).symm
theorem cS_wgt {s p : Int} (hs : 0 ≤ s ∧ s < 16) (hp : p = gi M 1 5) (hb : 0 ≤ p ∧ p ≤ 3) : gi M 8 (s * 4 + p) = cS 1 M (135 + 16 * s + 12 + cS 1 M 474) := by
  rw [← cS_who, ← hp, show 135 + 16 * s + 12 + p = 147 + 16 * s + p by omega, cS_at (slA_g hs ⟨hb.1, by omega⟩), show 4 * s + p = s * 4 + p by omega]
theorem SCc (H : HI base M) {s l n : Int} (hs : 0 ≤ s ∧ s < 16) (hl : 0 ≤ l ∧ l < 16) (hn : 0 ≤ n ∧ n ≤ 8) : SC (cS 1 M) l n 0 s ↔ 1 ≤ gi M 8 (s * 4 + gi M 1 5) ∧ n ≤ gi M 6 s ∧ BW 5 s (l * 8) n M := by
  have bp := H.2 1 5 0 3 rfl
  rw [cS_wgt hs rfl bp, cS_len hs]
  unfold SC BG BW
  refine ⟨fun ⟨a, b, _⟩ => ⟨a, b.1, fun i x y => ?_⟩, fun ⟨a, b, c⟩ => ⟨a, ⟨b, fun i x y => ?_⟩, fun z => absurd z.1 (by decide)⟩⟩
  · rw [cS_row hs ⟨x, by omega⟩, cS_row hl ⟨x, by omega⟩]; exact b.2 i x y
  · rw [← cS_row hs ⟨x, by omega⟩, ← cS_row hl ⟨x, by omega⟩]; exact c i x y
end
/-- the ones of a number -/
noncomputable def o1F (z : Int) : Nat → Int
  | 0 => 0
  | k + 1 => o1F z k + srI z k % 2
theorem o1F_step {z k : Int} (hk : 0 ≤ k) : o1F z (k + 1).toNat = o1F z k.toNat + srI z k % 2 := by
  rw [show (k + 1).toNat = k.toNat + 1 by omega]
  show o1F z k.toNat + srI z ((k.toNat : Nat) : Int) % 2 = _
  rw [show ((k.toNat : Nat) : Int) = k by omega]
noncomputable def usI (a k : Int) : Int := (((Int32.ofInt a).toUInt32 >>> ((Int32.ofInt k).toUInt32 &&& Int32.toUInt32 31)).toInt32).toInt
noncomputable def anI (a b : Int) : Int := (Int32.ofInt a &&& Int32.ofInt b).toInt
theorem usI_of {e a k : Int} (he : inR e) (h : Int32.ofInt e = ((Int32.ofInt a).toUInt32 >>> ((Int32.ofInt k).toUInt32 &&& Int32.toUInt32 31)).toInt32) : e = usI a k := by unfold usI; rw [← h, s_i32 he]
theorem anI_of {e a b : Int} (he : inR e) (h : Int32.ofInt e = Int32.ofInt a &&& Int32.ofInt b) : e = anI a b := by unfold anI; rw [← h, s_i32 he]
noncomputable def bcA (i : Int) : Int := i - anI (usI i 1) 1431655765
noncomputable def bcB (i : Int) : Int := anI (bcA i) 858993459 + anI (usI (bcA i) 2) 858993459
noncomputable def bcC (i : Int) : Int := anI (bcB i + usI (bcB i) 4) 252645135
noncomputable def bcD (i : Int) : Int := bcC i + usI (bcC i) 8
set_option maxRecDepth 10000 in
theorem bc_ok : ∀ k : Nat, k < 256 → (bcD k + usI (bcD k) 16) % 64 = o1F k 16 := by decide +kernel
theorem bc_on {i a b c d e z1 z2 z3 z4 : Int} (hi : 0 ≤ i ∧ i ≤ 255) (h1 : a = usI i 1) (h2 : b = anI a 1431655765) (h3 : c = anI (i - b) 858993459) (h4 : d = usI (i - b) 2) (h5 : e = anI d 858993459) (h6 : z1 = usI (c + e) 4) (h7 : z2 = anI (c + e + z1) 252645135) (h8 : z3 = usI z2 8) (h9 : z4 = usI (z2 + z3) 16) : (z2 + z3 + z4) % 64 = o1F i 16 := by
  have q := bc_ok i.toNat (by omega)
  rw [show ((i.toNat : Nat) : Int) = i by omega] at q
  rw [← q]
  subst h1 h2 h3 h4 h5 h6 h7 h8 h9
  rfl
set_option maxRecDepth 10000 in
theorem orI_256 : ∀ z : Nat, z < 256 → ∀ v : Nat, v < 8 → 0 ≤ orI z (shI 1 v) ∧ orI z (shI 1 v) < 256 := by decide +kernel
theorem vlF_b {K : Int → Int} {z slot : Int} : ∀ m : Nat, (∀ k : Nat, k < m → 0 ≤ K (135 + 16 * k + 9 + slot) ∧ K (135 + 16 * k + 9 + slot) ≤ 7) → 0 ≤ vlF K z slot m ∧ vlF K z slot m ≤ 255 := by
  intro m
  induction m with
  | zero => intro _; exact ⟨Int.le_refl _, (show (0 : Int) ≤ 255 by decide)⟩
  | succ m ih =>
    intro h
    have q := ih (fun k hk => h k (by omega))
    have w := h m (by omega)
    show 0 ≤ (if srI z (m : Int) % 2 = 1 then orI (vlF K z slot m) (shI 1 (K (135 + 16 * (m : Int) + 9 + slot))) else vlF K z slot m) ∧ (if srI z (m : Int) % 2 = 1 then orI (vlF K z slot m) (shI 1 (K (135 + 16 * (m : Int) + 9 + slot))) else vlF K z slot m) ≤ 255
    split
    · have y := orI_256 (vlF K z slot m).toNat (by omega) (K (135 + 16 * (m : Int) + 9 + slot)).toNat (by omega)
      rw [show (((vlF K z slot m).toNat : Nat) : Int) = vlF K z slot m by omega, show (((K (135 + 16 * (m : Int) + 9 + slot)).toNat : Nat) : Int) = K (135 + 16 * (m : Int) + 9 + slot) by omega] at y
      omega
    · exact q
/-- the weights of a set -/
noncomputable def wtF (K : Int → Int) (z : Int) : Nat → Int
  | 0 => 0
  | k + 1 => if srI z k % 2 = 1 then wtF K z k + K (135 + 16 * k + 12 + K 474) else wtF K z k
theorem wtF_in {K : Int → Int} {z k : Int} (hk : 0 ≤ k) (h : srI z k % 2 = 1) : wtF K z (k + 1).toNat = wtF K z k.toNat + K (135 + 16 * k + 12 + K 474) := by
  rw [show (k + 1).toNat = k.toNat + 1 by omega]
  show (if srI z ((k.toNat : Nat) : Int) % 2 = 1 then wtF K z k.toNat + K (135 + 16 * ((k.toNat : Nat) : Int) + 12 + K 474) else wtF K z k.toNat) = _
  rw [show ((k.toNat : Nat) : Int) = k by omega, if_pos h]
theorem wtF_out {K : Int → Int} {z k : Int} (hk : 0 ≤ k) (h : ¬ srI z k % 2 = 1) : wtF K z (k + 1).toNat = wtF K z k.toNat := by
  rw [show (k + 1).toNat = k.toNat + 1 by omega]
  show (if srI z ((k.toNat : Nat) : Int) % 2 = 1 then wtF K z k.toNat + K (135 + 16 * ((k.toNat : Nat) : Int) + 12 + K 474) else wtF K z k.toNat) = _
  rw [show ((k.toNat : Nat) : Int) = k by omega, if_neg h]
theorem wtF_b {K : Int → Int} {z : Int} : ∀ m : Nat, (∀ k : Nat, k < m → 0 ≤ K (135 + 16 * k + 12 + K 474) ∧ K (135 + 16 * k + 12 + K 474) ≤ 100) → 0 ≤ wtF K z m ∧ wtF K z m ≤ 100 * m ∧ ∀ k : Nat, k < m → srI z k % 2 = 1 → K (135 + 16 * k + 12 + K 474) ≤ wtF K z m := by
  intro m
  induction m with
  | zero => intro _; exact ⟨Int.le_refl _, (show (0 : Int) ≤ 100 * ((0 : Nat) : Int) by decide), fun k hk => absurd hk (by omega)⟩
  | succ m ih =>
    intro h
    obtain ⟨q1, q2, q3⟩ := ih (fun k hk => h k (by omega))
    have w := h m (by omega)
    have e : wtF K z (m + 1) = if srI z (m : Int) % 2 = 1 then wtF K z m + K (135 + 16 * (m : Int) + 12 + K 474) else wtF K z m := rfl
    rw [e]
    by_cases c : srI z (m : Int) % 2 = 1
    · rw [if_pos c]
      refine ⟨by omega, by omega, fun k hk hz => ?_⟩
      by_cases ek : k = m
      · subst ek; omega
      · have := q3 k (by omega) hz; omega
    · rw [if_neg c]
      refine ⟨q1, by omega, fun k hk hz => ?_⟩
      by_cases ek : k = m
      · subst ek; exact absurd hz c
      · exact q3 k (by omega) hz
noncomputable def wvF (K : Int → Int) (z slot val : Int) : Nat → Int
  | 0 => 0
  | k + 1 => if srI z k % 2 = 1 ∧ K (135 + 16 * k + 9 + slot) = val then wvF K z slot val k + K (135 + 16 * k + 12 + K 474) else wvF K z slot val k
theorem wvF_in {K : Int → Int} {z slot val k : Int} (hk : 0 ≤ k) (h : srI z k % 2 = 1 ∧ K (135 + 16 * k + 9 + slot) = val) : wvF K z slot val (k + 1).toNat = wvF K z slot val k.toNat + K (135 + 16 * k + 12 + K 474) := by
  rw [show (k + 1).toNat = k.toNat + 1 by omega]
  show (if srI z ((k.toNat : Nat) : Int) % 2 = 1 ∧ K (135 + 16 * ((k.toNat : Nat) : Int) + 9 + slot) = val then wvF K z slot val k.toNat + K (135 + 16 * ((k.toNat : Nat) : Int) + 12 + K 474) else wvF K z slot val k.toNat) = _
  rw [show ((k.toNat : Nat) : Int) = k by omega, if_pos h]
theorem wvF_out {K : Int → Int} {z slot val k : Int} (hk : 0 ≤ k) (h : ¬ (srI z k % 2 = 1 ∧ K (135 + 16 * k + 9 + slot) = val)) : wvF K z slot val (k + 1).toNat = wvF K z slot val k.toNat := by
  rw [show (k + 1).toNat = k.toNat + 1 by omega]
  show (if srI z ((k.toNat : Nat) : Int) % 2 = 1 ∧ K (135 + 16 * ((k.toNat : Nat) : Int) + 9 + slot) = val then wvF K z slot val k.toNat + K (135 + 16 * ((k.toNat : Nat) : Int) + 12 + K 474) else wvF K z slot val k.toNat) = _
  rw [show ((k.toNat : Nat) : Int) = k by omega, if_neg h]
theorem wt_wv {K : Int → Int} {z c slot val : Int} : ∀ m : Nat, (∀ k : Nat, k < m → (srI z k % 2 = 1 ↔ srI c k % 2 = 1 ∧ K (135 + 16 * k + 9 + slot) = val)) → wtF K z m = wvF K c slot val m := by
  intro m
  induction m with
  | zero => intro _; rfl
  | succ m ih =>
    intro h
    have q := ih (fun k hk => h k (by omega))
    have w := h m (by omega)
    show (if srI z (m : Int) % 2 = 1 then wtF K z m + K (135 + 16 * (m : Int) + 12 + K 474) else wtF K z m) = (if srI c (m : Int) % 2 = 1 ∧ K (135 + 16 * (m : Int) + 9 + slot) = val then wvF K c slot val m + K (135 + 16 * (m : Int) + 12 + K 474) else wvF K c slot val m)
    by_cases y : srI z (m : Int) % 2 = 1
    · rw [if_pos y, if_pos (w.mp y), q]
    · rw [if_neg y, if_neg (fun n => y (w.mpr n)), q]
theorem hv_in {x z b s : Int} {P : Int → Prop} (h : ∀ k : Int, 0 ≤ k → k ≤ 30 → (bt x k ↔ k < s ∧ P k)) (kq1 : Int32.ofInt b = Int32.ofInt 1 <<< (Int32.ofInt s &&& 31)) (kq2 : Int32.ofInt z = Int32.ofInt x ||| Int32.ofInt b) (hs : 0 ≤ s ∧ s ≤ 15) (hp : P s) : ∀ k : Int, 0 ≤ k → k ≤ 30 → (bt z k ↔ k < s + 1 ∧ P k) := by
  intro k h1 h2
  rw [bt_or kq2, h k h1 h2, bt_shl kq1 (by omega) (by omega)]
  constructor
  · rintro (⟨a, b⟩ | rfl)
    · exact ⟨by omega, b⟩
    · exact ⟨by omega, hp⟩
  · rintro ⟨a, b⟩
    by_cases e : k = s
    · exact Or.inr e
    · exact Or.inl ⟨by omega, b⟩
theorem hv_out {x z s : Int} {P : Int → Prop} (h : ∀ k : Int, 0 ≤ k → k ≤ 30 → (bt x k ↔ k < s ∧ P k)) (kq2 : Int32.ofInt z = Int32.ofInt x ||| Int32.ofInt 0) (hp : ¬ P s) : ∀ k : Int, 0 ≤ k → k ≤ 30 → (bt z k ↔ k < s + 1 ∧ P k) := by
  intro k h1 h2
  rw [bt_or kq2, h k h1 h2]
  constructor
  · rintro (⟨a, b⟩ | q)
    · exact ⟨by omega, b⟩
    · exact absurd q (bt_0 k)
  · rintro ⟨a, b⟩
    have e : k ≠ s := fun e => hp (e ▸ b)
    exact Or.inl ⟨by omega, b⟩
theorem od_and {K : Int → Int} {m comes hv z slot val : Int} (kh : ∀ k : Int, 0 ≤ k → k ≤ 30 → (bt hv k ↔ k < m ∧ K (135 + 16 * k + 9 + slot) = val)) (kand : Int32.ofInt z = Int32.ofInt comes &&& Int32.ofInt hv) (km : 0 ≤ m ∧ m ≤ 16) : wtF K z m.toNat = wvF K comes slot val m.toNat := by
  refine wt_wv _ (fun k hk => ?_)
  rw [sr_bt ⟨by omega, by omega⟩, bt_and kand, sr_bt ⟨by omega, by omega⟩, kh k (by omega) (by omega)]
  constructor
  · rintro ⟨a, _, b⟩; exact ⟨a, b⟩
  · rintro ⟨a, b⟩; exact ⟨a, by omega, b⟩
/-- the greatest common divisor -/
noncomputable def cdF (a b : Int) : Int := ((Nat.gcd a.toNat b.toNat : Nat) : Int)
theorem cdF_step {x y z : Int} (hx : 0 ≤ x) (hy : 1 ≤ y) (hz : x % y = z) : cdF y z = cdF x y := by
  unfold cdF
  rw [← hz, Int.toNat_emod hx (by omega), Nat.gcd_comm, ← Nat.gcd_rec, Nat.gcd_comm]
theorem cdF_0 {x : Int} (hx : 0 ≤ x) : cdF x 0 = x := by
  unfold cdF
  rw [show (0 : Int).toNat = 0 from rfl, Nat.gcd_zero_right]
  omega
theorem cdF_comm (x y : Int) : cdF x y = cdF y x := by unfold cdF; rw [Nat.gcd_comm]
theorem cdF_pos {x y : Int} (hx : 0 ≤ x) (hy : 1 ≤ y) : 1 ≤ cdF x y ∧ cdF x y ≤ y := by
  unfold cdF
  have h1 : 0 < Nat.gcd x.toNat y.toNat := Nat.gcd_pos_of_pos_right _ (by omega)
  have h2 : Nat.gcd x.toNat y.toNat ≤ y.toNat := Nat.gcd_le_right _ (by omega)
  omega
noncomputable def pwF : Nat → Int
  | 0 => 5120000
  | k + 1 => pwF k / 2
theorem pwF_step {k : Int} (hk : 0 ≤ k) : pwF (k + 1).toNat = pwF k.toNat / 2 := by
  rw [show (k + 1).toNat = k.toNat + 1 by omega]
  rfl
theorem pwF_64 : pwF 64 = 0 := by decide
/-- each step halves the product -/
theorem pw_next {a b z k : Int} (ha : 1 ≤ a) (hb : 1 ≤ b) (hz : a % b = z) (hk : 0 ≤ k) (hp : a * b ≤ pwF k.toNat) (h0 : k = 0 ∨ b < a) (hp0 : k = 0 → a ≤ 1600 ∧ b ≤ 1600) : b * z ≤ pwF (k + 1).toNat := by
  have z1 := Int.emod_nonneg a (show b ≠ 0 by omega)
  have z2 := Int.emod_lt_of_pos a (show 0 < b by omega)
  rw [hz] at z1 z2
  rw [pwF_step hk]
  by_cases e : k = 0
  · subst e
    have h := hp0 rfl
    have e1 : b * z ≤ 1600 * 1600 := Int.mul_le_mul h.2 (by omega) z1 (by decide)
    have e2 : pwF (0 : Int).toNat / 2 = 2560000 := by decide
    omega
  · have hba : b < a := by omega
    have hd := Int.emod_add_mul_ediv a b
    have q1 : 1 ≤ a / b := Int.le_ediv_of_mul_le (by omega) (by omega)
    have e1 : b * 1 ≤ b * (a / b) := Int.mul_le_mul_of_nonneg_left q1 (by omega)
    rw [hz] at hd
    have e2 : 2 * z ≤ a := by omega
    have e3 : b * (2 * z) ≤ b * a := Int.mul_le_mul_of_nonneg_left e2 (by omega)
    rw [Int.mul_left_comm, Int.mul_comm b a] at e3
    omega
theorem pw_end {a b k : Int} (ha : 1 ≤ a) (hb : 0 ≤ b) (hk : 64 ≤ k) (hk2 : k ≤ 64) (hp : a * b ≤ pwF k.toNat) : b = 0 := by
  have e : k = 64 := by omega
  subst e
  rw [show (64 : Int).toNat = 64 from rfl, pwF_64] at hp
  by_cases c : b = 0
  · exact c
  · have := Int.mul_pos (show 0 < a by omega) (show 0 < b by omega)
    omega
/-- a slot is fixed behind so many words -/
noncomputable def ON1 (K : Int → Int) (m : Nat) (s slot t : Int) : Prop := o1F (vlF K (stF K s (t + 1) 0 m) slot m) 16 = 1
noncomputable def FX (K : Int → Int) (m : Nat) (s slot v : Int) : Prop := (0 ≤ v ∧ v ≤ K (135 + 16 * s)) ∧ (∀ t : Int, 0 ≤ t → t < v → ¬ ON1 K m s slot t) ∧ (v < K (135 + 16 * s) → ON1 K m s slot v)
theorem FX.uniq {K : Int → Int} {m : Nat} {s slot v w : Int} (h : FX K m s slot v) (q : FX K m s slot w) : v = w := by
  obtain ⟨a, b, c⟩ := h
  obtain ⟨d, e, f⟩ := q
  by_cases x : v < w
  · exact absurd (c (by omega)) (e v a.1 x)
  by_cases y : w < v
  · exact absurd (f (by omega)) (b w d.1 y)
  omega
theorem FX.ex {K : Int → Int} {m : Nat} {s slot : Int} (h : 0 ≤ K (135 + 16 * s)) : ∃ v, FX K m s slot v := by
  have key : ∀ n : Nat, (∃ v : Int, 0 ≤ v ∧ v < n ∧ ON1 K m s slot v ∧ ∀ t : Int, 0 ≤ t → t < v → ¬ ON1 K m s slot t) ∨ ∀ t : Int, 0 ≤ t → t < n → ¬ ON1 K m s slot t := by
    intro n
    induction n with
    | zero => exact Or.inr (fun t a b => by omega)
    | succ n ih =>
      rcases ih with ⟨v, a, b, c, d⟩ | ih
      · exact Or.inl ⟨v, a, by omega, c, d⟩
      · by_cases c : ON1 K m s slot n
        · exact Or.inl ⟨n, by omega, by omega, c, ih⟩
        · exact Or.inr (fun t a b => if e : t = n then (by rw [e]; exact c) else ih t a (by omega))
  rcases key (K (135 + 16 * s)).toNat with ⟨v, a, b, c, d⟩ | q
  · exact ⟨v, ⟨a, by omega⟩, d, fun _ => c⟩
  · exact ⟨K (135 + 16 * s), ⟨h, Int.le_refl _⟩, fun t a b => q t a (by omega), fun y => absurd y (by omega)⟩
noncomputable abbrev SPN (K : Int → Int) (s : Int) : Prop := (0 ≤ s ∧ s < K 469) ∧ 1 ≤ K (135 + 16 * s + 12 + K 474)
noncomputable def fxV (K : Int → Int) (s slot : Int) : Int := by classical exact if (0 ≤ slot ∧ slot ≤ 2) ∧ SPN K s then Classical.epsilon (fun v => FX K (K 469).toNat s slot v) else -1
theorem fxV.of {K : Int → Int} {s slot v : Int} (h0 : ¬ ((0 ≤ slot ∧ slot ≤ 2) ∧ SPN K s) → v = -1) (h1 : (0 ≤ slot ∧ slot ≤ 2) ∧ SPN K s → FX K (K 469).toNat s slot v) : v = fxV K s slot := by
  unfold fxV
  by_cases c : (0 ≤ slot ∧ slot ≤ 2) ∧ SPN K s
  · rw [if_pos c]
    exact (h1 c).uniq (Classical.epsilon_spec (p := fun v => FX K (K 469).toNat s slot v) ⟨v, h1 c⟩)
  · rw [if_neg c]; exact h0 c
noncomputable abbrev ODc (K : Int → Int) (s n slot val part : Int) : Prop := (0 ≤ s ∧ s < K 469) ∧ (0 ≤ n ∧ n ≤ K (135 + 16 * s)) ∧ (0 ≤ slot ∧ slot ≤ 2) ∧ (0 ≤ val ∧ val ≤ 7) ∧ (0 ≤ part ∧ part ≤ 1)
noncomputable def odA (K : Int → Int) (s n : Int) : Int := wtF K (stF K s n 0 (K 469).toNat) (K 469).toNat
noncomputable def odB (K : Int → Int) (s n slot val : Int) : Int := wvF K (stF K s n 0 (K 469).toNat) slot val (K 469).toNat
noncomputable def odV (K : Int → Int) (s n slot val part : Int) : Int := by classical exact if ODc K s n slot val part ∧ odA K s n ≠ 0 then (if part = 0 then odB K s n slot val else odA K s n) / cdF (odA K s n) (odB K s n slot val) else -1
theorem odV_of {K : Int → Int} {s n slot val part z m A B : Int} (hm : K 469 = m) (hA : A = wtF K (stF K s n 0 m.toNat) m.toNat) (hB : B = wvF K (stF K s n 0 m.toNat) slot val m.toNat) (hc : ODc K s n slot val part) (h0 : A ≠ 0) (hz : (if part = 0 then B else A) / cdF A B = z) : z = odV K s n slot val part := by
  subst hm
  have a : odA K s n = A := hA.symm
  have b : odB K s n slot val = B := hB.symm
  unfold odV
  rw [if_pos (show ODc K s n slot val part ∧ odA K s n ≠ 0 from ⟨hc, by rw [a]; exact h0⟩), a, b]
  exact hz.symm
theorem stF_none {K : Int → Int} {l n o : Int} : ∀ m : Nat, (∀ k : Nat, k < m → ¬ SC K l n o k) → stF K l n o m = 0 := by
  intro m
  induction m with
  | zero => intro _; rfl
  | succ m ih =>
    intro h
    show (@ite _ (SC K l n o (m : Int)) (Classical.propDecidable _) (orI (stF K l n o m) (shI 1 (m : Int))) (stF K l n o m)) = 0
    rw [if_neg (h m (by omega))]
    exact ih (fun k hk => h k (by omega))
theorem wtF_z {K : Int → Int} : ∀ m : Nat, m ≤ 16 → wtF K 0 m = 0 := by
  intro m
  induction m with
  | zero => intro _; rfl
  | succ m ih =>
    intro hm
    show (if srI 0 (m : Int) % 2 = 1 then wtF K 0 m + K (135 + 16 * (m : Int) + 12 + K 474) else wtF K 0 m) = 0
    rw [if_neg (fun h => absurd ((sr_bt ⟨by omega, by omega⟩).mp h) (bt_0 _))]
    exact ih (by omega)
/-- a set weighs nothing just if there is nothing in it -/
theorem st_wt {K : Int → Int} {l n o : Int} (m : Nat) (hm : m ≤ 16) (hK : ∀ k : Nat, k < m → 0 ≤ K (135 + 16 * k + 12 + K 474) ∧ K (135 + 16 * k + 12 + K 474) ≤ 100) : stF K l n o m = 0 ↔ wtF K (stF K l n o m) m = 0 := by
  constructor
  · intro h; rw [h]; exact wtF_z m hm
  · intro h
    refine stF_none m (fun k hk hs => ?_)
    have b := (stF_bt (K := K) (l := l) (n := n) (o := o) m hm k (by omega) (by omega)).mpr ⟨by omega, hs⟩
    have q := (wtF_b (z := stF K l n o m) m hK).2.2 k hk ((sr_bt ⟨by omega, by omega⟩).mpr b)
    have := hs.1
    omega
/-! What depends on the places of the state alone. -/
section
variable {K K' : Int → Int}
theorem SC_cong (e : ∀ j, dAs j → K j = K' j) (p : 0 ≤ K 474 ∧ K 474 ≤ 3) {l n o s : Int} (hs : 0 ≤ s ∧ s < 16) (hl : 0 ≤ l ∧ l < 16) (hn : n ≤ 8) : SC K l n o s ↔ SC K' l n o s := by
  have e1 : K' 474 = K 474 := (e 474 (by unfold dAs; omega)).symm
  unfold SC BG
  rw [e1, ← e (135 + 16 * s + 12 + K 474) (by unfold dAs; omega), ← e (135 + 16 * s) (by unfold dAs; omega)]
  refine ⟨fun ⟨a, b, c⟩ => ⟨a, ⟨b.1, fun i x y => ?_⟩, c⟩, fun ⟨a, b, c⟩ => ⟨a, ⟨b.1, fun i x y => ?_⟩, c⟩⟩
  · rw [← e _ (by unfold dAs; omega), ← e _ (by unfold dAs; omega)]; exact b.2 i x y
  · rw [e _ (by unfold dAs; omega), e _ (by unfold dAs; omega)]; exact b.2 i x y
theorem stF_cong (e : ∀ j, dAs j → K j = K' j) (p : 0 ≤ K 474 ∧ K 474 ≤ 3) {l n o : Int} (hl : 0 ≤ l ∧ l < 16) (hn : n ≤ 8) : ∀ m : Nat, m ≤ 16 → stF K l n o m = stF K' l n o m := by
  intro m
  induction m with
  | zero => intro _; rfl
  | succ m ih =>
    intro hm
    have c := SC_cong e p (l := l) (n := n) (o := o) (s := (m : Int)) ⟨by omega, by omega⟩ hl hn
    show (@ite _ (SC K l n o (m : Int)) (Classical.propDecidable _) (orI (stF K l n o m) (shI 1 (m : Int))) (stF K l n o m)) = (@ite _ (SC K' l n o (m : Int)) (Classical.propDecidable _) (orI (stF K' l n o m) (shI 1 (m : Int))) (stF K' l n o m))
    rw [← ih (by omega)]
    by_cases h : SC K l n o (m : Int)
    · rw [if_pos h, if_pos (c.mp h)]
    · rw [if_neg h, if_neg (fun y => h (c.mpr y))]
theorem vlF_cong (e : ∀ j, dAs j → K j = K' j) {z slot : Int} (hs : 0 ≤ slot ∧ slot ≤ 2) : ∀ m : Nat, m ≤ 16 → vlF K z slot m = vlF K' z slot m := by
  intro m
  induction m with
  | zero => intro _; rfl
  | succ m ih =>
    intro hm
    show (if srI z (m : Int) % 2 = 1 then orI (vlF K z slot m) (shI 1 (K (135 + 16 * (m : Int) + 9 + slot))) else vlF K z slot m) = (if srI z (m : Int) % 2 = 1 then orI (vlF K' z slot m) (shI 1 (K' (135 + 16 * (m : Int) + 9 + slot))) else vlF K' z slot m)
    rw [← ih (by omega), ← e (135 + 16 * (m : Int) + 9 + slot) (by unfold dAs; omega)]
theorem wtF_cong (e : ∀ j, dAs j → K j = K' j) (p : 0 ≤ K 474 ∧ K 474 ≤ 3) {z : Int} : ∀ m : Nat, m ≤ 16 → wtF K z m = wtF K' z m := by
  have e1 : K' 474 = K 474 := (e 474 (by unfold dAs; omega)).symm
  intro m
  induction m with
  | zero => intro _; rfl
  | succ m ih =>
    intro hm
    show (if srI z (m : Int) % 2 = 1 then wtF K z m + K (135 + 16 * (m : Int) + 12 + K 474) else wtF K z m) = (if srI z (m : Int) % 2 = 1 then wtF K' z m + K' (135 + 16 * (m : Int) + 12 + K' 474) else wtF K' z m)
    rw [← ih (by omega), e1, ← e (135 + 16 * (m : Int) + 12 + K 474) (by unfold dAs; omega)]
theorem wvF_cong (e : ∀ j, dAs j → K j = K' j) (p : 0 ≤ K 474 ∧ K 474 ≤ 3) {z slot val : Int} (hs : 0 ≤ slot ∧ slot ≤ 2) : ∀ m : Nat, m ≤ 16 → wvF K z slot val m = wvF K' z slot val m := by
  have e1 : K' 474 = K 474 := (e 474 (by unfold dAs; omega)).symm
  intro m
  induction m with
  | zero => intro _; rfl
  | succ m ih =>
    intro hm
    show (if srI z (m : Int) % 2 = 1 ∧ K (135 + 16 * (m : Int) + 9 + slot) = val then wvF K z slot val m + K (135 + 16 * (m : Int) + 12 + K 474) else wvF K z slot val m) = (if srI z (m : Int) % 2 = 1 ∧ K' (135 + 16 * (m : Int) + 9 + slot) = val then wvF K' z slot val m + K' (135 + 16 * (m : Int) + 12 + K' 474) else wvF K' z slot val m)
    rw [← ih (by omega), e1, ← e (135 + 16 * (m : Int) + 12 + K 474) (by unfold dAs; omega), ← e (135 + 16 * (m : Int) + 9 + slot) (by unfold dAs; omega)]
theorem SPN_cong (e : ∀ j, dAs j → K j = K' j) (p : 0 ≤ K 474 ∧ K 474 ≤ 3) (q : K 469 ≤ 16) {s : Int} : SPN K s ↔ SPN K' s := by
  have e1 : K' 474 = K 474 := (e 474 (by unfold dAs; omega)).symm
  have e2 : K' 469 = K 469 := (e 469 (by unfold dAs; omega)).symm
  unfold SPN
  rw [e1, e2]
  constructor
  · rintro ⟨a, b⟩; exact ⟨a, by rw [← e _ (by unfold dAs; omega)]; exact b⟩
  · rintro ⟨a, b⟩; exact ⟨a, by rw [e _ (by unfold dAs; omega)]; exact b⟩
theorem fxV_cong (e : ∀ j, dAs j → K j = K' j) (p : 0 ≤ K 474 ∧ K 474 ≤ 3) (q : 0 ≤ K 469 ∧ K 469 ≤ 16) (hl : ∀ s : Int, 0 ≤ s → s < 16 → 0 ≤ K (135 + 16 * s) ∧ K (135 + 16 * s) ≤ 8) (s slot : Int) : fxV K s slot = fxV K' s slot := by
  have e2 : K' 469 = K 469 := (e 469 (by unfold dAs; omega)).symm
  have c := SPN_cong e p q.2 (s := s)
  refine fxV.of (fun h => ?_) (fun h => ?_)
  · unfold fxV; rw [if_neg (fun y => h ⟨y.1, c.mp y.2⟩)]
  · have hK : (0 ≤ slot ∧ slot ≤ 2) ∧ SPN K s := ⟨h.1, c.mpr h.2⟩
    have hs : 0 ≤ s ∧ s < 16 := by have := hK.2.1; omega
    have el : K' (135 + 16 * s) = K (135 + 16 * s) := (e _ (by unfold dAs; omega)).symm
    have on : ∀ t : Int, 0 ≤ t → t < K (135 + 16 * s) → (ON1 K (K 469).toNat s slot t ↔ ON1 K' (K 469).toNat s slot t) := fun t a b => by
      have := hl s hs.1 hs.2
      unfold ON1
      rw [← stF_cong e p hs (n := t + 1) (o := 0) (by omega) _ (by omega), ← vlF_cong e h.1 _ (by omega)]
    rw [e2]
    -- both say the same of every number
    have key : ∀ v : Int, FX K (K 469).toNat s slot v ↔ FX K' (K 469).toNat s slot v := fun v => by
      unfold FX
      rw [el]
      constructor
      · rintro ⟨a, b, d⟩; exact ⟨a, fun t x y z => b t x y ((on t x (by omega)).mpr z), fun y => (on v a.1 y).mp (d y)⟩
      · rintro ⟨a, b, d⟩; exact ⟨a, fun t x y z => b t x y ((on t x (by omega)).mp z), fun y => (on v a.1 y).mpr (d y)⟩
    refine (key _).mp ?_
    unfold fxV
    rw [if_pos hK]
    exact Classical.epsilon_spec (p := fun v => FX K (K 469).toNat s slot v) (FX.ex (hl s hs.1 hs.2).1)
theorem odV_cong (e : ∀ j, dAs j → K j = K' j) (p : 0 ≤ K 474 ∧ K 474 ≤ 3) (q : 0 ≤ K 469 ∧ K 469 ≤ 16) (hl : ∀ s : Int, 0 ≤ s → s < 16 → 0 ≤ K (135 + 16 * s) ∧ K (135 + 16 * s) ≤ 8) (s n slot val part : Int) : odV K s n slot val part = odV K' s n slot val part := by
  have e2 : K' 469 = K 469 := (e 469 (by unfold dAs; omega)).symm
  unfold odV
  by_cases hs : 0 ≤ s ∧ s < K 469
  · have el : K' (135 + 16 * s) = K (135 + 16 * s) := (e _ (by unfold dAs; omega)).symm
    by_cases hn : ODc K s n slot val part
    · have hn2 : ODc K' s n slot val part := by unfold ODc at hn ⊢; rw [e2, el]; exact hn
      have hls := hl s hs.1 (by omega)
      have es := stF_cong e p (l := s) (n := n) (o := 0) ⟨hs.1, by omega⟩ (by have := hn.2.1; omega) (K 469).toNat (by omega)
      have ea : odA K' s n = odA K s n := by unfold odA; rw [e2, ← es, ← wtF_cong e p _ (by omega)]
      have eb : odB K' s n slot val = odB K s n slot val := by unfold odB; rw [e2, ← es, ← wvF_cong e p hn.2.2.1 _ (by omega)]
      rw [ea, eb]
      by_cases h0 : odA K s n ≠ 0
      · rw [if_pos (show ODc K s n slot val part ∧ odA K s n ≠ 0 from ⟨hn, h0⟩), if_pos (show ODc K' s n slot val part ∧ odA K s n ≠ 0 from ⟨hn2, h0⟩)]
      · rw [if_neg (show ¬ (ODc K s n slot val part ∧ odA K s n ≠ 0) from fun y => h0 y.2), if_neg (show ¬ (ODc K' s n slot val part ∧ odA K s n ≠ 0) from fun y => h0 y.2)]
    · have hn2 : ¬ ODc K' s n slot val part := fun y => hn (by unfold ODc at y ⊢; rw [e2, el] at y; exact y)
      rw [if_neg (show ¬ (ODc K s n slot val part ∧ odA K s n ≠ 0) from fun y => hn y.1), if_neg (show ¬ (ODc K' s n slot val part ∧ odA K' s n ≠ 0) from fun y => hn2 y.1)]
  · rw [if_neg (show ¬ (ODc K s n slot val part ∧ odA K s n ≠ 0) from fun y => hs y.1.1), if_neg (show ¬ (ODc K' s n slot val part ∧ odA K' s n ≠ 0) from fun y => hs (by rw [← e2]; exact y.1.1))]
end

set_option maxRecDepth 4000 in
theorem L_k70_1g {base : Nat} {X : Nat → Option mC} {G : Nat → Value} (E : EnvOK base X G) {d : Nat} (hd : 1 ≤ d) {M : mH} (H : HI base M) (sentence : Int) (n : Int) (h0 : 0 ≤ sentence ∧ sentence ≤ 15) (h1 : 0 ≤ n ∧ n ≤ 8) : ∀ mz : Nat, (∀ (x3 x4 : Int), (x3 = stF (cS 1 M) sentence n 0 x4.toNat) → (-2147483648 ≤ x3 ∧ x3 ≤ 2147483647) → (x4 ≤ gi M 1 10) → ((-2147483648) ≤ x3) → (x3 ≤ 2147483647) → (0 ≤ x4) → (x4 ≤ 16) → (16 - x4) * 1 + 0 < (mz : Int) → sRn base X G d T70 5 [(0, vR 1), (1, vI sentence), (2, vI n), (3, vI x3), (4, vI x4)] [] M (s_Q base (pI (fun v M' => M' = M ∧ (-2147483648 ≤ v ∧ v ≤ 2147483647) ∧ v = stF (cS 1 M) sentence n 0 (gi M 1 10).toNat)))) := by
  intro mz
  induction mz with
  | zero => exact fun x3 x4 z0 z1 z2 z3 z4 z5 z6 z7 => by omega
  | succ mz ih =>
    intro x3 x4 i0 i1 i2 i3 i4 i5 i6 hmu
    refine s_blx (lv' := [(0, vR 1), (1, vI sentence), (2, vI n), (3, vI x3), (4, vI x4)]) (st' := [vR 1, vI x4]) B70_5_8 rfl ?_
    refine r_gint (ki := 10) (pc' := 11) D70_8 rfl gf_8_43_1 rfl H.1 ?_
    intro w1 e2 r3
    have b_w1 := H.2 1 (10) 0 16 rfl
    rw [← e2] at b_w1; clear r3
    refine r_icmp (tgt := 65) (pc' := 14) D70_11 rfl rfl (by unfold inR; omega) (fun (c4 : w1 ≤ x4) => ?_) (fun (c4 : ¬ (w1 ≤ x4)) => ?_)
    · refine s_blx (lv' := [(0, vR 1), (1, vI sentence), (2, vI n), (3, vI x3), (4, vI x4)]) (st' := [vI x3]) B70_65_66 rfl ?_
      exact r_iretI D70_66 rfl (⟨rfl, by omega, by rw [show gi M 1 10 = x4 by omega]; exact i0⟩)
    · refine s_blx (lv' := [(0, vR 1), (1, vI sentence), (2, vI n), (3, vI x3), (4, vI x4)]) (st' := [vI x4, vR 1]) B70_14_17 rfl ?_
      refine r_vIp (c := 1) (args := [vI x4]) (rest := []) (pc' := 20) D70_17 rfl ck_8_virtual_84 TE67 rfl (Nat.le_of_ble_eq_true rfl) ⟨Nat.le_of_ble_eq_true rfl, Nat.le_of_ble_eq_true rfl⟩ sc_1 ⟨rfl, by decide⟩ H.1 (dp_0 hd rfl) (k67_1x E (dp_n hd rfl) H x4 (by omega)) ?_
      intro v5 q11
      obtain ⟨q7, q8, q9, q10⟩ := q11
      have ks := q9; clear q9
      have kns := q10; clear q10
      refine r_ifc (tgt := 59) (pc' := 23) D70_20 rfl rfl (by unfold inR; omega) (fun (c12 : v5 = 0) => ?_) (fun (c12 : ¬ (v5 = 0)) => ?_)
      · refine s_blx (lv' := [(4, vI (x4 + 1)), (0, vR 1), (1, vI sentence), (2, vI n), (3, vI x3)]) (st' := []) B70_59_62 rfl ?_
        refine r_goto (tgt := 5) D70_62 rfl ?_
        refine r_loc (lv' := [(0, vR 1), (1, vI sentence), (2, vI n), (3, vI x3), (4, vI (x4 + 1))]) ⟨rfl, rfl, rfl, rfl, rfl, trivial⟩ rfl rfl ?_
        exact ih x3 (x4 + 1) (by first | (rw [stF_in (by omega) ((SCc H ⟨by omega, by omega⟩ ⟨by omega, by omega⟩ ⟨by omega, by omega⟩).mpr ⟨(ks (by omega)).2.2, by omega, kb1 (by omega)⟩), ← i0, ← shI_of (by unfold inR; omega) kq1]; exact orI_of (by unfold inR; omega) kq2) | (rw [stF_out (by omega) (fun h => kb0 (by omega) ((SCc H ⟨by omega, by omega⟩ ⟨by omega, by omega⟩ ⟨by omega, by omega⟩).mp h).2.2)]; exact i0) | (rw [stF_out (by omega) (fun h => by have q := ((SCc H ⟨by omega, by omega⟩ ⟨by omega, by omega⟩ ⟨by omega, by omega⟩).mp h).2.1; omega)]; exact i0) | (rw [stF_out (by omega) (fun h => kns (by omega) ⟨by omega, by omega, ((SCc H ⟨by omega, by omega⟩ ⟨by omega, by omega⟩ ⟨by omega, by omega⟩).mp h).1⟩)]; exact i0)) (by omega) (by omega) (by omega) (by omega) (by omega) (by omega) (by omega)
      · refine s_blx (lv' := [(0, vR 1), (1, vI sentence), (2, vI n), (3, vI x3), (4, vI x4)]) (st' := [vR 1]) B70_23_24 rfl ?_
        refine r_gfix (r := 6) (pc' := 27) D70_24 rfl gf_8_34_1 H.1 ?_
        refine s_blx (lv' := [(0, vR 1), (1, vI sentence), (2, vI n), (3, vI x3), (4, vI x4)]) (st' := [vI x4, vR 6]) B70_27_29 rfl ?_
        refine r_iald (pc' := 30) D70_29 rfl sc_6 H.1 (by omega) ?_
        intro w13 e14 r15
        have b_w13 := H.2 6 (x4) 0 8 rfl
        rw [← e14] at b_w13; clear r15
        refine s_blx (lv' := [(0, vR 1), (1, vI sentence), (2, vI n), (3, vI x3), (4, vI x4)]) (st' := [vI n, vI w13]) B70_30_31 rfl ?_
        refine r_icmp (tgt := 59) (pc' := 34) D70_31 rfl rfl (by unfold inR; omega) (fun (c16 : w13 < n) => ?_) (fun (c16 : ¬ (w13 < n)) => ?_)
        · refine s_blx (lv' := [(4, vI (x4 + 1)), (0, vR 1), (1, vI sentence), (2, vI n), (3, vI x3)]) (st' := []) B70_59_62 rfl ?_
          refine r_goto (tgt := 5) D70_62 rfl ?_
          refine r_loc (lv' := [(0, vR 1), (1, vI sentence), (2, vI n), (3, vI x3), (4, vI (x4 + 1))]) ⟨rfl, rfl, rfl, rfl, rfl, trivial⟩ rfl rfl ?_
          exact ih x3 (x4 + 1) (by first | (rw [stF_in (by omega) ((SCc H ⟨by omega, by omega⟩ ⟨by omega, by omega⟩ ⟨by omega, by omega⟩).mpr ⟨(ks (by omega)).2.2, by omega, kb1 (by omega)⟩), ← i0, ← shI_of (by unfold inR; omega) kq1]; exact orI_of (by unfold inR; omega) kq2) | (rw [stF_out (by omega) (fun h => kb0 (by omega) ((SCc H ⟨by omega, by omega⟩ ⟨by omega, by omega⟩ ⟨by omega, by omega⟩).mp h).2.2)]; exact i0) | (rw [stF_out (by omega) (fun h => by have q := ((SCc H ⟨by omega, by omega⟩ ⟨by omega, by omega⟩ ⟨by omega, by omega⟩).mp h).2.1; omega)]; exact i0) | (rw [stF_out (by omega) (fun h => kns (by omega) ⟨by omega, by omega, ((SCc H ⟨by omega, by omega⟩ ⟨by omega, by omega⟩ ⟨by omega, by omega⟩).mp h).1⟩)]; exact i0)) (by omega) (by omega) (by omega) (by omega) (by omega) (by omega) (by omega)
        · refine s_blx (lv' := [(0, vR 1), (1, vI sentence), (2, vI n), (3, vI x3), (4, vI x4)]) (st' := [vR 1, vI x4, vR 1]) B70_34_38 rfl ?_
          refine r_gfix (r := 5) (pc' := 41) D70_38 rfl gf_8_31_1 H.1 ?_
          refine s_blx (lv' := [(0, vR 1), (1, vI sentence), (2, vI n), (3, vI x3), (4, vI x4)]) (st' := [vI n, vI (sentence * 8), vR 5, vI x4, vR 1]) B70_41_46 rfl ?_
          refine r_vIp (c := 1) (args := [vI x4, vR 5, vI (sentence * 8), vI n]) (rest := []) (pc' := 49) D70_46 rfl ck_8_virtual_76 TE71 rfl (Nat.le_of_ble_eq_true rfl) ⟨Nat.le_of_ble_eq_true rfl, Nat.le_of_ble_eq_true rfl⟩ sc_1 ⟨rfl, by decide⟩ H.1 (dp_0 hd rfl) (k71_1_5n E (dp_n hd rfl) H x4 (sentence * 8) n (by omega) (by omega) (by omega)) ?_
          intro v17 q22
          obtain ⟨q19, q20, q21⟩ := q22
          have kb1 := q20; clear q20
          have kb0 := q21; clear q21
          refine r_ifc (tgt := 59) (pc' := 52) D70_49 rfl rfl (by unfold inR; omega) (fun (c23 : v17 = 0) => ?_) (fun (c23 : ¬ (v17 = 0)) => ?_)
          · refine s_blx (lv' := [(4, vI (x4 + 1)), (0, vR 1), (1, vI sentence), (2, vI n), (3, vI x3)]) (st' := []) B70_59_62 rfl ?_
            refine r_goto (tgt := 5) D70_62 rfl ?_
            refine r_loc (lv' := [(0, vR 1), (1, vI sentence), (2, vI n), (3, vI x3), (4, vI (x4 + 1))]) ⟨rfl, rfl, rfl, rfl, rfl, trivial⟩ rfl rfl ?_
            exact ih x3 (x4 + 1) (by first | (rw [stF_in (by omega) ((SCc H ⟨by omega, by omega⟩ ⟨by omega, by omega⟩ ⟨by omega, by omega⟩).mpr ⟨(ks (by omega)).2.2, by omega, kb1 (by omega)⟩), ← i0, ← shI_of (by unfold inR; omega) kq1]; exact orI_of (by unfold inR; omega) kq2) | (rw [stF_out (by omega) (fun h => kb0 (by omega) ((SCc H ⟨by omega, by omega⟩ ⟨by omega, by omega⟩ ⟨by omega, by omega⟩).mp h).2.2)]; exact i0) | (rw [stF_out (by omega) (fun h => by have q := ((SCc H ⟨by omega, by omega⟩ ⟨by omega, by omega⟩ ⟨by omega, by omega⟩).mp h).2.1; omega)]; exact i0) | (rw [stF_out (by omega) (fun h => kns (by omega) ⟨by omega, by omega, ((SCc H ⟨by omega, by omega⟩ ⟨by omega, by omega⟩ ⟨by omega, by omega⟩).mp h).1⟩)]; exact i0)) (by omega) (by omega) (by omega) (by omega) (by omega) (by omega) (by omega)
          · refine s_blx (lv' := [(0, vR 1), (1, vI sentence), (2, vI n), (3, vI x3), (4, vI x4)]) (st' := [vI x4, vI 1, vI x3]) B70_52_56 rfl ?_
            refine r_bin (pc' := 57) D70_56 rfl rfl ?_
            intro z24 r25 kq1; unfold inR at r25
            refine r_bin (pc' := 58) D70_57 rfl rfl ?_
            intro z26 r27 kq2; unfold inR at r27
            refine s_blx (lv' := [(4, vI (x4 + 1)), (3, vI z26), (0, vR 1), (1, vI sentence), (2, vI n)]) (st' := []) B70_58_62 rfl ?_
            refine r_goto (tgt := 5) D70_62 rfl ?_
            refine r_loc (lv' := [(0, vR 1), (1, vI sentence), (2, vI n), (3, vI z26), (4, vI (x4 + 1))]) ⟨rfl, rfl, rfl, rfl, rfl, trivial⟩ rfl rfl ?_
            exact ih z26 (x4 + 1) (by first | (rw [stF_in (by omega) ((SCc H ⟨by omega, by omega⟩ ⟨by omega, by omega⟩ ⟨by omega, by omega⟩).mpr ⟨(ks (by omega)).2.2, by omega, kb1 (by omega)⟩), ← i0, ← shI_of (by unfold inR; omega) kq1]; exact orI_of (by unfold inR; omega) kq2) | (rw [stF_out (by omega) (fun h => kb0 (by omega) ((SCc H ⟨by omega, by omega⟩ ⟨by omega, by omega⟩ ⟨by omega, by omega⟩).mp h).2.2)]; exact i0) | (rw [stF_out (by omega) (fun h => by have q := ((SCc H ⟨by omega, by omega⟩ ⟨by omega, by omega⟩ ⟨by omega, by omega⟩).mp h).2.1; omega)]; exact i0) | (rw [stF_out (by omega) (fun h => kns (by omega) ⟨by omega, by omega, ((SCc H ⟨by omega, by omega⟩ ⟨by omega, by omega⟩ ⟨by omega, by omega⟩).mp h).1⟩)]; exact i0)) (by omega) (by omega) (by omega) (by omega) (by omega) (by omega) (by omega)
set_option maxRecDepth 4000 in
theorem k70_1g {base : Nat} {X : Nat → Option mC} {G : Nat → Value} (E : EnvOK base X G) {d : Nat} (hd : 1 ≤ d) {M : mH} (H : HI base M) (sentence : Int) (n : Int) (h0 : 0 ≤ sentence ∧ sentence ≤ 15) (h1 : 0 ≤ n ∧ n ≤ 8) : sOk base X G d T70 [vR 1, vI sentence, vI n] M (pI (fun v M' => M' = M ∧ (-2147483648 ≤ v ∧ v ≤ 2147483647) ∧ v = stF (cS 1 M) sentence n 0 (gi M 1 10).toNat)) := by
  refine sOk.of (show sRn base X G d T70 0 [(0, vR 1), (1, vI sentence), (2, vI n)] [] M _ from ?_)
  have km := H.2 1 10 0 16 rfl
  refine s_blx (lv' := [(4, vI 0), (3, vI 0), (0, vR 1), (1, vI sentence), (2, vI n)]) (st' := []) B70_0_5 rfl ?_
  refine r_loc (lv' := [(0, vR 1), (1, vI sentence), (2, vI n), (3, vI 0), (4, vI 0)]) ⟨rfl, rfl, rfl, rfl, rfl, trivial⟩ rfl rfl ?_
  exact (L_k70_1g E hd H sentence n h0 h1 (((16 - 0) * 1 + 0 : Int) + 1).toNat) 0 0 (rfl) (by omega) (by omega) (by omega) (by omega) (by omega) (by omega) (by omega)
set_option maxRecDepth 4000 in
theorem L_k73_1g {base : Nat} {X : Nat → Option mC} {G : Nat → Value} (E : EnvOK base X G) {d : Nat} (hd : 0 ≤ d) {M : mH} (H : HI base M) (bits : Int) (slot : Int) (h0 : -2147483648 ≤ bits ∧ bits ≤ 2147483647) (h1 : 0 ≤ slot ∧ slot ≤ 2) : ∀ mz : Nat, (∀ (x3 x4 : Int), (x3 = vlF (cS 1 M) bits slot x4.toNat) → (-2147483648 ≤ x3 ∧ x3 ≤ 2147483647) → (x4 ≤ gi M 1 10) → ((-2147483648) ≤ x3) → (x3 ≤ 2147483647) → (0 ≤ x4) → (x4 ≤ 16) → (16 - x4) * 1 + 0 < (mz : Int) → sRn base X G d T73 5 [(0, vR 1), (1, vI bits), (2, vI slot), (3, vI x3), (4, vI x4)] [] M (s_Q base (pI (fun v M' => M' = M ∧ (-2147483648 ≤ v ∧ v ≤ 2147483647) ∧ v = vlF (cS 1 M) bits slot (gi M 1 10).toNat)))) := by
  intro mz
  induction mz with
  | zero => exact fun x3 x4 z0 z1 z2 z3 z4 z5 z6 z7 => by omega
  | succ mz ih =>
    intro x3 x4 i0 i1 i2 i3 i4 i5 i6 hmu
    refine s_blx (lv' := [(0, vR 1), (1, vI bits), (2, vI slot), (3, vI x3), (4, vI x4)]) (st' := [vR 1, vI x4]) B73_5_8 rfl ?_
    refine r_gint (ki := 10) (pc' := 11) D73_8 rfl gf_8_43_1 rfl H.1 ?_
    intro w1 e2 r3
    have b_w1 := H.2 1 (10) 0 16 rfl
    rw [← e2] at b_w1; clear r3
    refine r_icmp (tgt := 46) (pc' := 14) D73_11 rfl rfl (by unfold inR; omega) (fun (c4 : w1 ≤ x4) => ?_) (fun (c4 : ¬ (w1 ≤ x4)) => ?_)
    · refine s_blx (lv' := [(0, vR 1), (1, vI bits), (2, vI slot), (3, vI x3), (4, vI x4)]) (st' := [vI x3]) B73_46_47 rfl ?_
      exact r_iretI D73_47 rfl (⟨rfl, by omega, by rw [show gi M 1 10 = x4 by omega]; exact i0⟩)
    · refine s_blx (lv' := [(0, vR 1), (1, vI bits), (2, vI slot), (3, vI x3), (4, vI x4)]) (st' := [vI x4, vI bits]) B73_14_17 rfl ?_
      refine r_bin (pc' := 18) D73_17 rfl rfl ?_
      intro z5 r6 kq0; unfold inR at r6
      refine s_blx (lv' := [(0, vR 1), (1, vI bits), (2, vI slot), (3, vI x3), (4, vI x4)]) (st' := [vI 1, vI z5]) B73_18_19 rfl ?_
      refine r_and1 (pc' := 20) D73_19 rfl ?_
      refine s_blx (lv' := [(0, vR 1), (1, vI bits), (2, vI slot), (3, vI x3), (4, vI x4)]) (st' := [vI 1, vI (z5 % 2)]) B73_20_21 rfl ?_
      refine r_icmp (tgt := 40) (pc' := 24) D73_21 rfl rfl (by unfold inR; omega) (fun (c7 : (z5 % 2) ≠ 1) => ?_) (fun (c7 : ¬ ((z5 % 2) ≠ 1)) => ?_)
      · refine s_blx (lv' := [(4, vI (x4 + 1)), (0, vR 1), (1, vI bits), (2, vI slot), (3, vI x3)]) (st' := []) B73_40_43 rfl ?_
        refine r_goto (tgt := 5) D73_43 rfl ?_
        refine r_loc (lv' := [(0, vR 1), (1, vI bits), (2, vI slot), (3, vI x3), (4, vI (x4 + 1))]) ⟨rfl, rfl, rfl, rfl, rfl, trivial⟩ rfl rfl ?_
        exact ih x3 (x4 + 1) (by first | (rw [vlF_in (by omega) (by rw [← srI_of (by unfold inR; omega) kq0]; omega), ← i0, ← kv, ← shI_of (by unfold inR; omega) kq1]; exact orI_of (by unfold inR; omega) kq2) | (rw [vlF_out (by omega) (by rw [← srI_of (by unfold inR; omega) kq0]; omega)]; exact i0)) (by omega) (by omega) (by omega) (by omega) (by omega) (by omega) (by omega)
      · refine s_blx (lv' := [(0, vR 1), (1, vI bits), (2, vI slot), (3, vI x3), (4, vI x4)]) (st' := [vR 1, vI 1, vI x3]) B73_24_27 rfl ?_
        refine r_gfix (r := 7) (pc' := 30) D73_27 rfl gf_8_37_1 H.1 ?_
        refine s_blx (lv' := [(0, vR 1), (1, vI bits), (2, vI slot), (3, vI x3), (4, vI x4)]) (st' := [vI ((x4 * 3) + slot), vR 7, vI 1, vI x3]) B73_30_36 rfl ?_
        refine r_iald (pc' := 37) D73_36 rfl sc_7 H.1 (by omega) ?_
        intro w8 e9 r10
        have b_w8 := H.2 7 ((x4 * 3) + slot) 0 7 rfl
        rw [← e9] at b_w8; clear r10
        have kv := e9.trans (cS_val (s := x4) (i := slot) ⟨by omega, by omega⟩ ⟨by omega, by omega⟩)
        refine r_bin (pc' := 38) D73_37 rfl rfl ?_
        intro z11 r12 kq1; unfold inR at r12
        refine r_bin (pc' := 39) D73_38 rfl rfl ?_
        intro z13 r14 kq2; unfold inR at r14
        refine s_blx (lv' := [(4, vI (x4 + 1)), (3, vI z13), (0, vR 1), (1, vI bits), (2, vI slot)]) (st' := []) B73_39_43 rfl ?_
        refine r_goto (tgt := 5) D73_43 rfl ?_
        refine r_loc (lv' := [(0, vR 1), (1, vI bits), (2, vI slot), (3, vI z13), (4, vI (x4 + 1))]) ⟨rfl, rfl, rfl, rfl, rfl, trivial⟩ rfl rfl ?_
        exact ih z13 (x4 + 1) (by first | (rw [vlF_in (by omega) (by rw [← srI_of (by unfold inR; omega) kq0]; omega), ← i0, ← kv, ← shI_of (by unfold inR; omega) kq1]; exact orI_of (by unfold inR; omega) kq2) | (rw [vlF_out (by omega) (by rw [← srI_of (by unfold inR; omega) kq0]; omega)]; exact i0)) (by omega) (by omega) (by omega) (by omega) (by omega) (by omega) (by omega)
set_option maxRecDepth 4000 in
theorem k73_1g {base : Nat} {X : Nat → Option mC} {G : Nat → Value} (E : EnvOK base X G) {d : Nat} (hd : 0 ≤ d) {M : mH} (H : HI base M) (bits : Int) (slot : Int) (h0 : -2147483648 ≤ bits ∧ bits ≤ 2147483647) (h1 : 0 ≤ slot ∧ slot ≤ 2) : sOk base X G d T73 [vR 1, vI bits, vI slot] M (pI (fun v M' => M' = M ∧ (-2147483648 ≤ v ∧ v ≤ 2147483647) ∧ v = vlF (cS 1 M) bits slot (gi M 1 10).toNat)) := by
  refine sOk.of (show sRn base X G d T73 0 [(0, vR 1), (1, vI bits), (2, vI slot)] [] M _ from ?_)
  have km := H.2 1 10 0 16 rfl
  refine s_blx (lv' := [(4, vI 0), (3, vI 0), (0, vR 1), (1, vI bits), (2, vI slot)]) (st' := []) B73_0_5 rfl ?_
  refine r_loc (lv' := [(0, vR 1), (1, vI bits), (2, vI slot), (3, vI 0), (4, vI 0)]) ⟨rfl, rfl, rfl, rfl, rfl, trivial⟩ rfl rfl ?_
  exact (L_k73_1g E hd H bits slot h0 h1 (((16 - 0) * 1 + 0 : Int) + 1).toNat) 0 0 (rfl) (by omega) (by omega) (by omega) (by omega) (by omega) (by omega) (by omega)
set_option maxRecDepth 4000 in
theorem L_k76_1g {base : Nat} {X : Nat → Option mC} {G : Nat → Value} (E : EnvOK base X G) {d : Nat} (hd : 0 ≤ d) {M : mH} (H : HI base M) (bits : Int) (h0 : -2147483648 ≤ bits ∧ bits ≤ 2147483647) : ∀ mz : Nat, (∀ (x2 x3 : Int), (x2 = wtF (cS 1 M) bits x3.toNat) → (0 ≤ x2 ∧ x2 ≤ 100 * x3) → (x3 ≤ gi M 1 10) → (0 ≤ x2) → (x2 ≤ 1700) → (0 ≤ x3) → (x3 ≤ 16) → (16 - x3) * 1 + 0 < (mz : Int) → sRn base X G d T76 4 [(0, vR 1), (1, vI bits), (2, vI x2), (3, vI x3)] [] M (s_Q base (pI (fun v M' => M' = M ∧ (0 ≤ v ∧ v ≤ 1600) ∧ v = wtF (cS 1 M) bits (gi M 1 10).toNat)))) := by
  intro mz
  induction mz with
  | zero => exact fun x2 x3 z0 z1 z2 z3 z4 z5 z6 z7 => by omega
  | succ mz ih =>
    intro x2 x3 i0 i1 i2 i3 i4 i5 i6 hmu
    refine s_blx (lv' := [(0, vR 1), (1, vI bits), (2, vI x2), (3, vI x3)]) (st' := [vR 1, vI x3]) B76_4_6 rfl ?_
    refine r_gint (ki := 10) (pc' := 9) D76_6 rfl gf_8_43_1 rfl H.1 ?_
    intro w1 e2 r3
    have b_w1 := H.2 1 (10) 0 16 rfl
    rw [← e2] at b_w1; clear r3
    refine r_icmp (tgt := 43) (pc' := 12) D76_9 rfl rfl (by unfold inR; omega) (fun (c4 : w1 ≤ x3) => ?_) (fun (c4 : ¬ (w1 ≤ x3)) => ?_)
    · refine s_blx (lv' := [(0, vR 1), (1, vI bits), (2, vI x2), (3, vI x3)]) (st' := [vI x2]) B76_43_44 rfl ?_
      exact r_iretI D76_44 rfl (⟨rfl, by omega, by rw [show gi M 1 10 = x3 by omega]; exact i0⟩)
    · refine s_blx (lv' := [(0, vR 1), (1, vI bits), (2, vI x2), (3, vI x3)]) (st' := [vI x3, vI bits]) B76_12_14 rfl ?_
      refine r_bin (pc' := 15) D76_14 rfl rfl ?_
      intro z5 r6 kq0; unfold inR at r6
      refine s_blx (lv' := [(0, vR 1), (1, vI bits), (2, vI x2), (3, vI x3)]) (st' := [vI 1, vI z5]) B76_15_16 rfl ?_
      refine r_and1 (pc' := 17) D76_16 rfl ?_
      refine s_blx (lv' := [(0, vR 1), (1, vI bits), (2, vI x2), (3, vI x3)]) (st' := [vI 1, vI (z5 % 2)]) B76_17_18 rfl ?_
      refine r_icmp (tgt := 37) (pc' := 21) D76_18 rfl rfl (by unfold inR; omega) (fun (c7 : (z5 % 2) ≠ 1) => ?_) (fun (c7 : ¬ ((z5 % 2) ≠ 1)) => ?_)
      · refine s_blx (lv' := [(3, vI (x3 + 1)), (0, vR 1), (1, vI bits), (2, vI x2)]) (st' := []) B76_37_40 rfl ?_
        refine r_goto (tgt := 4) D76_40 rfl ?_
        refine r_loc (lv' := [(0, vR 1), (1, vI bits), (2, vI x2), (3, vI (x3 + 1))]) ⟨rfl, rfl, rfl, rfl, trivial⟩ rfl rfl ?_
        exact ih x2 (x3 + 1) (by first | (rw [wtF_in (by omega) (by rw [← srI_of (by unfold inR; omega) kq0]; omega), ← i0, ← kv]) | (rw [wtF_out (by omega) (by rw [← srI_of (by unfold inR; omega) kq0]; omega)]; exact i0)) (by omega) (by omega) (by omega) (by omega) (by omega) (by omega) (by omega)
      · refine s_blx (lv' := [(0, vR 1), (1, vI bits), (2, vI x2), (3, vI x3)]) (st' := [vR 1, vI x2]) B76_21_23 rfl ?_
        refine r_gfix (r := 8) (pc' := 26) D76_23 rfl gf_8_40_1 H.1 ?_
        refine s_blx (lv' := [(0, vR 1), (1, vI bits), (2, vI x2), (3, vI x3)]) (st' := [vR 1, vI (x3 * 4), vR 8, vI x2]) B76_26_30 rfl ?_
        refine r_gint (ki := 5) (pc' := 33) D76_30 rfl gf_8_28_1 rfl H.1 ?_
        intro w8 e9 r10
        have b_w8 := H.2 1 (5) 0 3 rfl
        rw [← e9] at b_w8; clear r10
        have kp := e9
        refine s_blx (lv' := [(0, vR 1), (1, vI bits), (2, vI x2), (3, vI x3)]) (st' := [vI ((x3 * 4) + w8), vR 8, vI x2]) B76_33_34 rfl ?_
        refine r_iald (pc' := 35) D76_34 rfl sc_8 H.1 (by omega) ?_
        intro w11 e12 r13
        have b_w11 := H.2 8 ((x3 * 4) + w8) 0 100 rfl
        rw [← e12] at b_w11; clear r13
        have kv := e12.trans (cS_wgt (s := x3) ⟨by omega, by omega⟩ kp ⟨by omega, by omega⟩)
        refine s_blx (lv' := [(3, vI (x3 + 1)), (2, vI (x2 + w11)), (0, vR 1), (1, vI bits)]) (st' := []) B76_35_40 rfl ?_
        refine r_goto (tgt := 4) D76_40 rfl ?_
        refine r_loc (lv' := [(0, vR 1), (1, vI bits), (2, vI (x2 + w11)), (3, vI (x3 + 1))]) ⟨rfl, rfl, rfl, rfl, trivial⟩ rfl rfl ?_
        exact ih (x2 + w11) (x3 + 1) (by first | (rw [wtF_in (by omega) (by rw [← srI_of (by unfold inR; omega) kq0]; omega), ← i0, ← kv]) | (rw [wtF_out (by omega) (by rw [← srI_of (by unfold inR; omega) kq0]; omega)]; exact i0)) (by omega) (by omega) (by omega) (by omega) (by omega) (by omega) (by omega)
set_option maxRecDepth 4000 in
theorem k76_1g {base : Nat} {X : Nat → Option mC} {G : Nat → Value} (E : EnvOK base X G) {d : Nat} (hd : 0 ≤ d) {M : mH} (H : HI base M) (bits : Int) (h0 : -2147483648 ≤ bits ∧ bits ≤ 2147483647) : sOk base X G d T76 [vR 1, vI bits] M (pI (fun v M' => M' = M ∧ (0 ≤ v ∧ v ≤ 1600) ∧ v = wtF (cS 1 M) bits (gi M 1 10).toNat)) := by
  refine sOk.of (show sRn base X G d T76 0 [(0, vR 1), (1, vI bits)] [] M _ from ?_)
  have km := H.2 1 10 0 16 rfl
  refine s_blx (lv' := [(3, vI 0), (2, vI 0), (0, vR 1), (1, vI bits)]) (st' := []) B76_0_4 rfl ?_
  refine r_loc (lv' := [(0, vR 1), (1, vI bits), (2, vI 0), (3, vI 0)]) ⟨rfl, rfl, rfl, rfl, trivial⟩ rfl rfl ?_
  exact (L_k76_1g E hd H bits h0 (((16 - 0) * 1 + 0 : Int) + 1).toNat) 0 0 (rfl) (by omega) (by omega) (by omega) (by omega) (by omega) (by omega) (by omega)
set_option maxRecDepth 4000 in
theorem L_k74_1g {base : Nat} {X : Nat → Option mC} {G : Nat → Value} (E : EnvOK base X G) {d : Nat} (hd : 0 ≤ d) {M : mH} (H : HI base M) (slot : Int) (value : Int) (h0 : 0 ≤ slot ∧ slot ≤ 2) (h1 : -2147483648 ≤ value ∧ value ≤ 2147483647) : ∀ mz : Nat, (∀ (x3 x4 : Int), (∀ k : Int, 0 ≤ k → k ≤ 30 → (bt x3 k ↔ k < x4 ∧ cS 1 M (135 + 16 * k + 9 + slot) = value)) → (-2147483648 ≤ x3 ∧ x3 ≤ 2147483647) → (x4 ≤ gi M 1 10) → ((-2147483648) ≤ x3) → (x3 ≤ 2147483647) → (0 ≤ x4) → (x4 ≤ 16) → (16 - x4) * 1 + 0 < (mz : Int) → sRn base X G d T74 5 [(0, vR 1), (1, vI slot), (2, vI value), (3, vI x3), (4, vI x4)] [] M (s_Q base (pI (fun v M' => M' = M ∧ (-2147483648 ≤ v ∧ v ≤ 2147483647) ∧ (∀ k : Int, 0 ≤ k → k ≤ 30 → (bt v k ↔ k < gi M 1 10 ∧ cS 1 M (135 + 16 * k + 9 + slot) = value)))))) := by
  intro mz
  induction mz with
  | zero => exact fun x3 x4 z0 z1 z2 z3 z4 z5 z6 z7 => by omega
  | succ mz ih =>
    intro x3 x4 i0 i1 i2 i3 i4 i5 i6 hmu
    refine s_blx (lv' := [(0, vR 1), (1, vI slot), (2, vI value), (3, vI x3), (4, vI x4)]) (st' := [vR 1, vI x4]) B74_5_8 rfl ?_
    refine r_gint (ki := 10) (pc' := 11) D74_8 rfl gf_8_43_1 rfl H.1 ?_
    intro w1 e2 r3
    have b_w1 := H.2 1 (10) 0 16 rfl
    rw [← e2] at b_w1; clear r3
    refine r_icmp (tgt := 46) (pc' := 14) D74_11 rfl rfl (by unfold inR; omega) (fun (c4 : w1 ≤ x4) => ?_) (fun (c4 : ¬ (w1 ≤ x4)) => ?_)
    · refine s_blx (lv' := [(0, vR 1), (1, vI slot), (2, vI value), (3, vI x3), (4, vI x4)]) (st' := [vI x3]) B74_46_47 rfl ?_
      exact r_iretI D74_47 rfl (⟨rfl, by omega, by rw [show gi M 1 10 = x4 by omega]; exact i0⟩)
    · refine s_blx (lv' := [(0, vR 1), (1, vI slot), (2, vI value), (3, vI x3), (4, vI x4)]) (st' := [vR 1, vI x3]) B74_14_16 rfl ?_
      refine r_gfix (r := 7) (pc' := 19) D74_16 rfl gf_8_37_1 H.1 ?_
      refine s_blx (lv' := [(0, vR 1), (1, vI slot), (2, vI value), (3, vI x3), (4, vI x4)]) (st' := [vI ((x4 * 3) + slot), vR 7, vI x3]) B74_19_25 rfl ?_
      refine r_iald (pc' := 26) D74_25 rfl sc_7 H.1 (by omega) ?_
      intro w5 e6 r7
      have b_w5 := H.2 7 ((x4 * 3) + slot) 0 7 rfl
      rw [← e6] at b_w5; clear r7
      have kv := e6.trans (cS_val (s := x4) (i := slot) ⟨by omega, by omega⟩ ⟨by omega, by omega⟩)
      refine s_blx (lv' := [(0, vR 1), (1, vI slot), (2, vI value), (3, vI x3), (4, vI x4)]) (st' := [vI value, vI w5, vI x3]) B74_26_27 rfl ?_
      refine r_icmp (tgt := 37) (pc' := 30) D74_27 rfl rfl (by unfold inR; omega) (fun (c8 : w5 ≠ value) => ?_) (fun (c8 : ¬ (w5 ≠ value)) => ?_)
      · refine s_blx (lv' := [(0, vR 1), (1, vI slot), (2, vI value), (3, vI x3), (4, vI x4)]) (st' := [vI 0, vI x3]) B74_37_38 rfl ?_
        refine r_bin (pc' := 39) D74_38 rfl rfl ?_
        intro z9 r10 kq2; unfold inR at r10
        refine s_blx (lv' := [(4, vI (x4 + 1)), (3, vI z9), (0, vR 1), (1, vI slot), (2, vI value)]) (st' := []) B74_39_43 rfl ?_
        refine r_goto (tgt := 5) D74_43 rfl ?_
        refine r_loc (lv' := [(0, vR 1), (1, vI slot), (2, vI value), (3, vI z9), (4, vI (x4 + 1))]) ⟨rfl, rfl, rfl, rfl, rfl, trivial⟩ rfl rfl ?_
        exact ih z9 (x4 + 1) (by first | exact hv_in (P := fun k => cS 1 M (135 + 16 * k + 9 + slot) = value) i0 kq1 kq2 ⟨by omega, by omega⟩ (by rw [← kv]; omega) | exact hv_out (P := fun k => cS 1 M (135 + 16 * k + 9 + slot) = value) i0 kq2 (by rw [← kv]; omega)) (by omega) (by omega) (by omega) (by omega) (by omega) (by omega) (by omega)
      · refine s_blx (lv' := [(0, vR 1), (1, vI slot), (2, vI value), (3, vI x3), (4, vI x4)]) (st' := [vI x4, vI 1, vI x3]) B74_30_33 rfl ?_
        refine r_bin (pc' := 34) D74_33 rfl rfl ?_
        intro z11 r12 kq1; unfold inR at r12
        refine r_goto (tgt := 38) D74_34 rfl ?_
        refine r_bin (pc' := 39) D74_38 rfl rfl ?_
        intro z13 r14 kq2; unfold inR at r14
        refine s_blx (lv' := [(4, vI (x4 + 1)), (3, vI z13), (0, vR 1), (1, vI slot), (2, vI value)]) (st' := []) B74_39_43 rfl ?_
        refine r_goto (tgt := 5) D74_43 rfl ?_
        refine r_loc (lv' := [(0, vR 1), (1, vI slot), (2, vI value), (3, vI z13), (4, vI (x4 + 1))]) ⟨rfl, rfl, rfl, rfl, rfl, trivial⟩ rfl rfl ?_
        exact ih z13 (x4 + 1) (by first | exact hv_in (P := fun k => cS 1 M (135 + 16 * k + 9 + slot) = value) i0 kq1 kq2 ⟨by omega, by omega⟩ (by rw [← kv]; omega) | exact hv_out (P := fun k => cS 1 M (135 + 16 * k + 9 + slot) = value) i0 kq2 (by rw [← kv]; omega)) (by omega) (by omega) (by omega) (by omega) (by omega) (by omega) (by omega)
set_option maxRecDepth 4000 in
theorem k74_1g {base : Nat} {X : Nat → Option mC} {G : Nat → Value} (E : EnvOK base X G) {d : Nat} (hd : 0 ≤ d) {M : mH} (H : HI base M) (slot : Int) (value : Int) (h0 : 0 ≤ slot ∧ slot ≤ 2) (h1 : -2147483648 ≤ value ∧ value ≤ 2147483647) : sOk base X G d T74 [vR 1, vI slot, vI value] M (pI (fun v M' => M' = M ∧ (-2147483648 ≤ v ∧ v ≤ 2147483647) ∧ (∀ k : Int, 0 ≤ k → k ≤ 30 → (bt v k ↔ k < gi M 1 10 ∧ cS 1 M (135 + 16 * k + 9 + slot) = value)))) := by
  refine sOk.of (show sRn base X G d T74 0 [(0, vR 1), (1, vI slot), (2, vI value)] [] M _ from ?_)
  have km := H.2 1 10 0 16 rfl
  refine s_blx (lv' := [(4, vI 0), (3, vI 0), (0, vR 1), (1, vI slot), (2, vI value)]) (st' := []) B74_0_5 rfl ?_
  refine r_loc (lv' := [(0, vR 1), (1, vI slot), (2, vI value), (3, vI 0), (4, vI 0)]) ⟨rfl, rfl, rfl, rfl, rfl, trivial⟩ rfl rfl ?_
  exact (L_k74_1g E hd H slot value h0 h1 (((16 - 0) * 1 + 0 : Int) + 1).toNat) 0 0 (fun k a _ => ⟨fun h => absurd h (bt_0 k), fun h => absurd h.1 (by omega)⟩) (by omega) (by omega) (by omega) (by omega) (by omega) (by omega) (by omega)
set_option maxRecDepth 4000 in
theorem k267g {base : Nat} {X : Nat → Option mC} {G : Nat → Value} (E : EnvOK base X G) {d : Nat} (hd : 0 ≤ d) {M : mH} (H : HI base M) (i : Int) (h0 : 0 ≤ i ∧ i ≤ 255) : sOk base X G d T267 [vI i] M (pI (fun v M' => M' = M ∧ (-2147483648 ≤ v ∧ v ≤ 2147483647) ∧ v = o1F i 16)) := by
  refine sOk.of (show sRn base X G d T267 0 [(0, vI i)] [] M _ from ?_)
  refine s_blx (lv' := [(0, vI i)]) (st' := [vI 1, vI i, vI i]) B267_0_3 rfl ?_
  refine r_bin (pc' := 4) D267_3 rfl rfl ?_
  intro z1 r2 k1; unfold inR at r2
  refine r_ldcw (e := 1431655765) (pc' := 7) D267_4 rfl ci_17_265 (by decide) ?_
  refine r_bin (pc' := 8) D267_7 rfl rfl ?_
  intro z3 r4 k2; unfold inR at r4
  refine s_blx (lv' := [(0, vI (i - z3))]) (st' := [vI (i - z3)]) B267_8_11 rfl ?_
  refine r_ldcw (e := 858993459) (pc' := 14) D267_11 rfl ci_17_266 (by decide) ?_
  refine r_bin (pc' := 15) D267_14 rfl rfl ?_
  intro z5 r6 k3; unfold inR at r6
  refine s_blx (lv' := [(0, vI (i - z3))]) (st' := [vI 2, vI (i - z3), vI z5]) B267_15_17 rfl ?_
  refine r_bin (pc' := 18) D267_17 rfl rfl ?_
  intro z7 r8 k4; unfold inR at r8
  refine r_ldcw (e := 858993459) (pc' := 21) D267_18 rfl ci_17_266 (by decide) ?_
  refine r_bin (pc' := 22) D267_21 rfl rfl ?_
  intro z9 r10 k5; unfold inR at r10
  refine s_blx (lv' := [(0, vI (z5 + z9))]) (st' := [vI 4, vI (z5 + z9), vI (z5 + z9)]) B267_22_27 rfl ?_
  refine r_bin (pc' := 28) D267_27 rfl rfl ?_
  intro z11 r12 k6; unfold inR at r12
  refine s_blx (lv' := [(0, vI (z5 + z9))]) (st' := [vI ((z5 + z9) + z11)]) B267_28_29 rfl ?_
  refine r_ldcw (e := 252645135) (pc' := 32) D267_29 rfl ci_17_267 (by decide) ?_
  refine r_bin (pc' := 33) D267_32 rfl rfl ?_
  intro z13 r14 k7; unfold inR at r14
  refine s_blx (lv' := [(0, vI z13)]) (st' := [vI 8, vI z13, vI z13]) B267_33_38 rfl ?_
  refine r_bin (pc' := 39) D267_38 rfl rfl ?_
  intro z15 r16 k8; unfold inR at r16
  refine s_blx (lv' := [(0, vI (z13 + z15))]) (st' := [vI 16, vI (z13 + z15), vI (z13 + z15)]) B267_39_45 rfl ?_
  refine r_bin (pc' := 46) D267_45 rfl rfl ?_
  intro z17 r18 k9; unfold inR at r18
  refine s_blx (lv' := [(0, vI ((z13 + z15) + z17))]) (st' := [vI 63, vI ((z13 + z15) + z17)]) B267_46_51 rfl ?_
  refine r_and63 (pc' := 52) D267_51 rfl ?_
  exact r_iretI D267_52 rfl (⟨rfl, by omega, bc_on (by omega) (usI_of (by unfold inR; omega) k1) (anI_of (by unfold inR; omega) k2) (anI_of (by unfold inR; omega) k3) (usI_of (by unfold inR; omega) k4) (anI_of (by unfold inR; omega) k5) (usI_of (by unfold inR; omega) k6) (anI_of (by unfold inR; omega) k7) (usI_of (by unfold inR; omega) k8) (usI_of (by unfold inR; omega) k9)⟩)
set_option maxRecDepth 4000 in
theorem L_k104g {base : Nat} {X : Nat → Option mC} {G : Nat → Value} (E : EnvOK base X G) {d : Nat} (hd : 2 ≤ d) {M : mH} (H : HI base M) (sentence : Int) (slot : Int) (h0 : -2147483648 ≤ sentence ∧ sentence ≤ 2147483647) (h1 : -2147483648 ≤ slot ∧ slot ≤ 2147483647) : ∀ mz : Nat, (∀ (x3 x4 : Int), (x3 = gi M 6 sentence) → (SPK sentence M) → (0 ≤ slot ∧ slot ≤ 2) → (0 ≤ sentence ∧ sentence ≤ 15) → (0 ≤ x4 ∧ x4 ≤ x3) → (∀ t : Int, 0 ≤ t → t < x4 → ¬ ON1 (cS 1 M) (gi M 1 10).toNat sentence slot t) → (0 ≤ x3) → (x3 ≤ 8) → (0 ≤ x4) → (x4 ≤ 8) → (0 ≤ sentence) → (sentence ≤ 15) → (0 ≤ slot) → (slot ≤ 2) → (8 - x4) * 1 + 0 < (mz : Int) → sRn base X G d T104 33 [(0, vR 0), (1, vI sentence), (2, vI slot), (3, vI x3), (4, vI x4)] [] M (s_Q base (pI (fun v M' => M' = M ∧ (-2147483648 ≤ v ∧ v ≤ 2147483647) ∧ (¬ ((0 ≤ slot ∧ slot ≤ 2) ∧ SPK sentence M) → v = -1) ∧ ((0 ≤ slot ∧ slot ≤ 2) ∧ SPK sentence M → FX (cS 1 M) (gi M 1 10).toNat sentence slot v))))) := by
  intro mz
  induction mz with
  | zero => exact fun x3 x4 z0 z1 z2 z3 z4 z5 z6 z7 z8 z9 z10 z11 z12 z13 z14 => by omega
  | succ mz ih =>
    intro x3 x4 i0 i1 i2 i3 i4 i5 i6 i7 i8 i9 i10 i11 i12 i13 hmu
    have km := H.2 1 10 0 16 rfl
    refine s_blx (lv' := [(0, vR 0), (1, vI sentence), (2, vI slot), (3, vI x3), (4, vI x4)]) (st' := [vI x3, vI x4]) B104_33_36 rfl ?_
    refine r_icmp (tgt := 79) (pc' := 39) D104_36 rfl rfl (by unfold inR; omega) (fun (c19 : x3 ≤ x4) => ?_) (fun (c19 : ¬ (x3 ≤ x4)) => ?_)
    · refine s_blx (lv' := [(0, vR 0), (1, vI sentence), (2, vI slot), (3, vI x3), (4, vI x4)]) (st' := [vI x3]) B104_79_80 rfl ?_
      exact r_iretI D104_80 rfl (⟨rfl, by omega, fun h => absurd ⟨by omega, i1⟩ h, fun _ => ⟨⟨by omega, by rw [← cS_len ⟨by omega, by omega⟩]; omega⟩, fun t a b => i5 t a (by omega), fun q => by rw [← cS_len ⟨by omega, by omega⟩] at q; omega⟩⟩)
    · refine s_blx (lv' := [(0, vR 0), (1, vI sentence), (2, vI slot), (3, vI x3), (4, vI x4)]) (st' := [vR 0]) B104_39_40 rfl ?_
      refine r_gfix (r := 1) (pc' := 43) D104_40 rfl gf_10_10_0 H.1 ?_
      refine s_blx (lv' := [(0, vR 0), (1, vI sentence), (2, vI slot), (3, vI x3), (4, vI x4)]) (st' := [vI (x4 + 1), vI sentence, vR 1]) B104_43_48 rfl ?_
      refine r_vIp (c := 1) (args := [vI sentence, vI (x4 + 1)]) (rest := []) (pc' := 51) D104_48 rfl ck_10_virtual_189 TE70 rfl (Nat.le_of_ble_eq_true rfl) ⟨Nat.le_of_ble_eq_true rfl, Nat.le_of_ble_eq_true rfl⟩ sc_1 ⟨rfl, by decide⟩ H.1 (dp_0 hd rfl) (k70_1g E (dp_n hd rfl) H sentence (x4 + 1) (by omega) (by omega)) ?_
      intro v20 q24
      obtain ⟨q22, q23⟩ := q24
      have kc := q23; clear q23
      refine s_blx (lv' := [(5, vI v20), (0, vR 0), (1, vI sentence), (2, vI slot), (3, vI x3), (4, vI x4)]) (st' := [vR 0]) B104_51_54 rfl ?_
      refine r_gfix (r := 1) (pc' := 57) D104_54 rfl gf_10_10_0 H.1 ?_
      refine s_blx (lv' := [(5, vI v20), (0, vR 0), (1, vI sentence), (2, vI slot), (3, vI x3), (4, vI x4)]) (st' := [vI slot, vI v20, vR 1]) B104_57_60 rfl ?_
      refine r_vIp (c := 1) (args := [vI v20, vI slot]) (rest := []) (pc' := 63) D104_60 rfl ck_10_virtual_193 TE73 rfl (Nat.le_of_ble_eq_true rfl) ⟨Nat.le_of_ble_eq_true rfl, Nat.le_of_ble_eq_true rfl⟩ sc_1 ⟨rfl, by decide⟩ H.1 (dp_0 hd rfl) (k73_1g E (dp_n hd rfl) H v20 slot (by omega) (by omega)) ?_
      intro v25 q29
      obtain ⟨q27, q28⟩ := q29
      have kv := q28; clear q28
      have kvb : 0 ≤ v25 ∧ v25 ≤ 255 := by rw [kv]; exact vlF_b _ (fun k hk => by have q := H.2 7 ((k : Int) * 3 + slot) 0 7 rfl; rw [cS_val (s := (k : Int)) (i := slot) ⟨by omega, by omega⟩ ⟨by omega, by omega⟩] at q; exact q)
      refine r_sIp (args := [vI v25]) (rest := []) (pc' := 66) D104_63 rfl ck_10_static_196 TE267 rfl (Nat.le_of_ble_eq_true rfl) ⟨Nat.le_of_ble_eq_true rfl, Nat.le_of_ble_eq_true rfl⟩ (by decide) (dp_0 hd rfl) (k267g E (dp_n hd rfl) H v25 (by omega)) ?_
      intro v30 q34
      obtain ⟨q32, q33⟩ := q34
      have kn := q33; clear q33
      refine s_blx (lv' := [(5, vI v20), (0, vR 0), (1, vI sentence), (2, vI slot), (3, vI x3), (4, vI x4)]) (st' := [vI 1, vI v30]) B104_66_67 rfl ?_
      refine r_icmp (tgt := 73) (pc' := 70) D104_67 rfl rfl (by unfold inR; omega) (fun (c35 : v30 ≠ 1) => ?_) (fun (c35 : ¬ (v30 ≠ 1)) => ?_)
      · refine s_blx (lv' := [(4, vI (x4 + 1)), (5, vI v20), (0, vR 0), (1, vI sentence), (2, vI slot), (3, vI x3)]) (st' := []) B104_73_76 rfl ?_
        refine r_goto (tgt := 33) D104_76 rfl ?_
        refine r_loc (lv' := [(0, vR 0), (1, vI sentence), (2, vI slot), (3, vI x3), (4, vI (x4 + 1))]) ⟨rfl, rfl, rfl, rfl, rfl, trivial⟩ rfl rfl ?_
        exact ih x3 (x4 + 1) (by omega) (i1) (by omega) (by omega) (by omega) (fun t a b => if e : t = x4 then (by rw [e]; unfold ON1; rw [← kc, ← kv, ← kn]; omega) else i5 t a (by omega)) (by omega) (by omega) (by omega) (by omega) (by omega) (by omega) (by omega) (by omega) (by omega)
      · refine s_blx (lv' := [(5, vI v20), (0, vR 0), (1, vI sentence), (2, vI slot), (3, vI x3), (4, vI x4)]) (st' := [vI x4]) B104_70_72 rfl ?_
        exact r_iretI D104_72 rfl (⟨rfl, by omega, fun h => absurd ⟨by omega, i1⟩ h, fun _ => ⟨⟨by omega, by rw [← cS_len ⟨by omega, by omega⟩]; omega⟩, i5, fun _ => by unfold ON1; rw [← kc, ← kv, ← kn]; omega⟩⟩)
set_option maxRecDepth 4000 in
theorem k104g {base : Nat} {X : Nat → Option mC} {G : Nat → Value} (E : EnvOK base X G) {d : Nat} (hd : 2 ≤ d) {M : mH} (H : HI base M) (sentence : Int) (slot : Int) (h0 : -2147483648 ≤ sentence ∧ sentence ≤ 2147483647) (h1 : -2147483648 ≤ slot ∧ slot ≤ 2147483647) : sOk base X G d T104 [vR 0, vI sentence, vI slot] M (pI (fun v M' => M' = M ∧ (-2147483648 ≤ v ∧ v ≤ 2147483647) ∧ (¬ ((0 ≤ slot ∧ slot ≤ 2) ∧ SPK sentence M) → v = -1) ∧ ((0 ≤ slot ∧ slot ≤ 2) ∧ SPK sentence M → FX (cS 1 M) (gi M 1 10).toNat sentence slot v))) := by
  refine sOk.of (show sRn base X G d T104 0 [(0, vR 0), (1, vI sentence), (2, vI slot)] [] M _ from ?_)
  have km := H.2 1 10 0 16 rfl
  refine s_blx (lv' := [(0, vR 0), (1, vI sentence), (2, vI slot)]) (st' := [vI slot]) B104_0_1 rfl ?_
  refine r_sIp (args := [vI slot]) (rest := []) (pc' := 4) D104_1 rfl ck_10_static_135 TE143 rfl (Nat.le_of_ble_eq_true rfl) ⟨Nat.le_of_ble_eq_true rfl, Nat.le_of_ble_eq_true rfl⟩ (by decide) (dp_0 hd rfl) (k143n E (dp_n hd rfl) H slot (by omega)) ?_
  intro v1 q6
  obtain ⟨q3, q4, q5⟩ := q6
  have kt := q4; clear q4
  have kf := q5; clear q5
  refine r_ifc (tgt := 18) (pc' := 7) D104_4 rfl rfl (by unfold inR; omega) (fun (c7 : v1 = 0) => ?_) (fun (c7 : ¬ (v1 = 0)) => ?_)
  · refine s_blx (lv' := [(0, vR 0), (1, vI sentence), (2, vI slot)]) (st' := [vI (-1)]) B104_18_19 rfl ?_
    exact r_iretI D104_19 rfl (⟨rfl, by omega, fun _ => by omega, fun h => by exfalso; first | (have q := kf (by omega); omega) | exact kns (by omega) h.2⟩)
  · refine s_blx (lv' := [(0, vR 0), (1, vI sentence), (2, vI slot)]) (st' := [vR 0]) B104_7_8 rfl ?_
    refine r_gfix (r := 1) (pc' := 11) D104_8 rfl gf_10_10_0 H.1 ?_
    refine s_blx (lv' := [(0, vR 0), (1, vI sentence), (2, vI slot)]) (st' := [vI sentence, vR 1]) B104_11_12 rfl ?_
    refine r_vIp (c := 1) (args := [vI sentence]) (rest := []) (pc' := 15) D104_12 rfl ck_10_virtual_186 TE67 rfl (Nat.le_of_ble_eq_true rfl) ⟨Nat.le_of_ble_eq_true rfl, Nat.le_of_ble_eq_true rfl⟩ sc_1 ⟨rfl, by decide⟩ H.1 (dp_0 hd rfl) (k67_1x E (dp_n hd rfl) H sentence (by omega)) ?_
    intro v8 q14
    obtain ⟨q10, q11, q12, q13⟩ := q14
    have ks := q12; clear q12
    have kns := q13; clear q13
    refine r_ifc (tgt := 20) (pc' := 18) D104_15 rfl rfl (by unfold inR; omega) (fun (c15 : v8 ≠ 0) => ?_) (fun (c15 : ¬ (v8 ≠ 0)) => ?_)
    · refine s_blx (lv' := [(0, vR 0), (1, vI sentence), (2, vI slot)]) (st' := [vR 0]) B104_20_21 rfl ?_
      refine r_gfix (r := 1) (pc' := 24) D104_21 rfl gf_10_10_0 H.1 ?_
      refine r_gfix (r := 6) (pc' := 27) D104_24 rfl gf_10_180_1 H.1 ?_
      refine s_blx (lv' := [(0, vR 0), (1, vI sentence), (2, vI slot)]) (st' := [vI sentence, vR 6]) B104_27_28 rfl ?_
      refine r_iald (pc' := 29) D104_28 rfl sc_6 H.1 (by omega) ?_
      intro w16 e17 r18
      have b_w16 := H.2 6 (sentence) 0 8 rfl
      rw [← e17] at b_w16; clear r18
      refine s_blx (lv' := [(4, vI 0), (3, vI w16), (0, vR 0), (1, vI sentence), (2, vI slot)]) (st' := []) B104_29_33 rfl ?_
      refine r_loc (lv' := [(0, vR 0), (1, vI sentence), (2, vI slot), (3, vI w16), (4, vI 0)]) ⟨rfl, rfl, rfl, rfl, rfl, trivial⟩ rfl rfl ?_
      exact (L_k104g E hd H sentence slot h0 h1 (((8 - 0) * 1 + 0 : Int) + 1).toNat) w16 0 (by omega) (ks (by omega)) (by omega) (by omega) (by omega) (fun t a b => absurd b (by omega)) (by omega) (by omega) (by omega) (by omega) (by omega) (by omega) (by omega) (by omega) (by omega)
    · refine s_blx (lv' := [(0, vR 0), (1, vI sentence), (2, vI slot)]) (st' := [vI (-1)]) B104_18_19 rfl ?_
      exact r_iretI D104_19 rfl (⟨rfl, by omega, fun _ => by omega, fun h => by exfalso; first | (have q := kf (by omega); omega) | exact kns (by omega) h.2⟩)
set_option maxRecDepth 4000 in
theorem L_k146g {base : Nat} {X : Nat → Option mC} {G : Nat → Value} (E : EnvOK base X G) {d : Nat} (hd : 0 ≤ d) {M : mH} (H : HI base M) (one : Int) (other : Int) (h0 : 1 ≤ one ∧ one ≤ 1600) (h1 : 0 ≤ other ∧ other ≤ 1600) : ∀ mz : Nat, (∀ (x2 x3 x4 : Int), (cdF x2 x3 = cdF one other) → (1 ≤ x2 ∧ x2 ≤ 1600) → (0 ≤ x3 ∧ x3 ≤ 1600) → (x4 = 0 ∨ x3 < x2) → (x2 * x3 ≤ pwF x4.toNat) → (0 ≤ x4 ∧ x4 ≤ 64) → (1 ≤ x2) → (x2 ≤ 1600) → (0 ≤ x3) → (x3 ≤ 1600) → (0 ≤ x4) → (x4 ≤ 64) → (64 - x4) * 1 + 0 < (mz : Int) → sRn base X G d T146 7 [(2, vI x2), (3, vI x3), (4, vI x4)] [] M (s_Q base (pI (fun v M' => M' = M ∧ (1 ≤ v ∧ v ≤ 1600) ∧ v = cdF one other)))) := by
  intro mz
  induction mz with
  | zero => exact fun x2 x3 x4 z0 z1 z2 z3 z4 z5 z6 z7 z8 z9 z10 z11 z12 => by omega
  | succ mz ih =>
    intro x2 x3 x4 i0 i1 i2 i3 i4 i5 i6 i7 i8 i9 i10 i11 hmu
    refine s_blx (lv' := [(2, vI x2), (3, vI x3), (4, vI x4)]) (st' := [vI 64, vI x4]) B146_7_11 rfl ?_
    refine r_icmp (tgt := 34) (pc' := 14) D146_11 rfl rfl (by unfold inR; omega) (fun (c1 : 64 ≤ x4) => ?_) (fun (c1 : ¬ (64 ≤ x4)) => ?_)
    · refine s_blx (lv' := [(2, vI x2), (3, vI x3), (4, vI x4)]) (st' := [vI 1, vI x2]) B146_34_36 rfl ?_
      refine r_max (pc' := 39) D146_36 rfl mc_10_static_342 sp_10_342 (Nat.le_of_ble_eq_true rfl) (by unfold inR; omega) ?_
      intro z2 r3 r4 r5
      exact r_iretI D146_39 rfl (⟨rfl, by omega, (by have y : x3 = 0 := (by first | omega | exact pw_end (by omega) (by omega) (by omega) (by omega) i4); subst y; rw [cdF_0 (by omega)] at i0; omega)⟩)
    · refine s_blx (lv' := [(2, vI x2), (3, vI x3), (4, vI x4)]) (st' := [vI x3]) B146_14_15 rfl ?_
      refine r_ifc (tgt := 34) (pc' := 18) D146_15 rfl rfl (by unfold inR; omega) (fun (c6 : x3 = 0) => ?_) (fun (c6 : ¬ (x3 = 0)) => ?_)
      · refine s_blx (lv' := [(2, vI x2), (3, vI x3), (4, vI x4)]) (st' := [vI 1, vI x2]) B146_34_36 rfl ?_
        refine r_max (pc' := 39) D146_36 rfl mc_10_static_342 sp_10_342 (Nat.le_of_ble_eq_true rfl) (by unfold inR; omega) ?_
        intro z7 r8 r9 r10
        exact r_iretI D146_39 rfl (⟨rfl, by omega, (by have y : x3 = 0 := (by first | omega | exact pw_end (by omega) (by omega) (by omega) (by omega) i4); subst y; rw [cdF_0 (by omega)] at i0; omega)⟩)
      · refine s_blx (lv' := [(2, vI x2), (3, vI x3), (4, vI x4)]) (st' := [vI x3, vI x2]) B146_18_20 rfl ?_
        refine r_irem (pc' := 21) D146_20 rfl (by omega) ?_
        have r13 := Int.emod_nonneg x2 (show x3 ≠ 0 by omega)
        have r14 := Int.emod_lt_of_pos x2 (show 0 < x3 by omega)
        obtain ⟨z11, kz⟩ : ∃ q_, q_ = x2 % x3 := ⟨_, rfl⟩
        have kz := kz.symm
        rw [kz] at r13 r14 ⊢
        refine s_blx (lv' := [(4, vI (x4 + 1)), (3, vI z11), (2, vI x3), (5, vI z11)]) (st' := []) B146_21_31 rfl ?_
        refine r_goto (tgt := 7) D146_31 rfl ?_
        refine r_loc (lv' := [(2, vI x3), (3, vI z11), (4, vI (x4 + 1))]) ⟨rfl, rfl, rfl, trivial⟩ rfl rfl ?_
        exact ih x3 z11 (x4 + 1) (by rw [← i0]; exact cdF_step (by omega) (by omega) kz) (by omega) (by omega) (by omega) (pw_next (by omega) (by omega) kz (by omega) i4 (by omega) (fun _ => ⟨by omega, by omega⟩)) (by omega) (by omega) (by omega) (by omega) (by omega) (by omega) (by omega) (by omega)
set_option maxRecDepth 4000 in
theorem k146g {base : Nat} {X : Nat → Option mC} {G : Nat → Value} (E : EnvOK base X G) {d : Nat} (hd : 0 ≤ d) {M : mH} (H : HI base M) (one : Int) (other : Int) (h0 : 1 ≤ one ∧ one ≤ 1600) (h1 : 0 ≤ other ∧ other ≤ 1600) : sOk base X G d T146 [vI one, vI other] M (pI (fun v M' => M' = M ∧ (1 ≤ v ∧ v ≤ 1600) ∧ v = cdF one other)) := by
  refine sOk.of (show sRn base X G d T146 0 [(0, vI one), (1, vI other)] [] M _ from ?_)
  refine s_blx (lv' := [(4, vI 0), (3, vI other), (2, vI one), (0, vI one), (1, vI other)]) (st' := []) B146_0_7 rfl ?_
  refine r_loc (lv' := [(2, vI one), (3, vI other), (4, vI 0)]) ⟨rfl, rfl, rfl, trivial⟩ rfl rfl ?_
  exact (L_k146g E hd H one other h0 h1 (((64 - 0) * 1 + 0 : Int) + 1).toNat) one other 0 (rfl) (by omega) (by omega) (by omega) (by have q := Int.mul_le_mul (show one ≤ 1600 by omega) (show other ≤ 1600 by omega) (by omega) (by decide); have e : pwF (0 : Int).toNat = 5120000 := rfl; omega) (by omega) (by omega) (by omega) (by omega) (by omega) (by omega) (by omega) (by omega)
set_option maxRecDepth 4000 in
theorem k105g {base : Nat} {X : Nat → Option mC} {G : Nat → Value} (E : EnvOK base X G) {d : Nat} (hd : 2 ≤ d) {M : mH} (H : HI base M) (sentence : Int) (n : Int) (slot : Int) (value : Int) (part : Int) (h0 : -2147483648 ≤ sentence ∧ sentence ≤ 2147483647) (h1 : -2147483648 ≤ n ∧ n ≤ 2147483647) (h2 : -2147483648 ≤ slot ∧ slot ≤ 2147483647) (h3 : -2147483648 ≤ value ∧ value ≤ 2147483647) (h4 : -2147483648 ≤ part ∧ part ≤ 2147483647) : sOk base X G d T105 [vR 0, vI sentence, vI n, vI slot, vI value, vI part] M (pI (fun v M' => M' = M ∧ (-2147483648 ≤ v ∧ v ≤ 2147483647) ∧ v = odV (cS 1 M) sentence n slot value part)) := by
  refine sOk.of (show sRn base X G d T105 0 [(0, vR 0), (1, vI sentence), (2, vI n), (3, vI slot), (4, vI value), (5, vI part)] [] M _ from ?_)
  have km := H.2 1 10 0 16 rfl
  refine s_blx (lv' := [(0, vR 0), (1, vI sentence), (2, vI n), (3, vI slot), (4, vI value), (5, vI part)]) (st' := [vR 0]) B105_0_1 rfl ?_
  refine r_gfix (r := 1) (pc' := 4) D105_1 rfl gf_10_10_0 H.1 ?_
  refine s_blx (lv' := [(0, vR 0), (1, vI sentence), (2, vI n), (3, vI slot), (4, vI value), (5, vI part)]) (st' := [vI sentence, vR 1]) B105_4_5 rfl ?_
  refine r_vIp (c := 1) (args := [vI sentence]) (rest := []) (pc' := 8) D105_5 rfl ck_10_virtual_174 TE65 rfl (Nat.le_of_ble_eq_true rfl) ⟨Nat.le_of_ble_eq_true rfl, Nat.le_of_ble_eq_true rfl⟩ sc_1 ⟨rfl, by decide⟩ H.1 (dp_0 hd rfl) (k65_1n E (dp_n hd rfl) H sentence (by omega)) ?_
  intro v1 q6
  obtain ⟨q3, q4, q5⟩ := q6
  have kt1 := q4; clear q4
  have kt0 := q5; clear q5
  refine r_ifc (tgt := 36) (pc' := 11) D105_8 rfl rfl (by unfold inR; omega) (fun (c7 : v1 = 0) => ?_) (fun (c7 : ¬ (v1 = 0)) => ?_)
  · refine s_blx (lv' := [(0, vR 0), (1, vI sentence), (2, vI n), (3, vI slot), (4, vI value), (5, vI part)]) (st' := [vI (-1)]) B105_36_37 rfl ?_
    exact r_iretI D105_37 rfl (⟨rfl, by omega, (if_neg (fun h => by have h2 := h.1; unfold ODc at h2; rw [← cS_many] at h2; omega)).symm⟩)
  · refine s_blx (lv' := [(0, vR 0), (1, vI sentence), (2, vI n), (3, vI slot), (4, vI value), (5, vI part)]) (st' := [vI slot]) B105_11_12 rfl ?_
    refine r_sIp (args := [vI slot]) (rest := []) (pc' := 15) D105_12 rfl ck_10_static_135 TE143 rfl (Nat.le_of_ble_eq_true rfl) ⟨Nat.le_of_ble_eq_true rfl, Nat.le_of_ble_eq_true rfl⟩ (by decide) (dp_0 hd rfl) (k143n E (dp_n hd rfl) H slot (by omega)) ?_
    intro v8 q13
    obtain ⟨q10, q11, q12⟩ := q13
    have ksl := q11; clear q11
    have ksn := q12; clear q12
    refine r_ifc (tgt := 36) (pc' := 18) D105_15 rfl rfl (by unfold inR; omega) (fun (c14 : v8 = 0) => ?_) (fun (c14 : ¬ (v8 = 0)) => ?_)
    · refine s_blx (lv' := [(0, vR 0), (1, vI sentence), (2, vI n), (3, vI slot), (4, vI value), (5, vI part)]) (st' := [vI (-1)]) B105_36_37 rfl ?_
      exact r_iretI D105_37 rfl (⟨rfl, by omega, (if_neg (fun h => by have h2 := h.1; unfold ODc at h2; rw [← cS_many] at h2; omega)).symm⟩)
    · refine s_blx (lv' := [(0, vR 0), (1, vI sentence), (2, vI n), (3, vI slot), (4, vI value), (5, vI part)]) (st' := [vI value]) B105_18_20 rfl ?_
      refine r_sIp (args := [vI value]) (rest := []) (pc' := 23) D105_20 rfl ck_10_static_153 TE144 rfl (Nat.le_of_ble_eq_true rfl) ⟨Nat.le_of_ble_eq_true rfl, Nat.le_of_ble_eq_true rfl⟩ (by decide) (dp_0 hd rfl) (k144n E (dp_n hd rfl) H value (by omega)) ?_
      intro v15 q20
      obtain ⟨q17, q18, q19⟩ := q20
      have kva := q18; clear q18
      have kvn := q19; clear q19
      refine r_ifc (tgt := 36) (pc' := 26) D105_23 rfl rfl (by unfold inR; omega) (fun (c21 : v15 = 0) => ?_) (fun (c21 : ¬ (v15 = 0)) => ?_)
      · refine s_blx (lv' := [(0, vR 0), (1, vI sentence), (2, vI n), (3, vI slot), (4, vI value), (5, vI part)]) (st' := [vI (-1)]) B105_36_37 rfl ?_
        exact r_iretI D105_37 rfl (⟨rfl, by omega, (if_neg (fun h => by have h2 := h.1; unfold ODc at h2; rw [← cS_many] at h2; omega)).symm⟩)
      · refine s_blx (lv' := [(0, vR 0), (1, vI sentence), (2, vI n), (3, vI slot), (4, vI value), (5, vI part)]) (st' := [vI 1, vI 0, vI part]) B105_26_30 rfl ?_
        refine r_sIp (args := [vI part, vI 0, vI 1]) (rest := []) (pc' := 33) D105_30 rfl ck_10_static_102 TE142 rfl (Nat.le_of_ble_eq_true rfl) ⟨Nat.le_of_ble_eq_true rfl, Nat.le_of_ble_eq_true rfl⟩ (by decide) (dp_0 hd rfl) (k142 E (dp_n hd rfl) H part 0 1 (by omega) (by omega) (by omega)) ?_
        intro v22 q27
        obtain ⟨q24, q25, q26⟩ := q27
        have kp1 := q25; clear q25
        have kp0 := q26; clear q26
        refine r_ifc (tgt := 38) (pc' := 36) D105_33 rfl rfl (by unfold inR; omega) (fun (c28 : v22 ≠ 0) => ?_) (fun (c28 : ¬ (v22 ≠ 0)) => ?_)
        · refine s_blx (lv' := [(0, vR 0), (1, vI sentence), (2, vI n), (3, vI slot), (4, vI value), (5, vI part)]) (st' := [vR 0, vI 0, vI n]) B105_38_41 rfl ?_
          refine r_gfix (r := 1) (pc' := 44) D105_41 rfl gf_10_10_0 H.1 ?_
          refine r_gfix (r := 6) (pc' := 47) D105_44 rfl gf_10_180_1 H.1 ?_
          refine s_blx (lv' := [(0, vR 0), (1, vI sentence), (2, vI n), (3, vI slot), (4, vI value), (5, vI part)]) (st' := [vI sentence, vR 6, vI 0, vI n]) B105_47_48 rfl ?_
          refine r_iald (pc' := 49) D105_48 rfl sc_6 H.1 (by omega) ?_
          intro w29 e30 r31
          have b_w29 := H.2 6 (sentence) 0 8 rfl
          rw [← e30] at b_w29; clear r31
          have kl := e30.trans (cS_len ⟨by omega, by omega⟩)
          refine r_sIp (args := [vI n, vI 0, vI w29]) (rest := []) (pc' := 52) D105_49 rfl ck_10_static_102 TE142 rfl (Nat.le_of_ble_eq_true rfl) ⟨Nat.le_of_ble_eq_true rfl, Nat.le_of_ble_eq_true rfl⟩ (by decide) (dp_0 hd rfl) (k142 E (dp_n hd rfl) H n 0 w29 (by omega) (by omega) (by omega)) ?_
          intro v32 q37
          obtain ⟨q34, q35, q36⟩ := q37
          have kw1 := q35; clear q35
          have kw0 := q36; clear q36
          refine r_ifc (tgt := 57) (pc' := 55) D105_52 rfl rfl (by unfold inR; omega) (fun (c38 : v32 ≠ 0) => ?_) (fun (c38 : ¬ (v32 ≠ 0)) => ?_)
          · refine s_blx (lv' := [(0, vR 0), (1, vI sentence), (2, vI n), (3, vI slot), (4, vI value), (5, vI part)]) (st' := [vR 0]) B105_57_58 rfl ?_
            refine r_gfix (r := 1) (pc' := 61) D105_58 rfl gf_10_10_0 H.1 ?_
            refine s_blx (lv' := [(0, vR 0), (1, vI sentence), (2, vI n), (3, vI slot), (4, vI value), (5, vI part)]) (st' := [vI n, vI sentence, vR 1]) B105_61_63 rfl ?_
            refine r_vIp (c := 1) (args := [vI sentence, vI n]) (rest := []) (pc' := 66) D105_63 rfl ck_10_virtual_189 TE70 rfl (Nat.le_of_ble_eq_true rfl) ⟨Nat.le_of_ble_eq_true rfl, Nat.le_of_ble_eq_true rfl⟩ sc_1 ⟨rfl, by decide⟩ H.1 (dp_0 hd rfl) (k70_1g E (dp_n hd rfl) H sentence n (by omega) (by omega)) ?_
            intro v39 q43
            obtain ⟨q41, q42⟩ := q43
            have kc := q42; clear q42
            refine s_blx (lv' := [(6, vI v39), (0, vR 0), (1, vI sentence), (2, vI n), (3, vI slot), (4, vI value), (5, vI part)]) (st' := [vR 0]) B105_66_69 rfl ?_
            refine r_gfix (r := 1) (pc' := 72) D105_69 rfl gf_10_10_0 H.1 ?_
            refine s_blx (lv' := [(6, vI v39), (0, vR 0), (1, vI sentence), (2, vI n), (3, vI slot), (4, vI value), (5, vI part)]) (st' := [vI v39, vR 1]) B105_72_74 rfl ?_
            refine r_vIp (c := 1) (args := [vI v39]) (rest := []) (pc' := 77) D105_74 rfl ck_10_virtual_201 TE76 rfl (Nat.le_of_ble_eq_true rfl) ⟨Nat.le_of_ble_eq_true rfl, Nat.le_of_ble_eq_true rfl⟩ sc_1 ⟨rfl, by decide⟩ H.1 (dp_0 hd rfl) (k76_1g E (dp_n hd rfl) H v39 (by omega)) ?_
            intro v44 q48
            obtain ⟨q46, q47⟩ := q48
            have ka := q47
            rw [kc] at ka
            refine s_blx (lv' := [(7, vI v44), (6, vI v39), (0, vR 0), (1, vI sentence), (2, vI n), (3, vI slot), (4, vI value), (5, vI part)]) (st' := [vI v44]) B105_77_81 rfl ?_
            refine r_ifc (tgt := 86) (pc' := 84) D105_81 rfl rfl (by unfold inR; omega) (fun (c49 : 0 < v44) => ?_) (fun (c49 : ¬ (0 < v44)) => ?_)
            · refine s_blx (lv' := [(7, vI v44), (6, vI v39), (0, vR 0), (1, vI sentence), (2, vI n), (3, vI slot), (4, vI value), (5, vI part)]) (st' := [vR 0]) B105_86_87 rfl ?_
              refine r_gfix (r := 1) (pc' := 90) D105_87 rfl gf_10_10_0 H.1 ?_
              refine s_blx (lv' := [(7, vI v44), (6, vI v39), (0, vR 0), (1, vI sentence), (2, vI n), (3, vI slot), (4, vI value), (5, vI part)]) (st' := [vR 0, vI v39, vR 1]) B105_90_93 rfl ?_
              refine r_gfix (r := 1) (pc' := 96) D105_93 rfl gf_10_10_0 H.1 ?_
              refine s_blx (lv' := [(7, vI v44), (6, vI v39), (0, vR 0), (1, vI sentence), (2, vI n), (3, vI slot), (4, vI value), (5, vI part)]) (st' := [vI value, vI slot, vR 1, vI v39, vR 1]) B105_96_99 rfl ?_
              refine r_vIp (c := 1) (args := [vI slot, vI value]) (rest := [vI v39, vR 1]) (pc' := 102) D105_99 rfl ck_10_virtual_204 TE74 rfl (Nat.le_of_ble_eq_true rfl) ⟨Nat.le_of_ble_eq_true rfl, Nat.le_of_ble_eq_true rfl⟩ sc_1 ⟨rfl, by decide⟩ H.1 (dp_0 hd rfl) (k74_1g E (dp_n hd rfl) H slot value (by omega) (by omega)) ?_
              intro v50 q54
              obtain ⟨q52, q53⟩ := q54
              have kh := q53; clear q53
              refine r_bin (pc' := 103) D105_102 rfl rfl ?_
              intro z55 r56 kand; unfold inR at r56
              refine r_vIp (c := 1) (args := [vI z55]) (rest := []) (pc' := 106) D105_103 rfl ck_10_virtual_201 TE76 rfl (Nat.le_of_ble_eq_true rfl) ⟨Nat.le_of_ble_eq_true rfl, Nat.le_of_ble_eq_true rfl⟩ sc_1 ⟨rfl, by decide⟩ H.1 (dp_0 hd rfl) (k76_1g E (dp_n hd rfl) H z55 (by omega)) ?_
              intro v57 q61
              obtain ⟨q59, q60⟩ := q61
              have kb := q60
              rw [od_and kh kand km, kc] at kb
              refine s_blx (lv' := [(8, vI v57), (7, vI v44), (6, vI v39), (0, vR 0), (1, vI sentence), (2, vI n), (3, vI slot), (4, vI value), (5, vI part)]) (st' := [vI v57, vI v44]) B105_106_112 rfl ?_
              refine r_sIp (args := [vI v44, vI v57]) (rest := []) (pc' := 115) D105_112 rfl ck_10_static_207 TE146 rfl (Nat.le_of_ble_eq_true rfl) ⟨Nat.le_of_ble_eq_true rfl, Nat.le_of_ble_eq_true rfl⟩ (by decide) (dp_0 hd rfl) (k146g E (dp_n hd rfl) H v44 v57 (by omega) (by omega)) ?_
              intro v62 q66
              obtain ⟨q64, q65⟩ := q66
              have kd := q65; clear q65
              refine s_blx (lv' := [(9, vI v62), (8, vI v57), (7, vI v44), (6, vI v39), (0, vR 0), (1, vI sentence), (2, vI n), (3, vI slot), (4, vI value), (5, vI part)]) (st' := [vI part]) B105_115_119 rfl ?_
              refine r_ifc (tgt := 127) (pc' := 122) D105_119 rfl rfl (by unfold inR; omega) (fun (c67 : part ≠ 0) => ?_) (fun (c67 : ¬ (part ≠ 0)) => ?_)
              · refine s_blx (lv' := [(9, vI v62), (8, vI v57), (7, vI v44), (6, vI v39), (0, vR 0), (1, vI sentence), (2, vI n), (3, vI slot), (4, vI value), (5, vI part)]) (st' := [vI v62, vI v44]) B105_127_131 rfl ?_
                refine r_idiv (pc' := 132) D105_131 rfl (by omega) ?_
                have r70 := Int.ediv_nonneg (show 0 ≤ v44 by omega) (show 0 ≤ v62 by omega)
                have r71 := Int.ediv_le_self (v62) (show 0 ≤ v44 by omega)
                obtain ⟨z68, kz⟩ : ∃ q_, q_ = v44 / v62 := ⟨_, rfl⟩
                have kz := kz.symm
                rw [kz] at r70 r71 ⊢
                exact r_iretI D105_132 rfl (⟨rfl, by omega, odV_of cS_many.symm ka kb (by unfold ODc; rw [← cS_many, ← kl]; omega) (by omega) (by rw [← kd]; first | (rw [if_pos (show part = 0 by omega)]; exact kz) | (rw [if_neg (show ¬ part = 0 by omega)]; exact kz))⟩)
              · refine s_blx (lv' := [(9, vI v62), (8, vI v57), (7, vI v44), (6, vI v39), (0, vR 0), (1, vI sentence), (2, vI n), (3, vI slot), (4, vI value), (5, vI part)]) (st' := [vI v57]) B105_122_124 rfl ?_
                refine r_goto (tgt := 129) D105_124 rfl ?_
                refine s_blx (lv' := [(9, vI v62), (8, vI v57), (7, vI v44), (6, vI v39), (0, vR 0), (1, vI sentence), (2, vI n), (3, vI slot), (4, vI value), (5, vI part)]) (st' := [vI v62, vI v57]) B105_129_131 rfl ?_
                refine r_idiv (pc' := 132) D105_131 rfl (by omega) ?_
                have r74 := Int.ediv_nonneg (show 0 ≤ v57 by omega) (show 0 ≤ v62 by omega)
                have r75 := Int.ediv_le_self (v62) (show 0 ≤ v57 by omega)
                obtain ⟨z72, kz⟩ : ∃ q_, q_ = v57 / v62 := ⟨_, rfl⟩
                have kz := kz.symm
                rw [kz] at r74 r75 ⊢
                exact r_iretI D105_132 rfl (⟨rfl, by omega, odV_of cS_many.symm ka kb (by unfold ODc; rw [← cS_many, ← kl]; omega) (by omega) (by rw [← kd]; first | (rw [if_pos (show part = 0 by omega)]; exact kz) | (rw [if_neg (show ¬ part = 0 by omega)]; exact kz))⟩)
            · refine s_blx (lv' := [(7, vI v44), (6, vI v39), (0, vR 0), (1, vI sentence), (2, vI n), (3, vI slot), (4, vI value), (5, vI part)]) (st' := [vI (-1)]) B105_84_85 rfl ?_
              exact r_iretI D105_85 rfl (⟨rfl, by omega, (if_neg (fun h => h.2 (by unfold odA; rw [← cS_many, ← ka]; omega))).symm⟩)
          · refine s_blx (lv' := [(0, vR 0), (1, vI sentence), (2, vI n), (3, vI slot), (4, vI value), (5, vI part)]) (st' := [vI (-1)]) B105_55_56 rfl ?_
            exact r_iretI D105_56 rfl (⟨rfl, by omega, (if_neg (fun h => by have h2 := h.1; unfold ODc at h2; omega)).symm⟩)
        · refine s_blx (lv' := [(0, vR 0), (1, vI sentence), (2, vI n), (3, vI slot), (4, vI value), (5, vI part)]) (st' := [vI (-1)]) B105_36_37 rfl ?_
          exact r_iretI D105_37 rfl (⟨rfl, by omega, (if_neg (fun h => by have h2 := h.1; unfold ODc at h2; rw [← cS_many] at h2; omega)).symm⟩)
set_option maxRecDepth 4000 in
theorem L_k175g {base : Nat} {X : Nat → Option mC} {G : Nat → Value} (E : EnvOK base X G) {d : Nat} (hd : 0 ≤ d) {M : mH} (H : HI base M) (set : Int) (h0 : -2147483648 ≤ set ∧ set ≤ 2147483647) : ∀ mz : Nat, (∀ (x1 x2 : Int), (x1 = o1F set x2.toNat) → (0 ≤ x1 ∧ x1 ≤ x2) → (0 ≤ x1) → (x1 ≤ 17) → (0 ≤ x2) → (x2 ≤ 16) → (16 - x2) * 1 + 0 < (mz : Int) → sRn base X G d T175 4 [(0, vI set), (1, vI x1), (2, vI x2)] [] M (s_Q base (pI (fun v M' => M' = M ∧ (0 ≤ v ∧ v ≤ 16) ∧ v = o1F set 16)))) := by
  intro mz
  induction mz with
  | zero => exact fun x1 x2 z0 z1 z2 z3 z4 z5 z6 => by omega
  | succ mz ih =>
    intro x1 x2 i0 i1 i2 i3 i4 i5 hmu
    refine s_blx (lv' := [(0, vI set), (1, vI x1), (2, vI x2)]) (st' := [vI 16, vI x2]) B175_4_7 rfl ?_
    refine r_icmp (tgt := 24) (pc' := 10) D175_7 rfl rfl (by unfold inR; omega) (fun (c1 : 16 ≤ x2) => ?_) (fun (c1 : ¬ (16 ≤ x2)) => ?_)
    · refine s_blx (lv' := [(0, vI set), (1, vI x1), (2, vI x2)]) (st' := [vI x1]) B175_24_25 rfl ?_
      exact r_iretI D175_25 rfl (⟨rfl, by omega, by rw [show (16 : Nat) = x2.toNat by omega]; exact i0⟩)
    · refine s_blx (lv' := [(0, vI set), (1, vI x1), (2, vI x2)]) (st' := [vI x2, vI set, vI x1]) B175_10_13 rfl ?_
      refine r_bin (pc' := 14) D175_13 rfl rfl ?_
      intro z2 r3 kq; unfold inR at r3
      refine s_blx (lv' := [(0, vI set), (1, vI x1), (2, vI x2)]) (st' := [vI 1, vI z2, vI x1]) B175_14_15 rfl ?_
      refine r_and1 (pc' := 16) D175_15 rfl ?_
      refine s_blx (lv' := [(2, vI (x2 + 1)), (1, vI (x1 + (z2 % 2))), (0, vI set)]) (st' := []) B175_16_21 rfl ?_
      refine r_goto (tgt := 4) D175_21 rfl ?_
      refine r_loc (lv' := [(0, vI set), (1, vI (x1 + (z2 % 2))), (2, vI (x2 + 1))]) ⟨rfl, rfl, rfl, trivial⟩ rfl rfl ?_
      exact ih (x1 + (z2 % 2)) (x2 + 1) (by rw [o1F_step (by omega), ← i0, ← srI_of (by unfold inR; omega) kq]) (by omega) (by omega) (by omega) (by omega) (by omega) (by omega)
set_option maxRecDepth 4000 in
theorem k175g {base : Nat} {X : Nat → Option mC} {G : Nat → Value} (E : EnvOK base X G) {d : Nat} (hd : 0 ≤ d) {M : mH} (H : HI base M) (set : Int) (h0 : -2147483648 ≤ set ∧ set ≤ 2147483647) : sOk base X G d T175 [vI set] M (pI (fun v M' => M' = M ∧ (0 ≤ v ∧ v ≤ 16) ∧ v = o1F set 16)) := by
  refine sOk.of (show sRn base X G d T175 0 [(0, vI set)] [] M _ from ?_)
  refine s_blx (lv' := [(2, vI 0), (1, vI 0), (0, vI set)]) (st' := []) B175_0_4 rfl ?_
  refine r_loc (lv' := [(0, vI set), (1, vI 0), (2, vI 0)]) ⟨rfl, rfl, rfl, trivial⟩ rfl rfl ?_
  exact (L_k175g E hd H set h0 (((16 - 0) * 1 + 0 : Int) + 1).toNat) 0 0 (rfl) (by omega) (by omega) (by omega) (by omega) (by omega) (by omega)
set_option maxRecDepth 4000 in
theorem L_k173g {base : Nat} {X : Nat → Option mC} {G : Nat → Value} (E : EnvOK base X G) {d : Nat} (hd : 1 ≤ d) {M : mH} (H : HI base M) (set : Int) (K : Int → Int) (h0 : KK K M) (h1 : -2147483648 ≤ set ∧ set ≤ 2147483647) : ∀ mz : Nat, (∀ (x2 x3 : Int), (x2 = wtF K set x3.toNat) → (0 ≤ x2 ∧ x2 ≤ 100 * x3) → (x3 ≤ K 469) → (0 ≤ x2) → (x2 ≤ 1700) → (0 ≤ x3) → (x3 ≤ 16) → (16 - x3) * 1 + 0 < (mz : Int) → sRn base X G d T173 4 [(0, vR 77), (1, vI set), (2, vI x2), (3, vI x3)] [] M (s_Q base (pI (fun v M' => M' = M ∧ (0 ≤ v ∧ v ≤ 1600) ∧ v = wtF K set (K 469).toNat)))) := by
  intro mz
  induction mz with
  | zero => exact fun x2 x3 z0 z1 z2 z3 z4 z5 z6 z7 => by omega
  | succ mz ih =>
    intro x2 x3 i0 i1 i2 i3 i4 i5 i6 hmu
    refine s_blx (lv' := [(0, vR 77), (1, vI set), (2, vI x2), (3, vI x3)]) (st' := [vR 77, vI x3]) B173_4_6 rfl ?_
    refine r_gfix (r := 78) (pc' := 9) D173_6 rfl gf_11_13_77 H.1 ?_
    refine s_blx (lv' := [(0, vR 77), (1, vI set), (2, vI x2), (3, vI x3)]) (st' := [vI 469, vR 78, vI x3]) B173_9_12 rfl ?_
    refine r_iald (pc' := 13) D173_12 rfl sc_78 H.1 (by omega) ?_
    intro w1 e2 r3
    have kk_w1 := (h0) (469)
    have b_w1 := H.2 78 (469) 0 16 (rk_many (by omega))
    rw [← e2] at b_w1; clear r3
    refine r_icmp (tgt := 43) (pc' := 16) D173_13 rfl rfl (by unfold inR; omega) (fun (c4 : w1 ≤ x3) => ?_) (fun (c4 : ¬ (w1 ≤ x3)) => ?_)
    · refine s_blx (lv' := [(0, vR 77), (1, vI set), (2, vI x2), (3, vI x3)]) (st' := [vI x2]) B173_43_44 rfl ?_
      exact r_iretI D173_44 rfl (⟨rfl, by omega, by rw [show K 469 = x3 by omega]; exact i0⟩)
    · refine s_blx (lv' := [(0, vR 77), (1, vI set), (2, vI x2), (3, vI x3)]) (st' := [vI x3, vI set, vI x2]) B173_16_19 rfl ?_
      refine r_bin (pc' := 20) D173_19 rfl rfl ?_
      intro z5 r6 kq0; unfold inR at r6
      refine s_blx (lv' := [(0, vR 77), (1, vI set), (2, vI x2), (3, vI x3)]) (st' := [vI 1, vI z5, vI x2]) B173_20_21 rfl ?_
      refine r_and1 (pc' := 22) D173_21 rfl ?_
      refine s_blx (lv' := [(0, vR 77), (1, vI set), (2, vI x2), (3, vI x3)]) (st' := [vI 1, vI (z5 % 2), vI x2]) B173_22_23 rfl ?_
      refine r_icmp (tgt := 34) (pc' := 26) D173_23 rfl rfl (by unfold inR; omega) (fun (c7 : (z5 % 2) ≠ 1) => ?_) (fun (c7 : ¬ ((z5 % 2) ≠ 1)) => ?_)
      · refine s_blx (lv' := [(3, vI (x3 + 1)), (2, vI (x2 + 0)), (0, vR 77), (1, vI set)]) (st' := []) B173_34_40 rfl ?_
        refine r_goto (tgt := 4) D173_40 rfl ?_
        refine r_loc (lv' := [(0, vR 77), (1, vI set), (2, vI (x2 + 0)), (3, vI (x3 + 1))]) ⟨rfl, rfl, rfl, rfl, trivial⟩ rfl rfl ?_
        exact ih (x2 + 0) (x3 + 1) (by first | (rw [wtF_in (by omega) (by rw [← srI_of (by unfold inR; omega) kq0]; omega), ← i0, ← kv]) | (rw [wtF_out (by omega) (by rw [← srI_of (by unfold inR; omega) kq0]; omega)]; omega)) (by omega) (by omega) (by omega) (by omega) (by omega) (by omega) (by omega)
      · refine s_blx (lv' := [(0, vR 77), (1, vI set), (2, vI x2), (3, vI x3)]) (st' := [vI x3, vR 77, vI x2]) B173_26_28 rfl ?_
        refine r_vIp (c := 77) (args := [vI x3]) (rest := [vI x2]) (pc' := 31) D173_28 rfl ck_11_virtual_138 TE159 rfl (Nat.le_of_ble_eq_true rfl) ⟨Nat.le_of_ble_eq_true rfl, Nat.le_of_ble_eq_true rfl⟩ sc_77 ⟨rfl, by decide⟩ H.1 (dp_0 hd rfl) (k159f E (dp_n hd rfl) H x3 K (h0) (by omega)) ?_
        intro v8 q12
        obtain ⟨q10, q11⟩ := q12
        have kv := q11; clear q11
        refine r_goto (tgt := 35) D173_31 rfl ?_
        refine s_blx (lv' := [(3, vI (x3 + 1)), (2, vI (x2 + v8)), (0, vR 77), (1, vI set)]) (st' := []) B173_35_40 rfl ?_
        refine r_goto (tgt := 4) D173_40 rfl ?_
        refine r_loc (lv' := [(0, vR 77), (1, vI set), (2, vI (x2 + v8)), (3, vI (x3 + 1))]) ⟨rfl, rfl, rfl, rfl, trivial⟩ rfl rfl ?_
        exact ih (x2 + v8) (x3 + 1) (by first | (rw [wtF_in (by omega) (by rw [← srI_of (by unfold inR; omega) kq0]; omega), ← i0, ← kv]) | (rw [wtF_out (by omega) (by rw [← srI_of (by unfold inR; omega) kq0]; omega)]; omega)) (by omega) (by omega) (by omega) (by omega) (by omega) (by omega) (by omega)
set_option maxRecDepth 4000 in
theorem k173g {base : Nat} {X : Nat → Option mC} {G : Nat → Value} (E : EnvOK base X G) {d : Nat} (hd : 1 ≤ d) {M : mH} (H : HI base M) (set : Int) (K : Int → Int) (h0 : KK K M) (h1 : -2147483648 ≤ set ∧ set ≤ 2147483647) : sOk base X G d T173 [vR 77, vI set] M (pI (fun v M' => M' = M ∧ (0 ≤ v ∧ v ≤ 1600) ∧ v = wtF K set (K 469).toNat)) := by
  refine sOk.of (show sRn base X G d T173 0 [(0, vR 77), (1, vI set)] [] M _ from ?_)
  have km := h0.many H
  refine s_blx (lv' := [(3, vI 0), (2, vI 0), (0, vR 77), (1, vI set)]) (st' := []) B173_0_4 rfl ?_
  refine r_loc (lv' := [(0, vR 77), (1, vI set), (2, vI 0), (3, vI 0)]) ⟨rfl, rfl, rfl, rfl, trivial⟩ rfl rfl ?_
  exact (L_k173g E hd H set K h0 h1 (((16 - 0) * 1 + 0 : Int) + 1).toNat) 0 0 (rfl) (by omega) (by omega) (by omega) (by omega) (by omega) (by omega) (by omega)
set_option maxRecDepth 4000 in
theorem L_k174g {base : Nat} {X : Nat → Option mC} {G : Nat → Value} (E : EnvOK base X G) {d : Nat} (hd : 1 ≤ d) {M : mH} (H : HI base M) (set : Int) (slot : Int) (value : Int) (K : Int → Int) (h0 : KK K M) (h1 : -2147483648 ≤ set ∧ set ≤ 2147483647) (h2 : 0 ≤ slot ∧ slot ≤ 2) (h3 : -2147483648 ≤ value ∧ value ≤ 2147483647) : ∀ mz : Nat, (∀ (x4 x5 : Int), (x4 = wvF K set slot value x5.toNat) → (0 ≤ x4 ∧ x4 ≤ 100 * x5) → (x5 ≤ K 469) → (0 ≤ x4) → (x4 ≤ 1700) → (0 ≤ x5) → (x5 ≤ 16) → (16 - x5) * 1 + 0 < (mz : Int) → sRn base X G d T174 6 [(0, vR 77), (1, vI set), (2, vI slot), (3, vI value), (4, vI x4), (5, vI x5)] [] M (s_Q base (pI (fun v M' => M' = M ∧ (0 ≤ v ∧ v ≤ 1600) ∧ v = wvF K set slot value (K 469).toNat)))) := by
  intro mz
  induction mz with
  | zero => exact fun x4 x5 z0 z1 z2 z3 z4 z5 z6 z7 => by omega
  | succ mz ih =>
    intro x4 x5 i0 i1 i2 i3 i4 i5 i6 hmu
    refine s_blx (lv' := [(0, vR 77), (1, vI set), (2, vI slot), (3, vI value), (4, vI x4), (5, vI x5)]) (st' := [vR 77, vI x5]) B174_6_9 rfl ?_
    refine r_gfix (r := 78) (pc' := 12) D174_9 rfl gf_11_13_77 H.1 ?_
    refine s_blx (lv' := [(0, vR 77), (1, vI set), (2, vI slot), (3, vI value), (4, vI x4), (5, vI x5)]) (st' := [vI 469, vR 78, vI x5]) B174_12_15 rfl ?_
    refine r_iald (pc' := 16) D174_15 rfl sc_78 H.1 (by omega) ?_
    intro w1 e2 r3
    have kk_w1 := (h0) (469)
    have b_w1 := H.2 78 (469) 0 16 (rk_many (by omega))
    rw [← e2] at b_w1; clear r3
    refine r_icmp (tgt := 61) (pc' := 19) D174_16 rfl rfl (by unfold inR; omega) (fun (c4 : w1 ≤ x5) => ?_) (fun (c4 : ¬ (w1 ≤ x5)) => ?_)
    · refine s_blx (lv' := [(0, vR 77), (1, vI set), (2, vI slot), (3, vI value), (4, vI x4), (5, vI x5)]) (st' := [vI x4]) B174_61_63 rfl ?_
      exact r_iretI D174_63 rfl (⟨rfl, by omega, by rw [show K 469 = x5 by omega]; exact i0⟩)
    · refine s_blx (lv' := [(0, vR 77), (1, vI set), (2, vI slot), (3, vI value), (4, vI x4), (5, vI x5)]) (st' := [vI x5, vI set, vI x4]) B174_19_24 rfl ?_
      refine r_bin (pc' := 25) D174_24 rfl rfl ?_
      intro z5 r6 kq0; unfold inR at r6
      refine s_blx (lv' := [(0, vR 77), (1, vI set), (2, vI slot), (3, vI value), (4, vI x4), (5, vI x5)]) (st' := [vI 1, vI z5, vI x4]) B174_25_26 rfl ?_
      refine r_and1 (pc' := 27) D174_26 rfl ?_
      refine s_blx (lv' := [(0, vR 77), (1, vI set), (2, vI slot), (3, vI value), (4, vI x4), (5, vI x5)]) (st' := [vI 1, vI (z5 % 2), vI x4]) B174_27_28 rfl ?_
      refine r_icmp (tgt := 51) (pc' := 31) D174_28 rfl rfl (by unfold inR; omega) (fun (c7 : (z5 % 2) ≠ 1) => ?_) (fun (c7 : ¬ ((z5 % 2) ≠ 1)) => ?_)
      · refine s_blx (lv' := [(5, vI (x5 + 1)), (4, vI (x4 + 0)), (0, vR 77), (1, vI set), (2, vI slot), (3, vI value)]) (st' := []) B174_51_58 rfl ?_
        refine r_goto (tgt := 6) D174_58 rfl ?_
        refine r_loc (lv' := [(0, vR 77), (1, vI set), (2, vI slot), (3, vI value), (4, vI (x4 + 0)), (5, vI (x5 + 1))]) ⟨rfl, rfl, rfl, rfl, rfl, rfl, trivial⟩ rfl rfl ?_
        exact ih (x4 + 0) (x5 + 1) (by first | (rw [wvF_in (by omega) ⟨by rw [← srI_of (by unfold inR; omega) kq0]; omega, by rw [← ku]; omega⟩, ← i0, ← kv]) | (rw [wvF_out (by omega) (fun h => by have h1 := h.1; rw [← srI_of (by unfold inR; omega) kq0] at h1; omega)]; omega) | (rw [wvF_out (by omega) (fun h => by have h2 := h.2; rw [← ku] at h2; omega)]; omega)) (by omega) (by omega) (by omega) (by omega) (by omega) (by omega) (by omega)
      · refine s_blx (lv' := [(0, vR 77), (1, vI set), (2, vI slot), (3, vI value), (4, vI x4), (5, vI x5)]) (st' := [vI slot, vI x5, vR 77, vI x4]) B174_31_35 rfl ?_
        refine r_vIp (c := 77) (args := [vI x5, vI slot]) (rest := [vI x4]) (pc' := 38) D174_35 rfl ck_11_virtual_161 TE158 rfl (Nat.le_of_ble_eq_true rfl) ⟨Nat.le_of_ble_eq_true rfl, Nat.le_of_ble_eq_true rfl⟩ sc_77 ⟨rfl, by decide⟩ H.1 (dp_0 hd rfl) (k158f E (dp_n hd rfl) H x5 slot K (h0) (by omega) (by omega)) ?_
        intro v8 q12
        obtain ⟨q10, q11⟩ := q12
        have ku := q11; clear q11
        refine s_blx (lv' := [(0, vR 77), (1, vI set), (2, vI slot), (3, vI value), (4, vI x4), (5, vI x5)]) (st' := [vI value, vI v8, vI x4]) B174_38_39 rfl ?_
        refine r_icmp (tgt := 51) (pc' := 42) D174_39 rfl rfl (by unfold inR; omega) (fun (c13 : v8 ≠ value) => ?_) (fun (c13 : ¬ (v8 ≠ value)) => ?_)
        · refine s_blx (lv' := [(5, vI (x5 + 1)), (4, vI (x4 + 0)), (0, vR 77), (1, vI set), (2, vI slot), (3, vI value)]) (st' := []) B174_51_58 rfl ?_
          refine r_goto (tgt := 6) D174_58 rfl ?_
          refine r_loc (lv' := [(0, vR 77), (1, vI set), (2, vI slot), (3, vI value), (4, vI (x4 + 0)), (5, vI (x5 + 1))]) ⟨rfl, rfl, rfl, rfl, rfl, rfl, trivial⟩ rfl rfl ?_
          exact ih (x4 + 0) (x5 + 1) (by first | (rw [wvF_in (by omega) ⟨by rw [← srI_of (by unfold inR; omega) kq0]; omega, by rw [← ku]; omega⟩, ← i0, ← kv]) | (rw [wvF_out (by omega) (fun h => by have h1 := h.1; rw [← srI_of (by unfold inR; omega) kq0] at h1; omega)]; omega) | (rw [wvF_out (by omega) (fun h => by have h2 := h.2; rw [← ku] at h2; omega)]; omega)) (by omega) (by omega) (by omega) (by omega) (by omega) (by omega) (by omega)
        · refine s_blx (lv' := [(0, vR 77), (1, vI set), (2, vI slot), (3, vI value), (4, vI x4), (5, vI x5)]) (st' := [vI x5, vR 77, vI x4]) B174_42_45 rfl ?_
          refine r_vIp (c := 77) (args := [vI x5]) (rest := [vI x4]) (pc' := 48) D174_45 rfl ck_11_virtual_138 TE159 rfl (Nat.le_of_ble_eq_true rfl) ⟨Nat.le_of_ble_eq_true rfl, Nat.le_of_ble_eq_true rfl⟩ sc_77 ⟨rfl, by decide⟩ H.1 (dp_0 hd rfl) (k159f E (dp_n hd rfl) H x5 K (h0) (by omega)) ?_
          intro v14 q18
          obtain ⟨q16, q17⟩ := q18
          have kv := q17; clear q17
          refine r_goto (tgt := 52) D174_48 rfl ?_
          refine s_blx (lv' := [(5, vI (x5 + 1)), (4, vI (x4 + v14)), (0, vR 77), (1, vI set), (2, vI slot), (3, vI value)]) (st' := []) B174_52_58 rfl ?_
          refine r_goto (tgt := 6) D174_58 rfl ?_
          refine r_loc (lv' := [(0, vR 77), (1, vI set), (2, vI slot), (3, vI value), (4, vI (x4 + v14)), (5, vI (x5 + 1))]) ⟨rfl, rfl, rfl, rfl, rfl, rfl, trivial⟩ rfl rfl ?_
          exact ih (x4 + v14) (x5 + 1) (by first | (rw [wvF_in (by omega) ⟨by rw [← srI_of (by unfold inR; omega) kq0]; omega, by rw [← ku]; omega⟩, ← i0, ← kv]) | (rw [wvF_out (by omega) (fun h => by have h1 := h.1; rw [← srI_of (by unfold inR; omega) kq0] at h1; omega)]; omega) | (rw [wvF_out (by omega) (fun h => by have h2 := h.2; rw [← ku] at h2; omega)]; omega)) (by omega) (by omega) (by omega) (by omega) (by omega) (by omega) (by omega)
set_option maxRecDepth 4000 in
theorem k174g {base : Nat} {X : Nat → Option mC} {G : Nat → Value} (E : EnvOK base X G) {d : Nat} (hd : 1 ≤ d) {M : mH} (H : HI base M) (set : Int) (slot : Int) (value : Int) (K : Int → Int) (h0 : KK K M) (h1 : -2147483648 ≤ set ∧ set ≤ 2147483647) (h2 : 0 ≤ slot ∧ slot ≤ 2) (h3 : -2147483648 ≤ value ∧ value ≤ 2147483647) : sOk base X G d T174 [vR 77, vI set, vI slot, vI value] M (pI (fun v M' => M' = M ∧ (0 ≤ v ∧ v ≤ 1600) ∧ v = wvF K set slot value (K 469).toNat)) := by
  refine sOk.of (show sRn base X G d T174 0 [(0, vR 77), (1, vI set), (2, vI slot), (3, vI value)] [] M _ from ?_)
  have km := h0.many H
  refine s_blx (lv' := [(5, vI 0), (4, vI 0), (0, vR 77), (1, vI set), (2, vI slot), (3, vI value)]) (st' := []) B174_0_6 rfl ?_
  refine r_loc (lv' := [(0, vR 77), (1, vI set), (2, vI slot), (3, vI value), (4, vI 0), (5, vI 0)]) ⟨rfl, rfl, rfl, rfl, rfl, rfl, trivial⟩ rfl rfl ?_
  exact (L_k174g E hd H set slot value K h0 h1 h2 h3 (((16 - 0) * 1 + 0 : Int) + 1).toNat) 0 0 (rfl) (by omega) (by omega) (by omega) (by omega) (by omega) (by omega) (by omega)
set_option maxRecDepth 4000 in
theorem L_k178g {base : Nat} {X : Nat → Option mC} {G : Nat → Value} (E : EnvOK base X G) {d : Nat} (hd : 0 ≤ d) {M : mH} (H : HI base M) (a : Int) (b : Int) (h0 : 0 ≤ a ∧ a ≤ 1600) (h1 : 1 ≤ b ∧ b ≤ 1600) : ∀ mz : Nat, (∀ (x2 x3 : Int), (cdF x2 x3 = cdF a b) → (0 ≤ x2 ∧ x2 ≤ 1600) → (0 ≤ x3 ∧ x3 ≤ 1600) → (0 ≤ x2) → (x2 ≤ 1600) → (0 ≤ x3) → (x3 ≤ 1600) → x3 * 1 + 0 < (mz : Int) → sRn base X G d T178 4 [(2, vI x2), (3, vI x3)] [] M (s_Q base (pI (fun v M' => M' = M ∧ (1 ≤ v ∧ v ≤ 1600) ∧ v = cdF a b)))) := by
  intro mz
  induction mz with
  | zero => exact fun x2 x3 z0 z1 z2 z3 z4 z5 z6 z7 => by omega
  | succ mz ih =>
    intro x2 x3 i0 i1 i2 i3 i4 i5 i6 hmu
    refine s_blx (lv' := [(2, vI x2), (3, vI x3)]) (st' := [vI x3]) B178_4_5 rfl ?_
    refine r_ifc (tgt := 21) (pc' := 8) D178_5 rfl rfl (by unfold inR; omega) (fun (c1 : x3 = 0) => ?_) (fun (c1 : ¬ (x3 = 0)) => ?_)
    · refine s_blx (lv' := [(2, vI x2), (3, vI x3)]) (st' := [vI x2]) B178_21_22 rfl ?_
      exact r_iretI D178_22 rfl (⟨rfl, (by have y := cdF_pos (x := a) (y := b) (by omega) (by omega); have e : x3 = 0 := (by omega); subst e; rw [cdF_0 (by omega)] at i0; omega), (by have e : x3 = 0 := (by omega); subst e; rw [cdF_0 (by omega)] at i0; exact i0)⟩)
    · refine s_blx (lv' := [(2, vI x2), (3, vI x3)]) (st' := [vI x3, vI x2]) B178_8_10 rfl ?_
      refine r_irem (pc' := 11) D178_10 rfl (by omega) ?_
      have r4 := Int.emod_nonneg x2 (show x3 ≠ 0 by omega)
      have r5 := Int.emod_lt_of_pos x2 (show 0 < x3 by omega)
      obtain ⟨z2, kz⟩ : ∃ q_, q_ = x2 % x3 := ⟨_, rfl⟩
      have kz := kz.symm
      rw [kz] at r4 r5 ⊢
      refine s_blx (lv' := [(3, vI z2), (2, vI x3), (4, vI z2)]) (st' := []) B178_11_18 rfl ?_
      refine r_goto (tgt := 4) D178_18 rfl ?_
      refine r_loc (lv' := [(2, vI x3), (3, vI z2)]) ⟨rfl, rfl, trivial⟩ rfl rfl ?_
      exact ih x3 z2 (by rw [← i0]; exact cdF_step (by omega) (by omega) kz) (by omega) (by omega) (by omega) (by omega) (by omega) (by omega) (by omega)
set_option maxRecDepth 4000 in
theorem k178g {base : Nat} {X : Nat → Option mC} {G : Nat → Value} (E : EnvOK base X G) {d : Nat} (hd : 0 ≤ d) {M : mH} (H : HI base M) (a : Int) (b : Int) (h0 : 0 ≤ a ∧ a ≤ 1600) (h1 : 1 ≤ b ∧ b ≤ 1600) : sOk base X G d T178 [vI a, vI b] M (pI (fun v M' => M' = M ∧ (1 ≤ v ∧ v ≤ 1600) ∧ v = cdF a b)) := by
  refine sOk.of (show sRn base X G d T178 0 [(0, vI a), (1, vI b)] [] M _ from ?_)
  refine s_blx (lv' := [(3, vI b), (2, vI a), (0, vI a), (1, vI b)]) (st' := []) B178_0_4 rfl ?_
  refine r_loc (lv' := [(2, vI a), (3, vI b)]) ⟨rfl, rfl, trivial⟩ rfl rfl ?_
  exact (L_k178g E hd H a b h0 h1 ((b * 1 + 0 : Int) + 1).toNat) a b (rfl) (by omega) (by omega) (by omega) (by omega) (by omega) (by omega) (by omega)
set_option maxRecDepth 4000 in
theorem k160g {base : Nat} {X : Nat → Option mC} {G : Nat → Value} (E : EnvOK base X G) {d : Nat} (hd : 2 ≤ d) {M : mH} (H : HI base M) (s : Int) (K : Int → Int) (h0 : KK K M) (h1 : -2147483648 ≤ s ∧ s ≤ 2147483647) : sOk base X G d T160 [vR 77, vI s] M (pI (fun v M' => M' = M ∧ (v = 0 ∨ v = 1) ∧ (v = 1 → 0 ≤ s ∧ s < K 469 ∧ s ≤ 15 ∧ 1 ≤ K (135 + 16 * s + 12 + K 474)) ∧ (v = 0 → s < 0 ∨ K 469 ≤ s ∨ K (135 + 16 * s + 12 + K 474) ≤ 0))) := by
  refine sOk.of (show sRn base X G d T160 0 [(0, vR 77), (1, vI s)] [] M _ from ?_)
  refine s_blx (lv' := [(0, vR 77), (1, vI s)]) (st' := [vI s, vR 77]) B160_0_2 rfl ?_
  refine r_vIp (c := 77) (args := [vI s]) (rest := []) (pc' := 5) D160_2 rfl ck_11_virtual_134 TE154 rfl (Nat.le_of_ble_eq_true rfl) ⟨Nat.le_of_ble_eq_true rfl, Nat.le_of_ble_eq_true rfl⟩ sc_77 ⟨rfl, by decide⟩ H.1 (dp_0 hd rfl) (k154n E (dp_n hd rfl) H s K (h0) (by omega)) ?_
  intro v1 q6
  obtain ⟨q3, q4, q5⟩ := q6
  refine r_ifc (tgt := 20) (pc' := 8) D160_5 rfl rfl (by unfold inR; omega) (fun (c7 : v1 = 0) => ?_) (fun (c7 : ¬ (v1 = 0)) => ?_)
  · refine s_blx (lv' := [(0, vR 77), (1, vI s)]) (st' := [vI 0]) B160_20_21 rfl ?_
    exact r_zretI D160_21 rfl (by omega) (⟨rfl, by omega, by omega, by omega⟩)
  · refine s_blx (lv' := [(0, vR 77), (1, vI s)]) (st' := [vI s, vR 77]) B160_8_10 rfl ?_
    refine r_vIp (c := 77) (args := [vI s]) (rest := []) (pc' := 13) D160_10 rfl ck_11_virtual_138 TE159 rfl (Nat.le_of_ble_eq_true rfl) ⟨Nat.le_of_ble_eq_true rfl, Nat.le_of_ble_eq_true rfl⟩ sc_77 ⟨rfl, by decide⟩ H.1 (dp_0 hd rfl) (k159f E (dp_n hd rfl) H s K (h0) (by omega)) ?_
    intro v8 q12
    obtain ⟨q10, q11⟩ := q12
    refine r_ifc (tgt := 20) (pc' := 16) D160_13 rfl rfl (by unfold inR; omega) (fun (c13 : v8 ≤ 0) => ?_) (fun (c13 : ¬ (v8 ≤ 0)) => ?_)
    · refine s_blx (lv' := [(0, vR 77), (1, vI s)]) (st' := [vI 0]) B160_20_21 rfl ?_
      exact r_zretI D160_21 rfl (by omega) (⟨rfl, by omega, by omega, by omega⟩)
    · refine s_blx (lv' := [(0, vR 77), (1, vI s)]) (st' := [vI 1]) B160_16_17 rfl ?_
      refine r_goto (tgt := 21) D160_17 rfl ?_
      exact r_zretI D160_21 rfl (by omega) (⟨rfl, by omega, by omega, by omega⟩)
set_option maxRecDepth 4000 in
theorem L_k177g {base : Nat} {X : Nat → Option mC} {G : Nat → Value} (E : EnvOK base X G) {d : Nat} (hd : 3 ≤ d) {M : mH} (H : HI base M) (s : Int) (slot : Int) (K : Int → Int) (h0 : KK K M) (h1 : -2147483648 ≤ s ∧ s ≤ 2147483647) (h2 : -2147483648 ≤ slot ∧ slot ≤ 2147483647) : ∀ mz : Nat, (∀ (x3 : Int), (0 ≤ s ∧ s < K 469 ∧ s ≤ 15) → (1 ≤ K (135 + 16 * s + 12 + K 474)) → (0 ≤ slot ∧ slot ≤ 2) → (0 ≤ x3 ∧ x3 ≤ K (135 + 16 * s)) → (K (135 + 16 * s) ≤ 8) → (∀ t : Int, 0 ≤ t → t < x3 → ¬ ON1 K (K 469).toNat s slot t) → (0 ≤ x3) → (x3 ≤ 8) → (0 ≤ s) → (s ≤ 15) → (0 ≤ slot) → (slot ≤ 2) → (8 - x3) * 1 + 0 < (mz : Int) → sRn base X G d T177 21 [(0, vR 77), (1, vI s), (2, vI slot), (3, vI x3)] [] M (s_Q base (pI (fun v M' => M' = M ∧ (-2147483648 ≤ v ∧ v ≤ 2147483647) ∧ v = fxV K s slot)))) := by
  intro mz
  induction mz with
  | zero => exact fun x3 z0 z1 z2 z3 z4 z5 z6 z7 z8 z9 z10 z11 z12 => by omega
  | succ mz ih =>
    intro x3 i0 i1 i2 i3 i4 i5 i6 i7 i8 i9 i10 i11 hmu
    refine s_blx (lv' := [(0, vR 77), (1, vI s), (2, vI slot), (3, vI x3)]) (st' := [vI s, vR 77, vI x3]) B177_21_24 rfl ?_
    refine r_vIp (c := 77) (args := [vI s]) (rest := [vI x3]) (pc' := 27) D177_24 rfl ck_11_virtual_144 TE156 rfl (Nat.le_of_ble_eq_true rfl) ⟨Nat.le_of_ble_eq_true rfl, Nat.le_of_ble_eq_true rfl⟩ sc_77 ⟨rfl, by decide⟩ H.1 (dp_0 hd rfl) (k156f E (dp_n hd rfl) H s K (h0) (by omega)) ?_
    intro v15 q19
    obtain ⟨q17, q18⟩ := q19
    have kl := q18; clear q18
    refine r_icmp (tgt := 59) (pc' := 30) D177_27 rfl rfl (by unfold inR; omega) (fun (c20 : v15 ≤ x3) => ?_) (fun (c20 : ¬ (v15 ≤ x3)) => ?_)
    · refine s_blx (lv' := [(0, vR 77), (1, vI s), (2, vI slot), (3, vI x3)]) (st' := [vI s, vR 77]) B177_59_61 rfl ?_
      refine r_vIp (c := 77) (args := [vI s]) (rest := []) (pc' := 64) D177_61 rfl ck_11_virtual_144 TE156 rfl (Nat.le_of_ble_eq_true rfl) ⟨Nat.le_of_ble_eq_true rfl, Nat.le_of_ble_eq_true rfl⟩ sc_77 ⟨rfl, by decide⟩ H.1 (dp_0 hd rfl) (k156f E (dp_n hd rfl) H s K (h0) (by omega)) ?_
      intro v21 q25
      obtain ⟨q23, q24⟩ := q25
      exact r_iretI D177_64 rfl (⟨rfl, by omega, fxV.of (fun h => absurd ⟨by omega, by unfold SPN; omega⟩ h) (fun _ => ⟨⟨by omega, by omega⟩, fun t a b => i5 t a (by omega), fun q => by omega⟩)⟩)
    · refine s_blx (lv' := [(0, vR 77), (1, vI s), (2, vI slot), (3, vI x3)]) (st' := [vI 0, vI (x3 + 1), vI s, vR 77, vR 77]) B177_30_37 rfl ?_
      refine r_vIp (c := 77) (args := [vI s, vI (x3 + 1), vI 0]) (rest := [vR 77]) (pc' := 40) D177_37 rfl ck_11_virtual_167 TE171 rfl (Nat.le_of_ble_eq_true rfl) ⟨Nat.le_of_ble_eq_true rfl, Nat.le_of_ble_eq_true rfl⟩ sc_77 ⟨rfl, by decide⟩ H.1 (dp_0 hd rfl) (k171f E (dp_n hd rfl) H s (x3 + 1) 0 K (by omega) (h0) (by omega) (by omega)) ?_
      intro v26 q30
      obtain ⟨q28, q29⟩ := q30
      have kc := q29; clear q29
      refine s_blx (lv' := [(0, vR 77), (1, vI s), (2, vI slot), (3, vI x3)]) (st' := [vI slot, vI v26, vR 77]) B177_40_41 rfl ?_
      refine r_vIp (c := 77) (args := [vI v26, vI slot]) (rest := []) (pc' := 44) D177_41 rfl ck_11_virtual_171 TE172 rfl (Nat.le_of_ble_eq_true rfl) ⟨Nat.le_of_ble_eq_true rfl, Nat.le_of_ble_eq_true rfl⟩ sc_77 ⟨rfl, by decide⟩ H.1 (dp_0 hd rfl) (k172f E (dp_n hd rfl) H v26 slot K (h0) (by omega) (by omega)) ?_
      intro v31 q35
      obtain ⟨q33, q34⟩ := q35
      have kv := q34; clear q34
      refine r_sIp (args := [vI v31]) (rest := []) (pc' := 47) D177_44 rfl ck_11_static_174 TE175 rfl (Nat.le_of_ble_eq_true rfl) ⟨Nat.le_of_ble_eq_true rfl, Nat.le_of_ble_eq_true rfl⟩ (by decide) (dp_0 hd rfl) (k175g E (dp_n hd rfl) H v31 (by omega)) ?_
      intro v36 q40
      obtain ⟨q38, q39⟩ := q40
      have kn := q39; clear q39
      refine s_blx (lv' := [(0, vR 77), (1, vI s), (2, vI slot), (3, vI x3)]) (st' := [vI 1, vI v36]) B177_47_48 rfl ?_
      refine r_icmp (tgt := 53) (pc' := 51) D177_48 rfl rfl (by unfold inR; omega) (fun (c41 : v36 ≠ 1) => ?_) (fun (c41 : ¬ (v36 ≠ 1)) => ?_)
      · refine s_blx (lv' := [(3, vI (x3 + 1)), (0, vR 77), (1, vI s), (2, vI slot)]) (st' := []) B177_53_56 rfl ?_
        refine r_goto (tgt := 21) D177_56 rfl ?_
        refine r_loc (lv' := [(0, vR 77), (1, vI s), (2, vI slot), (3, vI (x3 + 1))]) ⟨rfl, rfl, rfl, rfl, trivial⟩ rfl rfl ?_
        exact ih (x3 + 1) (by omega) (by omega) (by omega) (by omega) (by omega) (fun t a b => if e : t = x3 then (by rw [e]; unfold ON1; rw [← kc, ← kv, ← kn]; omega) else i5 t a (by omega)) (by omega) (by omega) (by omega) (by omega) (by omega) (by omega) (by omega)
      · refine s_blx (lv' := [(0, vR 77), (1, vI s), (2, vI slot), (3, vI x3)]) (st' := [vI x3]) B177_51_52 rfl ?_
        exact r_iretI D177_52 rfl (⟨rfl, by omega, fxV.of (fun h => absurd ⟨by omega, by unfold SPN; omega⟩ h) (fun _ => ⟨⟨by omega, by omega⟩, i5, fun _ => by unfold ON1; rw [← kc, ← kv, ← kn]; omega⟩)⟩)
set_option maxRecDepth 4000 in
theorem k177g {base : Nat} {X : Nat → Option mC} {G : Nat → Value} (E : EnvOK base X G) {d : Nat} (hd : 3 ≤ d) {M : mH} (H : HI base M) (s : Int) (slot : Int) (K : Int → Int) (h0 : KK K M) (h1 : -2147483648 ≤ s ∧ s ≤ 2147483647) (h2 : -2147483648 ≤ slot ∧ slot ≤ 2147483647) : sOk base X G d T177 [vR 77, vI s, vI slot] M (pI (fun v M' => M' = M ∧ (-2147483648 ≤ v ∧ v ≤ 2147483647) ∧ v = fxV K s slot)) := by
  refine sOk.of (show sRn base X G d T177 0 [(0, vR 77), (1, vI s), (2, vI slot)] [] M _ from ?_)
  have km := h0.many H
  refine s_blx (lv' := [(0, vR 77), (1, vI s), (2, vI slot)]) (st' := [vI s, vR 77]) B177_0_2 rfl ?_
  refine r_vIp (c := 77) (args := [vI s]) (rest := []) (pc' := 5) D177_2 rfl ck_11_virtual_164 TE160 rfl (Nat.le_of_ble_eq_true rfl) ⟨Nat.le_of_ble_eq_true rfl, Nat.le_of_ble_eq_true rfl⟩ sc_77 ⟨rfl, by decide⟩ H.1 (dp_0 hd rfl) (k160g E (dp_n hd rfl) H s K (h0) (by omega)) ?_
  intro v1 q6
  obtain ⟨q3, q4, q5⟩ := q6
  have ks := q4; clear q4
  have kns := q5; clear q5
  refine r_ifc (tgt := 17) (pc' := 8) D177_5 rfl rfl (by unfold inR; omega) (fun (c7 : v1 = 0) => ?_) (fun (c7 : ¬ (v1 = 0)) => ?_)
  · refine s_blx (lv' := [(0, vR 77), (1, vI s), (2, vI slot)]) (st' := [vI (-1)]) B177_17_18 rfl ?_
    exact r_iretI D177_18 rfl (⟨rfl, by omega, fxV.of (fun _ => by omega) (fun h => by exfalso; have h2 := h.2; unfold SPN at h2; first | (have q := kns (by omega); omega) | (have q := kf0 (by omega); omega))⟩)
  · refine s_blx (lv' := [(0, vR 77), (1, vI s), (2, vI slot)]) (st' := [vI 2, vI 0, vI slot]) B177_8_11 rfl ?_
    refine r_sIp (args := [vI slot, vI 0, vI 2]) (rest := []) (pc' := 14) D177_11 rfl ck_11_static_123 TE147 rfl (Nat.le_of_ble_eq_true rfl) ⟨Nat.le_of_ble_eq_true rfl, Nat.le_of_ble_eq_true rfl⟩ (by decide) (dp_0 hd rfl) (k147 E (dp_n hd rfl) H slot 0 2 (by omega) (by omega) (by omega)) ?_
    intro v8 q13
    obtain ⟨q10, q11, q12⟩ := q13
    have kf := q11; clear q11
    have kf0 := q12; clear q12
    refine r_ifc (tgt := 19) (pc' := 17) D177_14 rfl rfl (by unfold inR; omega) (fun (c14 : v8 ≠ 0) => ?_) (fun (c14 : ¬ (v8 ≠ 0)) => ?_)
    · refine s_blx (lv' := [(3, vI 0), (0, vR 77), (1, vI s), (2, vI slot)]) (st' := []) B177_19_21 rfl ?_
      refine r_loc (lv' := [(0, vR 77), (1, vI s), (2, vI slot), (3, vI 0)]) ⟨rfl, rfl, rfl, rfl, trivial⟩ rfl rfl ?_
      exact (L_k177g E hd H s slot K h0 h1 h2 (((8 - 0) * 1 + 0 : Int) + 1).toNat) 0 (by omega) (by omega) (by omega) (by have q := H.2 78 (135 + 16 * s) 0 8 (rk_len (by omega)); rw [h0] at q; omega) (by have q := H.2 78 (135 + 16 * s) 0 8 (rk_len (by omega)); rw [h0] at q; omega) (fun t a b => absurd b (by omega)) (by omega) (by omega) (by omega) (by omega) (by omega) (by omega) (by omega)
    · refine s_blx (lv' := [(0, vR 77), (1, vI s), (2, vI slot)]) (st' := [vI (-1)]) B177_17_18 rfl ?_
      exact r_iretI D177_18 rfl (⟨rfl, by omega, fxV.of (fun _ => by omega) (fun h => by exfalso; have h2 := h.2; unfold SPN at h2; first | (have q := kns (by omega); omega) | (have q := kf0 (by omega); omega))⟩)
set_option maxRecDepth 4000 in
theorem k179g {base : Nat} {X : Nat → Option mC} {G : Nat → Value} (E : EnvOK base X G) {d : Nat} (hd : 3 ≤ d) {M : mH} (H : HI base M) (s : Int) (n : Int) (slot : Int) (value : Int) (which : Int) (K : Int → Int) (h0 : KK K M) (h1 : -2147483648 ≤ s ∧ s ≤ 2147483647) (h2 : -2147483648 ≤ n ∧ n ≤ 2147483647) (h3 : -2147483648 ≤ slot ∧ slot ≤ 2147483647) (h4 : -2147483648 ≤ value ∧ value ≤ 2147483647) (h5 : -2147483648 ≤ which ∧ which ≤ 2147483647) : sOk base X G d T179 [vR 77, vI s, vI n, vI slot, vI value, vI which] M (pI (fun v M' => M' = M ∧ (-2147483648 ≤ v ∧ v ≤ 2147483647) ∧ v = odV K s n slot value which)) := by
  refine sOk.of (show sRn base X G d T179 0 [(0, vR 77), (1, vI s), (2, vI n), (3, vI slot), (4, vI value), (5, vI which)] [] M _ from ?_)
  have km := h0.many H
  have kwb : ∀ k : Nat, k < (K 469).toNat → 0 ≤ K (135 + 16 * k + 12 + K 474) ∧ K (135 + 16 * k + 12 + K 474) ≤ 100 := fun k hk => by have q1 := H.2 78 474 0 3 (rk_who (by omega)); rw [h0 474] at q1; have q := H.2 78 (135 + 16 * (k : Int) + 12 + K 474) 0 100 (rk_wgt (by omega)); rw [h0] at q; exact q
  refine s_blx (lv' := [(0, vR 77), (1, vI s), (2, vI n), (3, vI slot), (4, vI value), (5, vI which)]) (st' := [vI s, vR 77]) B179_0_2 rfl ?_
  refine r_vIp (c := 77) (args := [vI s]) (rest := []) (pc' := 5) D179_2 rfl ck_11_virtual_134 TE154 rfl (Nat.le_of_ble_eq_true rfl) ⟨Nat.le_of_ble_eq_true rfl, Nat.le_of_ble_eq_true rfl⟩ sc_77 ⟨rfl, by decide⟩ H.1 (dp_0 hd rfl) (k154n E (dp_n hd rfl) H s K (h0) (by omega)) ?_
  intro v1 q6
  obtain ⟨q3, q4, q5⟩ := q6
  have ks := q4; clear q4
  have ks0 := q5; clear q5
  refine r_ifc (tgt := 51) (pc' := 8) D179_5 rfl rfl (by unfold inR; omega) (fun (c7 : v1 = 0) => ?_) (fun (c7 : ¬ (v1 = 0)) => ?_)
  · refine s_blx (lv' := [(0, vR 77), (1, vI s), (2, vI n), (3, vI slot), (4, vI value), (5, vI which)]) (st' := [vI (-1)]) B179_51_52 rfl ?_
    exact r_iretI D179_52 rfl (⟨rfl, by omega, (if_neg (fun h => by have h2 := h.1; unfold ODc at h2; omega)).symm⟩)
  · refine s_blx (lv' := [(0, vR 77), (1, vI s), (2, vI n), (3, vI slot), (4, vI value), (5, vI which)]) (st' := [vI s, vR 77, vI 0, vI n]) B179_8_12 rfl ?_
    refine r_vIp (c := 77) (args := [vI s]) (rest := [vI 0, vI n]) (pc' := 15) D179_12 rfl ck_11_virtual_144 TE156 rfl (Nat.le_of_ble_eq_true rfl) ⟨Nat.le_of_ble_eq_true rfl, Nat.le_of_ble_eq_true rfl⟩ sc_77 ⟨rfl, by decide⟩ H.1 (dp_0 hd rfl) (k156f E (dp_n hd rfl) H s K (h0) (by omega)) ?_
    intro v8 q12
    obtain ⟨q10, q11⟩ := q12
    have kl := q11; clear q11
    refine r_sIp (args := [vI n, vI 0, vI v8]) (rest := []) (pc' := 18) D179_15 rfl ck_11_static_123 TE147 rfl (Nat.le_of_ble_eq_true rfl) ⟨Nat.le_of_ble_eq_true rfl, Nat.le_of_ble_eq_true rfl⟩ (by decide) (dp_0 hd rfl) (k147 E (dp_n hd rfl) H n 0 v8 (by omega) (by omega) (by omega)) ?_
    intro v13 q18
    obtain ⟨q15, q16, q17⟩ := q18
    have kw1 := q16; clear q16
    have kw0 := q17; clear q17
    refine r_ifc (tgt := 51) (pc' := 21) D179_18 rfl rfl (by unfold inR; omega) (fun (c19 : v13 = 0) => ?_) (fun (c19 : ¬ (v13 = 0)) => ?_)
    · refine s_blx (lv' := [(0, vR 77), (1, vI s), (2, vI n), (3, vI slot), (4, vI value), (5, vI which)]) (st' := [vI (-1)]) B179_51_52 rfl ?_
      exact r_iretI D179_52 rfl (⟨rfl, by omega, (if_neg (fun h => by have h2 := h.1; unfold ODc at h2; omega)).symm⟩)
    · refine s_blx (lv' := [(0, vR 77), (1, vI s), (2, vI n), (3, vI slot), (4, vI value), (5, vI which)]) (st' := [vI 2, vI 0, vI slot]) B179_21_24 rfl ?_
      refine r_sIp (args := [vI slot, vI 0, vI 2]) (rest := []) (pc' := 27) D179_24 rfl ck_11_static_123 TE147 rfl (Nat.le_of_ble_eq_true rfl) ⟨Nat.le_of_ble_eq_true rfl, Nat.le_of_ble_eq_true rfl⟩ (by decide) (dp_0 hd rfl) (k147 E (dp_n hd rfl) H slot 0 2 (by omega) (by omega) (by omega)) ?_
      intro v20 q25
      obtain ⟨q22, q23, q24⟩ := q25
      have ksl := q23; clear q23
      have ksn := q24; clear q24
      refine r_ifc (tgt := 51) (pc' := 30) D179_27 rfl rfl (by unfold inR; omega) (fun (c26 : v20 = 0) => ?_) (fun (c26 : ¬ (v20 = 0)) => ?_)
      · refine s_blx (lv' := [(0, vR 77), (1, vI s), (2, vI n), (3, vI slot), (4, vI value), (5, vI which)]) (st' := [vI (-1)]) B179_51_52 rfl ?_
        exact r_iretI D179_52 rfl (⟨rfl, by omega, (if_neg (fun h => by have h2 := h.1; unfold ODc at h2; omega)).symm⟩)
      · refine s_blx (lv' := [(0, vR 77), (1, vI s), (2, vI n), (3, vI slot), (4, vI value), (5, vI which)]) (st' := [vI 7, vI 0, vI value]) B179_30_35 rfl ?_
        refine r_sIp (args := [vI value, vI 0, vI 7]) (rest := []) (pc' := 38) D179_35 rfl ck_11_static_123 TE147 rfl (Nat.le_of_ble_eq_true rfl) ⟨Nat.le_of_ble_eq_true rfl, Nat.le_of_ble_eq_true rfl⟩ (by decide) (dp_0 hd rfl) (k147 E (dp_n hd rfl) H value 0 7 (by omega) (by omega) (by omega)) ?_
        intro v27 q32
        obtain ⟨q29, q30, q31⟩ := q32
        have kva := q30; clear q30
        have kvn := q31; clear q31
        refine r_ifc (tgt := 51) (pc' := 41) D179_38 rfl rfl (by unfold inR; omega) (fun (c33 : v27 = 0) => ?_) (fun (c33 : ¬ (v27 = 0)) => ?_)
        · refine s_blx (lv' := [(0, vR 77), (1, vI s), (2, vI n), (3, vI slot), (4, vI value), (5, vI which)]) (st' := [vI (-1)]) B179_51_52 rfl ?_
          exact r_iretI D179_52 rfl (⟨rfl, by omega, (if_neg (fun h => by have h2 := h.1; unfold ODc at h2; omega)).symm⟩)
        · refine s_blx (lv' := [(0, vR 77), (1, vI s), (2, vI n), (3, vI slot), (4, vI value), (5, vI which)]) (st' := [vI 1, vI 0, vI which]) B179_41_45 rfl ?_
          refine r_sIp (args := [vI which, vI 0, vI 1]) (rest := []) (pc' := 48) D179_45 rfl ck_11_static_123 TE147 rfl (Nat.le_of_ble_eq_true rfl) ⟨Nat.le_of_ble_eq_true rfl, Nat.le_of_ble_eq_true rfl⟩ (by decide) (dp_0 hd rfl) (k147 E (dp_n hd rfl) H which 0 1 (by omega) (by omega) (by omega)) ?_
          intro v34 q39
          obtain ⟨q36, q37, q38⟩ := q39
          have kp1 := q37; clear q37
          have kp0 := q38; clear q38
          refine r_ifc (tgt := 53) (pc' := 51) D179_48 rfl rfl (by unfold inR; omega) (fun (c40 : v34 ≠ 0) => ?_) (fun (c40 : ¬ (v34 ≠ 0)) => ?_)
          · refine s_blx (lv' := [(0, vR 77), (1, vI s), (2, vI n), (3, vI slot), (4, vI value), (5, vI which)]) (st' := [vI 0, vI n, vI s, vR 77]) B179_53_57 rfl ?_
            refine r_vIp (c := 77) (args := [vI s, vI n, vI 0]) (rest := []) (pc' := 60) D179_57 rfl ck_11_virtual_167 TE171 rfl (Nat.le_of_ble_eq_true rfl) ⟨Nat.le_of_ble_eq_true rfl, Nat.le_of_ble_eq_true rfl⟩ sc_77 ⟨rfl, by decide⟩ H.1 (dp_0 hd rfl) (k171f E (dp_n hd rfl) H s n 0 K (by omega) (h0) (by omega) (by omega)) ?_
            intro v41 q45
            obtain ⟨q43, q44⟩ := q45
            have kc := q44; clear q44
            refine s_blx (lv' := [(6, vI v41), (0, vR 77), (1, vI s), (2, vI n), (3, vI slot), (4, vI value), (5, vI which)]) (st' := [vI v41]) B179_60_64 rfl ?_
            refine r_ifc (tgt := 69) (pc' := 67) D179_64 rfl rfl (by unfold inR; omega) (fun (c46 : v41 ≠ 0) => ?_) (fun (c46 : ¬ (v41 ≠ 0)) => ?_)
            · refine s_blx (lv' := [(6, vI v41), (0, vR 77), (1, vI s), (2, vI n), (3, vI slot), (4, vI value), (5, vI which)]) (st' := [vI value, vI slot, vI v41, vR 77]) B179_69_75 rfl ?_
              refine r_vIp (c := 77) (args := [vI v41, vI slot, vI value]) (rest := []) (pc' := 78) D179_75 rfl ck_11_virtual_177 TE174 rfl (Nat.le_of_ble_eq_true rfl) ⟨Nat.le_of_ble_eq_true rfl, Nat.le_of_ble_eq_true rfl⟩ sc_77 ⟨rfl, by decide⟩ H.1 (dp_0 hd rfl) (k174g E (dp_n hd rfl) H v41 slot value K (h0) (by omega) (by omega) (by omega)) ?_
              intro v47 q51
              obtain ⟨q49, q50⟩ := q51
              have kb := q50; clear q50
              refine s_blx (lv' := [(7, vI v47), (6, vI v41), (0, vR 77), (1, vI s), (2, vI n), (3, vI slot), (4, vI value), (5, vI which)]) (st' := [vI v41, vR 77]) B179_78_83 rfl ?_
              refine r_vIp (c := 77) (args := [vI v41]) (rest := []) (pc' := 86) D179_83 rfl ck_11_virtual_181 TE173 rfl (Nat.le_of_ble_eq_true rfl) ⟨Nat.le_of_ble_eq_true rfl, Nat.le_of_ble_eq_true rfl⟩ sc_77 ⟨rfl, by decide⟩ H.1 (dp_0 hd rfl) (k173g E (dp_n hd rfl) H v41 K (h0) (by omega)) ?_
              intro v52 q56
              obtain ⟨q54, q55⟩ := q56
              have ka := q55; clear q55
              have kne : 1 ≤ v52 := Classical.byContradiction (fun hz => by have y := (st_wt (K := K) (l := s) (n := n) (o := 0) (K 469).toNat (by omega) kwb).mpr (by rw [← kc, ← ka]; omega); rw [← kc] at y; omega)
              refine s_blx (lv' := [(8, vI v52), (7, vI v47), (6, vI v41), (0, vR 77), (1, vI s), (2, vI n), (3, vI slot), (4, vI value), (5, vI which)]) (st' := [vI v52, vI v47]) B179_86_92 rfl ?_
              refine r_sIp (args := [vI v47, vI v52]) (rest := []) (pc' := 95) D179_92 rfl ck_11_static_184 TE178 rfl (Nat.le_of_ble_eq_true rfl) ⟨Nat.le_of_ble_eq_true rfl, Nat.le_of_ble_eq_true rfl⟩ (by decide) (dp_0 hd rfl) (k178g E (dp_n hd rfl) H v47 v52 (by omega) (by omega)) ?_
              intro v57 q61
              obtain ⟨q59, q60⟩ := q61
              have kd := q60; clear q60
              have ka2 := ka
              rw [kc] at ka2
              have kb2 := kb
              rw [kc] at kb2
              refine s_blx (lv' := [(9, vI v57), (8, vI v52), (7, vI v47), (6, vI v41), (0, vR 77), (1, vI s), (2, vI n), (3, vI slot), (4, vI value), (5, vI which)]) (st' := [vI which]) B179_95_99 rfl ?_
              refine r_ifc (tgt := 110) (pc' := 102) D179_99 rfl rfl (by unfold inR; omega) (fun (c62 : which ≠ 0) => ?_) (fun (c62 : ¬ (which ≠ 0)) => ?_)
              · refine s_blx (lv' := [(9, vI v57), (8, vI v52), (7, vI v47), (6, vI v41), (0, vR 77), (1, vI s), (2, vI n), (3, vI slot), (4, vI value), (5, vI which)]) (st' := [vI v57, vI v52]) B179_110_114 rfl ?_
                refine r_idiv (pc' := 115) D179_114 rfl (by omega) ?_
                have r65 := Int.ediv_nonneg (show 0 ≤ v52 by omega) (show 0 ≤ v57 by omega)
                have r66 := Int.ediv_le_self (v57) (show 0 ≤ v52 by omega)
                obtain ⟨z63, kz⟩ : ∃ q_, q_ = v52 / v57 := ⟨_, rfl⟩
                have kz := kz.symm
                rw [kz] at r65 r66 ⊢
                exact r_iretI D179_115 rfl (⟨rfl, by omega, odV_of rfl ka2 kb2 (by unfold ODc; omega) (by omega) (by rw [cdF_comm, ← kd]; first | (rw [if_pos (show which = 0 by omega)]; exact kz) | (rw [if_neg (show ¬ which = 0 by omega)]; exact kz))⟩)
              · refine s_blx (lv' := [(9, vI v57), (8, vI v52), (7, vI v47), (6, vI v41), (0, vR 77), (1, vI s), (2, vI n), (3, vI slot), (4, vI value), (5, vI which)]) (st' := [vI v57, vI v47]) B179_102_106 rfl ?_
                refine r_idiv (pc' := 107) D179_106 rfl (by omega) ?_
                have r69 := Int.ediv_nonneg (show 0 ≤ v47 by omega) (show 0 ≤ v57 by omega)
                have r70 := Int.ediv_le_self (v57) (show 0 ≤ v47 by omega)
                obtain ⟨z67, kz⟩ : ∃ q_, q_ = v47 / v57 := ⟨_, rfl⟩
                have kz := kz.symm
                rw [kz] at r69 r70 ⊢
                refine r_goto (tgt := 115) D179_107 rfl ?_
                exact r_iretI D179_115 rfl (⟨rfl, by omega, odV_of rfl ka2 kb2 (by unfold ODc; omega) (by omega) (by rw [cdF_comm, ← kd]; first | (rw [if_pos (show which = 0 by omega)]; exact kz) | (rw [if_neg (show ¬ which = 0 by omega)]; exact kz))⟩)
            · refine s_blx (lv' := [(6, vI v41), (0, vR 77), (1, vI s), (2, vI n), (3, vI slot), (4, vI value), (5, vI which)]) (st' := [vI (-1)]) B179_67_68 rfl ?_
              exact r_iretI D179_68 rfl (⟨rfl, by omega, (if_neg (fun h => h.2 (by have q := (st_wt (l := s) (n := n) (o := 0) (K 469).toNat (by omega) kwb).mp (by rw [← kc]; omega); unfold odA; exact q))).symm⟩)
          · refine s_blx (lv' := [(0, vR 77), (1, vI s), (2, vI n), (3, vI slot), (4, vI value), (5, vI which)]) (st' := [vI (-1)]) B179_51_52 rfl ?_
            exact r_iretI D179_52 rfl (⟨rfl, by omega, (if_neg (fun h => by have h2 := h.1; unfold ODc at h2; omega)).symm⟩)
