/-! What sets the state, exactly: words of both sides. -/
abbrev WV (w what x : Int) : Prop := (0 ≤ w ∧ w ≤ 29) ∧ (0 ≤ what ∧ what ≤ 2) ∧ (what = 1 → 1 ≤ x ∧ x ≤ 60) ∧ (what ≠ 1 → 0 ≤ x ∧ x ≤ 9)
abbrev TV (what x : Int) : Prop := (0 ≤ what ∧ what ≤ 8) ∧ (0 ≤ x ∧ x ≤ 1000) ∧ (what < 2 → x ≤ 60) ∧ (what = 2 ∨ what = 3 ∨ what = 7 → x ≤ 100)
abbrev MV (minute cost : Int) : Prop := (0 ≤ minute ∧ minute ≤ 59) ∧ (0 ≤ cost ∧ cost ≤ 1000)
abbrev OV (o : Int) : Prop := 0 ≤ o ∧ o ≤ 5
abbrev PV (p : Int) : Prop := 0 ≤ p ∧ p ≤ 3
abbrev BV (lag keeps limit : Int) : Prop := 0 ≤ lag ∧ lag ≤ 60 ∧ 0 ≤ keeps ∧ keeps ≤ 100 ∧ 0 ≤ limit ∧ limit ≤ 300
abbrev NV (slot values length : Int) : Prop := 0 ≤ slot ∧ slot ≤ 2 ∧ 1 ≤ values ∧ values ≤ 255 ∧ 1 ≤ length ∧ length ≤ 9
abbrev GV (n s p w : Int) : Prop := (0 ≤ s ∧ s < n) ∧ (0 ≤ p ∧ p ≤ 3) ∧ (0 ≤ w ∧ w ≤ 100)
abbrev AB (a b c : Int) : Prop := (0 ≤ a ∧ a ≤ 7) ∧ (0 ≤ b ∧ b ≤ 7) ∧ (0 ≤ c ∧ c ≤ 7)
theorem wl0 : ∀ j : Nat, j < 3 → (j = 1 → (([0, 1, 0] : List Int32).getD j 0).toInt = 1) ∧ (j ≠ 1 → (([0, 1, 0] : List Int32).getD j 0).toInt = 0) := by decide
theorem wm0 : ∀ j : Nat, j < 3 → (j = 1 → (([9, 60, 9] : List Int32).getD j 0).toInt = 60) ∧ (j ≠ 1 → (([9, 60, 9] : List Int32).getD j 0).toInt = 9) := by decide
theorem tm0 : ∀ j : Nat, j < 9 → (j < 2 → (([60, 60, 100, 100, 1000, 1000, 1000, 100, 1000] : List Int32).getD j 0).toInt = 60) ∧ (j = 2 ∨ j = 3 ∨ j = 7 → (([60, 60, 100, 100, 1000, 1000, 1000, 100, 1000] : List Int32).getD j 0).toInt = 100) ∧ (4 ≤ j ∧ j ≠ 7 → (([60, 60, 100, 100, 1000, 1000, 1000, 100, 1000] : List Int32).getD j 0).toInt = 1000) := by decide
/-- four slots are set -/
def W4 (c : Nat) (i : Int) (c2 : Nat) (k : Int) (x y z n : Int) (M M' : mH) : Prop := ∃ M1 M2 M3, Wr M c i.toNat (.int (Int32.ofInt x)) M1 ∧ Wr M1 c (i + 1).toNat (.int (Int32.ofInt y)) M2 ∧ Wr M2 c (i + 2).toNat (.int (Int32.ofInt z)) M3 ∧ Wr M3 c2 k.toNat (.int (Int32.ofInt n)) M'
theorem kuv {M M' : mH} {c : Nat} {i j x y : Int} (u : Wr M c i.toNat (.int (Int32.ofInt x)) M') (e : i = j) (e2 : x = y) : Wr M c j.toNat (.int (Int32.ofInt y)) M' := by rw [← e, ← e2]; exact u
theorem kuw {M M' : mH} {c : Nat} {i j : Int} {v : Value} (u : Wr M c i.toNat v M') (e : i = j) : Wr M c j.toNat v M' := by rw [← e]; exact u
theorem wrU {M M' : mH} {c : Nat} {i x : Int} {v : Value} (u : Wr M c i.toNat v M') (h : 0 ≤ i) (p : gi M' c i = x) (j : Int) : gi M' c j = updN (gi M c) i x j := by
  unfold updN
  split
  · next e => rw [e]; exact p
  · next e => exact u.gi_ne h (Or.inr e)
/-- a byte of four -/
def byF (x r : Int) : Int := if r = 0 then x / 16777216 % 256 else if r = 1 then x / 65536 % 256 else if r = 2 then x / 256 % 256 else x % 256
def puN (T : Int → Int) (t u x i : Int) : Int := if t ≤ i ∧ i < u then byF x (i - t) else T i
theorem puN_0 {T : Int → Int} {t x i : Int} : puN T t t x i = T i := by unfold puN; rw [if_neg (by omega)]
theorem puN_step {N N1 N2 : mH} {T : Int → Int} {t x z : Int} {v v2 : Value} (h : ∀ i : Int, 0 ≤ i → gi N 13 i = puN T t (gi N 0 3) x i) (u1 : Wr N 13 (gi N 0 3).toNat v N1) (p1 : gi N1 13 (gi N 0 3) = z) (u2 : Wr N1 0 (3 : Int).toNat v2 N2) (p2 : gi N2 0 3 = gi N 0 3 + 1) (h0 : 0 ≤ gi N 0 3) (ht : t ≤ gi N 0 3) (hz : z = byF x (gi N 0 3 - t)) : ∀ i : Int, 0 ≤ i → gi N2 13 i = puN T t (gi N2 0 3) x i := by
  intro i hi
  rw [u2.gi_ne (by decide) (Or.inl (by decide)), p2]
  by_cases e : i = gi N 0 3
  · rw [e, p1, hz]
    unfold puN
    rw [if_pos ⟨ht, by omega⟩]
  · rw [u1.gi_ne h0 (Or.inr e), h i hi]
    unfold puN
    by_cases c : t ≤ i ∧ i < gi N 0 3
    · rw [if_pos c, if_pos ⟨c.1, by omega⟩]
    · rw [if_neg c, if_neg (by omega)]
theorem usb {z a s : Int} (h : Int32.ofInt z = ((Int32.ofInt a).toUInt32 >>> ((Int32.ofInt s).toUInt32 &&& Int32.toUInt32 31)).toInt32) (hs : s = 24 ∨ s = 16 ∨ s = 8 ∨ s = 0) : z % 256 = byF a ((24 - s) / 8) := by
  have key : ∀ k : Nat, ((Int32.ofInt z).toBitVec).toNat = (BitVec.ofInt 32 a >>> k).toNat → (z % 4294967296).toNat = (a % 4294967296).toNat / 2 ^ k := by
    intro k q
    have e1 : ((Int32.ofInt z).toBitVec).toNat = (z % 4294967296).toNat := BitVec.toNat_ofInt (n := 32) z
    have e2 : (BitVec.ofInt 32 a).toNat = (a % 4294967296).toNat := BitVec.toNat_ofInt (n := 32) a
    rw [e1, BitVec.toNat_ushiftRight, e2, Nat.shiftRight_eq_div_pow] at q
    exact q
  have hq := congrArg (fun x : Int32 => x.toBitVec.toNat) h
  rcases hs with rfl | rfl | rfl | rfl
  · have w := key 24 hq
    rw [show (2 : Nat) ^ 24 = 16777216 from rfl] at w
    unfold byF
    rw [if_pos (by decide)]
    omega
  · have w := key 16 hq
    rw [show (2 : Nat) ^ 16 = 65536 from rfl] at w
    unfold byF
    rw [if_neg (by decide), if_pos (by decide)]
    omega
  · have w := key 8 hq
    rw [show (2 : Nat) ^ 8 = 256 from rfl] at w
    unfold byF
    rw [if_neg (by decide), if_neg (by decide), if_pos (by decide)]
    omega
  · have w := key 0 hq
    rw [show (2 : Nat) ^ 0 = 1 from rfl] at w
    unfold byF
    rw [if_neg (by decide), if_neg (by decide), if_neg (by decide)]
    omega
theorem sarB {z a s : Int} (h : Int32.ofInt z = Int32.ofInt a >>> (Int32.ofInt s &&& 31)) (hs : s = 24 ∨ s = 16 ∨ s = 8 ∨ s = 0) (ha : inR a) (hz : inR z) : z % 256 = byF a ((24 - s) / 8) := by
  have hb : 0 ≤ s ∧ s ≤ 31 := by omega
  have e : z = a / ((2 ^ s.toNat : Nat) : Int) := by
    have q : z = (Int32.ofInt a >>> (Int32.ofInt s &&& 31)).toInt := by rw [← h, s_i32 hz]
    rw [q]
    show ((Int32.ofInt a).toBitVec.sshiftRight' ((Int32.ofInt s &&& 31).toBitVec.smod 32#32)).toInt = _
    rw [BitVec.sshiftRight', sh_amt hb, BitVec.toInt_sshiftRight, Int.shiftRight_eq_div_pow]
    show (Int32.ofInt a).toInt / _ = _
    rw [s_i32 ha]
  rw [e]
  rcases hs with rfl | rfl | rfl | rfl
  · rw [show ((2 ^ (24 : Int).toNat : Nat) : Int) = 16777216 from rfl]
    unfold byF
    rw [if_pos (by decide)]
  · rw [show ((2 ^ (16 : Int).toNat : Nat) : Int) = 65536 from rfl]
    unfold byF
    rw [if_neg (by decide), if_pos (by decide)]
  · rw [show ((2 ^ (8 : Int).toNat : Nat) : Int) = 256 from rfl]
    unfold byF
    rw [if_neg (by decide), if_neg (by decide), if_pos (by decide)]
  · rw [show ((2 ^ (0 : Int).toNat : Nat) : Int) = 1 from rfl]
    unfold byF
    rw [if_neg (by decide), if_neg (by decide), if_neg (by decide)]
    omega
section
variable {base : Nat} {X : Nat → Option mC} {G : Nat → Value} {d : Nat} {t : mT} {pc pc' : Nat} {lv : sL} {st : List mV} {M : mH} {Q : Option Value → mH → Prop}
theorem r_i2bE {a : Int} (hd : decode t.2.2.1 pc = .ok (.i2b, 1)) (hn : pc + 1 = pc') (ha : inR a) (h : ∀ e, -128 ≤ e → e ≤ 127 → e % 256 = a % 256 → sRn base X G d t pc' lv (vI e :: st) M Q) : sRn base X G d t pc lv (vI a :: st) M Q := by
  subst hn
  refine r_B (st := st) (v := .int (Int32.ofInt a).toInt8.toInt32) hd rfl rfl rfl rfl rfl rfl rfl (s_anyI (fun e hr he => ?_))
  have h1 : e = (Int32.ofInt a).toInt8.toInt := by
    have := congrArg Int32.toInt he
    rw [s_i32 hr, Int8.toInt_toInt32] at this
    exact this
  have h2 : e % 256 = a % 256 := by
    rw [h1, Int32.toInt_toInt8, s_i32 ha]
    exact Int.bmod_emod
  exact h e (by rw [h1]; exact Int8.le_toInt _) (by rw [h1]; have := Int8.toInt_lt (Int32.ofInt a).toInt8; omega) h2
end
/-- which of five -/
def fvS (a b c d e i : Int) : Int := if i < 4 then a else if i < 8 then b else if i < 12 then c else if i < 16 then d else e
def fdN (T : Int → Int) (s a b c d e n i : Int) : Int := if s ≤ i ∧ i < s + n then byF (fvS a b c d e (i - s)) ((i - s) % 4) else T i
theorem fdN_0 {T : Int → Int} {s a b c d e i : Int} : fdN T s a b c d e 0 i = T i := by unfold fdN; rw [if_neg (by omega)]
theorem puN_in {T : Int → Int} {t u x i : Int} (h : t ≤ i ∧ i < u) : puN T t u x i = byF x (i - t) := if_pos h
theorem puN_out {T : Int → Int} {t u x i : Int} (h : ¬ (t ≤ i ∧ i < u)) : puN T t u x i = T i := if_neg h
theorem fdN_in {T : Int → Int} {s a b c d e n i : Int} (h : s ≤ i ∧ i < s + n) : fdN T s a b c d e n i = byF (fvS a b c d e (i - s)) ((i - s) % 4) := if_pos h
theorem fdN_out {T : Int → Int} {s a b c d e n i : Int} (h : ¬ (s ≤ i ∧ i < s + n)) : fdN T s a b c d e n i = T i := if_neg h
theorem fvS1 {a b c d e i : Int} (h : i < 4) : fvS a b c d e i = a := if_pos h
theorem fvS2 {a b c d e i : Int} (h : 4 ≤ i ∧ i < 8) : fvS a b c d e i = b := by unfold fvS; rw [if_neg (by omega), if_pos h.2]
theorem fvS3 {a b c d e i : Int} (h : 8 ≤ i ∧ i < 12) : fvS a b c d e i = c := by unfold fvS; rw [if_neg (by omega), if_neg (by omega), if_pos h.2]
theorem fvS4 {a b c d e i : Int} (h : 12 ≤ i ∧ i < 16) : fvS a b c d e i = d := by unfold fvS; rw [if_neg (by omega), if_neg (by omega), if_neg (by omega), if_pos h.2]
theorem fvS5 {a b c d e i : Int} (h : 16 ≤ i) : fvS a b c d e i = e := by unfold fvS; rw [if_neg (by omega), if_neg (by omega), if_neg (by omega), if_neg (by omega)]
theorem pu5 {T0 T1 T2 T3 T4 T5 : Int → Int} {s a b c d e : Int} (h1 : ∀ i : Int, 0 ≤ i → T1 i = puN T0 s (s + 4) a i) (h2 : ∀ i : Int, 0 ≤ i → T2 i = puN T1 (s + 4) (s + 8) b i) (h3 : ∀ i : Int, 0 ≤ i → T3 i = puN T2 (s + 8) (s + 12) c i) (h4 : ∀ i : Int, 0 ≤ i → T4 i = puN T3 (s + 12) (s + 16) d i) (h5 : ∀ i : Int, 0 ≤ i → T5 i = puN T4 (s + 16) (s + 20) e i) : ∀ i : Int, 0 ≤ i → T5 i = fdN T0 s a b c d e 20 i := by
  intro i hi
  by_cases c0 : i < s ∨ s + 20 ≤ i
  · rw [fdN_out (by omega), h5 i hi, puN_out (by omega), h4 i hi, puN_out (by omega), h3 i hi, puN_out (by omega), h2 i hi, puN_out (by omega), h1 i hi, puN_out (by omega)]
  rw [fdN_in (by omega)]
  by_cases c5 : s + 16 ≤ i
  · rw [h5 i hi, puN_in (by omega), fvS5 (by omega), show (i - s) % 4 = i - (s + 16) by omega]
  rw [h5 i hi, puN_out (by omega)]
  by_cases c4 : s + 12 ≤ i
  · rw [h4 i hi, puN_in (by omega), fvS4 (by omega), show (i - s) % 4 = i - (s + 12) by omega]
  rw [h4 i hi, puN_out (by omega)]
  by_cases c3 : s + 8 ≤ i
  · rw [h3 i hi, puN_in (by omega), fvS3 (by omega), show (i - s) % 4 = i - (s + 8) by omega]
  rw [h3 i hi, puN_out (by omega)]
  by_cases c2 : s + 4 ≤ i
  · rw [h2 i hi, puN_in (by omega), fvS2 (by omega), show (i - s) % 4 = i - (s + 4) by omega]
  rw [h2 i hi, puN_out (by omega), h1 i hi, puN_in (by omega), fvS1 (by omega), show (i - s) % 4 = i - s by omega]
/-- rows of the class -/
def BW (f : Nat) (s a n : Int) (M : mH) : Prop := ∀ i : Int, 0 ≤ i → i < n → gi M 5 (s * 8 + i) = gi M f (a + i)
theorem BW.zero {f : Nat} {s a : Int} {M : mH} : BW f s a 0 M := fun i h1 h2 => by omega
theorem BW.next {f : Nat} {s a k : Int} {M : mH} (h : BW f s a k M) (e : gi M 5 (s * 8 + k) = gi M f (a + k)) : BW f s a (k + 1) M := fun i h1 h2 => if q : i = k then (by rw [q]; exact e) else h i h1 (by omega)
theorem BW.mono {f : Nat} {s a k n : Int} {M : mH} (h : BW f s a k M) (hn : n ≤ k) : BW f s a n M := fun i h1 h2 => h i h1 (by omega)
def RWc (len k : Int) (M : mH) : Prop := gi M 6 k = len ∧ BW 13 k 0 len M
def HR (len : Int) (M : mH) : Prop := ∃ k : Int, 0 ≤ k ∧ k < gi M 1 10 ∧ RWc len k M
def NR (len n : Int) (M : mH) : Prop := ∀ k : Int, 0 ≤ k → k < n → ¬ RWc len k M
theorem NR.zero {len : Int} {M : mH} : NR len 0 M := fun i h1 h2 => by omega
theorem NR.next {len n : Int} {M : mH} (h : NR len n M) (e : ¬ RWc len n M) : NR len (n + 1) M := fun i h1 h2 => if q : i = n then (by rw [q]; exact e) else h i h1 (by omega)
theorem HR.of {len : Int} {M M1 : mH} (h : HR len M) (e : ∀ (c : Nat) (i : Int), c ≠ 0 → gi M1 c i = gi M c i) : HR len M1 := by
  obtain ⟨k, a, b, c, d⟩ := h
  exact ⟨k, a, by rw [e 1 10 (by decide)]; exact b, by rw [e 6 k (by decide)]; exact c, fun i x y => by rw [e 5 _ (by decide), e 13 _ (by decide)]; exact d i x y⟩
theorem fr04 {M M1 : mH} (f : Fr [(0, 4)] M M1) {c : Nat} (h : c ≠ 0) (i : Int) : gi M1 c i = gi M c i := f.g (s_al_ok (f := fun x => x == 0) rfl (by simp [h]))
def RWok (len : Int) (M : mH) : Prop := 1 ≤ len ∧ len ≤ 8 ∧ TC len M
def wtN (T : Int → Int) (a n i : Int) : Int := if a ≤ i ∧ i < a + n then 1 else T i
theorem wtN_0 {T : Int → Int} {a i : Int} : wtN T a 0 i = T i := by unfold wtN; rw [if_neg (by omega)]
theorem wtN_step {N N1 : mH} {c : Nat} {T : Int → Int} {a n k : Int} {v : Value} (h : ∀ i : Int, gi N c i = wtN T a n i) (u : Wr N c k.toNat v N1) (p : gi N1 c k = 1) (hk : k = a + n) (h0 : 0 ≤ k) (hn : 0 ≤ n) : ∀ i : Int, gi N1 c i = wtN T a (n + 1) i := by
  intro i
  by_cases e : i = k
  · rw [e, p]
    unfold wtN
    rw [if_pos (by omega)]
  · rw [u.gi_ne h0 (Or.inr e), h i]
    unfold wtN
    by_cases q : a ≤ i ∧ i < a + n
    · rw [if_pos q, if_pos (by omega)]
    · rw [if_neg q, if_neg (by omega)]
def rwN (T S : Int → Int) (a n i : Int) : Int := if a ≤ i ∧ i < a + n then S (i - a) else T i
theorem rwN_cp {M M1 : mH} {n len : Int} (u : Cp M 13 (0 : Int).toNat 5 (n * 8).toNat len.toNat M1) (h : 0 ≤ n) (hl : 0 ≤ len) : ∀ i : Int, 0 ≤ i → gi M1 5 i = rwN (gi M 5) (gi M 13) (n * 8) len i := by
  intro i hi
  unfold rwN
  split
  · next c =>
    rw [u.gi_in (by omega) (by omega)]
    congr 1
    omega
  · next c => exact u.gi_out (by omega)
def vlN (T : Int → Int) (n a b c i : Int) : Int := if i = n then a else if i = n + 1 then b else if i = n + 2 then c else T i
theorem vl3 {M M1 M2 M3 : mH} {n a b c : Int} {v1 v2 v3 : Value} (h : 0 ≤ n) (u1 : Wr M 7 n.toNat v1 M1) (p1 : gi M1 7 n = a) (u2 : Wr M1 7 (n + 1).toNat v2 M2) (p2 : gi M2 7 (n + 1) = b) (u3 : Wr M2 7 (n + 2).toNat v3 M3) (p3 : gi M3 7 (n + 2) = c) : ∀ i : Int, gi M3 7 i = vlN (gi M 7) n a b c i := by
  intro i
  unfold vlN
  by_cases e3 : i = n + 2
  · rw [if_neg (by omega), if_neg (by omega), if_pos e3, e3]; exact p3
  rw [u3.gi_ne (by omega) (Or.inr e3)]
  by_cases e2 : i = n + 1
  · rw [if_neg (by omega), if_pos e2, e2]; exact p2
  rw [u2.gi_ne (by omega) (Or.inr e2)]
  by_cases e1 : i = n
  · rw [if_pos e1, e1]; exact p1
  rw [u1.gi_ne h (Or.inr e1), if_neg e1, if_neg e2, if_neg e3]
/-- a SENTENCE was added -/
def SAd (a b c : Int) (M M' : mH) : Prop := gi M' 1 10 = gi M 1 10 + 1 ∧ (∀ i : Int, gi M' 6 i = updN (gi M 6) (gi M 1 10) (gi M 0 3) i) ∧ (∀ i : Int, gi M' 8 i = wtN (gi M 8) (gi M 1 10 * 4) 4 i) ∧ (∀ i : Int, 0 ≤ i → gi M' 5 i = rwN (gi M 5) (gi M 13) (gi M 1 10 * 8) (gi M 0 3) i) ∧ ∀ i : Int, gi M' 7 i = vlN (gi M 7) (gi M 1 10 * 3) a b c i
theorem SAd.make {M M1 M3 M4 M5 : mH} {a b c len n : Int} {L : List (Nat × Nat)} (kt : Fr [(0, 4)] M M1) (el : len = gi M 0 3) (f3 : Fr L M1 M3) (h7 : s_al L (fun c => c != 7) = true) (p1 : n = gi M1 1 10) (p2 : gi M3 1 10 = gi M1 1 10 + 1) (p3 : ∀ i : Int, gi M3 6 i = updN (gi M1 6) (gi M1 1 10) len i) (p4 : ∀ i : Int, gi M3 8 i = wtN (gi M1 8) (gi M1 1 10 * 4) 4 i) (p5 : ∀ i : Int, 0 ≤ i → gi M3 5 i = rwN (gi M1 5) (gi M1 13) (gi M1 1 10 * 8) len i) (f4 : Fr [(7, 0)] M3 M4) (p7 : ∀ i : Int, gi M4 7 i = vlN (gi M3 7) (n * 3) a b c i) (f5 : Fr [(0, 6), (0, 10)] M4 M5) : SAd a b c M M5 := by
  have g : ∀ c, c ≠ 0 → gi M1 c = gi M c := fun c h => funext fun i => fr04 kt h i
  have g37 : gi M3 7 = gi M1 7 := funext fun i => f3.g (s_al_ok h7 (by simp))
  have e5 : ∀ (c : Nat) (i : Int), c ≠ 0 → gi M5 c i = gi M4 c i := fun c i h => f5.g (s_al_ok (f := fun x => x == 0) rfl (by simp [h]))
  have e4 : ∀ (c : Nat) (i : Int), c ≠ 7 → gi M4 c i = gi M3 c i := fun c i h => f4.g (s_al_ok (f := fun x => x == 7) rfl (by simp [h]))
  rw [g37] at p7
  rw [p1] at p7
  rw [g 1 (by decide)] at p2 p3 p4 p5 p7
  rw [g 6 (by decide), el] at p3
  rw [g 8 (by decide)] at p4
  rw [g 5 (by decide), g 13 (by decide), el] at p5
  rw [g 7 (by decide)] at p7
  exact ⟨by rw [e5 1 _ (by decide), e4 1 _ (by decide)]; exact p2, fun i => by rw [e5 6 _ (by decide), e4 6 _ (by decide)]; exact p3 i, fun i => by rw [e5 8 _ (by decide), e4 8 _ (by decide)]; exact p4 i, fun i hi => by rw [e5 5 _ (by decide), e4 5 _ (by decide)]; exact p5 i hi, fun i => by rw [e5 7 _ (by decide)]; exact p7 i⟩
def SnC (v a b c : Int) (M M' : mH) : Prop := (¬ AB a b c ∧ v = -1 ∧ Fr [(0, 4), (0, 6)] M M') ∨ (AB a b c ∧ ¬ RWok (gi M 0 3) M ∧ v = -6 ∧ Fr [(0, 4), (0, 6)] M M') ∨ (AB a b c ∧ RWok (gi M 0 3) M ∧ HR (gi M 0 3) M ∧ v = -4 ∧ Fr [(0, 4), (0, 6)] M M') ∨ (AB a b c ∧ RWok (gi M 0 3) M ∧ ¬ HR (gi M 0 3) M ∧ 16 ≤ gi M 1 10 ∧ v = -5 ∧ Fr [(0, 4), (0, 6)] M M') ∨ (AB a b c ∧ RWok (gi M 0 3) M ∧ ¬ HR (gi M 0 3) M ∧ gi M 1 10 ≤ 15 ∧ v = gi M 1 10 ∧ SAd a b c M M')

