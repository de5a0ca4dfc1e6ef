/-! What sets the state, exactly: words of both sides. -/
noncomputable abbrev WV (w what x : Int) : Prop := (0 ≤ w ∧ w ≤ 29) ∧ (0 ≤ what ∧ what ≤ 2) ∧ (what = 1 → 1 ≤ x ∧ x ≤ 60) ∧ (what ≠ 1 → 0 ≤ x ∧ x ≤ 9)
noncomputable abbrev TV (what x : Int) : Prop := (0 ≤ what ∧ what ≤ 8) ∧ (0 ≤ x ∧ x ≤ 1000) ∧ (what < 2 → x ≤ 60) ∧ (what = 2 ∨ what = 3 ∨ what = 7 → x ≤ 100)
noncomputable abbrev MV (minute cost : Int) : Prop := (0 ≤ minute ∧ minute ≤ 59) ∧ (0 ≤ cost ∧ cost ≤ 1000)
noncomputable abbrev OV (o : Int) : Prop := 0 ≤ o ∧ o ≤ 5
noncomputable abbrev PV (p : Int) : Prop := 0 ≤ p ∧ p ≤ 3
noncomputable abbrev BV (lag keeps limit : Int) : Prop := 0 ≤ lag ∧ lag ≤ 60 ∧ 0 ≤ keeps ∧ keeps ≤ 100 ∧ 0 ≤ limit ∧ limit ≤ 300
noncomputable abbrev NV (slot values length : Int) : Prop := 0 ≤ slot ∧ slot ≤ 2 ∧ 1 ≤ values ∧ values ≤ 255 ∧ 1 ≤ length ∧ length ≤ 9
noncomputable abbrev GV (n s p w : Int) : Prop := (0 ≤ s ∧ s < n) ∧ (0 ≤ p ∧ p ≤ 3) ∧ (0 ≤ w ∧ w ≤ 100)
noncomputable abbrev AB (a b c : Int) : Prop := (0 ≤ a ∧ a ≤ 7) ∧ (0 ≤ b ∧ b ≤ 7) ∧ (0 ≤ c ∧ c ≤ 7)
theorem wl0 : ∀ j : Nat, j < 3 → (j = 1 → (([0, 1, 0] : List Int32).getD j 0).toInt = 1) ∧ (j ≠ 1 → (([0, 1, 0] : List Int32).getD j 0).toInt = 0) := by decide
theorem wm0 : ∀ j : Nat, j < 3 → (j = 1 → (([9, 60, 9] : List Int32).getD j 0).toInt = 60) ∧ (j ≠ 1 → (([9, 60, 9] : List Int32).getD j 0).toInt = 9) := by decide
theorem tm0 : ∀ j : Nat, j < 9 → (j < 2 → (([60, 60, 100, 100, 1000, 1000, 1000, 100, 1000] : List Int32).getD j 0).toInt = 60) ∧ (j = 2 ∨ j = 3 ∨ j = 7 → (([60, 60, 100, 100, 1000, 1000, 1000, 100, 1000] : List Int32).getD j 0).toInt = 100) ∧ (4 ≤ j ∧ j ≠ 7 → (([60, 60, 100, 100, 1000, 1000, 1000, 100, 1000] : List Int32).getD j 0).toInt = 1000) := by decide
/-- four slots are set -/
noncomputable def W4 (c : Nat) (i : Int) (c2 : Nat) (k : Int) (x y z n : Int) (M M' : mH) : Prop := ∃ M1 M2 M3, Wr M c i.toNat (.int (Int32.ofInt x)) M1 ∧ Wr M1 c (i + 1).toNat (.int (Int32.ofInt y)) M2 ∧ Wr M2 c (i + 2).toNat (.int (Int32.ofInt z)) M3 ∧ Wr M3 c2 k.toNat (.int (Int32.ofInt n)) M'
theorem kuv {M M' : mH} {c : Nat} {i j x y : Int} (u : Wr M c i.toNat (.int (Int32.ofInt x)) M') (e : i = j) (e2 : x = y) : Wr M c j.toNat (.int (Int32.ofInt y)) M' := by rw [← e, ← e2]; exact u
theorem kuw {M M' : mH} {c : Nat} {i j : Int} {v : Value} (u : Wr M c i.toNat v M') (e : i = j) : Wr M c j.toNat v M' := by rw [← e]; exact u
theorem wrU {M M' : mH} {c : Nat} {i x : Int} {v : Value} (u : Wr M c i.toNat v M') (h : 0 ≤ i) (p : gi M' c i = x) (j : Int) : gi M' c j = updN (gi M c) i x j := by
  unfold updN
  split
  · next e => rw [e]; exact p
  · next e => exact u.gi_ne h (Or.inr e)
/-- a byte of four -/
noncomputable def byF (x r : Int) : Int := if r = 0 then x / 16777216 % 256 else if r = 1 then x / 65536 % 256 else if r = 2 then x / 256 % 256 else x % 256
noncomputable def puN (T : Int → Int) (t u x i : Int) : Int := if t ≤ i ∧ i < u then byF x (i - t) else T i
theorem puN_0 {T : Int → Int} {t x i : Int} : puN T t t x i = T i := by unfold puN; rw [if_neg (by omega)]
theorem puN_step {N N1 N2 : mH} {T : Int → Int} {t x z : Int} {v v2 : Value} (h : ∀ i : Int, 0 ≤ i → gi N 13 i = puN T t (gi N 0 3) x i) (u1 : Wr N 13 (gi N 0 3).toNat v N1) (p1 : gi N1 13 (gi N 0 3) = z) (u2 : Wr N1 0 (3 : Int).toNat v2 N2) (p2 : gi N2 0 3 = gi N 0 3 + 1) (h0 : 0 ≤ gi N 0 3) (ht : t ≤ gi N 0 3) (hz : z = byF x (gi N 0 3 - t)) : ∀ i : Int, 0 ≤ i → gi N2 13 i = puN T t (gi N2 0 3) x i := by
  intro i hi
  rw [u2.gi_ne (by decide) (Or.inl (by decide)), p2]
  by_cases e : i = gi N 0 3
  · rw [e, p1, hz]
    unfold puN
    rw [if_pos ⟨ht, by omega⟩]
  · rw [u1.gi_ne h0 (Or.inr e), h i hi]
    unfold puN
    by_cases c : t ≤ i ∧ i < gi N 0 3
    · rw [if_pos c, if_pos ⟨c.1, by omega⟩]
    · rw [if_neg c, if_neg (by omega)]
theorem usb {z a s : Int} (h : Int32.ofInt z = ((Int32.ofInt a).toUInt32 >>> ((Int32.ofInt s).toUInt32 &&& Int32.toUInt32 31)).toInt32) (hs : s = 24 ∨ s = 16 ∨ s = 8 ∨ s = 0) : z % 256 = byF a ((24 - s) / 8) := by
  have key : ∀ k : Nat, ((Int32.ofInt z).toBitVec).toNat = (BitVec.ofInt 32 a >>> k).toNat → (z % 4294967296).toNat = (a % 4294967296).toNat / 2 ^ k := by
    intro k q
    have e1 : ((Int32.ofInt z).toBitVec).toNat = (z % 4294967296).toNat := BitVec.toNat_ofInt (n := 32) z
    have e2 : (BitVec.ofInt 32 a).toNat = (a % 4294967296).toNat := BitVec.toNat_ofInt (n := 32) a
    rw [e1, BitVec.toNat_ushiftRight, e2, Nat.shiftRight_eq_div_pow] at q
    exact q
  have hq := congrArg (fun x : Int32 => x.toBitVec.toNat) h
  rcases hs with rfl | rfl | rfl | rfl
  · have w := key 24 hq
    rw [show (2 : Nat) ^ 24 = 16777216 from rfl] at w
    unfold byF
    rw [if_pos (by decide)]
    omega
  · have w := key 16 hq
    rw [show (2 : Nat) ^ 16 = 65536 from rfl] at w
    unfold byF
    rw [if_neg (by decide), if_pos (by decide)]
    omega
  · have w := key 8 hq
    rw [show (2 : Nat) ^ 8 = 256 from rfl] at w
    unfold byF
    rw [if_neg (by decide), if_neg (by decide), if_pos (by decide)]
    omega
  · have w := key 0 hq
    rw [show (2 : Nat) ^ 0 = 1 from rfl] at w
    unfold byF
    rw [if_neg (by decide), if_neg (by decide), if_neg (by decide)]
    omega
theorem sarB {z a s : Int} (h : Int32.ofInt z = Int32.ofInt a >>> (Int32.ofInt s &&& 31)) (hs : s = 24 ∨ s = 16 ∨ s = 8 ∨ s = 0) (ha : inR a) (hz : inR z) : z % 256 = byF a ((24 - s) / 8) := by
  have hb : 0 ≤ s ∧ s ≤ 31 := by omega
  have e : z = a / ((2 ^ s.toNat : Nat) : Int) := by
    have q : z = (Int32.ofInt a >>> (Int32.ofInt s &&& 31)).toInt := by rw [← h, s_i32 hz]
    rw [q]
    show ((Int32.ofInt a).toBitVec.sshiftRight' ((Int32.ofInt s &&& 31).toBitVec.smod 32#32)).toInt = _
    rw [BitVec.sshiftRight', sh_amt hb, BitVec.toInt_sshiftRight, Int.shiftRight_eq_div_pow]
    show (Int32.ofInt a).toInt / _ = _
    rw [s_i32 ha]
  rw [e]
  rcases hs with rfl | rfl | rfl | rfl
  · rw [show ((2 ^ (24 : Int).toNat : Nat) : Int) = 16777216 from rfl]
    unfold byF
    rw [if_pos (by decide)]
  · rw [show ((2 ^ (16 : Int).toNat : Nat) : Int) = 65536 from rfl]
    unfold byF
    rw [if_neg (by decide), if_pos (by decide)]
  · rw [show ((2 ^ (8 : Int).toNat : Nat) : Int) = 256 from rfl]
    unfold byF
    rw [if_neg (by decide), if_neg (by decide), if_pos (by decide)]
  · rw [show ((2 ^ (0 : Int).toNat : Nat) : Int) = 1 from rfl]
    unfold byF
    rw [if_neg (by decide), if_neg (by decide), if_neg (by decide)]
    omega
section
variable {base : Nat} {X : Nat → Option mC} {G : Nat → Value} {d : Nat} {t : mT} {pc pc' : Nat} {lv : sL} {st : List mV} {M : mH} {Q : Option Value → mH → Prop}
theorem r_i2bE {a : Int} (hd : decode t.2.2.1 pc = .ok (.i2b, 1)) (hn : pc + 1 = pc') (ha : inR a) (h : ∀ e, -128 ≤ e → e ≤ 127 → e % 256 = a % 256 → sRn base X G d t pc' lv (vI e :: st) M Q) : sRn base X G d t pc lv (vI a :: st) M Q := by
  subst hn
  refine r_B (st := st) (v := .int (Int32.ofInt a).toInt8.toInt32) hd rfl rfl rfl rfl rfl rfl rfl (s_anyI (fun e hr he => ?_))
  have h1 : e = (Int32.ofInt a).toInt8.toInt := by
    have := congrArg Int32.toInt he
    rw [s_i32 hr, Int8.toInt_toInt32] at this
    exact this
  have h2 : e % 256 = a % 256 := by
    rw [h1, Int32.toInt_toInt8, s_i32 ha]
    exact Int.bmod_emod
  exact h e (by rw [h1]; exact Int8.le_toInt _) (by rw [h1]; have := Int8.toInt_lt (Int32.ofInt a).toInt8; omega) h2
end
/-- which of five -/
noncomputable def fvS (a b c d e i : Int) : Int := if i < 4 then a else if i < 8 then b else if i < 12 then c else if i < 16 then d else e
noncomputable def fdN (T : Int → Int) (s a b c d e n i : Int) : Int := if s ≤ i ∧ i < s + n then byF (fvS a b c d e (i - s)) ((i - s) % 4) else T i
theorem fdN_0 {T : Int → Int} {s a b c d e i : Int} : fdN T s a b c d e 0 i = T i := by unfold fdN; rw [if_neg (by omega)]
theorem puN_in {T : Int → Int} {t u x i : Int} (h : t ≤ i ∧ i < u) : puN T t u x i = byF x (i - t) := if_pos h
theorem puN_out {T : Int → Int} {t u x i : Int} (h : ¬ (t ≤ i ∧ i < u)) : puN T t u x i = T i := if_neg h
theorem fdN_in {T : Int → Int} {s a b c d e n i : Int} (h : s ≤ i ∧ i < s + n) : fdN T s a b c d e n i = byF (fvS a b c d e (i - s)) ((i - s) % 4) := if_pos h
theorem fdN_out {T : Int → Int} {s a b c d e n i : Int} (h : ¬ (s ≤ i ∧ i < s + n)) : fdN T s a b c d e n i = T i := if_neg h
theorem fvS1 {a b c d e i : Int} (h : i < 4) : fvS a b c d e i = a := if_pos h
theorem fvS2 {a b c d e i : Int} (h : 4 ≤ i ∧ i < 8) : fvS a b c d e i = b := by unfold fvS; rw [if_neg (by omega), if_pos h.2]
theorem fvS3 {a b c d e i : Int} (h : 8 ≤ i ∧ i < 12) : fvS a b c d e i = c := by unfold fvS; rw [if_neg (by omega), if_neg (by omega), if_pos h.2]
theorem fvS4 {a b c d e i : Int} (h : 12 ≤ i ∧ i < 16) : fvS a b c d e i = d := by unfold fvS; rw [if_neg (by omega), if_neg (by omega), if_neg (by omega), if_pos h.2]
theorem fvS5 {a b c d e i : Int} (h : 16 ≤ i) : fvS a b c d e i = e := by unfold fvS; rw [if_neg (by omega), if_neg (by omega), if_neg (by omega), if_neg (by omega)]
theorem pu5 {T0 T1 T2 T3 T4 T5 : Int → Int} {s a b c d e : Int} (h1 : ∀ i : Int, 0 ≤ i → T1 i = puN T0 s (s + 4) a i) (h2 : ∀ i : Int, 0 ≤ i → T2 i = puN T1 (s + 4) (s + 8) b i) (h3 : ∀ i : Int, 0 ≤ i → T3 i = puN T2 (s + 8) (s + 12) c i) (h4 : ∀ i : Int, 0 ≤ i → T4 i = puN T3 (s + 12) (s + 16) d i) (h5 : ∀ i : Int, 0 ≤ i → T5 i = puN T4 (s + 16) (s + 20) e i) : ∀ i : Int, 0 ≤ i → T5 i = fdN T0 s a b c d e 20 i := by
  intro i hi
  by_cases c0 : i < s ∨ s + 20 ≤ i
  · rw [fdN_out (by omega), h5 i hi, puN_out (by omega), h4 i hi, puN_out (by omega), h3 i hi, puN_out (by omega), h2 i hi, puN_out (by omega), h1 i hi, puN_out (by omega)]
  rw [fdN_in (by omega)]
  by_cases c5 : s + 16 ≤ i
  · rw [h5 i hi, puN_in (by omega), fvS5 (by omega), show (i - s) % 4 = i - (s + 16) by omega]
  rw [h5 i hi, puN_out (by omega)]
  by_cases c4 : s + 12 ≤ i
  · rw [h4 i hi, puN_in (by omega), fvS4 (by omega), show (i - s) % 4 = i - (s + 12) by omega]
  rw [h4 i hi, puN_out (by omega)]
  by_cases c3 : s + 8 ≤ i
  · rw [h3 i hi, puN_in (by omega), fvS3 (by omega), show (i - s) % 4 = i - (s + 8) by omega]
  rw [h3 i hi, puN_out (by omega)]
  by_cases c2 : s + 4 ≤ i
  · rw [h2 i hi, puN_in (by omega), fvS2 (by omega), show (i - s) % 4 = i - (s + 4) by omega]
  rw [h2 i hi, puN_out (by omega), h1 i hi, puN_in (by omega), fvS1 (by omega), show (i - s) % 4 = i - s by omega]
/-- rows of the class -/
noncomputable def BW (f : Nat) (s a n : Int) (M : mH) : Prop := ∀ i : Int, 0 ≤ i → i < n → gi M 5 (s * 8 + i) = gi M f (a + i)
theorem BW.zero {f : Nat} {s a : Int} {M : mH} : BW f s a 0 M := fun i h1 h2 => by omega
theorem BW.next {f : Nat} {s a k : Int} {M : mH} (h : BW f s a k M) (e : gi M 5 (s * 8 + k) = gi M f (a + k)) : BW f s a (k + 1) M := fun i h1 h2 => if q : i = k then (by rw [q]; exact e) else h i h1 (by omega)
theorem BW.mono {f : Nat} {s a k n : Int} {M : mH} (h : BW f s a k M) (hn : n ≤ k) : BW f s a n M := fun i h1 h2 => h i h1 (by omega)
noncomputable def RWc (len k : Int) (M : mH) : Prop := gi M 6 k = len ∧ BW 13 k 0 len M
noncomputable def HR (len : Int) (M : mH) : Prop := ∃ k : Int, 0 ≤ k ∧ k < gi M 1 10 ∧ RWc len k M
noncomputable def NR (len n : Int) (M : mH) : Prop := ∀ k : Int, 0 ≤ k → k < n → ¬ RWc len k M
theorem NR.zero {len : Int} {M : mH} : NR len 0 M := fun i h1 h2 => by omega
theorem NR.next {len n : Int} {M : mH} (h : NR len n M) (e : ¬ RWc len n M) : NR len (n + 1) M := fun i h1 h2 => if q : i = n then (by rw [q]; exact e) else h i h1 (by omega)
theorem HR.of {len : Int} {M M1 : mH} (h : HR len M) (e : ∀ (c : Nat) (i : Int), c ≠ 0 → gi M1 c i = gi M c i) : HR len M1 := by
  obtain ⟨k, a, b, c, d⟩ := h
  exact ⟨k, a, by rw [e 1 10 (by decide)]; exact b, by rw [e 6 k (by decide)]; exact c, fun i x y => by rw [e 5 _ (by decide), e 13 _ (by decide)]; exact d i x y⟩
theorem fr04 {M M1 : mH} (f : Fr [(0, 4)] M M1) {c : Nat} (h : c ≠ 0) (i : Int) : gi M1 c i = gi M c i := f.g (s_al_ok (f := fun x => x == 0) rfl (by simp [h]))
noncomputable def RWok (len : Int) (M : mH) : Prop := 1 ≤ len ∧ len ≤ 8 ∧ TC len M
noncomputable def wtN (T : Int → Int) (a n i : Int) : Int := if a ≤ i ∧ i < a + n then 1 else T i
theorem wtN_0 {T : Int → Int} {a i : Int} : wtN T a 0 i = T i := by unfold wtN; rw [if_neg (by omega)]
theorem wtN_step {N N1 : mH} {c : Nat} {T : Int → Int} {a n k : Int} {v : Value} (h : ∀ i : Int, gi N c i = wtN T a n i) (u : Wr N c k.toNat v N1) (p : gi N1 c k = 1) (hk : k = a + n) (h0 : 0 ≤ k) (hn : 0 ≤ n) : ∀ i : Int, gi N1 c i = wtN T a (n + 1) i := by
  intro i
  by_cases e : i = k
  · rw [e, p]
    unfold wtN
    rw [if_pos (by omega)]
  · rw [u.gi_ne h0 (Or.inr e), h i]
    unfold wtN
    by_cases q : a ≤ i ∧ i < a + n
    · rw [if_pos q, if_pos (by omega)]
    · rw [if_neg q, if_neg (by omega)]
noncomputable def rwN (T S : Int → Int) (a n i : Int) : Int := if a ≤ i ∧ i < a + n then S (i - a) else T i
theorem rwN_cp {M M1 : mH} {n len : Int} (u : Cp M 13 (0 : Int).toNat 5 (n * 8).toNat len.toNat M1) (h : 0 ≤ n) (hl : 0 ≤ len) : ∀ i : Int, 0 ≤ i → gi M1 5 i = rwN (gi M 5) (gi M 13) (n * 8) len i := by
  intro i hi
  unfold rwN
  split
  · next c =>
    rw [u.gi_in (by omega) (by omega)]
    congr 1
    omega
  · next c => exact u.gi_out (by omega)
noncomputable def vlN (T : Int → Int) (n a b c i : Int) : Int := if i = n then a else if i = n + 1 then b else if i = n + 2 then c else T i
theorem vl3 {M M1 M2 M3 : mH} {n a b c : Int} {v1 v2 v3 : Value} (h : 0 ≤ n) (u1 : Wr M 7 n.toNat v1 M1) (p1 : gi M1 7 n = a) (u2 : Wr M1 7 (n + 1).toNat v2 M2) (p2 : gi M2 7 (n + 1) = b) (u3 : Wr M2 7 (n + 2).toNat v3 M3) (p3 : gi M3 7 (n + 2) = c) : ∀ i : Int, gi M3 7 i = vlN (gi M 7) n a b c i := by
  intro i
  unfold vlN
  by_cases e3 : i = n + 2
  · rw [if_neg (by omega), if_neg (by omega), if_pos e3, e3]; exact p3
  rw [u3.gi_ne (by omega) (Or.inr e3)]
  by_cases e2 : i = n + 1
  · rw [if_neg (by omega), if_pos e2, e2]; exact p2
  rw [u2.gi_ne (by omega) (Or.inr e2)]
  by_cases e1 : i = n
  · rw [if_pos e1, e1]; exact p1
  rw [u1.gi_ne h (Or.inr e1), if_neg e1, if_neg e2, if_neg e3]
/-- a SENTENCE was added -/
noncomputable def SAd (a b c : Int) (M M' : mH) : Prop := gi M' 1 10 = gi M 1 10 + 1 ∧ (∀ i : Int, gi M' 6 i = updN (gi M 6) (gi M 1 10) (gi M 0 3) i) ∧ (∀ i : Int, gi M' 8 i = wtN (gi M 8) (gi M 1 10 * 4) 4 i) ∧ (∀ i : Int, 0 ≤ i → gi M' 5 i = rwN (gi M 5) (gi M 13) (gi M 1 10 * 8) (gi M 0 3) i) ∧ ∀ i : Int, gi M' 7 i = vlN (gi M 7) (gi M 1 10 * 3) a b c i
theorem SAd.make {M M1 M3 M4 M5 : mH} {a b c len n : Int} {L : List (Nat × Nat)} (kt : Fr [(0, 4)] M M1) (el : len = gi M 0 3) (f3 : Fr L M1 M3) (h7 : s_al L (fun c => c != 7) = true) (p1 : n = gi M1 1 10) (p2 : gi M3 1 10 = gi M1 1 10 + 1) (p3 : ∀ i : Int, gi M3 6 i = updN (gi M1 6) (gi M1 1 10) len i) (p4 : ∀ i : Int, gi M3 8 i = wtN (gi M1 8) (gi M1 1 10 * 4) 4 i) (p5 : ∀ i : Int, 0 ≤ i → gi M3 5 i = rwN (gi M1 5) (gi M1 13) (gi M1 1 10 * 8) len i) (f4 : Fr [(7, 0)] M3 M4) (p7 : ∀ i : Int, gi M4 7 i = vlN (gi M3 7) (n * 3) a b c i) (f5 : Fr [(0, 6), (0, 10)] M4 M5) : SAd a b c M M5 := by
  have g : ∀ c, c ≠ 0 → gi M1 c = gi M c := fun c h => funext fun i => fr04 kt h i
  have g37 : gi M3 7 = gi M1 7 := funext fun i => f3.g (s_al_ok h7 (by simp))
  have e5 : ∀ (c : Nat) (i : Int), c ≠ 0 → gi M5 c i = gi M4 c i := fun c i h => f5.g (s_al_ok (f := fun x => x == 0) rfl (by simp [h]))
  have e4 : ∀ (c : Nat) (i : Int), c ≠ 7 → gi M4 c i = gi M3 c i := fun c i h => f4.g (s_al_ok (f := fun x => x == 7) rfl (by simp [h]))
  rw [g37] at p7
  rw [p1] at p7
  rw [g 1 (by decide)] at p2 p3 p4 p5 p7
  rw [g 6 (by decide), el] at p3
  rw [g 8 (by decide)] at p4
  rw [g 5 (by decide), g 13 (by decide), el] at p5
  rw [g 7 (by decide)] at p7
  exact ⟨by rw [e5 1 _ (by decide), e4 1 _ (by decide)]; exact p2, fun i => by rw [e5 6 _ (by decide), e4 6 _ (by decide)]; exact p3 i, fun i => by rw [e5 8 _ (by decide), e4 8 _ (by decide)]; exact p4 i, fun i hi => by rw [e5 5 _ (by decide), e4 5 _ (by decide)]; exact p5 i hi, fun i => by rw [e5 7 _ (by decide)]; exact p7 i⟩
noncomputable def SnC (v a b c : Int) (M M' : mH) : Prop := (¬ AB a b c ∧ v = -1 ∧ Fr [(0, 4), (0, 6)] M M') ∨ (AB a b c ∧ ¬ RWok (gi M 0 3) M ∧ v = -6 ∧ Fr [(0, 4), (0, 6)] M M') ∨ (AB a b c ∧ RWok (gi M 0 3) M ∧ HR (gi M 0 3) M ∧ v = -4 ∧ Fr [(0, 4), (0, 6)] M M') ∨ (AB a b c ∧ RWok (gi M 0 3) M ∧ ¬ HR (gi M 0 3) M ∧ 16 ≤ gi M 1 10 ∧ v = -5 ∧ Fr [(0, 4), (0, 6)] M M') ∨ (AB a b c ∧ RWok (gi M 0 3) M ∧ ¬ HR (gi M 0 3) M ∧ gi M 1 10 ≤ 15 ∧ v = gi M 1 10 ∧ SAd a b c M M')

set_option maxRecDepth 4000 in
theorem k145_2n {base : Nat} {X : Nat → Option mC} {G : Nat → Value} (E : EnvOK base X G) {d : Nat} (hd : 0 ≤ d) {M : mH} (H : HI base M) (at_ : Int) (value : Int) (h0 : 0 ≤ at_ ∧ at_ ≤ 89) (h1 : 0 ≤ value ∧ value ≤ 60) : sOk base X G d T145 [vR 2, vI at_, vI value] M (pI (fun v M' => HI base M' ∧ Fr [(2, 0)] M M' ∧ (-2147483648 ≤ v ∧ v ≤ 2147483647) ∧ (v = gi M 2 at_) ∧ (Wr M 2 at_.toNat (.int (Int32.ofInt value)) M'))) := by
  have f0 : Fr [(2, 0)] M M := Fr.rf
  refine sOk.of (show sRn base X G d T145 0 [(0, vR 2), (1, vI at_), (2, vI value)] [] M _ from ?_)
  refine s_blx (lv' := [(0, vR 2), (1, vI at_), (2, vI value)]) (st' := [vI at_, vR 2]) B145_0_2 rfl ?_
  refine r_iald (pc' := 3) D145_2 rfl sc_2 H.1 (by omega) ?_
  intro w1 e2 r3
  have b_w1 := H.2 2 (at_) 0 60 rfl
  rw [← e2] at b_w1; clear r3
  refine s_blx (lv' := [(3, vI w1), (0, vR 2), (1, vI at_), (2, vI value)]) (st' := [vI value, vI at_, vR 2]) B145_3_7 rfl ?_
  refine r_iast (pc' := 8) D145_7 rfl sc_2 H (by omega) (by unfold inR; omega) (show 0 ≤ value ∧ value ≤ 60 by omega) ?_
  intro M4 u5 H6 p7
  have f8 := f0.wr u5 rfl
  have ku := u5
  refine s_blx (lv' := [(3, vI w1), (0, vR 2), (1, vI at_), (2, vI value)]) (st' := [vI w1]) B145_8_9 rfl ?_
  exact r_iretI D145_9 rfl (⟨H6, f8, by omega, by omega, ku⟩)
set_option maxRecDepth 4000 in
theorem k145_3n {base : Nat} {X : Nat → Option mC} {G : Nat → Value} (E : EnvOK base X G) {d : Nat} (hd : 0 ≤ d) {M : mH} (H : HI base M) (at_ : Int) (value : Int) (h0 : 0 ≤ at_ ∧ at_ ≤ 8) (h1 : 0 ≤ value ∧ value ≤ 1000) : sOk base X G d T145 [vR 3, vI at_, vI value] M (pI (fun v M' => HI base M' ∧ Fr [(3, 0)] M M' ∧ (-2147483648 ≤ v ∧ v ≤ 2147483647) ∧ (v = gi M 3 at_) ∧ (Wr M 3 at_.toNat (.int (Int32.ofInt value)) M'))) := by
  have f0 : Fr [(3, 0)] M M := Fr.rf
  refine sOk.of (show sRn base X G d T145 0 [(0, vR 3), (1, vI at_), (2, vI value)] [] M _ from ?_)
  refine s_blx (lv' := [(0, vR 3), (1, vI at_), (2, vI value)]) (st' := [vI at_, vR 3]) B145_0_2 rfl ?_
  refine r_iald (pc' := 3) D145_2 rfl sc_3 H.1 (by omega) ?_
  intro w1 e2 r3
  have b_w1 := H.2 3 (at_) 0 1000 rfl
  rw [← e2] at b_w1; clear r3
  refine s_blx (lv' := [(3, vI w1), (0, vR 3), (1, vI at_), (2, vI value)]) (st' := [vI value, vI at_, vR 3]) B145_3_7 rfl ?_
  refine r_iast (pc' := 8) D145_7 rfl sc_3 H (by omega) (by unfold inR; omega) (show 0 ≤ value ∧ value ≤ 1000 by omega) ?_
  intro M4 u5 H6 p7
  have f8 := f0.wr u5 rfl
  have ku := u5
  refine s_blx (lv' := [(3, vI w1), (0, vR 3), (1, vI at_), (2, vI value)]) (st' := [vI w1]) B145_8_9 rfl ?_
  exact r_iretI D145_9 rfl (⟨H6, f8, by omega, by omega, ku⟩)
set_option maxRecDepth 4000 in
theorem k145_11n {base : Nat} {X : Nat → Option mC} {G : Nat → Value} (E : EnvOK base X G) {d : Nat} (hd : 0 ≤ d) {M : mH} (H : HI base M) (at_ : Int) (value : Int) (h0 : 0 ≤ at_ ∧ at_ ≤ 59) (h1 : 0 ≤ value ∧ value ≤ 1000) : sOk base X G d T145 [vR 11, vI at_, vI value] M (pI (fun v M' => HI base M' ∧ Fr [(11, 0)] M M' ∧ (-2147483648 ≤ v ∧ v ≤ 2147483647) ∧ (v = gi M 11 at_) ∧ (Wr M 11 at_.toNat (.int (Int32.ofInt value)) M'))) := by
  have f0 : Fr [(11, 0)] M M := Fr.rf
  refine sOk.of (show sRn base X G d T145 0 [(0, vR 11), (1, vI at_), (2, vI value)] [] M _ from ?_)
  refine s_blx (lv' := [(0, vR 11), (1, vI at_), (2, vI value)]) (st' := [vI at_, vR 11]) B145_0_2 rfl ?_
  refine r_iald (pc' := 3) D145_2 rfl sc_11 H.1 (by omega) ?_
  intro w1 e2 r3
  have b_w1 := H.2 11 (at_) 0 1000 rfl
  rw [← e2] at b_w1; clear r3
  refine s_blx (lv' := [(3, vI w1), (0, vR 11), (1, vI at_), (2, vI value)]) (st' := [vI value, vI at_, vR 11]) B145_3_7 rfl ?_
  refine r_iast (pc' := 8) D145_7 rfl sc_11 H (by omega) (by unfold inR; omega) (show 0 ≤ value ∧ value ≤ 1000 by omega) ?_
  intro M4 u5 H6 p7
  have f8 := f0.wr u5 rfl
  have ku := u5
  refine s_blx (lv' := [(3, vI w1), (0, vR 11), (1, vI at_), (2, vI value)]) (st' := [vI w1]) B145_8_9 rfl ?_
  exact r_iretI D145_9 rfl (⟨H6, f8, by omega, by omega, ku⟩)
set_option maxRecDepth 4000 in
theorem k145_8n {base : Nat} {X : Nat → Option mC} {G : Nat → Value} (E : EnvOK base X G) {d : Nat} (hd : 0 ≤ d) {M : mH} (H : HI base M) (at_ : Int) (value : Int) (h0 : 0 ≤ at_ ∧ at_ ≤ 63) (h1 : 0 ≤ value ∧ value ≤ 100) : sOk base X G d T145 [vR 8, vI at_, vI value] M (pI (fun v M' => HI base M' ∧ Fr [(8, 0)] M M' ∧ (-2147483648 ≤ v ∧ v ≤ 2147483647) ∧ (v = gi M 8 at_) ∧ (Wr M 8 at_.toNat (.int (Int32.ofInt value)) M'))) := by
  have f0 : Fr [(8, 0)] M M := Fr.rf
  refine sOk.of (show sRn base X G d T145 0 [(0, vR 8), (1, vI at_), (2, vI value)] [] M _ from ?_)
  refine s_blx (lv' := [(0, vR 8), (1, vI at_), (2, vI value)]) (st' := [vI at_, vR 8]) B145_0_2 rfl ?_
  refine r_iald (pc' := 3) D145_2 rfl sc_8 H.1 (by omega) ?_
  intro w1 e2 r3
  have b_w1 := H.2 8 (at_) 0 100 rfl
  rw [← e2] at b_w1; clear r3
  refine s_blx (lv' := [(3, vI w1), (0, vR 8), (1, vI at_), (2, vI value)]) (st' := [vI value, vI at_, vR 8]) B145_3_7 rfl ?_
  refine r_iast (pc' := 8) D145_7 rfl sc_8 H (by omega) (by unfold inR; omega) (show 0 ≤ value ∧ value ≤ 100 by omega) ?_
  intro M4 u5 H6 p7
  have f8 := f0.wr u5 rfl
  have ku := u5
  refine s_blx (lv' := [(3, vI w1), (0, vR 8), (1, vI at_), (2, vI value)]) (st' := [vI w1]) B145_8_9 rfl ?_
  exact r_iretI D145_9 rfl (⟨H6, f8, by omega, by omega, ku⟩)
set_option maxRecDepth 4000 in
theorem k63_1n {base : Nat} {X : Nat → Option mC} {G : Nat → Value} (E : EnvOK base X G) {d : Nat} (hd : 0 ≤ d) {M : mH} (H : HI base M) (lag : Int) (keeps : Int) (limit : Int) (h0 : 0 ≤ lag ∧ lag ≤ 60) (h1 : 0 ≤ keeps ∧ keeps ≤ 100) (h2 : 0 ≤ limit ∧ limit ≤ 300) (h3 : gi M 1 14 ≤ 5) : sOk base X G d T63 [vR 1, vI lag, vI keeps, vI limit] M (pI (fun v M' => HI base M' ∧ Fr [(1, 15), (10, 0)] M M' ∧ (-2147483648 ≤ v ∧ v ≤ 2147483647) ∧ (v = gi M 1 14) ∧ (W4 10 (gi M 1 14 * 3) 1 14 lag keeps limit (gi M 1 14 + 1) M M'))) := by
  have f0 : Fr [(1, 15), (10, 0)] M M := Fr.rf
  refine sOk.of (show sRn base X G d T63 0 [(0, vR 1), (1, vI lag), (2, vI keeps), (3, vI limit)] [] M _ from ?_)
  refine s_blx (lv' := [(0, vR 1), (1, vI lag), (2, vI keeps), (3, vI limit)]) (st' := [vR 1]) B63_0_1 rfl ?_
  refine r_gfix (r := 10) (pc' := 4) D63_1 rfl gf_8_55_1 H.1 ?_
  refine s_blx (lv' := [(0, vR 1), (1, vI lag), (2, vI keeps), (3, vI limit)]) (st' := [vR 1, vR 10]) B63_4_5 rfl ?_
  refine r_gint (ki := 14) (pc' := 8) D63_5 rfl gf_8_58_1 rfl H.1 ?_
  intro w1 e2 r3
  have b_w1 := H.2 1 (14) 0 6 rfl
  rw [← e2] at b_w1; clear r3
  have ke := e2
  refine s_blx (lv' := [(0, vR 1), (1, vI lag), (2, vI keeps), (3, vI limit)]) (st' := [vI lag, vI (w1 * 3), vR 10]) B63_8_11 rfl ?_
  refine r_iast (pc' := 12) D63_11 rfl sc_10 H (by omega) (by unfold inR; omega) (show 0 ≤ lag ∧ lag ≤ 300 by omega) ?_
  intro M4 u5 H6 p7
  have f8 := f0.wr u5 rfl
  have ku1 := u5
  refine s_blx (lv' := [(0, vR 1), (1, vI lag), (2, vI keeps), (3, vI limit)]) (st' := [vR 1]) B63_12_13 rfl ?_
  refine r_gfix (r := 10) (pc' := 16) D63_13 rfl gf_8_55_1 H6.1 ?_
  refine s_blx (lv' := [(0, vR 1), (1, vI lag), (2, vI keeps), (3, vI limit)]) (st' := [vR 1, vR 10]) B63_16_17 rfl ?_
  refine r_gint (ki := 14) (pc' := 20) D63_17 rfl gf_8_58_1 rfl H6.1 ?_
  intro w9 e10 r11
  have e12 : w1 = w9 := (e10.trans ((u5.gi_ne (by omega) (Or.inl (by decide))).trans (e2.symm))).symm
  subst e12
  refine s_blx (lv' := [(0, vR 1), (1, vI lag), (2, vI keeps), (3, vI limit)]) (st' := [vI keeps, vI ((w1 * 3) + 1), vR 10]) B63_20_25 rfl ?_
  refine r_iast (pc' := 26) D63_25 rfl sc_10 H6 (by omega) (by unfold inR; omega) (show 0 ≤ keeps ∧ keeps ≤ 300 by omega) ?_
  intro M13 u14 H15 p16
  have f17 := f8.wr u14 rfl
  have ku2 := u14
  refine s_blx (lv' := [(0, vR 1), (1, vI lag), (2, vI keeps), (3, vI limit)]) (st' := [vR 1]) B63_26_27 rfl ?_
  refine r_gfix (r := 10) (pc' := 30) D63_27 rfl gf_8_55_1 H15.1 ?_
  refine s_blx (lv' := [(0, vR 1), (1, vI lag), (2, vI keeps), (3, vI limit)]) (st' := [vR 1, vR 10]) B63_30_31 rfl ?_
  refine r_gint (ki := 14) (pc' := 34) D63_31 rfl gf_8_58_1 rfl H15.1 ?_
  intro w18 e19 r20
  have e21 : w1 = w18 := (e19.trans ((u14.gi_ne (by omega) (Or.inl (by decide))).trans ((u5.gi_ne (by omega) (Or.inl (by decide))).trans (e2.symm)))).symm
  subst e21
  refine s_blx (lv' := [(0, vR 1), (1, vI lag), (2, vI keeps), (3, vI limit)]) (st' := [vI limit, vI ((w1 * 3) + 2), vR 10]) B63_34_39 rfl ?_
  refine r_iast (pc' := 40) D63_39 rfl sc_10 H15 (by omega) (by unfold inR; omega) (show 0 ≤ limit ∧ limit ≤ 300 by omega) ?_
  intro M22 u23 H24 p25
  have f26 := f17.wr u23 rfl
  have ku3 := u23
  refine s_blx (lv' := [(0, vR 1), (1, vI lag), (2, vI keeps), (3, vI limit)]) (st' := [vR 1, vR 1]) B63_40_42 rfl ?_
  refine r_gint (ki := 14) (pc' := 45) D63_42 rfl gf_8_58_1 rfl H24.1 ?_
  intro w27 e28 r29
  have e30 : w1 = w27 := (e28.trans ((u23.gi_ne (by omega) (Or.inl (by decide))).trans ((u14.gi_ne (by omega) (Or.inl (by decide))).trans ((u5.gi_ne (by omega) (Or.inl (by decide))).trans (e2.symm))))).symm
  subst e30
  refine s_blx (lv' := [(0, vR 1), (1, vI lag), (2, vI keeps), (3, vI limit)]) (st' := [vI (w1 + 1), vR 1]) B63_45_47 rfl ?_
  refine r_pint (ki := 14) (pc' := 50) D63_47 rfl pf_8_58_1 rfl H24 (by unfold inR; omega) (show 0 ≤ (w1 + 1) ∧ (w1 + 1) ≤ 6 by omega) ?_
  intro M31 u32 H33 p34
  have f35 := f26.wr u32 rfl
  have ku4 := u32
  refine s_blx (lv' := [(0, vR 1), (1, vI lag), (2, vI keeps), (3, vI limit)]) (st' := [vR 1]) B63_50_51 rfl ?_
  refine r_gint (ki := 14) (pc' := 54) D63_51 rfl gf_8_58_1 rfl H33.1 ?_
  intro w36 e37 r38
  have e39 : w1 + 1 = w36 := (e37.trans (p34)).symm
  subst e39
  refine s_blx (lv' := [(0, vR 1), (1, vI lag), (2, vI keeps), (3, vI limit)]) (st' := [vI ((w1 + 1) - 1)]) B63_54_56 rfl ?_
  exact r_iretI D63_56 rfl (⟨H33, f35, by omega, by omega, ⟨_, _, _, kuv ku1 (by omega) rfl, kuv ku2 (by omega) rfl, kuv ku3 (by omega) rfl, kuv ku4 rfl (by omega)⟩⟩)
set_option maxRecDepth 4000 in
theorem k59_1n {base : Nat} {X : Nat → Option mC} {G : Nat → Value} (E : EnvOK base X G) {d : Nat} (hd : 0 ≤ d) {M : mH} (H : HI base M) (slot : Int) (values : Int) (length : Int) (h0 : 0 ≤ slot ∧ slot ≤ 2) (h1 : 0 ≤ values ∧ values ≤ 255) (h2 : 0 ≤ length ∧ length ≤ 9) (h3 : gi M 1 4 ≤ 11) : sOk base X G d T59 [vR 1, vI slot, vI values, vI length] M (pI (fun v M' => HI base M' ∧ Fr [(1, 5), (4, 0)] M M' ∧ (-2147483648 ≤ v ∧ v ≤ 2147483647) ∧ (v = gi M 1 4) ∧ (W4 4 (gi M 1 4 * 3) 1 4 slot values length (gi M 1 4 + 1) M M'))) := by
  have f0 : Fr [(1, 5), (4, 0)] M M := Fr.rf
  refine sOk.of (show sRn base X G d T59 0 [(0, vR 1), (1, vI slot), (2, vI values), (3, vI length)] [] M _ from ?_)
  refine s_blx (lv' := [(0, vR 1), (1, vI slot), (2, vI values), (3, vI length)]) (st' := [vR 1]) B59_0_1 rfl ?_
  refine r_gfix (r := 4) (pc' := 4) D59_1 rfl gf_8_22_1 H.1 ?_
  refine s_blx (lv' := [(0, vR 1), (1, vI slot), (2, vI values), (3, vI length)]) (st' := [vR 1, vR 4]) B59_4_5 rfl ?_
  refine r_gint (ki := 4) (pc' := 8) D59_5 rfl gf_8_25_1 rfl H.1 ?_
  intro w1 e2 r3
  have b_w1 := H.2 1 (4) 0 12 rfl
  rw [← e2] at b_w1; clear r3
  have ke := e2
  refine s_blx (lv' := [(0, vR 1), (1, vI slot), (2, vI values), (3, vI length)]) (st' := [vI slot, vI (w1 * 3), vR 4]) B59_8_11 rfl ?_
  refine r_iast (pc' := 12) D59_11 rfl sc_4 H (by omega) (by unfold inR; omega) (show 0 ≤ slot ∧ slot ≤ 255 by omega) ?_
  intro M4 u5 H6 p7
  have f8 := f0.wr u5 rfl
  have ku1 := u5
  refine s_blx (lv' := [(0, vR 1), (1, vI slot), (2, vI values), (3, vI length)]) (st' := [vR 1]) B59_12_13 rfl ?_
  refine r_gfix (r := 4) (pc' := 16) D59_13 rfl gf_8_22_1 H6.1 ?_
  refine s_blx (lv' := [(0, vR 1), (1, vI slot), (2, vI values), (3, vI length)]) (st' := [vR 1, vR 4]) B59_16_17 rfl ?_
  refine r_gint (ki := 4) (pc' := 20) D59_17 rfl gf_8_25_1 rfl H6.1 ?_
  intro w9 e10 r11
  have e12 : w1 = w9 := (e10.trans ((u5.gi_ne (by omega) (Or.inl (by decide))).trans (e2.symm))).symm
  subst e12
  refine s_blx (lv' := [(0, vR 1), (1, vI slot), (2, vI values), (3, vI length)]) (st' := [vI values, vI ((w1 * 3) + 1), vR 4]) B59_20_25 rfl ?_
  refine r_iast (pc' := 26) D59_25 rfl sc_4 H6 (by omega) (by unfold inR; omega) (show 0 ≤ values ∧ values ≤ 255 by omega) ?_
  intro M13 u14 H15 p16
  have f17 := f8.wr u14 rfl
  have ku2 := u14
  refine s_blx (lv' := [(0, vR 1), (1, vI slot), (2, vI values), (3, vI length)]) (st' := [vR 1]) B59_26_27 rfl ?_
  refine r_gfix (r := 4) (pc' := 30) D59_27 rfl gf_8_22_1 H15.1 ?_
  refine s_blx (lv' := [(0, vR 1), (1, vI slot), (2, vI values), (3, vI length)]) (st' := [vR 1, vR 4]) B59_30_31 rfl ?_
  refine r_gint (ki := 4) (pc' := 34) D59_31 rfl gf_8_25_1 rfl H15.1 ?_
  intro w18 e19 r20
  have e21 : w1 = w18 := (e19.trans ((u14.gi_ne (by omega) (Or.inl (by decide))).trans ((u5.gi_ne (by omega) (Or.inl (by decide))).trans (e2.symm)))).symm
  subst e21
  refine s_blx (lv' := [(0, vR 1), (1, vI slot), (2, vI values), (3, vI length)]) (st' := [vI length, vI ((w1 * 3) + 2), vR 4]) B59_34_39 rfl ?_
  refine r_iast (pc' := 40) D59_39 rfl sc_4 H15 (by omega) (by unfold inR; omega) (show 0 ≤ length ∧ length ≤ 255 by omega) ?_
  intro M22 u23 H24 p25
  have f26 := f17.wr u23 rfl
  have ku3 := u23
  refine s_blx (lv' := [(0, vR 1), (1, vI slot), (2, vI values), (3, vI length)]) (st' := [vR 1, vR 1]) B59_40_42 rfl ?_
  refine r_gint (ki := 4) (pc' := 45) D59_42 rfl gf_8_25_1 rfl H24.1 ?_
  intro w27 e28 r29
  have e30 : w1 = w27 := (e28.trans ((u23.gi_ne (by omega) (Or.inl (by decide))).trans ((u14.gi_ne (by omega) (Or.inl (by decide))).trans ((u5.gi_ne (by omega) (Or.inl (by decide))).trans (e2.symm))))).symm
  subst e30
  refine s_blx (lv' := [(0, vR 1), (1, vI slot), (2, vI values), (3, vI length)]) (st' := [vI (w1 + 1), vR 1]) B59_45_47 rfl ?_
  refine r_pint (ki := 4) (pc' := 50) D59_47 rfl pf_8_25_1 rfl H24 (by unfold inR; omega) (show 0 ≤ (w1 + 1) ∧ (w1 + 1) ≤ 12 by omega) ?_
  intro M31 u32 H33 p34
  have f35 := f26.wr u32 rfl
  have ku4 := u32
  refine s_blx (lv' := [(0, vR 1), (1, vI slot), (2, vI values), (3, vI length)]) (st' := [vR 1]) B59_50_51 rfl ?_
  refine r_gint (ki := 4) (pc' := 54) D59_51 rfl gf_8_25_1 rfl H33.1 ?_
  intro w36 e37 r38
  have e39 : w1 + 1 = w36 := (e37.trans (p34)).symm
  subst e39
  refine s_blx (lv' := [(0, vR 1), (1, vI slot), (2, vI values), (3, vI length)]) (st' := [vI ((w1 + 1) - 1)]) B59_54_56 rfl ?_
  exact r_iretI D59_56 rfl (⟨H33, f35, by omega, by omega, ⟨_, _, _, kuv ku1 (by omega) rfl, kuv ku2 (by omega) rfl, kuv ku3 (by omega) rfl, kuv ku4 rfl (by omega)⟩⟩)
set_option maxRecDepth 4000 in
theorem k143n {base : Nat} {X : Nat → Option mC} {G : Nat → Value} (E : EnvOK base X G) {d : Nat} (hd : 1 ≤ d) {M : mH} (H : HI base M) (slot : Int) (h0 : -2147483648 ≤ slot ∧ slot ≤ 2147483647) : sOk base X G d T143 [vI slot] M (pI (fun v M' => M' = M ∧ (v = 0 ∨ v = 1) ∧ (v = 1 → 0 ≤ slot ∧ slot ≤ 2) ∧ (v = 0 → slot < 0 ∨ 2 < slot))) := by
  refine sOk.of (show sRn base X G d T143 0 [(0, vI slot)] [] M _ from ?_)
  refine s_blx (lv' := [(0, vI slot)]) (st' := [vI 2, vI 0, vI slot]) B143_0_3 rfl ?_
  refine r_sIp (args := [vI slot, vI 0, vI 2]) (rest := []) (pc' := 6) D143_3 rfl ck_10_static_102 TE142 rfl (Nat.le_of_ble_eq_true rfl) ⟨Nat.le_of_ble_eq_true rfl, Nat.le_of_ble_eq_true rfl⟩ (by decide) (dp_0 hd rfl) (k142 E (dp_n hd rfl) H slot 0 2 (by omega) (by omega) (by omega)) ?_
  intro v1 q6
  obtain ⟨q3, q4, q5⟩ := q6
  exact r_zretI D143_6 rfl (by omega) (⟨rfl, by omega, by omega, by omega⟩)
set_option maxRecDepth 4000 in
theorem k144n {base : Nat} {X : Nat → Option mC} {G : Nat → Value} (E : EnvOK base X G) {d : Nat} (hd : 1 ≤ d) {M : mH} (H : HI base M) (value : Int) (h0 : -2147483648 ≤ value ∧ value ≤ 2147483647) : sOk base X G d T144 [vI value] M (pI (fun v M' => M' = M ∧ (v = 0 ∨ v = 1) ∧ (v = 1 → 0 ≤ value ∧ value ≤ 7) ∧ (v = 0 → value < 0 ∨ 7 < value))) := by
  refine sOk.of (show sRn base X G d T144 0 [(0, vI value)] [] M _ from ?_)
  refine s_blx (lv' := [(0, vI value)]) (st' := [vI 7, vI 0, vI value]) B144_0_4 rfl ?_
  refine r_sIp (args := [vI value, vI 0, vI 7]) (rest := []) (pc' := 7) D144_4 rfl ck_10_static_102 TE142 rfl (Nat.le_of_ble_eq_true rfl) ⟨Nat.le_of_ble_eq_true rfl, Nat.le_of_ble_eq_true rfl⟩ (by decide) (dp_0 hd rfl) (k142 E (dp_n hd rfl) H value 0 7 (by omega) (by omega) (by omega)) ?_
  intro v1 q6
  obtain ⟨q3, q4, q5⟩ := q6
  exact r_zretI D144_7 rfl (by omega) (⟨rfl, by omega, by omega, by omega⟩)
set_option maxRecDepth 4000 in
theorem k65_1n {base : Nat} {X : Nat → Option mC} {G : Nat → Value} (E : EnvOK base X G) {d : Nat} (hd : 1 ≤ d) {M : mH} (H : HI base M) (sentence : Int) (h0 : -2147483648 ≤ sentence ∧ sentence ≤ 2147483647) : sOk base X G d T65 [vR 1, vI sentence] M (pI (fun v M' => M' = M ∧ (v = 0 ∨ v = 1) ∧ (v = 1 → 0 ≤ sentence ∧ sentence ≤ 15 ∧ sentence < gi M 1 10) ∧ (v = 0 → sentence < 0 ∨ gi M 1 10 ≤ sentence))) := by
  refine sOk.of (show sRn base X G d T65 0 [(0, vR 1), (1, vI sentence)] [] M _ from ?_)
  refine s_blx (lv' := [(0, vR 1), (1, vI sentence)]) (st' := [vR 1, vI 0, vI sentence]) B65_0_3 rfl ?_
  refine r_gint (ki := 10) (pc' := 6) D65_3 rfl gf_8_43_1 rfl H.1 ?_
  intro w1 e2 r3
  have b_w1 := H.2 1 (10) 0 16 rfl
  rw [← e2] at b_w1; clear r3
  refine s_blx (lv' := [(0, vR 1), (1, vI sentence)]) (st' := [vI (w1 - 1), vI 0, vI sentence]) B65_6_8 rfl ?_
  refine r_sIp (args := [vI sentence, vI 0, vI (w1 - 1)]) (rest := []) (pc' := 11) D65_8 rfl ck_8_static_80 TE142 rfl (Nat.le_of_ble_eq_true rfl) ⟨Nat.le_of_ble_eq_true rfl, Nat.le_of_ble_eq_true rfl⟩ (by decide) (dp_0 hd rfl) (k142 E (dp_n hd rfl) H sentence 0 (w1 - 1) (by omega) (by omega) (by omega)) ?_
  intro v4 q9
  obtain ⟨q6, q7, q8⟩ := q9
  exact r_zretI D65_11 rfl (by omega) (⟨rfl, by omega, by omega, by omega⟩)
set_option maxRecDepth 4000 in
theorem k96n {base : Nat} {X : Nat → Option mC} {G : Nat → Value} (E : EnvOK base X G) {d : Nat} (hd : 1 ≤ d) {M : mH} (H : HI base M) (word : Int) (what : Int) (value : Int) (h0 : -2147483648 ≤ word ∧ word ≤ 2147483647) (h1 : -2147483648 ≤ what ∧ what ≤ 2147483647) (h2 : -2147483648 ≤ value ∧ value ≤ 2147483647) : sOk base X G d T96 [vR 0, vI word, vI what, vI value] M (pI (fun v M' => HI base M' ∧ Fr [(0, 6), (0, 10), (2, 0)] M M' ∧ (gi M' 0 9 = 1 ∨ gi M' 0 9 = gi M 0 9) ∧ ((WV word what value ∧ v = gi M 2 (what * 30 + word) ∧ ∃ M1, Wr M 2 (what * 30 + word).toNat (.int (Int32.ofInt value)) M1 ∧ Fr [(0, 6), (0, 10)] M1 M') ∨ (¬ WV word what value ∧ (v = -1) ∧ Fr [(0, 6)] M M')))) := by
  have f0 : Fr [(0, 6), (0, 10), (2, 0)] M M := Fr.rf
  refine sOk.of (show sRn base X G d T96 0 [(0, vR 0), (1, vI word), (2, vI what), (3, vI value)] [] M _ from ?_)
  refine s_blx (lv' := [(0, vR 0), (1, vI word), (2, vI what), (3, vI value)]) (st' := [vI 29, vI 0, vI word]) B96_0_4 rfl ?_
  refine r_sIp (args := [vI word, vI 0, vI 29]) (rest := []) (pc' := 7) D96_4 rfl ck_10_static_102 TE142 rfl (Nat.le_of_ble_eq_true rfl) ⟨Nat.le_of_ble_eq_true rfl, Nat.le_of_ble_eq_true rfl⟩ (by decide) (dp_0 hd rfl) (k142 E (dp_n hd rfl) H word 0 29 (by omega) (by omega) (by omega)) ?_
  intro v1 q6
  obtain ⟨q3, q4, q5⟩ := q6
  refine r_ifc (tgt := 19) (pc' := 10) D96_7 rfl rfl (by unfold inR; omega) (fun (c7 : v1 = 0) => ?_) (fun (c7 : ¬ (v1 = 0)) => ?_)
  · refine s_blx (lv' := [(0, vR 0), (1, vI word), (2, vI what), (3, vI value)]) (st' := [vI (-1), vR 0]) B96_19_21 rfl ?_
    refine r_vI (c := 0) (args := [vI (-1)]) (rest := []) (pc' := 24) D96_21 rfl ck_10_virtual_106 TE133 rfl (Nat.le_of_ble_eq_true rfl) ⟨Nat.le_of_ble_eq_true rfl, Nat.le_of_ble_eq_true rfl⟩ sc_0 ⟨rfl, by decide⟩ H.1 (dp_0 hd rfl) (k133 E (dp_n hd rfl) H (-1) (by omega)) ?_
    intro v8 M9 q13
    obtain ⟨H10, f11, q12⟩ := q13
    have f14 := f0.tr (f11.up rfl)
    have kfr := f11
    have g15 : gi M9 0 9 = gi M 0 9 := (f11.g rfl).trans (rfl)
    exact r_iretI D96_24 rfl (⟨H10, f14, by omega, Or.inr ⟨fun h => by unfold WV at h; omega, by omega, kfr⟩⟩)
  · refine s_blx (lv' := [(0, vR 0), (1, vI word), (2, vI what), (3, vI value)]) (st' := [vI 2, vI 0, vI what]) B96_10_13 rfl ?_
    refine r_sIp (args := [vI what, vI 0, vI 2]) (rest := []) (pc' := 16) D96_13 rfl ck_10_static_102 TE142 rfl (Nat.le_of_ble_eq_true rfl) ⟨Nat.le_of_ble_eq_true rfl, Nat.le_of_ble_eq_true rfl⟩ (by decide) (dp_0 hd rfl) (k142 E (dp_n hd rfl) H what 0 2 (by omega) (by omega) (by omega)) ?_
    intro v16 q21
    obtain ⟨q18, q19, q20⟩ := q21
    refine r_ifc (tgt := 25) (pc' := 19) D96_16 rfl rfl (by unfold inR; omega) (fun (c22 : v16 ≠ 0) => ?_) (fun (c22 : ¬ (v16 ≠ 0)) => ?_)
    · refine s_blx (lv' := [(0, vR 0), (1, vI word), (2, vI what), (3, vI value)]) (st' := [vI value]) B96_25_26 rfl ?_
      obtain ⟨u23, f24, g25, g26, h27, k28⟩ := E.1 0 _ rfl
      refine r_gst (pc' := 29) D96_26 rfl st_10_110 g25 ?_
      refine s_blx (lv' := [(0, vR 0), (1, vI word), (2, vI what), (3, vI value)]) (st' := [vI what, vA u23, vI value]) B96_29_30 rfl ?_
      refine r_ialdT (pc' := 31) D96_30 rfl h27 g26 k28 (by first | omega | (show _ ∧ _ ∧ _; simp only [List.length]; omega)) ?_
      intro w29 e30 r31
      have b_w29 := tb_0 (what).toNat (by omega)
      rw [← e30] at b_w29; clear r31
      have kt30 := wl0 (what).toNat (by omega)
      rw [← e30] at kt30
      obtain ⟨u32, f33, g34, g35, h36, k37⟩ := E.1 1 _ rfl
      refine r_gst (pc' := 34) D96_31 rfl st_10_113 g34 ?_
      refine s_blx (lv' := [(0, vR 0), (1, vI word), (2, vI what), (3, vI value)]) (st' := [vI what, vA u32, vI w29, vI value]) B96_34_35 rfl ?_
      refine r_ialdT (pc' := 36) D96_35 rfl h36 g35 k37 (by first | omega | (show _ ∧ _ ∧ _; simp only [List.length]; omega)) ?_
      intro w38 e39 r40
      have b_w38 := tb_1 (what).toNat (by omega)
      rw [← e39] at b_w38; clear r40
      have kt35 := wm0 (what).toNat (by omega)
      rw [← e39] at kt35
      refine r_sIp (args := [vI value, vI w29, vI w38]) (rest := []) (pc' := 39) D96_36 rfl ck_10_static_102 TE142 rfl (Nat.le_of_ble_eq_true rfl) ⟨Nat.le_of_ble_eq_true rfl, Nat.le_of_ble_eq_true rfl⟩ (by decide) (dp_0 hd rfl) (k142 E (dp_n hd rfl) H value w29 w38 (by omega) (by omega) (by omega)) ?_
      intro v41 q46
      obtain ⟨q43, q44, q45⟩ := q46
      refine r_ifc (tgt := 48) (pc' := 42) D96_39 rfl rfl (by unfold inR; omega) (fun (c47 : v41 ≠ 0) => ?_) (fun (c47 : ¬ (v41 ≠ 0)) => ?_)
      · refine s_blx (lv' := [(0, vR 0), (1, vI word), (2, vI what), (3, vI value)]) (st' := [vR 0, vR 0]) B96_48_50 rfl ?_
        refine r_gfix (r := 1) (pc' := 53) D96_50 rfl gf_10_10_0 H.1 ?_
        refine r_gfix (r := 2) (pc' := 56) D96_53 rfl gf_10_116_1 H.1 ?_
        refine s_blx (lv' := [(0, vR 0), (1, vI word), (2, vI what), (3, vI value)]) (st' := [vI value, vI ((what * 30) + word), vR 2, vR 0]) B96_56_63 rfl ?_
        refine r_sI (args := [vR 2, vI ((what * 30) + word), vI value]) (rest := [vR 0]) (pc' := 66) D96_63 rfl ck_10_static_119 TE145 rfl (Nat.le_of_ble_eq_true rfl) ⟨Nat.le_of_ble_eq_true rfl, Nat.le_of_ble_eq_true rfl⟩ (by decide) (dp_0 hd rfl) (k145_2n E (dp_n hd rfl) H ((what * 30) + word) value (by omega) (by omega)) ?_
        intro v48 M49 q55
        obtain ⟨H50, f51, q52, q53, q54⟩ := q55
        have f56 := f0.tr (f51.up rfl)
        have kwr := q54; clear q54
        refine r_vI (c := 0) (args := [vI v48]) (rest := []) (pc' := 69) D96_66 rfl ck_10_virtual_123 TE134 rfl (Nat.le_of_ble_eq_true rfl) ⟨Nat.le_of_ble_eq_true rfl, Nat.le_of_ble_eq_true rfl⟩ sc_0 ⟨rfl, by decide⟩ H50.1 (dp_0 hd rfl) (k134s E (dp_n hd rfl) H50 v48 (by omega)) ?_
        intro v57 M58 q63
        obtain ⟨H59, f60, q61, q62⟩ := q63
        have f64 := f56.tr (f60.up rfl)
        have kfa := f60
        have g65 : gi M58 0 9 = 1 := q62
        exact r_iretI D96_69 rfl (⟨H59, f64, by omega, Or.inl ⟨by unfold WV; omega, by omega, ⟨_, kwr, kfa⟩⟩⟩)
      · refine s_blx (lv' := [(0, vR 0), (1, vI word), (2, vI what), (3, vI value)]) (st' := [vI (-1), vR 0]) B96_42_44 rfl ?_
        refine r_vI (c := 0) (args := [vI (-1)]) (rest := []) (pc' := 47) D96_44 rfl ck_10_virtual_106 TE133 rfl (Nat.le_of_ble_eq_true rfl) ⟨Nat.le_of_ble_eq_true rfl, Nat.le_of_ble_eq_true rfl⟩ sc_0 ⟨rfl, by decide⟩ H.1 (dp_0 hd rfl) (k133 E (dp_n hd rfl) H (-1) (by omega)) ?_
        intro v66 M67 q71
        obtain ⟨H68, f69, q70⟩ := q71
        have f72 := f0.tr (f69.up rfl)
        have kfr := f69
        have g73 : gi M67 0 9 = gi M 0 9 := (f69.g rfl).trans (rfl)
        exact r_iretI D96_47 rfl (⟨H68, f72, by omega, Or.inr ⟨fun h => by unfold WV at h; omega, by omega, kfr⟩⟩)
    · refine s_blx (lv' := [(0, vR 0), (1, vI word), (2, vI what), (3, vI value)]) (st' := [vI (-1), vR 0]) B96_19_21 rfl ?_
      refine r_vI (c := 0) (args := [vI (-1)]) (rest := []) (pc' := 24) D96_21 rfl ck_10_virtual_106 TE133 rfl (Nat.le_of_ble_eq_true rfl) ⟨Nat.le_of_ble_eq_true rfl, Nat.le_of_ble_eq_true rfl⟩ sc_0 ⟨rfl, by decide⟩ H.1 (dp_0 hd rfl) (k133 E (dp_n hd rfl) H (-1) (by omega)) ?_
      intro v74 M75 q79
      obtain ⟨H76, f77, q78⟩ := q79
      have f80 := f0.tr (f77.up rfl)
      have kfr := f77
      have g81 : gi M75 0 9 = gi M 0 9 := (f77.g rfl).trans (rfl)
      exact r_iretI D96_24 rfl (⟨H76, f80, by omega, Or.inr ⟨fun h => by unfold WV at h; omega, by omega, kfr⟩⟩)
set_option maxRecDepth 4000 in
theorem k97n {base : Nat} {X : Nat → Option mC} {G : Nat → Value} (E : EnvOK base X G) {d : Nat} (hd : 1 ≤ d) {M : mH} (H : HI base M) (what : Int) (value : Int) (h0 : -2147483648 ≤ what ∧ what ≤ 2147483647) (h1 : -2147483648 ≤ value ∧ value ≤ 2147483647) : sOk base X G d T97 [vR 0, vI what, vI value] M (pI (fun v M' => HI base M' ∧ Fr [(0, 6), (0, 10), (3, 0)] M M' ∧ (gi M' 0 9 = 1 ∨ gi M' 0 9 = gi M 0 9) ∧ ((TV what value ∧ v = gi M 3 (what) ∧ ∃ M1, Wr M 3 (what).toNat (.int (Int32.ofInt value)) M1 ∧ Fr [(0, 6), (0, 10)] M1 M') ∨ (¬ TV what value ∧ (v = -1) ∧ Fr [(0, 6)] M M')))) := by
  have f0 : Fr [(0, 6), (0, 10), (3, 0)] M M := Fr.rf
  refine sOk.of (show sRn base X G d T97 0 [(0, vR 0), (1, vI what), (2, vI value)] [] M _ from ?_)
  refine s_blx (lv' := [(0, vR 0), (1, vI what), (2, vI value)]) (st' := [vI 8, vI 0, vI what]) B97_0_4 rfl ?_
  refine r_sIp (args := [vI what, vI 0, vI 8]) (rest := []) (pc' := 7) D97_4 rfl ck_10_static_102 TE142 rfl (Nat.le_of_ble_eq_true rfl) ⟨Nat.le_of_ble_eq_true rfl, Nat.le_of_ble_eq_true rfl⟩ (by decide) (dp_0 hd rfl) (k142 E (dp_n hd rfl) H what 0 8 (by omega) (by omega) (by omega)) ?_
  intro v1 q6
  obtain ⟨q3, q4, q5⟩ := q6
  refine r_ifc (tgt := 23) (pc' := 10) D97_7 rfl rfl (by unfold inR; omega) (fun (c7 : v1 = 0) => ?_) (fun (c7 : ¬ (v1 = 0)) => ?_)
  · refine s_blx (lv' := [(0, vR 0), (1, vI what), (2, vI value)]) (st' := [vI (-1), vR 0]) B97_23_25 rfl ?_
    refine r_vI (c := 0) (args := [vI (-1)]) (rest := []) (pc' := 28) D97_25 rfl ck_10_virtual_106 TE133 rfl (Nat.le_of_ble_eq_true rfl) ⟨Nat.le_of_ble_eq_true rfl, Nat.le_of_ble_eq_true rfl⟩ sc_0 ⟨rfl, by decide⟩ H.1 (dp_0 hd rfl) (k133 E (dp_n hd rfl) H (-1) (by omega)) ?_
    intro v8 M9 q13
    obtain ⟨H10, f11, q12⟩ := q13
    have f14 := f0.tr (f11.up rfl)
    have kfr := f11
    have g15 : gi M9 0 9 = gi M 0 9 := (f11.g rfl).trans (rfl)
    exact r_iretI D97_28 rfl (⟨H10, f14, by omega, Or.inr ⟨fun h => by unfold TV at h; omega, by omega, kfr⟩⟩)
  · refine s_blx (lv' := [(0, vR 0), (1, vI what), (2, vI value)]) (st' := [vI 0, vI value]) B97_10_12 rfl ?_
    obtain ⟨u16, f17, g18, g19, h20, k21⟩ := E.1 2 _ rfl
    refine r_gst (pc' := 15) D97_12 rfl st_10_126 g18 ?_
    refine s_blx (lv' := [(0, vR 0), (1, vI what), (2, vI value)]) (st' := [vI what, vA u16, vI 0, vI value]) B97_15_16 rfl ?_
    refine r_ialdT (pc' := 17) D97_16 rfl h20 g19 k21 (by first | omega | (show _ ∧ _ ∧ _; simp only [List.length]; omega)) ?_
    intro w22 e23 r24
    have b_w22 := tb_2 (what).toNat (by omega)
    rw [← e23] at b_w22; clear r24
    have kt16 := tm0 (what).toNat (by omega)
    rw [← e23] at kt16
    refine r_sIp (args := [vI value, vI 0, vI w22]) (rest := []) (pc' := 20) D97_17 rfl ck_10_static_102 TE142 rfl (Nat.le_of_ble_eq_true rfl) ⟨Nat.le_of_ble_eq_true rfl, Nat.le_of_ble_eq_true rfl⟩ (by decide) (dp_0 hd rfl) (k142 E (dp_n hd rfl) H value 0 w22 (by omega) (by omega) (by omega)) ?_
    intro v25 q30
    obtain ⟨q27, q28, q29⟩ := q30
    refine r_ifc (tgt := 29) (pc' := 23) D97_20 rfl rfl (by unfold inR; omega) (fun (c31 : v25 ≠ 0) => ?_) (fun (c31 : ¬ (v25 ≠ 0)) => ?_)
    · refine s_blx (lv' := [(0, vR 0), (1, vI what), (2, vI value)]) (st' := [vR 0, vR 0]) B97_29_31 rfl ?_
      refine r_gfix (r := 1) (pc' := 34) D97_31 rfl gf_10_10_0 H.1 ?_
      refine r_gfix (r := 3) (pc' := 37) D97_34 rfl gf_10_129_1 H.1 ?_
      refine s_blx (lv' := [(0, vR 0), (1, vI what), (2, vI value)]) (st' := [vI value, vI what, vR 3, vR 0]) B97_37_39 rfl ?_
      refine r_sI (args := [vR 3, vI what, vI value]) (rest := [vR 0]) (pc' := 42) D97_39 rfl ck_10_static_119 TE145 rfl (Nat.le_of_ble_eq_true rfl) ⟨Nat.le_of_ble_eq_true rfl, Nat.le_of_ble_eq_true rfl⟩ (by decide) (dp_0 hd rfl) (k145_3n E (dp_n hd rfl) H what value (by omega) (by omega)) ?_
      intro v32 M33 q39
      obtain ⟨H34, f35, q36, q37, q38⟩ := q39
      have f40 := f0.tr (f35.up rfl)
      have kwr := q38; clear q38
      refine r_vI (c := 0) (args := [vI v32]) (rest := []) (pc' := 45) D97_42 rfl ck_10_virtual_123 TE134 rfl (Nat.le_of_ble_eq_true rfl) ⟨Nat.le_of_ble_eq_true rfl, Nat.le_of_ble_eq_true rfl⟩ sc_0 ⟨rfl, by decide⟩ H34.1 (dp_0 hd rfl) (k134s E (dp_n hd rfl) H34 v32 (by omega)) ?_
      intro v41 M42 q47
      obtain ⟨H43, f44, q45, q46⟩ := q47
      have f48 := f40.tr (f44.up rfl)
      have kfa := f44
      have g49 : gi M42 0 9 = 1 := q46
      exact r_iretI D97_45 rfl (⟨H43, f48, by omega, Or.inl ⟨by unfold TV; omega, by omega, ⟨_, kwr, kfa⟩⟩⟩)
    · refine s_blx (lv' := [(0, vR 0), (1, vI what), (2, vI value)]) (st' := [vI (-1), vR 0]) B97_23_25 rfl ?_
      refine r_vI (c := 0) (args := [vI (-1)]) (rest := []) (pc' := 28) D97_25 rfl ck_10_virtual_106 TE133 rfl (Nat.le_of_ble_eq_true rfl) ⟨Nat.le_of_ble_eq_true rfl, Nat.le_of_ble_eq_true rfl⟩ sc_0 ⟨rfl, by decide⟩ H.1 (dp_0 hd rfl) (k133 E (dp_n hd rfl) H (-1) (by omega)) ?_
      intro v50 M51 q55
      obtain ⟨H52, f53, q54⟩ := q55
      have f56 := f0.tr (f53.up rfl)
      have kfr := f53
      have g57 : gi M51 0 9 = gi M 0 9 := (f53.g rfl).trans (rfl)
      exact r_iretI D97_28 rfl (⟨H52, f56, by omega, Or.inr ⟨fun h => by unfold TV at h; omega, by omega, kfr⟩⟩)
set_option maxRecDepth 4000 in
theorem k122n {base : Nat} {X : Nat → Option mC} {G : Nat → Value} (E : EnvOK base X G) {d : Nat} (hd : 1 ≤ d) {M : mH} (H : HI base M) (minute : Int) (cost : Int) (h0 : -2147483648 ≤ minute ∧ minute ≤ 2147483647) (h1 : -2147483648 ≤ cost ∧ cost ≤ 2147483647) : sOk base X G d T122 [vR 0, vI minute, vI cost] M (pI (fun v M' => HI base M' ∧ Fr [(0, 6), (0, 10), (11, 0)] M M' ∧ (gi M' 0 9 = 1 ∨ gi M' 0 9 = gi M 0 9) ∧ ((MV minute cost ∧ v = gi M 11 (minute) ∧ ∃ M1, Wr M 11 (minute).toNat (.int (Int32.ofInt cost)) M1 ∧ Fr [(0, 6), (0, 10)] M1 M') ∨ (¬ MV minute cost ∧ (v = -1) ∧ Fr [(0, 6)] M M')))) := by
  have f0 : Fr [(0, 6), (0, 10), (11, 0)] M M := Fr.rf
  refine sOk.of (show sRn base X G d T122 0 [(0, vR 0), (1, vI minute), (2, vI cost)] [] M _ from ?_)
  refine s_blx (lv' := [(0, vR 0), (1, vI minute), (2, vI cost)]) (st' := [vI 59, vI 0, vI minute]) B122_0_4 rfl ?_
  refine r_sIp (args := [vI minute, vI 0, vI 59]) (rest := []) (pc' := 7) D122_4 rfl ck_10_static_102 TE142 rfl (Nat.le_of_ble_eq_true rfl) ⟨Nat.le_of_ble_eq_true rfl, Nat.le_of_ble_eq_true rfl⟩ (by decide) (dp_0 hd rfl) (k142 E (dp_n hd rfl) H minute 0 59 (by omega) (by omega) (by omega)) ?_
  intro v1 q6
  obtain ⟨q3, q4, q5⟩ := q6
  refine r_ifc (tgt := 21) (pc' := 10) D122_7 rfl rfl (by unfold inR; omega) (fun (c7 : v1 = 0) => ?_) (fun (c7 : ¬ (v1 = 0)) => ?_)
  · refine s_blx (lv' := [(0, vR 0), (1, vI minute), (2, vI cost)]) (st' := [vI (-1), vR 0]) B122_21_23 rfl ?_
    refine r_vI (c := 0) (args := [vI (-1)]) (rest := []) (pc' := 26) D122_23 rfl ck_10_virtual_106 TE133 rfl (Nat.le_of_ble_eq_true rfl) ⟨Nat.le_of_ble_eq_true rfl, Nat.le_of_ble_eq_true rfl⟩ sc_0 ⟨rfl, by decide⟩ H.1 (dp_0 hd rfl) (k133 E (dp_n hd rfl) H (-1) (by omega)) ?_
    intro v8 M9 q13
    obtain ⟨H10, f11, q12⟩ := q13
    have f14 := f0.tr (f11.up rfl)
    have kfr := f11
    have g15 : gi M9 0 9 = gi M 0 9 := (f11.g rfl).trans (rfl)
    exact r_iretI D122_26 rfl (⟨H10, f14, by omega, Or.inr ⟨fun h => by unfold MV at h; omega, by omega, kfr⟩⟩)
  · refine s_blx (lv' := [(0, vR 0), (1, vI minute), (2, vI cost)]) (st' := [vI 1000, vI 0, vI cost]) B122_10_15 rfl ?_
    refine r_sIp (args := [vI cost, vI 0, vI 1000]) (rest := []) (pc' := 18) D122_15 rfl ck_10_static_102 TE142 rfl (Nat.le_of_ble_eq_true rfl) ⟨Nat.le_of_ble_eq_true rfl, Nat.le_of_ble_eq_true rfl⟩ (by decide) (dp_0 hd rfl) (k142 E (dp_n hd rfl) H cost 0 1000 (by omega) (by omega) (by omega)) ?_
    intro v16 q21
    obtain ⟨q18, q19, q20⟩ := q21
    refine r_ifc (tgt := 27) (pc' := 21) D122_18 rfl rfl (by unfold inR; omega) (fun (c22 : v16 ≠ 0) => ?_) (fun (c22 : ¬ (v16 ≠ 0)) => ?_)
    · refine s_blx (lv' := [(0, vR 0), (1, vI minute), (2, vI cost)]) (st' := [vR 0, vR 0]) B122_27_29 rfl ?_
      refine r_gfix (r := 1) (pc' := 32) D122_29 rfl gf_10_10_0 H.1 ?_
      refine r_gfix (r := 11) (pc' := 35) D122_32 rfl gf_10_297_1 H.1 ?_
      refine s_blx (lv' := [(0, vR 0), (1, vI minute), (2, vI cost)]) (st' := [vI cost, vI minute, vR 11, vR 0]) B122_35_37 rfl ?_
      refine r_sI (args := [vR 11, vI minute, vI cost]) (rest := [vR 0]) (pc' := 40) D122_37 rfl ck_10_static_119 TE145 rfl (Nat.le_of_ble_eq_true rfl) ⟨Nat.le_of_ble_eq_true rfl, Nat.le_of_ble_eq_true rfl⟩ (by decide) (dp_0 hd rfl) (k145_11n E (dp_n hd rfl) H minute cost (by omega) (by omega)) ?_
      intro v23 M24 q30
      obtain ⟨H25, f26, q27, q28, q29⟩ := q30
      have f31 := f0.tr (f26.up rfl)
      have kwr := q29; clear q29
      refine r_vI (c := 0) (args := [vI v23]) (rest := []) (pc' := 43) D122_40 rfl ck_10_virtual_123 TE134 rfl (Nat.le_of_ble_eq_true rfl) ⟨Nat.le_of_ble_eq_true rfl, Nat.le_of_ble_eq_true rfl⟩ sc_0 ⟨rfl, by decide⟩ H25.1 (dp_0 hd rfl) (k134s E (dp_n hd rfl) H25 v23 (by omega)) ?_
      intro v32 M33 q38
      obtain ⟨H34, f35, q36, q37⟩ := q38
      have f39 := f31.tr (f35.up rfl)
      have kfa := f35
      have g40 : gi M33 0 9 = 1 := q37
      exact r_iretI D122_43 rfl (⟨H34, f39, by omega, Or.inl ⟨by unfold MV; omega, by omega, ⟨_, kwr, kfa⟩⟩⟩)
    · refine s_blx (lv' := [(0, vR 0), (1, vI minute), (2, vI cost)]) (st' := [vI (-1), vR 0]) B122_21_23 rfl ?_
      refine r_vI (c := 0) (args := [vI (-1)]) (rest := []) (pc' := 26) D122_23 rfl ck_10_virtual_106 TE133 rfl (Nat.le_of_ble_eq_true rfl) ⟨Nat.le_of_ble_eq_true rfl, Nat.le_of_ble_eq_true rfl⟩ sc_0 ⟨rfl, by decide⟩ H.1 (dp_0 hd rfl) (k133 E (dp_n hd rfl) H (-1) (by omega)) ?_
      intro v41 M42 q46
      obtain ⟨H43, f44, q45⟩ := q46
      have f47 := f0.tr (f44.up rfl)
      have kfr := f44
      have g48 : gi M42 0 9 = gi M 0 9 := (f44.g rfl).trans (rfl)
      exact r_iretI D122_26 rfl (⟨H43, f47, by omega, Or.inr ⟨fun h => by unfold MV at h; omega, by omega, kfr⟩⟩)
set_option maxRecDepth 4000 in
theorem k98n {base : Nat} {X : Nat → Option mC} {G : Nat → Value} (E : EnvOK base X G) {d : Nat} (hd : 1 ≤ d) {M : mH} (H : HI base M) (order : Int) (h0 : -2147483648 ≤ order ∧ order ≤ 2147483647) : sOk base X G d T98 [vR 0, vI order] M (pI (fun v M' => HI base M' ∧ Fr [(0, 6), (0, 10), (1, 3)] M M' ∧ (gi M' 0 9 = 1 ∨ gi M' 0 9 = gi M 0 9) ∧ ((OV order ∧ v = gi M 1 ((2 : Int)) ∧ ∃ M1, Wr M 1 ((2 : Int)).toNat (.int (Int32.ofInt order)) M1 ∧ Fr [(0, 6), (0, 10)] M1 M') ∨ (¬ OV order ∧ (v = -1) ∧ Fr [(0, 6)] M M')))) := by
  have f0 : Fr [(0, 6), (0, 10), (1, 3)] M M := Fr.rf
  refine sOk.of (show sRn base X G d T98 0 [(0, vR 0), (1, vI order)] [] M _ from ?_)
  refine s_blx (lv' := [(0, vR 0), (1, vI order)]) (st' := [vI 5, vI 0, vI order]) B98_0_3 rfl ?_
  refine r_sIp (args := [vI order, vI 0, vI 5]) (rest := []) (pc' := 6) D98_3 rfl ck_10_static_102 TE142 rfl (Nat.le_of_ble_eq_true rfl) ⟨Nat.le_of_ble_eq_true rfl, Nat.le_of_ble_eq_true rfl⟩ (by decide) (dp_0 hd rfl) (k142 E (dp_n hd rfl) H order 0 5 (by omega) (by omega) (by omega)) ?_
  intro v1 q6
  obtain ⟨q3, q4, q5⟩ := q6
  refine r_ifc (tgt := 15) (pc' := 9) D98_6 rfl rfl (by unfold inR; omega) (fun (c7 : v1 ≠ 0) => ?_) (fun (c7 : ¬ (v1 ≠ 0)) => ?_)
  · refine s_blx (lv' := [(0, vR 0), (1, vI order)]) (st' := [vR 0]) B98_15_16 rfl ?_
    refine r_gfix (r := 1) (pc' := 19) D98_16 rfl gf_10_10_0 H.1 ?_
    refine r_gint (ki := 2) (pc' := 22) D98_19 rfl gf_10_132_1 rfl H.1 ?_
    intro w8 e9 r10
    have b_w8 := H.2 1 (2) 0 5 rfl
    rw [← e9] at b_w8; clear r10
    refine s_blx (lv' := [(2, vI w8), (0, vR 0), (1, vI order)]) (st' := [vR 0]) B98_22_24 rfl ?_
    refine r_gfix (r := 1) (pc' := 27) D98_24 rfl gf_10_10_0 H.1 ?_
    refine s_blx (lv' := [(2, vI w8), (0, vR 0), (1, vI order)]) (st' := [vI order, vR 1]) B98_27_28 rfl ?_
    refine r_pint (ki := 2) (pc' := 31) D98_28 rfl pf_10_132_1 rfl H (by unfold inR; omega) (show 0 ≤ order ∧ order ≤ 5 by omega) ?_
    intro M11 u12 H13 p14
    have f15 := f0.wr u12 rfl
    have kwr := u12
    refine s_blx (lv' := [(2, vI w8), (0, vR 0), (1, vI order)]) (st' := [vI w8, vR 0]) B98_31_33 rfl ?_
    refine r_vI (c := 0) (args := [vI w8]) (rest := []) (pc' := 36) D98_33 rfl ck_10_virtual_123 TE134 rfl (Nat.le_of_ble_eq_true rfl) ⟨Nat.le_of_ble_eq_true rfl, Nat.le_of_ble_eq_true rfl⟩ sc_0 ⟨rfl, by decide⟩ H13.1 (dp_0 hd rfl) (k134s E (dp_n hd rfl) H13 w8 (by omega)) ?_
    intro v16 M17 q22
    obtain ⟨H18, f19, q20, q21⟩ := q22
    have f23 := f15.tr (f19.up rfl)
    have kfa := f19
    have g24 : gi M17 0 9 = 1 := q21
    exact r_iretI D98_36 rfl (⟨H18, f23, by omega, Or.inl ⟨by unfold OV; omega, by omega, ⟨_, kwr, kfa⟩⟩⟩)
  · refine s_blx (lv' := [(0, vR 0), (1, vI order)]) (st' := [vI (-1), vR 0]) B98_9_11 rfl ?_
    refine r_vI (c := 0) (args := [vI (-1)]) (rest := []) (pc' := 14) D98_11 rfl ck_10_virtual_106 TE133 rfl (Nat.le_of_ble_eq_true rfl) ⟨Nat.le_of_ble_eq_true rfl, Nat.le_of_ble_eq_true rfl⟩ sc_0 ⟨rfl, by decide⟩ H.1 (dp_0 hd rfl) (k133 E (dp_n hd rfl) H (-1) (by omega)) ?_
    intro v25 M26 q30
    obtain ⟨H27, f28, q29⟩ := q30
    have f31 := f0.tr (f28.up rfl)
    have kfr := f28
    have g32 : gi M26 0 9 = gi M 0 9 := (f28.g rfl).trans (rfl)
    exact r_iretI D98_14 rfl (⟨H27, f31, by omega, Or.inr ⟨fun h => by unfold OV at h; omega, by omega, kfr⟩⟩)
set_option maxRecDepth 4000 in
theorem k100n {base : Nat} {X : Nat → Option mC} {G : Nat → Value} (E : EnvOK base X G) {d : Nat} (hd : 1 ≤ d) {M : mH} (H : HI base M) (speaker : Int) (h0 : -2147483648 ≤ speaker ∧ speaker ≤ 2147483647) : sOk base X G d T100 [vR 0, vI speaker] M (pI (fun v M' => HI base M' ∧ Fr [(0, 6), (0, 10), (1, 6)] M M' ∧ (gi M' 0 9 = 1 ∨ gi M' 0 9 = gi M 0 9) ∧ ((PV speaker ∧ v = gi M 1 ((5 : Int)) ∧ ∃ M1, Wr M 1 ((5 : Int)).toNat (.int (Int32.ofInt speaker)) M1 ∧ Fr [(0, 6), (0, 10)] M1 M') ∨ (¬ PV speaker ∧ (v = -1) ∧ Fr [(0, 6)] M M')))) := by
  have f0 : Fr [(0, 6), (0, 10), (1, 6)] M M := Fr.rf
  refine sOk.of (show sRn base X G d T100 0 [(0, vR 0), (1, vI speaker)] [] M _ from ?_)
  refine s_blx (lv' := [(0, vR 0), (1, vI speaker)]) (st' := [vI 3, vI 0, vI speaker]) B100_0_3 rfl ?_
  refine r_sIp (args := [vI speaker, vI 0, vI 3]) (rest := []) (pc' := 6) D100_3 rfl ck_10_static_102 TE142 rfl (Nat.le_of_ble_eq_true rfl) ⟨Nat.le_of_ble_eq_true rfl, Nat.le_of_ble_eq_true rfl⟩ (by decide) (dp_0 hd rfl) (k142 E (dp_n hd rfl) H speaker 0 3 (by omega) (by omega) (by omega)) ?_
  intro v1 q6
  obtain ⟨q3, q4, q5⟩ := q6
  refine r_ifc (tgt := 15) (pc' := 9) D100_6 rfl rfl (by unfold inR; omega) (fun (c7 : v1 ≠ 0) => ?_) (fun (c7 : ¬ (v1 ≠ 0)) => ?_)
  · refine s_blx (lv' := [(0, vR 0), (1, vI speaker)]) (st' := [vR 0]) B100_15_16 rfl ?_
    refine r_gfix (r := 1) (pc' := 19) D100_16 rfl gf_10_10_0 H.1 ?_
    refine r_gint (ki := 5) (pc' := 22) D100_19 rfl gf_10_146_1 rfl H.1 ?_
    intro w8 e9 r10
    have b_w8 := H.2 1 (5) 0 3 rfl
    rw [← e9] at b_w8; clear r10
    refine s_blx (lv' := [(2, vI w8), (0, vR 0), (1, vI speaker)]) (st' := [vR 0]) B100_22_24 rfl ?_
    refine r_gfix (r := 1) (pc' := 27) D100_24 rfl gf_10_10_0 H.1 ?_
    refine s_blx (lv' := [(2, vI w8), (0, vR 0), (1, vI speaker)]) (st' := [vI speaker, vR 1]) B100_27_28 rfl ?_
    refine r_pint (ki := 5) (pc' := 31) D100_28 rfl pf_10_146_1 rfl H (by unfold inR; omega) (show 0 ≤ speaker ∧ speaker ≤ 3 by omega) ?_
    intro M11 u12 H13 p14
    have f15 := f0.wr u12 rfl
    have kwr := u12
    refine s_blx (lv' := [(2, vI w8), (0, vR 0), (1, vI speaker)]) (st' := [vI w8, vR 0]) B100_31_33 rfl ?_
    refine r_vI (c := 0) (args := [vI w8]) (rest := []) (pc' := 36) D100_33 rfl ck_10_virtual_123 TE134 rfl (Nat.le_of_ble_eq_true rfl) ⟨Nat.le_of_ble_eq_true rfl, Nat.le_of_ble_eq_true rfl⟩ sc_0 ⟨rfl, by decide⟩ H13.1 (dp_0 hd rfl) (k134s E (dp_n hd rfl) H13 w8 (by omega)) ?_
    intro v16 M17 q22
    obtain ⟨H18, f19, q20, q21⟩ := q22
    have f23 := f15.tr (f19.up rfl)
    have kfa := f19
    have g24 : gi M17 0 9 = 1 := q21
    exact r_iretI D100_36 rfl (⟨H18, f23, by omega, Or.inl ⟨by unfold PV; omega, by omega, ⟨_, kwr, kfa⟩⟩⟩)
  · refine s_blx (lv' := [(0, vR 0), (1, vI speaker)]) (st' := [vI (-1), vR 0]) B100_9_11 rfl ?_
    refine r_vI (c := 0) (args := [vI (-1)]) (rest := []) (pc' := 14) D100_11 rfl ck_10_virtual_106 TE133 rfl (Nat.le_of_ble_eq_true rfl) ⟨Nat.le_of_ble_eq_true rfl, Nat.le_of_ble_eq_true rfl⟩ sc_0 ⟨rfl, by decide⟩ H.1 (dp_0 hd rfl) (k133 E (dp_n hd rfl) H (-1) (by omega)) ?_
    intro v25 M26 q30
    obtain ⟨H27, f28, q29⟩ := q30
    have f31 := f0.tr (f28.up rfl)
    have kfr := f28
    have g32 : gi M26 0 9 = gi M 0 9 := (f28.g rfl).trans (rfl)
    exact r_iretI D100_14 rfl (⟨H27, f31, by omega, Or.inr ⟨fun h => by unfold PV at h; omega, by omega, kfr⟩⟩)
set_option maxRecDepth 4000 in
theorem k102n {base : Nat} {X : Nat → Option mC} {G : Nat → Value} (E : EnvOK base X G) {d : Nat} (hd : 2 ≤ d) {M : mH} (H : HI base M) (sentence : Int) (speaker : Int) (weight : Int) (h0 : -2147483648 ≤ sentence ∧ sentence ≤ 2147483647) (h1 : -2147483648 ≤ speaker ∧ speaker ≤ 2147483647) (h2 : -2147483648 ≤ weight ∧ weight ≤ 2147483647) : sOk base X G d T102 [vR 0, vI sentence, vI speaker, vI weight] M (pI (fun v M' => HI base M' ∧ Fr [(0, 6), (0, 10), (8, 0)] M M' ∧ (gi M' 0 9 = 1 ∨ gi M' 0 9 = gi M 0 9) ∧ ((GV (gi M 1 10) sentence speaker weight ∧ v = gi M 8 (sentence * 4 + speaker) ∧ ∃ M1, Wr M 8 (sentence * 4 + speaker).toNat (.int (Int32.ofInt weight)) M1 ∧ Fr [(0, 6), (0, 10)] M1 M') ∨ (¬ GV (gi M 1 10) sentence speaker weight ∧ (v = -1 ∨ v = -2) ∧ Fr [(0, 6)] M M')))) := by
  have f0 : Fr [(0, 6), (0, 10), (8, 0)] M M := Fr.rf
  refine sOk.of (show sRn base X G d T102 0 [(0, vR 0), (1, vI sentence), (2, vI speaker), (3, vI weight)] [] M _ from ?_)
  have km := H.2 1 10 0 16 rfl
  refine s_blx (lv' := [(0, vR 0), (1, vI sentence), (2, vI speaker), (3, vI weight)]) (st' := [vI 15, vI 0, vI sentence]) B102_0_4 rfl ?_
  refine r_sIp (args := [vI sentence, vI 0, vI 15]) (rest := []) (pc' := 7) D102_4 rfl ck_10_static_102 TE142 rfl (Nat.le_of_ble_eq_true rfl) ⟨Nat.le_of_ble_eq_true rfl, Nat.le_of_ble_eq_true rfl⟩ (by decide) (dp_0 hd rfl) (k142 E (dp_n hd rfl) H sentence 0 15 (by omega) (by omega) (by omega)) ?_
  intro v1 q6
  obtain ⟨q3, q4, q5⟩ := q6
  refine r_ifc (tgt := 29) (pc' := 10) D102_7 rfl rfl (by unfold inR; omega) (fun (c7 : v1 = 0) => ?_) (fun (c7 : ¬ (v1 = 0)) => ?_)
  · refine s_blx (lv' := [(0, vR 0), (1, vI sentence), (2, vI speaker), (3, vI weight)]) (st' := [vI (-1), vR 0]) B102_29_31 rfl ?_
    refine r_vI (c := 0) (args := [vI (-1)]) (rest := []) (pc' := 34) D102_31 rfl ck_10_virtual_106 TE133 rfl (Nat.le_of_ble_eq_true rfl) ⟨Nat.le_of_ble_eq_true rfl, Nat.le_of_ble_eq_true rfl⟩ sc_0 ⟨rfl, by decide⟩ H.1 (dp_0 hd rfl) (k133 E (dp_n hd rfl) H (-1) (by omega)) ?_
    intro v8 M9 q13
    obtain ⟨H10, f11, q12⟩ := q13
    have f14 := f0.tr (f11.up rfl)
    have kfr := f11
    have g15 : gi M9 0 9 = gi M 0 9 := (f11.g rfl).trans (rfl)
    exact r_iretI D102_34 rfl (⟨H10, f14, by omega, Or.inr ⟨fun h => by unfold GV at h; omega, by omega, kfr⟩⟩)
  · refine s_blx (lv' := [(0, vR 0), (1, vI sentence), (2, vI speaker), (3, vI weight)]) (st' := [vI 3, vI 0, vI speaker]) B102_10_13 rfl ?_
    refine r_sIp (args := [vI speaker, vI 0, vI 3]) (rest := []) (pc' := 16) D102_13 rfl ck_10_static_102 TE142 rfl (Nat.le_of_ble_eq_true rfl) ⟨Nat.le_of_ble_eq_true rfl, Nat.le_of_ble_eq_true rfl⟩ (by decide) (dp_0 hd rfl) (k142 E (dp_n hd rfl) H speaker 0 3 (by omega) (by omega) (by omega)) ?_
    intro v16 q21
    obtain ⟨q18, q19, q20⟩ := q21
    refine r_ifc (tgt := 29) (pc' := 19) D102_16 rfl rfl (by unfold inR; omega) (fun (c22 : v16 = 0) => ?_) (fun (c22 : ¬ (v16 = 0)) => ?_)
    · refine s_blx (lv' := [(0, vR 0), (1, vI sentence), (2, vI speaker), (3, vI weight)]) (st' := [vI (-1), vR 0]) B102_29_31 rfl ?_
      refine r_vI (c := 0) (args := [vI (-1)]) (rest := []) (pc' := 34) D102_31 rfl ck_10_virtual_106 TE133 rfl (Nat.le_of_ble_eq_true rfl) ⟨Nat.le_of_ble_eq_true rfl, Nat.le_of_ble_eq_true rfl⟩ sc_0 ⟨rfl, by decide⟩ H.1 (dp_0 hd rfl) (k133 E (dp_n hd rfl) H (-1) (by omega)) ?_
      intro v23 M24 q28
      obtain ⟨H25, f26, q27⟩ := q28
      have f29 := f0.tr (f26.up rfl)
      have kfr := f26
      have g30 : gi M24 0 9 = gi M 0 9 := (f26.g rfl).trans (rfl)
      exact r_iretI D102_34 rfl (⟨H25, f29, by omega, Or.inr ⟨fun h => by unfold GV at h; omega, by omega, kfr⟩⟩)
    · refine s_blx (lv' := [(0, vR 0), (1, vI sentence), (2, vI speaker), (3, vI weight)]) (st' := [vI 100, vI 0, vI weight]) B102_19_23 rfl ?_
      refine r_sIp (args := [vI weight, vI 0, vI 100]) (rest := []) (pc' := 26) D102_23 rfl ck_10_static_102 TE142 rfl (Nat.le_of_ble_eq_true rfl) ⟨Nat.le_of_ble_eq_true rfl, Nat.le_of_ble_eq_true rfl⟩ (by decide) (dp_0 hd rfl) (k142 E (dp_n hd rfl) H weight 0 100 (by omega) (by omega) (by omega)) ?_
      intro v31 q36
      obtain ⟨q33, q34, q35⟩ := q36
      refine r_ifc (tgt := 35) (pc' := 29) D102_26 rfl rfl (by unfold inR; omega) (fun (c37 : v31 ≠ 0) => ?_) (fun (c37 : ¬ (v31 ≠ 0)) => ?_)
      · refine s_blx (lv' := [(0, vR 0), (1, vI sentence), (2, vI speaker), (3, vI weight)]) (st' := [vR 0]) B102_35_36 rfl ?_
        refine r_gfix (r := 1) (pc' := 39) D102_36 rfl gf_10_10_0 H.1 ?_
        refine s_blx (lv' := [(0, vR 0), (1, vI sentence), (2, vI speaker), (3, vI weight)]) (st' := [vI sentence, vR 1]) B102_39_40 rfl ?_
        refine r_vIp (c := 1) (args := [vI sentence]) (rest := []) (pc' := 43) D102_40 rfl ck_10_virtual_174 TE65 rfl (Nat.le_of_ble_eq_true rfl) ⟨Nat.le_of_ble_eq_true rfl, Nat.le_of_ble_eq_true rfl⟩ sc_1 ⟨rfl, by decide⟩ H.1 (dp_0 hd rfl) (k65_1n E (dp_n hd rfl) H sentence (by omega)) ?_
        intro v38 q43
        obtain ⟨q40, q41, q42⟩ := q43
        refine r_ifc (tgt := 53) (pc' := 46) D102_43 rfl rfl (by unfold inR; omega) (fun (c44 : v38 ≠ 0) => ?_) (fun (c44 : ¬ (v38 ≠ 0)) => ?_)
        · refine s_blx (lv' := [(0, vR 0), (1, vI sentence), (2, vI speaker), (3, vI weight)]) (st' := [vR 0, vR 0]) B102_53_55 rfl ?_
          refine r_gfix (r := 1) (pc' := 58) D102_55 rfl gf_10_10_0 H.1 ?_
          refine r_gfix (r := 8) (pc' := 61) D102_58 rfl gf_10_177_1 H.1 ?_
          refine s_blx (lv' := [(0, vR 0), (1, vI sentence), (2, vI speaker), (3, vI weight)]) (st' := [vI weight, vI ((sentence * 4) + speaker), vR 8, vR 0]) B102_61_67 rfl ?_
          refine r_sI (args := [vR 8, vI ((sentence * 4) + speaker), vI weight]) (rest := [vR 0]) (pc' := 70) D102_67 rfl ck_10_static_119 TE145 rfl (Nat.le_of_ble_eq_true rfl) ⟨Nat.le_of_ble_eq_true rfl, Nat.le_of_ble_eq_true rfl⟩ (by decide) (dp_0 hd rfl) (k145_8n E (dp_n hd rfl) H ((sentence * 4) + speaker) weight (by omega) (by omega)) ?_
          intro v45 M46 q52
          obtain ⟨H47, f48, q49, q50, q51⟩ := q52
          have f53 := f0.tr (f48.up rfl)
          have kwr := q51; clear q51
          refine r_vI (c := 0) (args := [vI v45]) (rest := []) (pc' := 73) D102_70 rfl ck_10_virtual_123 TE134 rfl (Nat.le_of_ble_eq_true rfl) ⟨Nat.le_of_ble_eq_true rfl, Nat.le_of_ble_eq_true rfl⟩ sc_0 ⟨rfl, by decide⟩ H47.1 (dp_0 hd rfl) (k134s E (dp_n hd rfl) H47 v45 (by omega)) ?_
          intro v54 M55 q60
          obtain ⟨H56, f57, q58, q59⟩ := q60
          have f61 := f53.tr (f57.up rfl)
          have kfa := f57
          have g62 : gi M55 0 9 = 1 := q59
          exact r_iretI D102_73 rfl (⟨H56, f61, by omega, Or.inl ⟨by unfold GV; omega, by omega, ⟨_, kwr, kfa⟩⟩⟩)
        · refine s_blx (lv' := [(0, vR 0), (1, vI sentence), (2, vI speaker), (3, vI weight)]) (st' := [vI (-2), vR 0]) B102_46_49 rfl ?_
          refine r_vI (c := 0) (args := [vI (-2)]) (rest := []) (pc' := 52) D102_49 rfl ck_10_virtual_106 TE133 rfl (Nat.le_of_ble_eq_true rfl) ⟨Nat.le_of_ble_eq_true rfl, Nat.le_of_ble_eq_true rfl⟩ sc_0 ⟨rfl, by decide⟩ H.1 (dp_0 hd rfl) (k133 E (dp_n hd rfl) H (-2) (by omega)) ?_
          intro v63 M64 q68
          obtain ⟨H65, f66, q67⟩ := q68
          have f69 := f0.tr (f66.up rfl)
          have kfr := f66
          have g70 : gi M64 0 9 = gi M 0 9 := (f66.g rfl).trans (rfl)
          exact r_iretI D102_52 rfl (⟨H65, f69, by omega, Or.inr ⟨fun h => by unfold GV at h; omega, by omega, kfr⟩⟩)
      · refine s_blx (lv' := [(0, vR 0), (1, vI sentence), (2, vI speaker), (3, vI weight)]) (st' := [vI (-1), vR 0]) B102_29_31 rfl ?_
        refine r_vI (c := 0) (args := [vI (-1)]) (rest := []) (pc' := 34) D102_31 rfl ck_10_virtual_106 TE133 rfl (Nat.le_of_ble_eq_true rfl) ⟨Nat.le_of_ble_eq_true rfl, Nat.le_of_ble_eq_true rfl⟩ sc_0 ⟨rfl, by decide⟩ H.1 (dp_0 hd rfl) (k133 E (dp_n hd rfl) H (-1) (by omega)) ?_
        intro v71 M72 q76
        obtain ⟨H73, f74, q75⟩ := q76
        have f77 := f0.tr (f74.up rfl)
        have kfr := f74
        have g78 : gi M72 0 9 = gi M 0 9 := (f74.g rfl).trans (rfl)
        exact r_iretI D102_34 rfl (⟨H73, f77, by omega, Or.inr ⟨fun h => by unfold GV at h; omega, by omega, kfr⟩⟩)
set_option maxRecDepth 4000 in
theorem k119n {base : Nat} {X : Nat → Option mC} {G : Nat → Value} (E : EnvOK base X G) {d : Nat} (hd : 1 ≤ d) {M : mH} (H : HI base M) (lag : Int) (keeps : Int) (limit : Int) (h0 : -2147483648 ≤ lag ∧ lag ≤ 2147483647) (h1 : -2147483648 ≤ keeps ∧ keeps ≤ 2147483647) (h2 : -2147483648 ≤ limit ∧ limit ≤ 2147483647) : sOk base X G d T119 [vR 0, vI lag, vI keeps, vI limit] M (pI (fun v M' => HI base M' ∧ Fr [(0, 6), (0, 10), (1, 15), (10, 0)] M M' ∧ (gi M' 0 9 = 1 ∨ gi M' 0 9 = gi M 0 9) ∧ ((BV lag keeps limit ∧ gi M 1 14 ≤ 5 ∧ v = gi M 1 14 ∧ ∃ M1, W4 10 (gi M 1 14 * 3) 1 14 lag keeps limit (gi M 1 14 + 1) M M1 ∧ Fr [(0, 6), (0, 10)] M1 M') ∨ (BV lag keeps limit ∧ 6 ≤ gi M 1 14 ∧ v = -5 ∧ Fr [(0, 6)] M M') ∨ (¬ BV lag keeps limit ∧ v = -1 ∧ Fr [(0, 6)] M M')))) := by
  have f0 : Fr [(0, 6), (0, 10), (1, 15), (10, 0)] M M := Fr.rf
  refine sOk.of (show sRn base X G d T119 0 [(0, vR 0), (1, vI lag), (2, vI keeps), (3, vI limit)] [] M _ from ?_)
  refine s_blx (lv' := [(0, vR 0), (1, vI lag), (2, vI keeps), (3, vI limit)]) (st' := [vI 60, vI 0, vI lag]) B119_0_4 rfl ?_
  refine r_sIp (args := [vI lag, vI 0, vI 60]) (rest := []) (pc' := 7) D119_4 rfl ck_10_static_102 TE142 rfl (Nat.le_of_ble_eq_true rfl) ⟨Nat.le_of_ble_eq_true rfl, Nat.le_of_ble_eq_true rfl⟩ (by decide) (dp_0 hd rfl) (k142 E (dp_n hd rfl) H lag 0 60 (by omega) (by omega) (by omega)) ?_
  intro v1 q6
  obtain ⟨q3, q4, q5⟩ := q6
  refine r_ifc (tgt := 31) (pc' := 10) D119_7 rfl rfl (by unfold inR; omega) (fun (c7 : v1 = 0) => ?_) (fun (c7 : ¬ (v1 = 0)) => ?_)
  · refine s_blx (lv' := [(0, vR 0), (1, vI lag), (2, vI keeps), (3, vI limit)]) (st' := [vI (-1), vR 0]) B119_31_33 rfl ?_
    refine r_vI (c := 0) (args := [vI (-1)]) (rest := []) (pc' := 36) D119_33 rfl ck_10_virtual_106 TE133 rfl (Nat.le_of_ble_eq_true rfl) ⟨Nat.le_of_ble_eq_true rfl, Nat.le_of_ble_eq_true rfl⟩ sc_0 ⟨rfl, by decide⟩ H.1 (dp_0 hd rfl) (k133 E (dp_n hd rfl) H (-1) (by omega)) ?_
    intro v8 M9 q13
    obtain ⟨H10, f11, q12⟩ := q13
    have f14 := f0.tr (f11.up rfl)
    have kfr := f11
    have g15 : gi M9 0 9 = gi M 0 9 := (f11.g rfl).trans (rfl)
    exact r_iretI D119_36 rfl (⟨H10, f14, by omega, Or.inr (Or.inr ⟨fun h => by unfold BV at h; omega, by omega, kfr⟩)⟩)
  · refine s_blx (lv' := [(0, vR 0), (1, vI lag), (2, vI keeps), (3, vI limit)]) (st' := [vI 100, vI 0, vI keeps]) B119_10_14 rfl ?_
    refine r_sIp (args := [vI keeps, vI 0, vI 100]) (rest := []) (pc' := 17) D119_14 rfl ck_10_static_102 TE142 rfl (Nat.le_of_ble_eq_true rfl) ⟨Nat.le_of_ble_eq_true rfl, Nat.le_of_ble_eq_true rfl⟩ (by decide) (dp_0 hd rfl) (k142 E (dp_n hd rfl) H keeps 0 100 (by omega) (by omega) (by omega)) ?_
    intro v16 q21
    obtain ⟨q18, q19, q20⟩ := q21
    refine r_ifc (tgt := 31) (pc' := 20) D119_17 rfl rfl (by unfold inR; omega) (fun (c22 : v16 = 0) => ?_) (fun (c22 : ¬ (v16 = 0)) => ?_)
    · refine s_blx (lv' := [(0, vR 0), (1, vI lag), (2, vI keeps), (3, vI limit)]) (st' := [vI (-1), vR 0]) B119_31_33 rfl ?_
      refine r_vI (c := 0) (args := [vI (-1)]) (rest := []) (pc' := 36) D119_33 rfl ck_10_virtual_106 TE133 rfl (Nat.le_of_ble_eq_true rfl) ⟨Nat.le_of_ble_eq_true rfl, Nat.le_of_ble_eq_true rfl⟩ sc_0 ⟨rfl, by decide⟩ H.1 (dp_0 hd rfl) (k133 E (dp_n hd rfl) H (-1) (by omega)) ?_
      intro v23 M24 q28
      obtain ⟨H25, f26, q27⟩ := q28
      have f29 := f0.tr (f26.up rfl)
      have kfr := f26
      have g30 : gi M24 0 9 = gi M 0 9 := (f26.g rfl).trans (rfl)
      exact r_iretI D119_36 rfl (⟨H25, f29, by omega, Or.inr (Or.inr ⟨fun h => by unfold BV at h; omega, by omega, kfr⟩)⟩)
    · refine s_blx (lv' := [(0, vR 0), (1, vI lag), (2, vI keeps), (3, vI limit)]) (st' := [vI 300, vI 0, vI limit]) B119_20_25 rfl ?_
      refine r_sIp (args := [vI limit, vI 0, vI 300]) (rest := []) (pc' := 28) D119_25 rfl ck_10_static_102 TE142 rfl (Nat.le_of_ble_eq_true rfl) ⟨Nat.le_of_ble_eq_true rfl, Nat.le_of_ble_eq_true rfl⟩ (by decide) (dp_0 hd rfl) (k142 E (dp_n hd rfl) H limit 0 300 (by omega) (by omega) (by omega)) ?_
      intro v31 q36
      obtain ⟨q33, q34, q35⟩ := q36
      refine r_ifc (tgt := 37) (pc' := 31) D119_28 rfl rfl (by unfold inR; omega) (fun (c37 : v31 ≠ 0) => ?_) (fun (c37 : ¬ (v31 ≠ 0)) => ?_)
      · refine s_blx (lv' := [(0, vR 0), (1, vI lag), (2, vI keeps), (3, vI limit)]) (st' := [vR 0]) B119_37_38 rfl ?_
        refine r_gfix (r := 1) (pc' := 41) D119_38 rfl gf_10_10_0 H.1 ?_
        refine r_gint (ki := 14) (pc' := 44) D119_41 rfl gf_10_279_1 rfl H.1 ?_
        intro w38 e39 r40
        have b_w38 := H.2 1 (14) 0 6 rfl
        rw [← e39] at b_w38; clear r40
        refine s_blx (lv' := [(0, vR 0), (1, vI lag), (2, vI keeps), (3, vI limit)]) (st' := [vI 6, vI w38]) B119_44_46 rfl ?_
        refine r_icmp (tgt := 56) (pc' := 49) D119_46 rfl rfl (by unfold inR; omega) (fun (c41 : w38 < 6) => ?_) (fun (c41 : ¬ (w38 < 6)) => ?_)
        · refine s_blx (lv' := [(0, vR 0), (1, vI lag), (2, vI keeps), (3, vI limit)]) (st' := [vR 0, vR 0]) B119_56_58 rfl ?_
          refine r_gfix (r := 1) (pc' := 61) D119_58 rfl gf_10_10_0 H.1 ?_
          refine s_blx (lv' := [(0, vR 0), (1, vI lag), (2, vI keeps), (3, vI limit)]) (st' := [vI limit, vI keeps, vI lag, vR 1, vR 0]) B119_61_64 rfl ?_
          have g42 : gi M 1 14 = w38 := e39.symm
          refine r_vI (c := 1) (args := [vI lag, vI keeps, vI limit]) (rest := [vR 0]) (pc' := 67) D119_64 rfl ck_10_virtual_282 TE63 rfl (Nat.le_of_ble_eq_true rfl) ⟨Nat.le_of_ble_eq_true rfl, Nat.le_of_ble_eq_true rfl⟩ sc_1 ⟨rfl, by decide⟩ H.1 (dp_0 hd rfl) (k63_1n E (dp_n hd rfl) H lag keeps limit (by omega) (by omega) (by omega) (by omega)) ?_
          intro v43 M44 q50
          obtain ⟨H45, f46, q47, q48, q49⟩ := q50
          have f51 := f0.tr (f46.up rfl)
          have kw4 := q49; clear q49
          refine r_vI (c := 0) (args := [vI v43]) (rest := []) (pc' := 70) D119_67 rfl ck_10_virtual_123 TE134 rfl (Nat.le_of_ble_eq_true rfl) ⟨Nat.le_of_ble_eq_true rfl, Nat.le_of_ble_eq_true rfl⟩ sc_0 ⟨rfl, by decide⟩ H45.1 (dp_0 hd rfl) (k134s E (dp_n hd rfl) H45 v43 (by omega)) ?_
          intro v52 M53 q58
          obtain ⟨H54, f55, q56, q57⟩ := q58
          have f59 := f51.tr (f55.up rfl)
          have kfa := f55
          have g60 : gi M53 0 9 = 1 := q57
          exact r_iretI D119_70 rfl (⟨H54, f59, by omega, Or.inl ⟨by unfold BV; omega, by omega, by omega, ⟨_, kw4, kfa⟩⟩⟩)
        · refine s_blx (lv' := [(0, vR 0), (1, vI lag), (2, vI keeps), (3, vI limit)]) (st' := [vI (-5), vR 0]) B119_49_52 rfl ?_
          refine r_vI (c := 0) (args := [vI (-5)]) (rest := []) (pc' := 55) D119_52 rfl ck_10_virtual_106 TE133 rfl (Nat.le_of_ble_eq_true rfl) ⟨Nat.le_of_ble_eq_true rfl, Nat.le_of_ble_eq_true rfl⟩ sc_0 ⟨rfl, by decide⟩ H.1 (dp_0 hd rfl) (k133 E (dp_n hd rfl) H (-5) (by omega)) ?_
          intro v61 M62 q66
          obtain ⟨H63, f64, q65⟩ := q66
          have f67 := f0.tr (f64.up rfl)
          have kfr := f64
          have g68 : gi M62 0 9 = gi M 0 9 := (f64.g rfl).trans (rfl)
          exact r_iretI D119_55 rfl (⟨H63, f67, by omega, Or.inr (Or.inl ⟨by unfold BV; omega, by omega, by omega, kfr⟩)⟩)
      · refine s_blx (lv' := [(0, vR 0), (1, vI lag), (2, vI keeps), (3, vI limit)]) (st' := [vI (-1), vR 0]) B119_31_33 rfl ?_
        refine r_vI (c := 0) (args := [vI (-1)]) (rest := []) (pc' := 36) D119_33 rfl ck_10_virtual_106 TE133 rfl (Nat.le_of_ble_eq_true rfl) ⟨Nat.le_of_ble_eq_true rfl, Nat.le_of_ble_eq_true rfl⟩ sc_0 ⟨rfl, by decide⟩ H.1 (dp_0 hd rfl) (k133 E (dp_n hd rfl) H (-1) (by omega)) ?_
        intro v69 M70 q74
        obtain ⟨H71, f72, q73⟩ := q74
        have f75 := f0.tr (f72.up rfl)
        have kfr := f72
        have g76 : gi M70 0 9 = gi M 0 9 := (f72.g rfl).trans (rfl)
        exact r_iretI D119_36 rfl (⟨H71, f75, by omega, Or.inr (Or.inr ⟨fun h => by unfold BV at h; omega, by omega, kfr⟩)⟩)
set_option maxRecDepth 4000 in
theorem k99n {base : Nat} {X : Nat → Option mC} {G : Nat → Value} (E : EnvOK base X G) {d : Nat} (hd : 2 ≤ d) {M : mH} (H : HI base M) (slot : Int) (values : Int) (length : Int) (h0 : -2147483648 ≤ slot ∧ slot ≤ 2147483647) (h1 : -2147483648 ≤ values ∧ values ≤ 2147483647) (h2 : -2147483648 ≤ length ∧ length ≤ 2147483647) : sOk base X G d T99 [vR 0, vI slot, vI values, vI length] M (pI (fun v M' => HI base M' ∧ Fr [(0, 6), (0, 10), (1, 5), (4, 0)] M M' ∧ (gi M' 0 9 = 1 ∨ gi M' 0 9 = gi M 0 9) ∧ ((NV slot values length ∧ gi M 1 4 ≤ 11 ∧ v = gi M 1 4 ∧ ∃ M1, W4 4 (gi M 1 4 * 3) 1 4 slot values length (gi M 1 4 + 1) M M1 ∧ Fr [(0, 6), (0, 10)] M1 M') ∨ (NV slot values length ∧ 12 ≤ gi M 1 4 ∧ v = -5 ∧ Fr [(0, 6)] M M') ∨ (¬ NV slot values length ∧ v = -1 ∧ Fr [(0, 6)] M M')))) := by
  have f0 : Fr [(0, 6), (0, 10), (1, 5), (4, 0)] M M := Fr.rf
  refine sOk.of (show sRn base X G d T99 0 [(0, vR 0), (1, vI slot), (2, vI values), (3, vI length)] [] M _ from ?_)
  refine s_blx (lv' := [(0, vR 0), (1, vI slot), (2, vI values), (3, vI length)]) (st' := [vI slot]) B99_0_1 rfl ?_
  refine r_sIp (args := [vI slot]) (rest := []) (pc' := 4) D99_1 rfl ck_10_static_135 TE143 rfl (Nat.le_of_ble_eq_true rfl) ⟨Nat.le_of_ble_eq_true rfl, Nat.le_of_ble_eq_true rfl⟩ (by decide) (dp_0 hd rfl) (k143n E (dp_n hd rfl) H slot (by omega)) ?_
  intro v1 q6
  obtain ⟨q3, q4, q5⟩ := q6
  refine r_ifc (tgt := 28) (pc' := 7) D99_4 rfl rfl (by unfold inR; omega) (fun (c7 : v1 = 0) => ?_) (fun (c7 : ¬ (v1 = 0)) => ?_)
  · refine s_blx (lv' := [(0, vR 0), (1, vI slot), (2, vI values), (3, vI length)]) (st' := [vI (-1), vR 0]) B99_28_30 rfl ?_
    refine r_vI (c := 0) (args := [vI (-1)]) (rest := []) (pc' := 33) D99_30 rfl ck_10_virtual_106 TE133 rfl (Nat.le_of_ble_eq_true rfl) ⟨Nat.le_of_ble_eq_true rfl, Nat.le_of_ble_eq_true rfl⟩ sc_0 ⟨rfl, by decide⟩ H.1 (dp_0 hd rfl) (k133 E (dp_n hd rfl) H (-1) (by omega)) ?_
    intro v8 M9 q13
    obtain ⟨H10, f11, q12⟩ := q13
    have f14 := f0.tr (f11.up rfl)
    have kfr := f11
    have g15 : gi M9 0 9 = gi M 0 9 := (f11.g rfl).trans (rfl)
    exact r_iretI D99_33 rfl (⟨H10, f14, by omega, Or.inr (Or.inr ⟨fun h => by unfold NV at h; omega, by omega, kfr⟩)⟩)
  · refine s_blx (lv' := [(0, vR 0), (1, vI slot), (2, vI values), (3, vI length)]) (st' := [vI 255, vI 1, vI values]) B99_7_12 rfl ?_
    refine r_sIp (args := [vI values, vI 1, vI 255]) (rest := []) (pc' := 15) D99_12 rfl ck_10_static_102 TE142 rfl (Nat.le_of_ble_eq_true rfl) ⟨Nat.le_of_ble_eq_true rfl, Nat.le_of_ble_eq_true rfl⟩ (by decide) (dp_0 hd rfl) (k142 E (dp_n hd rfl) H values 1 255 (by omega) (by omega) (by omega)) ?_
    intro v16 q21
    obtain ⟨q18, q19, q20⟩ := q21
    refine r_ifc (tgt := 28) (pc' := 18) D99_15 rfl rfl (by unfold inR; omega) (fun (c22 : v16 = 0) => ?_) (fun (c22 : ¬ (v16 = 0)) => ?_)
    · refine s_blx (lv' := [(0, vR 0), (1, vI slot), (2, vI values), (3, vI length)]) (st' := [vI (-1), vR 0]) B99_28_30 rfl ?_
      refine r_vI (c := 0) (args := [vI (-1)]) (rest := []) (pc' := 33) D99_30 rfl ck_10_virtual_106 TE133 rfl (Nat.le_of_ble_eq_true rfl) ⟨Nat.le_of_ble_eq_true rfl, Nat.le_of_ble_eq_true rfl⟩ sc_0 ⟨rfl, by decide⟩ H.1 (dp_0 hd rfl) (k133 E (dp_n hd rfl) H (-1) (by omega)) ?_
      intro v23 M24 q28
      obtain ⟨H25, f26, q27⟩ := q28
      have f29 := f0.tr (f26.up rfl)
      have kfr := f26
      have g30 : gi M24 0 9 = gi M 0 9 := (f26.g rfl).trans (rfl)
      exact r_iretI D99_33 rfl (⟨H25, f29, by omega, Or.inr (Or.inr ⟨fun h => by unfold NV at h; omega, by omega, kfr⟩)⟩)
    · refine s_blx (lv' := [(0, vR 0), (1, vI slot), (2, vI values), (3, vI length)]) (st' := [vI 9, vI 1, vI length]) B99_18_22 rfl ?_
      refine r_sIp (args := [vI length, vI 1, vI 9]) (rest := []) (pc' := 25) D99_22 rfl ck_10_static_102 TE142 rfl (Nat.le_of_ble_eq_true rfl) ⟨Nat.le_of_ble_eq_true rfl, Nat.le_of_ble_eq_true rfl⟩ (by decide) (dp_0 hd rfl) (k142 E (dp_n hd rfl) H length 1 9 (by omega) (by omega) (by omega)) ?_
      intro v31 q36
      obtain ⟨q33, q34, q35⟩ := q36
      refine r_ifc (tgt := 34) (pc' := 28) D99_25 rfl rfl (by unfold inR; omega) (fun (c37 : v31 ≠ 0) => ?_) (fun (c37 : ¬ (v31 ≠ 0)) => ?_)
      · refine s_blx (lv' := [(0, vR 0), (1, vI slot), (2, vI values), (3, vI length)]) (st' := [vR 0]) B99_34_35 rfl ?_
        refine r_gfix (r := 1) (pc' := 38) D99_35 rfl gf_10_10_0 H.1 ?_
        refine r_gint (ki := 4) (pc' := 41) D99_38 rfl gf_10_139_1 rfl H.1 ?_
        intro w38 e39 r40
        have b_w38 := H.2 1 (4) 0 12 rfl
        rw [← e39] at b_w38; clear r40
        refine s_blx (lv' := [(0, vR 0), (1, vI slot), (2, vI values), (3, vI length)]) (st' := [vI 12, vI w38]) B99_41_43 rfl ?_
        refine r_icmp (tgt := 53) (pc' := 46) D99_43 rfl rfl (by unfold inR; omega) (fun (c41 : w38 < 12) => ?_) (fun (c41 : ¬ (w38 < 12)) => ?_)
        · refine s_blx (lv' := [(0, vR 0), (1, vI slot), (2, vI values), (3, vI length)]) (st' := [vR 0, vR 0]) B99_53_55 rfl ?_
          refine r_gfix (r := 1) (pc' := 58) D99_55 rfl gf_10_10_0 H.1 ?_
          refine s_blx (lv' := [(0, vR 0), (1, vI slot), (2, vI values), (3, vI length)]) (st' := [vI length, vI values, vI slot, vR 1, vR 0]) B99_58_61 rfl ?_
          have g42 : gi M 1 4 = w38 := e39.symm
          refine r_vI (c := 1) (args := [vI slot, vI values, vI length]) (rest := [vR 0]) (pc' := 64) D99_61 rfl ck_10_virtual_142 TE59 rfl (Nat.le_of_ble_eq_true rfl) ⟨Nat.le_of_ble_eq_true rfl, Nat.le_of_ble_eq_true rfl⟩ sc_1 ⟨rfl, by decide⟩ H.1 (dp_0 hd rfl) (k59_1n E (dp_n hd rfl) H slot values length (by omega) (by omega) (by omega) (by omega)) ?_
          intro v43 M44 q50
          obtain ⟨H45, f46, q47, q48, q49⟩ := q50
          have f51 := f0.tr (f46.up rfl)
          have kw4 := q49; clear q49
          refine r_vI (c := 0) (args := [vI v43]) (rest := []) (pc' := 67) D99_64 rfl ck_10_virtual_123 TE134 rfl (Nat.le_of_ble_eq_true rfl) ⟨Nat.le_of_ble_eq_true rfl, Nat.le_of_ble_eq_true rfl⟩ sc_0 ⟨rfl, by decide⟩ H45.1 (dp_0 hd rfl) (k134s E (dp_n hd rfl) H45 v43 (by omega)) ?_
          intro v52 M53 q58
          obtain ⟨H54, f55, q56, q57⟩ := q58
          have f59 := f51.tr (f55.up rfl)
          have kfa := f55
          have g60 : gi M53 0 9 = 1 := q57
          exact r_iretI D99_67 rfl (⟨H54, f59, by omega, Or.inl ⟨by unfold NV; omega, by omega, by omega, ⟨_, kw4, kfa⟩⟩⟩)
        · refine s_blx (lv' := [(0, vR 0), (1, vI slot), (2, vI values), (3, vI length)]) (st' := [vI (-5), vR 0]) B99_46_49 rfl ?_
          refine r_vI (c := 0) (args := [vI (-5)]) (rest := []) (pc' := 52) D99_49 rfl ck_10_virtual_106 TE133 rfl (Nat.le_of_ble_eq_true rfl) ⟨Nat.le_of_ble_eq_true rfl, Nat.le_of_ble_eq_true rfl⟩ sc_0 ⟨rfl, by decide⟩ H.1 (dp_0 hd rfl) (k133 E (dp_n hd rfl) H (-5) (by omega)) ?_
          intro v61 M62 q66
          obtain ⟨H63, f64, q65⟩ := q66
          have f67 := f0.tr (f64.up rfl)
          have kfr := f64
          have g68 : gi M62 0 9 = gi M 0 9 := (f64.g rfl).trans (rfl)
          exact r_iretI D99_52 rfl (⟨H63, f67, by omega, Or.inr (Or.inl ⟨by unfold NV; omega, by omega, by omega, kfr⟩)⟩)
      · refine s_blx (lv' := [(0, vR 0), (1, vI slot), (2, vI values), (3, vI length)]) (st' := [vI (-1), vR 0]) B99_28_30 rfl ?_
        refine r_vI (c := 0) (args := [vI (-1)]) (rest := []) (pc' := 33) D99_30 rfl ck_10_virtual_106 TE133 rfl (Nat.le_of_ble_eq_true rfl) ⟨Nat.le_of_ble_eq_true rfl, Nat.le_of_ble_eq_true rfl⟩ sc_0 ⟨rfl, by decide⟩ H.1 (dp_0 hd rfl) (k133 E (dp_n hd rfl) H (-1) (by omega)) ?_
        intro v69 M70 q74
        obtain ⟨H71, f72, q73⟩ := q74
        have f75 := f0.tr (f72.up rfl)
        have kfr := f72
        have g76 : gi M70 0 9 = gi M 0 9 := (f72.g rfl).trans (rfl)
        exact r_iretI D99_33 rfl (⟨H71, f75, by omega, Or.inr (Or.inr ⟨fun h => by unfold NV at h; omega, by omega, kfr⟩)⟩)
set_option maxRecDepth 4000 in
theorem L_k136n {base : Nat} {X : Nat → Option mC} {G : Nat → Value} (E : EnvOK base X G) {d : Nat} (hd : 0 ≤ d) {M : mH} (H : HI base M) (four : Int) (h0 : -2147483648 ≤ four ∧ four ≤ 2147483647) (h1 : gi M 0 3 ≤ 396) : ∀ mz : Nat, (∀ (x2 : Int) (N : mH), HI base N → Fr [(0, 4), (13, 0)] M N → (x2 % 8 = 0) → (gi N 0 3 * 8 = gi M 0 3 * 8 + (24 - x2)) → (∀ i : Int, 0 ≤ i → gi N 13 i = puN (gi M 13) (gi M 0 3) (gi N 0 3) four i) → ((-8) ≤ x2) → (x2 ≤ 24) → (x2 + 8) * 1 + 0 < (mz : Int) → sRn base X G d T136 3 [(0, vR 0), (1, vI four), (2, vI x2)] [] N (s_Q base (pV (fun M' => HI base M' ∧ Fr [(0, 4), (13, 0)] M M' ∧ (gi M' 0 3 = gi M 0 3 + 4) ∧ (∀ i : Int, 0 ≤ i → gi M' 13 i = puN (gi M 13) (gi M 0 3) (gi M 0 3 + 4) four i))))) := by
  have f0 : Fr [(0, 4), (13, 0)] M M := Fr.rf
  intro mz
  induction mz with
  | zero => exact fun x2 N _ _ z0 z1 z2 z3 z4 z5 => by omega
  | succ mz ih =>
    intro x2 N HN fN i0 i1 i2 i3 i4 hmu
    refine s_blx (lv' := [(0, vR 0), (1, vI four), (2, vI x2)]) (st' := [vI x2]) B136_3_4 rfl ?_
    refine r_ifc (tgt := 39) (pc' := 7) D136_4 rfl rfl (by unfold inR; omega) (fun (c2 : x2 < 0) => ?_) (fun (c2 : ¬ (x2 < 0)) => ?_)
    · exact r_retV D136_39 rfl (⟨HN, fN, by omega, fun i hi => by rw [i2 i hi, show gi N 0 3 = gi M 0 3 + 4 by omega]⟩)
    · refine s_blx (lv' := [(0, vR 0), (1, vI four), (2, vI x2)]) (st' := [vR 0]) B136_7_8 rfl ?_
      refine r_gfix (r := 13) (pc' := 11) D136_8 rfl gf_10_20_0 HN.1 ?_
      refine s_blx (lv' := [(0, vR 0), (1, vI four), (2, vI x2)]) (st' := [vR 0, vR 13]) B136_11_12 rfl ?_
      refine r_gint (ki := 3) (pc' := 15) D136_12 rfl gf_10_24_0 rfl HN.1 ?_
      intro w3 e4 r5
      have b_w3 := HN.2 0 (3) 0 400 rfl
      rw [← e4] at b_w3; clear r5
      have kt : w3 = gi N 0 3 := e4
      refine s_blx (lv' := [(0, vR 0), (1, vI four), (2, vI x2)]) (st' := [vI x2, vI four, vI w3, vR 13]) B136_15_17 rfl ?_
      refine r_bin (pc' := 18) D136_17 rfl rfl ?_
      intro z6 r7 kq; unfold inR at r7
      refine s_blx (lv' := [(0, vR 0), (1, vI four), (2, vI x2)]) (st' := [vI 255, vI z6, vI w3, vR 13]) B136_18_21 rfl ?_
      refine r_and255 (pc' := 22) D136_21 rfl ?_
      refine r_iast (pc' := 23) D136_22 rfl sc_13 HN (by omega) (by unfold inR; omega) (show 0 ≤ (z6 % 256) ∧ (z6 % 256) ≤ 255 by omega) ?_
      intro M8 u9 H10 p11
      have f12 := fN.wr u9 rfl
      have ku1 := kuw (j := gi N 0 3) u9 (by omega)
      have kp1 : gi M8 13 (gi N 0 3) = _ := (congrArg (gi M8 13) kt.symm).trans p11
      refine s_blx (lv' := [(0, vR 0), (1, vI four), (2, vI x2)]) (st' := [vR 0, vR 0]) B136_23_25 rfl ?_
      refine r_gint (ki := 3) (pc' := 28) D136_25 rfl gf_10_24_0 rfl H10.1 ?_
      intro w13 e14 r15
      have e16 : w3 = w13 := (e14.trans ((u9.gi_ne (by omega) (Or.inl (by decide))).trans (e4.symm))).symm
      subst e16
      refine s_blx (lv' := [(0, vR 0), (1, vI four), (2, vI x2)]) (st' := [vI (w3 + 1), vR 0]) B136_28_30 rfl ?_
      refine r_pint (ki := 3) (pc' := 33) D136_30 rfl pf_10_24_0 rfl H10 (by unfold inR; omega) (show 0 ≤ (w3 + 1) ∧ (w3 + 1) ≤ 400 by omega) ?_
      intro M17 u18 H19 p20
      have f21 := f12.wr u18 rfl
      have kA := puN_step i2 ku1 kp1 u18 (by rw [p20, kt]) (by omega) (by omega) (by rw [usb kq (by omega)]; congr 1; omega)
      refine s_blx (lv' := [(2, vI (x2 + (-8))), (0, vR 0), (1, vI four)]) (st' := []) B136_33_36 rfl ?_
      refine r_goto (tgt := 3) D136_36 rfl ?_
      refine r_loc (lv' := [(0, vR 0), (1, vI four), (2, vI (x2 + (-8)))]) ⟨rfl, rfl, rfl, trivial⟩ rfl rfl ?_
      have g22 : gi M17 0 3 = w3 + 1 := p20
      exact ih (x2 + (-8)) M17 H19 f21 (by omega) (by omega) (kA) (by omega) (by omega) (by omega)
set_option maxRecDepth 4000 in
theorem k136n {base : Nat} {X : Nat → Option mC} {G : Nat → Value} (E : EnvOK base X G) {d : Nat} (hd : 0 ≤ d) {M : mH} (H : HI base M) (four : Int) (h0 : -2147483648 ≤ four ∧ four ≤ 2147483647) (h1 : gi M 0 3 ≤ 396) : sOk base X G d T136 [vR 0, vI four] M (pV (fun M' => HI base M' ∧ Fr [(0, 4), (13, 0)] M M' ∧ (gi M' 0 3 = gi M 0 3 + 4) ∧ (∀ i : Int, 0 ≤ i → gi M' 13 i = puN (gi M 13) (gi M 0 3) (gi M 0 3 + 4) four i))) := by
  have f0 : Fr [(0, 4), (13, 0)] M M := Fr.rf
  refine sOk.of (show sRn base X G d T136 0 [(0, vR 0), (1, vI four)] [] M _ from ?_)
  refine s_blx (lv' := [(2, vI 24), (0, vR 0), (1, vI four)]) (st' := []) B136_0_3 rfl ?_
  refine r_loc (lv' := [(0, vR 0), (1, vI four), (2, vI 24)]) ⟨rfl, rfl, rfl, trivial⟩ rfl rfl ?_
  have g1 : gi M 0 3 = gi M 0 3 := rfl
  exact (L_k136n E hd H four h0 h1 (((24 + 8) * 1 + 0 : Int) + 1).toNat) 24 M H f0 (by omega) (by omega) (fun i _ => puN_0.symm) (by omega) (by omega) (by omega)
set_option maxRecDepth 4000 in
theorem k110n {base : Nat} {X : Nat → Option mC} {G : Nat → Value} (E : EnvOK base X G) {d : Nat} (hd : 1 ≤ d) {M : mH} (H : HI base M) (a : Int) (b : Int) (c : Int) (d_ : Int) (e : Int) (h0 : -2147483648 ≤ a ∧ a ≤ 2147483647) (h1 : -2147483648 ≤ b ∧ b ≤ 2147483647) (h2 : -2147483648 ≤ c ∧ c ≤ 2147483647) (h3 : -2147483648 ≤ d_ ∧ d_ ≤ 2147483647) (h4 : -2147483648 ≤ e ∧ e ≤ 2147483647) : sOk base X G d T110 [vR 0, vI a, vI b, vI c, vI d_, vI e] M (pI (fun v M' => HI base M' ∧ Fr [(0, 4), (13, 0)] M M' ∧ (-2147483648 ≤ v ∧ v ≤ 2147483647) ∧ (gi M 0 3 ≤ 380 → v = gi M 0 3 + 20 ∧ gi M' 0 3 = gi M 0 3 + 20) ∧ (380 < gi M 0 3 → v = -1 ∧ gi M' 0 3 = gi M 0 3) ∧ (gi M 0 3 ≤ 380 → ∀ i : Int, 0 ≤ i → gi M' 13 i = fdN (gi M 13) (gi M 0 3) a b c d_ e 20 i) ∧ (380 < gi M 0 3 → Fr [(0, 4)] M M'))) := by
  have f0 : Fr [(0, 4), (13, 0)] M M := Fr.rf
  refine sOk.of (show sRn base X G d T110 0 [(0, vR 0), (1, vI a), (2, vI b), (3, vI c), (4, vI d_), (5, vI e)] [] M _ from ?_)
  refine s_blx (lv' := [(0, vR 0), (1, vI a), (2, vI b), (3, vI c), (4, vI d_), (5, vI e)]) (st' := [vR 0]) B110_0_1 rfl ?_
  refine r_gint (ki := 3) (pc' := 4) D110_1 rfl gf_10_24_0 rfl H.1 ?_
  intro w1 e2 r3
  have b_w1 := H.2 0 (3) 0 400 rfl
  rw [← e2] at b_w1; clear r3
  refine s_blx (lv' := [(0, vR 0), (1, vI a), (2, vI b), (3, vI c), (4, vI d_), (5, vI e)]) (st' := [vI 400, vI (w1 + 20)]) B110_4_10 rfl ?_
  refine r_icmp (tgt := 15) (pc' := 13) D110_10 rfl rfl (by unfold inR; omega) (fun (c4 : (w1 + 20) ≤ 400) => ?_) (fun (c4 : ¬ ((w1 + 20) ≤ 400)) => ?_)
  · refine s_blx (lv' := [(0, vR 0), (1, vI a), (2, vI b), (3, vI c), (4, vI d_), (5, vI e)]) (st' := [vI a, vR 0]) B110_15_17 rfl ?_
    have g5 : gi M 0 3 = w1 := e2.symm
    refine r_vV (c := 0) (args := [vI a]) (rest := []) (pc' := 20) D110_17 rfl ck_10_virtual_233 TE136 rfl (Nat.le_of_ble_eq_true rfl) ⟨Nat.le_of_ble_eq_true rfl, Nat.le_of_ble_eq_true rfl⟩ sc_0 ⟨rfl, by decide⟩ H.1 (dp_0 hd rfl) (k136n E (dp_n hd rfl) H a (by omega) (by omega)) ?_
    intro M7 q12
    obtain ⟨H8, f9, q10, q11⟩ := q12
    have f13 := f0.tr (f9.up rfl)
    have k1 := q11; clear q11
    have t1 := q10; clear q10
    refine s_blx (lv' := [(0, vR 0), (1, vI a), (2, vI b), (3, vI c), (4, vI d_), (5, vI e)]) (st' := [vI b, vR 0]) B110_20_22 rfl ?_
    refine r_vV (c := 0) (args := [vI b]) (rest := []) (pc' := 25) D110_22 rfl ck_10_virtual_233 TE136 rfl (Nat.le_of_ble_eq_true rfl) ⟨Nat.le_of_ble_eq_true rfl, Nat.le_of_ble_eq_true rfl⟩ sc_0 ⟨rfl, by decide⟩ H8.1 (dp_0 hd rfl) (k136n E (dp_n hd rfl) H8 b (by omega) (by omega)) ?_
    intro M15 q20
    obtain ⟨H16, f17, q18, q19⟩ := q20
    have f21 := f13.tr (f17.up rfl)
    have k2 := q19
    have t2 := q18; clear q18
    refine s_blx (lv' := [(0, vR 0), (1, vI a), (2, vI b), (3, vI c), (4, vI d_), (5, vI e)]) (st' := [vI c, vR 0]) B110_25_27 rfl ?_
    refine r_vV (c := 0) (args := [vI c]) (rest := []) (pc' := 30) D110_27 rfl ck_10_virtual_233 TE136 rfl (Nat.le_of_ble_eq_true rfl) ⟨Nat.le_of_ble_eq_true rfl, Nat.le_of_ble_eq_true rfl⟩ sc_0 ⟨rfl, by decide⟩ H16.1 (dp_0 hd rfl) (k136n E (dp_n hd rfl) H16 c (by omega) (by omega)) ?_
    intro M23 q28
    obtain ⟨H24, f25, q26, q27⟩ := q28
    have f29 := f21.tr (f25.up rfl)
    have k3 := q27
    have t3 := q26; clear q26
    refine s_blx (lv' := [(0, vR 0), (1, vI a), (2, vI b), (3, vI c), (4, vI d_), (5, vI e)]) (st' := [vI d_, vR 0]) B110_30_33 rfl ?_
    refine r_vV (c := 0) (args := [vI d_]) (rest := []) (pc' := 36) D110_33 rfl ck_10_virtual_233 TE136 rfl (Nat.le_of_ble_eq_true rfl) ⟨Nat.le_of_ble_eq_true rfl, Nat.le_of_ble_eq_true rfl⟩ sc_0 ⟨rfl, by decide⟩ H24.1 (dp_0 hd rfl) (k136n E (dp_n hd rfl) H24 d_ (by omega) (by omega)) ?_
    intro M31 q36
    obtain ⟨H32, f33, q34, q35⟩ := q36
    have f37 := f29.tr (f33.up rfl)
    have k4 := q35
    have t4 := q34; clear q34
    refine s_blx (lv' := [(0, vR 0), (1, vI a), (2, vI b), (3, vI c), (4, vI d_), (5, vI e)]) (st' := [vI e, vR 0]) B110_36_39 rfl ?_
    refine r_vV (c := 0) (args := [vI e]) (rest := []) (pc' := 42) D110_39 rfl ck_10_virtual_233 TE136 rfl (Nat.le_of_ble_eq_true rfl) ⟨Nat.le_of_ble_eq_true rfl, Nat.le_of_ble_eq_true rfl⟩ sc_0 ⟨rfl, by decide⟩ H32.1 (dp_0 hd rfl) (k136n E (dp_n hd rfl) H32 e (by omega) (by omega)) ?_
    intro M39 q44
    obtain ⟨H40, f41, q42, q43⟩ := q44
    have f45 := f37.tr (f41.up rfl)
    have k5 := q43
    have t5 := q42; clear q42
    refine s_blx (lv' := [(0, vR 0), (1, vI a), (2, vI b), (3, vI c), (4, vI d_), (5, vI e)]) (st' := [vR 0]) B110_42_43 rfl ?_
    refine r_gint (ki := 3) (pc' := 46) D110_43 rfl gf_10_24_0 rfl H40.1 ?_
    intro w46 e47 r48
    have b_w46 := H40.2 0 (3) 0 400 rfl
    rw [← e47] at b_w46; clear r48
    have g49 : gi M39 0 3 = w46 := e47.symm
    exact r_iretI D110_46 rfl (⟨H40, f45, by omega, by omega, by omega, fun _ => pu5 k1 (by rw [t1] at k2; rw [show gi M 0 3 + 8 = gi M 0 3 + 4 + 4 by omega]; exact k2) (by rw [t2, t1] at k3; rw [show gi M 0 3 + 8 = gi M 0 3 + 4 + 4 by omega, show gi M 0 3 + 12 = gi M 0 3 + 4 + 4 + 4 by omega]; exact k3) (by rw [t3, t2, t1] at k4; rw [show gi M 0 3 + 12 = gi M 0 3 + 4 + 4 + 4 by omega, show gi M 0 3 + 16 = gi M 0 3 + 4 + 4 + 4 + 4 by omega]; exact k4) (by rw [t4, t3, t2, t1] at k5; rw [show gi M 0 3 + 16 = gi M 0 3 + 4 + 4 + 4 + 4 by omega, show gi M 0 3 + 20 = gi M 0 3 + 4 + 4 + 4 + 4 + 4 by omega]; exact k5), fun h => by exfalso; omega⟩)
  · refine s_blx (lv' := [(0, vR 0), (1, vI a), (2, vI b), (3, vI c), (4, vI d_), (5, vI e)]) (st' := [vI (-1)]) B110_13_14 rfl ?_
    have g50 : gi M 0 3 = w1 := e2.symm
    exact r_iretI D110_14 rfl (⟨H, f0, by omega, by omega, by omega, fun h => by exfalso; omega, fun _ => Fr.rf⟩)
set_option maxRecDepth 4000 in
theorem L_k71_1_5n {base : Nat} {X : Nat → Option mC} {G : Nat → Value} (E : EnvOK base X G) {d : Nat} (hd : 0 ≤ d) {M : mH} (H : HI base M) (sentence : Int) (at_ : Int) (n : Int) (h0 : 0 ≤ sentence ∧ sentence ≤ 15) (h1 : 0 ≤ at_ ∧ at_ ≤ 120) (h2 : 0 ≤ n ∧ n ≤ 8) : ∀ mz : Nat, (∀ (x5 : Int), (BW 5 sentence at_ x5 M) → (0 ≤ x5 ∧ x5 ≤ n) → (0 ≤ x5) → (x5 ≤ 8) → (8 - x5) * 1 + 0 < (mz : Int) → sRn base X G d T71 3 [(0, vR 1), (1, vI sentence), (2, vR 5), (3, vI at_), (4, vI n), (5, vI x5)] [] M (s_Q base (pI (fun v M' => M' = M ∧ (v = 0 ∨ v = 1) ∧ (v = 1 → BW 5 sentence at_ n M) ∧ (v = 0 → ¬ BW 5 sentence at_ n M))))) := by
  intro mz
  induction mz with
  | zero => exact fun x5 z0 z1 z2 z3 z4 => by omega
  | succ mz ih =>
    intro x5 i0 i1 i2 i3 hmu
    refine s_blx (lv' := [(0, vR 1), (1, vI sentence), (2, vR 5), (3, vI at_), (4, vI n), (5, vI x5)]) (st' := [vI n, vI x5]) B71_3_7 rfl ?_
    refine r_icmp (tgt := 39) (pc' := 10) D71_7 rfl rfl (by unfold inR; omega) (fun (c1 : n ≤ x5) => ?_) (fun (c1 : ¬ (n ≤ x5)) => ?_)
    · refine s_blx (lv' := [(0, vR 1), (1, vI sentence), (2, vR 5), (3, vI at_), (4, vI n), (5, vI x5)]) (st' := [vI 1]) B71_39_40 rfl ?_
      exact r_zretI D71_40 rfl (by omega) (⟨rfl, by omega, fun _ => i0.mono (by omega), fun h => absurd h (by omega)⟩)
    · refine s_blx (lv' := [(0, vR 1), (1, vI sentence), (2, vR 5), (3, vI at_), (4, vI n), (5, vI x5)]) (st' := [vR 1]) B71_10_11 rfl ?_
      refine r_gfix (r := 5) (pc' := 14) D71_11 rfl gf_8_31_1 H.1 ?_
      refine s_blx (lv' := [(0, vR 1), (1, vI sentence), (2, vR 5), (3, vI at_), (4, vI n), (5, vI x5)]) (st' := [vI ((sentence * 8) + x5), vR 5]) B71_14_21 rfl ?_
      refine r_iald (pc' := 22) D71_21 rfl sc_5 H.1 (by omega) ?_
      intro w2 e3 r4
      have b_w2 := H.2 5 ((sentence * 8) + x5) 0 29 rfl
      rw [← e3] at b_w2; clear r4
      refine s_blx (lv' := [(0, vR 1), (1, vI sentence), (2, vR 5), (3, vI at_), (4, vI n), (5, vI x5)]) (st' := [vI (at_ + x5), vR 5, vI w2]) B71_22_27 rfl ?_
      refine r_iald (pc' := 28) D71_27 rfl sc_5 H.1 (by omega) ?_
      intro w5 e6 r7
      have b_w5 := H.2 5 (at_ + x5) 0 29 rfl
      rw [← e6] at b_w5; clear r7
      refine r_icmp (tgt := 33) (pc' := 31) D71_28 rfl rfl (by unfold inR; omega) (fun (c8 : w2 = w5) => ?_) (fun (c8 : ¬ (w2 = w5)) => ?_)
      · refine s_blx (lv' := [(5, vI (x5 + 1)), (0, vR 1), (1, vI sentence), (2, vR 5), (3, vI at_), (4, vI n)]) (st' := []) B71_33_36 rfl ?_
        refine r_goto (tgt := 3) D71_36 rfl ?_
        refine r_loc (lv' := [(0, vR 1), (1, vI sentence), (2, vR 5), (3, vI at_), (4, vI n), (5, vI (x5 + 1))]) ⟨rfl, rfl, rfl, rfl, rfl, rfl, trivial⟩ rfl rfl ?_
        exact ih (x5 + 1) (i0.next (by omega)) (by omega) (by omega) (by omega) (by omega)
      · refine s_blx (lv' := [(0, vR 1), (1, vI sentence), (2, vR 5), (3, vI at_), (4, vI n), (5, vI x5)]) (st' := [vI 0]) B71_31_32 rfl ?_
        exact r_zretI D71_32 rfl (by omega) (⟨rfl, by omega, fun h => absurd h (by omega), fun _ h => by have q := h x5 (by omega) (by omega); omega⟩)
set_option maxRecDepth 4000 in
theorem k71_1_5n {base : Nat} {X : Nat → Option mC} {G : Nat → Value} (E : EnvOK base X G) {d : Nat} (hd : 0 ≤ d) {M : mH} (H : HI base M) (sentence : Int) (at_ : Int) (n : Int) (h0 : 0 ≤ sentence ∧ sentence ≤ 15) (h1 : 0 ≤ at_ ∧ at_ ≤ 120) (h2 : 0 ≤ n ∧ n ≤ 8) : sOk base X G d T71 [vR 1, vI sentence, vR 5, vI at_, vI n] M (pI (fun v M' => M' = M ∧ (v = 0 ∨ v = 1) ∧ (v = 1 → BW 5 sentence at_ n M) ∧ (v = 0 → ¬ BW 5 sentence at_ n M))) := by
  refine sOk.of (show sRn base X G d T71 0 [(0, vR 1), (1, vI sentence), (2, vR 5), (3, vI at_), (4, vI n)] [] M _ from ?_)
  refine s_blx (lv' := [(5, vI 0), (0, vR 1), (1, vI sentence), (2, vR 5), (3, vI at_), (4, vI n)]) (st' := []) B71_0_3 rfl ?_
  refine r_loc (lv' := [(0, vR 1), (1, vI sentence), (2, vR 5), (3, vI at_), (4, vI n), (5, vI 0)]) ⟨rfl, rfl, rfl, rfl, rfl, rfl, trivial⟩ rfl rfl ?_
  exact (L_k71_1_5n E hd H sentence at_ n h0 h1 h2 (((8 - 0) * 1 + 0 : Int) + 1).toNat) 0 (BW.zero) (by omega) (by omega) (by omega) (by omega)
set_option maxRecDepth 4000 in
theorem L_k71_1_13n {base : Nat} {X : Nat → Option mC} {G : Nat → Value} (E : EnvOK base X G) {d : Nat} (hd : 0 ≤ d) {M : mH} (H : HI base M) (sentence : Int) (at_ : Int) (n : Int) (h0 : 0 ≤ sentence ∧ sentence ≤ 15) (h1 : 0 ≤ at_ ∧ at_ ≤ 120) (h2 : 0 ≤ n ∧ n ≤ 8) : ∀ mz : Nat, (∀ (x5 : Int), (BW 13 sentence at_ x5 M) → (0 ≤ x5 ∧ x5 ≤ n) → (0 ≤ x5) → (x5 ≤ 8) → (8 - x5) * 1 + 0 < (mz : Int) → sRn base X G d T71 3 [(0, vR 1), (1, vI sentence), (2, vR 13), (3, vI at_), (4, vI n), (5, vI x5)] [] M (s_Q base (pI (fun v M' => M' = M ∧ (v = 0 ∨ v = 1) ∧ (v = 1 → BW 13 sentence at_ n M) ∧ (v = 0 → ¬ BW 13 sentence at_ n M))))) := by
  intro mz
  induction mz with
  | zero => exact fun x5 z0 z1 z2 z3 z4 => by omega
  | succ mz ih =>
    intro x5 i0 i1 i2 i3 hmu
    refine s_blx (lv' := [(0, vR 1), (1, vI sentence), (2, vR 13), (3, vI at_), (4, vI n), (5, vI x5)]) (st' := [vI n, vI x5]) B71_3_7 rfl ?_
    refine r_icmp (tgt := 39) (pc' := 10) D71_7 rfl rfl (by unfold inR; omega) (fun (c1 : n ≤ x5) => ?_) (fun (c1 : ¬ (n ≤ x5)) => ?_)
    · refine s_blx (lv' := [(0, vR 1), (1, vI sentence), (2, vR 13), (3, vI at_), (4, vI n), (5, vI x5)]) (st' := [vI 1]) B71_39_40 rfl ?_
      exact r_zretI D71_40 rfl (by omega) (⟨rfl, by omega, fun _ => i0.mono (by omega), fun h => absurd h (by omega)⟩)
    · refine s_blx (lv' := [(0, vR 1), (1, vI sentence), (2, vR 13), (3, vI at_), (4, vI n), (5, vI x5)]) (st' := [vR 1]) B71_10_11 rfl ?_
      refine r_gfix (r := 5) (pc' := 14) D71_11 rfl gf_8_31_1 H.1 ?_
      refine s_blx (lv' := [(0, vR 1), (1, vI sentence), (2, vR 13), (3, vI at_), (4, vI n), (5, vI x5)]) (st' := [vI ((sentence * 8) + x5), vR 5]) B71_14_21 rfl ?_
      refine r_iald (pc' := 22) D71_21 rfl sc_5 H.1 (by omega) ?_
      intro w2 e3 r4
      have b_w2 := H.2 5 ((sentence * 8) + x5) 0 29 rfl
      rw [← e3] at b_w2; clear r4
      refine s_blx (lv' := [(0, vR 1), (1, vI sentence), (2, vR 13), (3, vI at_), (4, vI n), (5, vI x5)]) (st' := [vI (at_ + x5), vR 13, vI w2]) B71_22_27 rfl ?_
      refine r_iald (pc' := 28) D71_27 rfl sc_13 H.1 (by omega) ?_
      intro w5 e6 r7
      have b_w5 := H.2 13 (at_ + x5) 0 255 rfl
      rw [← e6] at b_w5; clear r7
      refine r_icmp (tgt := 33) (pc' := 31) D71_28 rfl rfl (by unfold inR; omega) (fun (c8 : w2 = w5) => ?_) (fun (c8 : ¬ (w2 = w5)) => ?_)
      · refine s_blx (lv' := [(5, vI (x5 + 1)), (0, vR 1), (1, vI sentence), (2, vR 13), (3, vI at_), (4, vI n)]) (st' := []) B71_33_36 rfl ?_
        refine r_goto (tgt := 3) D71_36 rfl ?_
        refine r_loc (lv' := [(0, vR 1), (1, vI sentence), (2, vR 13), (3, vI at_), (4, vI n), (5, vI (x5 + 1))]) ⟨rfl, rfl, rfl, rfl, rfl, rfl, trivial⟩ rfl rfl ?_
        exact ih (x5 + 1) (i0.next (by omega)) (by omega) (by omega) (by omega) (by omega)
      · refine s_blx (lv' := [(0, vR 1), (1, vI sentence), (2, vR 13), (3, vI at_), (4, vI n), (5, vI x5)]) (st' := [vI 0]) B71_31_32 rfl ?_
        exact r_zretI D71_32 rfl (by omega) (⟨rfl, by omega, fun h => absurd h (by omega), fun _ h => by have q := h x5 (by omega) (by omega); omega⟩)
set_option maxRecDepth 4000 in
theorem k71_1_13n {base : Nat} {X : Nat → Option mC} {G : Nat → Value} (E : EnvOK base X G) {d : Nat} (hd : 0 ≤ d) {M : mH} (H : HI base M) (sentence : Int) (at_ : Int) (n : Int) (h0 : 0 ≤ sentence ∧ sentence ≤ 15) (h1 : 0 ≤ at_ ∧ at_ ≤ 120) (h2 : 0 ≤ n ∧ n ≤ 8) : sOk base X G d T71 [vR 1, vI sentence, vR 13, vI at_, vI n] M (pI (fun v M' => M' = M ∧ (v = 0 ∨ v = 1) ∧ (v = 1 → BW 13 sentence at_ n M) ∧ (v = 0 → ¬ BW 13 sentence at_ n M))) := by
  refine sOk.of (show sRn base X G d T71 0 [(0, vR 1), (1, vI sentence), (2, vR 13), (3, vI at_), (4, vI n)] [] M _ from ?_)
  refine s_blx (lv' := [(5, vI 0), (0, vR 1), (1, vI sentence), (2, vR 13), (3, vI at_), (4, vI n)]) (st' := []) B71_0_3 rfl ?_
  refine r_loc (lv' := [(0, vR 1), (1, vI sentence), (2, vR 13), (3, vI at_), (4, vI n), (5, vI 0)]) ⟨rfl, rfl, rfl, rfl, rfl, rfl, trivial⟩ rfl rfl ?_
  exact (L_k71_1_13n E hd H sentence at_ n h0 h1 h2 (((8 - 0) * 1 + 0 : Int) + 1).toNat) 0 (BW.zero) (by omega) (by omega) (by omega) (by omega)
set_option maxRecDepth 4000 in
theorem L_k64_1_13n {base : Nat} {X : Nat → Option mC} {G : Nat → Value} (E : EnvOK base X G) {d : Nat} (hd : 1 ≤ d) {M : mH} (H : HI base M) (length : Int) (h0 : 0 ≤ length ∧ length ≤ 8) : ∀ mz : Nat, (∀ (x3 : Int), (NR length x3 M) → (0 ≤ x3 ∧ x3 ≤ 16) → (0 ≤ x3) → (x3 ≤ 16) → (16 - x3) * 1 + 0 < (mz : Int) → sRn base X G d T64 2 [(0, vR 1), (1, vR 13), (2, vI length), (3, vI x3)] [] M (s_Q base (pI (fun v M' => M' = M ∧ (v = 0 ∨ v = 1) ∧ (v = 1 → HR length M) ∧ (v = 0 → ¬ HR length M))))) := by
  intro mz
  induction mz with
  | zero => exact fun x3 z0 z1 z2 z3 z4 => by omega
  | succ mz ih =>
    intro x3 i0 i1 i2 i3 hmu
    refine s_blx (lv' := [(0, vR 1), (1, vR 13), (2, vI length), (3, vI x3)]) (st' := [vR 1, vI x3]) B64_2_4 rfl ?_
    refine r_gint (ki := 10) (pc' := 7) D64_4 rfl gf_8_43_1 rfl H.1 ?_
    intro w1 e2 r3
    have b_w1 := H.2 1 (10) 0 16 rfl
    rw [← e2] at b_w1; clear r3
    refine r_icmp (tgt := 39) (pc' := 10) D64_7 rfl rfl (by unfold inR; omega) (fun (c4 : w1 ≤ x3) => ?_) (fun (c4 : ¬ (w1 ≤ x3)) => ?_)
    · refine s_blx (lv' := [(0, vR 1), (1, vR 13), (2, vI length), (3, vI x3)]) (st' := [vI 0]) B64_39_40 rfl ?_
      exact r_zretI D64_40 rfl (by omega) (⟨rfl, by omega, fun h => absurd h (by omega), fun _ h => by obtain ⟨k, p, q, r⟩ := h; exact i0 k p (by omega) r⟩)
    · refine s_blx (lv' := [(0, vR 1), (1, vR 13), (2, vI length), (3, vI x3)]) (st' := [vR 1]) B64_10_11 rfl ?_
      refine r_gfix (r := 6) (pc' := 14) D64_11 rfl gf_8_34_1 H.1 ?_
      refine s_blx (lv' := [(0, vR 1), (1, vR 13), (2, vI length), (3, vI x3)]) (st' := [vI x3, vR 6]) B64_14_15 rfl ?_
      refine r_iald (pc' := 16) D64_15 rfl sc_6 H.1 (by omega) ?_
      intro w5 e6 r7
      have b_w5 := H.2 6 (x3) 0 8 rfl
      rw [← e6] at b_w5; clear r7
      refine s_blx (lv' := [(0, vR 1), (1, vR 13), (2, vI length), (3, vI x3)]) (st' := [vI length, vI w5]) B64_16_17 rfl ?_
      refine r_icmp (tgt := 33) (pc' := 20) D64_17 rfl rfl (by unfold inR; omega) (fun (c8 : w5 ≠ length) => ?_) (fun (c8 : ¬ (w5 ≠ length)) => ?_)
      · refine s_blx (lv' := [(3, vI (x3 + 1)), (0, vR 1), (1, vR 13), (2, vI length)]) (st' := []) B64_33_36 rfl ?_
        refine r_goto (tgt := 2) D64_36 rfl ?_
        refine r_loc (lv' := [(0, vR 1), (1, vR 13), (2, vI length), (3, vI (x3 + 1))]) ⟨rfl, rfl, rfl, rfl, trivial⟩ rfl rfl ?_
        exact ih (x3 + 1) (i0.next (by first | exact fun h => (by have q := h.1; omega) | exact fun h => kb0 (by omega) h.2)) (by omega) (by omega) (by omega) (by omega)
      · refine s_blx (lv' := [(0, vR 1), (1, vR 13), (2, vI length), (3, vI x3)]) (st' := [vI length, vI 0, vR 13, vI x3, vR 1]) B64_20_25 rfl ?_
        refine r_vIp (c := 1) (args := [vI x3, vR 13, vI 0, vI length]) (rest := []) (pc' := 28) D64_25 rfl ck_8_virtual_76 TE71 rfl (Nat.le_of_ble_eq_true rfl) ⟨Nat.le_of_ble_eq_true rfl, Nat.le_of_ble_eq_true rfl⟩ sc_1 ⟨rfl, by decide⟩ H.1 (dp_0 hd rfl) (k71_1_13n E (dp_n hd rfl) H x3 0 length (by omega) (by omega) (by omega)) ?_
        intro v9 q14
        obtain ⟨q11, q12, q13⟩ := q14
        have kb1 := q12; clear q12
        have kb0 := q13; clear q13
        refine r_ifc (tgt := 33) (pc' := 31) D64_28 rfl rfl (by unfold inR; omega) (fun (c15 : v9 = 0) => ?_) (fun (c15 : ¬ (v9 = 0)) => ?_)
        · refine s_blx (lv' := [(3, vI (x3 + 1)), (0, vR 1), (1, vR 13), (2, vI length)]) (st' := []) B64_33_36 rfl ?_
          refine r_goto (tgt := 2) D64_36 rfl ?_
          refine r_loc (lv' := [(0, vR 1), (1, vR 13), (2, vI length), (3, vI (x3 + 1))]) ⟨rfl, rfl, rfl, rfl, trivial⟩ rfl rfl ?_
          exact ih (x3 + 1) (i0.next (by first | exact fun h => (by have q := h.1; omega) | exact fun h => kb0 (by omega) h.2)) (by omega) (by omega) (by omega) (by omega)
        · refine s_blx (lv' := [(0, vR 1), (1, vR 13), (2, vI length), (3, vI x3)]) (st' := [vI 1]) B64_31_32 rfl ?_
          exact r_zretI D64_32 rfl (by omega) (⟨rfl, by omega, fun _ => ⟨x3, by omega, by omega, by omega, kb1 (by omega)⟩, fun h => absurd h (by omega)⟩)
set_option maxRecDepth 4000 in
theorem k64_1_13n {base : Nat} {X : Nat → Option mC} {G : Nat → Value} (E : EnvOK base X G) {d : Nat} (hd : 1 ≤ d) {M : mH} (H : HI base M) (length : Int) (h0 : 0 ≤ length ∧ length ≤ 8) : sOk base X G d T64 [vR 1, vR 13, vI length] M (pI (fun v M' => M' = M ∧ (v = 0 ∨ v = 1) ∧ (v = 1 → HR length M) ∧ (v = 0 → ¬ HR length M))) := by
  refine sOk.of (show sRn base X G d T64 0 [(0, vR 1), (1, vR 13), (2, vI length)] [] M _ from ?_)
  refine s_blx (lv' := [(3, vI 0), (0, vR 1), (1, vR 13), (2, vI length)]) (st' := []) B64_0_2 rfl ?_
  refine r_loc (lv' := [(0, vR 1), (1, vR 13), (2, vI length), (3, vI 0)]) ⟨rfl, rfl, rfl, rfl, trivial⟩ rfl rfl ?_
  exact (L_k64_1_13n E hd H length h0 (((16 - 0) * 1 + 0 : Int) + 1).toNat) 0 (NR.zero) (by omega) (by omega) (by omega) (by omega)
set_option maxRecDepth 4000 in
theorem L_k137n {base : Nat} {X : Nat → Option mC} {G : Nat → Value} (E : EnvOK base X G) {d : Nat} (hd : 1 ≤ d) {M : mH} (H : HI base M) (length : Int) (h0 : 0 ≤ length ∧ length ≤ 400) : ∀ mz : Nat, (∀ (x2 : Int), (TC x2 M) → (1 ≤ length ∧ length ≤ 8) → (0 ≤ x2 ∧ x2 ≤ length) → (0 ≤ x2) → (x2 ≤ 8) → (1 ≤ length) → (length ≤ 8) → (8 - x2) * 1 + 0 < (mz : Int) → sRn base X G d T137 14 [(0, vR 0), (1, vI length), (2, vI x2)] [] M (s_Q base (pI (fun v M' => M' = M ∧ (v = 0 ∨ v = 1) ∧ (v = 1 → 1 ≤ length ∧ length ≤ 8) ∧ (v = 1 → TC length M) ∧ (v = 0 → ¬ RWok length M))))) := by
  intro mz
  induction mz with
  | zero => exact fun x2 z0 z1 z2 z3 z4 z5 z6 z7 => by omega
  | succ mz ih =>
    intro x2 i0 i1 i2 i3 i4 i5 i6 hmu
    refine s_blx (lv' := [(0, vR 0), (1, vI length), (2, vI x2)]) (st' := [vI length, vI x2]) B137_14_16 rfl ?_
    refine r_icmp (tgt := 38) (pc' := 19) D137_16 rfl rfl (by unfold inR; omega) (fun (c8 : length ≤ x2) => ?_) (fun (c8 : ¬ (length ≤ x2)) => ?_)
    · refine s_blx (lv' := [(0, vR 0), (1, vI length), (2, vI x2)]) (st' := [vI 1]) B137_38_39 rfl ?_
      exact r_zretI D137_39 rfl (by omega) (⟨rfl, by omega, by omega, fun _ => i0.mono (by omega), fun h => absurd h (by omega)⟩)
    · refine s_blx (lv' := [(0, vR 0), (1, vI length), (2, vI x2)]) (st' := [vR 0]) B137_19_20 rfl ?_
      refine r_gfix (r := 13) (pc' := 23) D137_20 rfl gf_10_20_0 H.1 ?_
      refine s_blx (lv' := [(0, vR 0), (1, vI length), (2, vI x2)]) (st' := [vI x2, vR 13]) B137_23_24 rfl ?_
      refine r_iald (pc' := 25) D137_24 rfl sc_13 H.1 (by omega) ?_
      intro w9 e10 r11
      have b_w9 := H.2 13 (x2) 0 255 rfl
      rw [← e10] at b_w9; clear r11
      refine s_blx (lv' := [(0, vR 0), (1, vI length), (2, vI x2)]) (st' := [vI 30, vI w9]) B137_25_27 rfl ?_
      refine r_icmp (tgt := 32) (pc' := 30) D137_27 rfl rfl (by unfold inR; omega) (fun (c12 : w9 < 30) => ?_) (fun (c12 : ¬ (w9 < 30)) => ?_)
      · refine s_blx (lv' := [(2, vI (x2 + 1)), (0, vR 0), (1, vI length)]) (st' := []) B137_32_35 rfl ?_
        refine r_goto (tgt := 14) D137_35 rfl ?_
        refine r_loc (lv' := [(0, vR 0), (1, vI length), (2, vI (x2 + 1))]) ⟨rfl, rfl, rfl, trivial⟩ rfl rfl ?_
        exact ih (x2 + 1) (i0.next (by omega)) (by omega) (by omega) (by omega) (by omega) (by omega) (by omega) (by omega)
      · refine s_blx (lv' := [(0, vR 0), (1, vI length), (2, vI x2)]) (st' := [vI 0]) B137_30_31 rfl ?_
        exact r_zretI D137_31 rfl (by omega) (⟨rfl, by omega, by omega, fun h => absurd h (by omega), fun _ h => by have q := h.2.2 x2 (by omega) (by omega); omega⟩)
set_option maxRecDepth 4000 in
theorem k137n {base : Nat} {X : Nat → Option mC} {G : Nat → Value} (E : EnvOK base X G) {d : Nat} (hd : 1 ≤ d) {M : mH} (H : HI base M) (length : Int) (h0 : 0 ≤ length ∧ length ≤ 400) : sOk base X G d T137 [vR 0, vI length] M (pI (fun v M' => M' = M ∧ (v = 0 ∨ v = 1) ∧ (v = 1 → 1 ≤ length ∧ length ≤ 8) ∧ (v = 1 → TC length M) ∧ (v = 0 → ¬ RWok length M))) := by
  refine sOk.of (show sRn base X G d T137 0 [(0, vR 0), (1, vI length)] [] M _ from ?_)
  refine s_blx (lv' := [(0, vR 0), (1, vI length)]) (st' := [vI 8, vI 1, vI length]) B137_0_4 rfl ?_
  refine r_sIp (args := [vI length, vI 1, vI 8]) (rest := []) (pc' := 7) D137_4 rfl ck_10_static_102 TE142 rfl (Nat.le_of_ble_eq_true rfl) ⟨Nat.le_of_ble_eq_true rfl, Nat.le_of_ble_eq_true rfl⟩ (by decide) (dp_0 hd rfl) (k142 E (dp_n hd rfl) H length 1 8 (by omega) (by omega) (by omega)) ?_
  intro v1 q6
  obtain ⟨q3, q4, q5⟩ := q6
  refine r_ifc (tgt := 12) (pc' := 10) D137_7 rfl rfl (by unfold inR; omega) (fun (c7 : v1 ≠ 0) => ?_) (fun (c7 : ¬ (v1 ≠ 0)) => ?_)
  · refine s_blx (lv' := [(2, vI 0), (0, vR 0), (1, vI length)]) (st' := []) B137_12_14 rfl ?_
    refine r_loc (lv' := [(0, vR 0), (1, vI length), (2, vI 0)]) ⟨rfl, rfl, rfl, trivial⟩ rfl rfl ?_
    exact (L_k137n E hd H length h0 (((8 - 0) * 1 + 0 : Int) + 1).toNat) 0 (TC.zero) (by omega) (by omega) (by omega) (by omega) (by omega) (by omega) (by omega)
  · refine s_blx (lv' := [(0, vR 0), (1, vI length)]) (st' := [vI 0]) B137_10_11 rfl ?_
    exact r_zretI D137_11 rfl (by omega) (⟨rfl, by omega, by omega, fun h => absurd h (by omega), fun _ h => by have p := h.1; have q := h.2.1; omega⟩)
set_option maxRecDepth 4000 in
theorem L_k60_1_13n {base : Nat} {X : Nat → Option mC} {G : Nat → Value} (E : EnvOK base X G) {d : Nat} (hd : 0 ≤ d) {M : mH} (H : HI base M) (length : Int) (h0 : TC length M) (h1 : 1 ≤ length ∧ length ≤ 8) (h2 : gi M 1 10 ≤ 15) : ∀ mz : Nat, (∀ (x3 x4 : Int) (N : mH), HI base N → Fr [(1, 11), (5, 0), (6, 0), (8, 0)] M N → (gi N 1 10 = x3) → (0 ≤ x3 ∧ x3 ≤ 15) → (0 ≤ x4 ∧ x4 ≤ 4) → (x3 = gi M 1 10) → (∀ i : Int, gi N 6 i = updN (gi M 6) (gi M 1 10) length i) → (∀ i : Int, gi N 8 i = wtN (gi M 8) (gi M 1 10 * 4) x4 i) → (∀ i : Int, 0 ≤ i → gi N 5 i = rwN (gi M 5) (gi M 13) (gi M 1 10 * 8) length i) → (0 ≤ x3) → (x3 ≤ 16) → (0 ≤ x4) → (x4 ≤ 4) → (4 - x4) * 1 + 0 < (mz : Int) → sRn base X G d T60 29 [(0, vR 1), (3, vI x3), (4, vI x4)] [] N (s_Q base (pI (fun v M' => HI base M' ∧ Fr [(1, 11), (5, 0), (6, 0), (8, 0)] M M' ∧ (0 ≤ v ∧ v ≤ 15) ∧ (v = gi M 1 10) ∧ (gi M' 1 10 = gi M 1 10 + 1) ∧ (∀ i : Int, gi M' 6 i = updN (gi M 6) (gi M 1 10) length i) ∧ (∀ i : Int, gi M' 8 i = wtN (gi M 8) (gi M 1 10 * 4) 4 i) ∧ (∀ i : Int, 0 ≤ i → gi M' 5 i = rwN (gi M 5) (gi M 13) (gi M 1 10 * 8) length i))))) := by
  have f0 : Fr [(1, 11), (5, 0), (6, 0), (8, 0)] M M := Fr.rf
  intro mz
  induction mz with
  | zero => exact fun x3 x4 N _ _ z0 z1 z2 z3 z4 z5 z6 z7 z8 z9 z10 z11 => by omega
  | succ mz ih =>
    intro x3 x4 N HN fN i0 i1 i2 i3 i4 i5 i6 i7 i8 i9 i10 hmu
    refine s_blx (lv' := [(0, vR 1), (3, vI x3), (4, vI x4)]) (st' := [vI 4, vI x4]) B60_29_32 rfl ?_
    refine r_icmp (tgt := 53) (pc' := 35) D60_32 rfl rfl (by unfold inR; omega) (fun (c14 : 4 ≤ x4) => ?_) (fun (c14 : ¬ (4 ≤ x4)) => ?_)
    · refine s_blx (lv' := [(0, vR 1), (3, vI x3), (4, vI x4)]) (st' := [vR 1, vR 1]) B60_53_55 rfl ?_
      refine r_gint (ki := 10) (pc' := 58) D60_55 rfl gf_8_43_1 rfl HN.1 ?_
      intro w15 e16 r17
      have e18 : x3 = w15 := (e16.trans (i0)).symm
      subst e18
      refine s_blx (lv' := [(0, vR 1), (3, vI x3), (4, vI x4)]) (st' := [vI (x3 + 1), vR 1]) B60_58_60 rfl ?_
      refine r_pint (ki := 10) (pc' := 63) D60_60 rfl pf_8_43_1 rfl HN (by unfold inR; omega) (show 0 ≤ (x3 + 1) ∧ (x3 + 1) ≤ 16 by omega) ?_
      intro M19 u20 H21 p22
      have f23 := fN.wr u20 rfl
      have kz := u20
      refine s_blx (lv' := [(0, vR 1), (3, vI x3), (4, vI x4)]) (st' := [vI x3]) B60_63_64 rfl ?_
      have g24 : gi M19 1 10 = x3 + 1 := p22
      exact r_iretI D60_64 rfl (⟨H21, f23, by omega, by omega, by first | (rw [g24]; omega) | rw [g24], fun i => by rw [kz.gi_ne (by decide) (Or.inl (by decide))]; exact i4 i, fun i => by rw [kz.gi_ne (by decide) (Or.inl (by decide)), i5 i, show x4 = 4 by omega], fun i hi => by rw [kz.gi_ne (by decide) (Or.inl (by decide))]; exact i6 i hi⟩)
    · refine s_blx (lv' := [(0, vR 1), (3, vI x3), (4, vI x4)]) (st' := [vR 1]) B60_35_36 rfl ?_
      refine r_gfix (r := 8) (pc' := 39) D60_36 rfl gf_8_40_1 HN.1 ?_
      refine s_blx (lv' := [(0, vR 1), (3, vI x3), (4, vI x4)]) (st' := [vI 1, vI ((x3 * 4) + x4), vR 8]) B60_39_46 rfl ?_
      refine r_iast (pc' := 47) D60_46 rfl sc_8 HN (by omega) (by unfold inR; omega) (show 0 ≤ 1 ∧ 1 ≤ 100 by omega) ?_
      intro M25 u26 H27 p28
      have f29 := fN.wr u26 rfl
      have ku := u26
      have kp := p28
      refine s_blx (lv' := [(4, vI (x4 + 1)), (0, vR 1), (3, vI x3)]) (st' := []) B60_47_50 rfl ?_
      refine r_goto (tgt := 29) D60_50 rfl ?_
      refine r_loc (lv' := [(0, vR 1), (3, vI x3), (4, vI (x4 + 1))]) ⟨rfl, rfl, rfl, trivial⟩ rfl rfl ?_
      have g30 : gi M25 1 10 = x3 := (u26.gi_ne (by omega) (Or.inl (by decide))).trans (i0)
      exact ih x3 (x4 + 1) M25 H27 f29 (by omega) (by omega) (by omega) (by omega) (fun i => by rw [ku.gi_ne (by omega) (Or.inl (by decide))]; exact i4 i) (wtN_step i5 ku kp (by omega) (by omega) (by omega)) (fun i hi => by rw [ku.gi_ne (by omega) (Or.inl (by decide))]; exact i6 i hi) (by omega) (by omega) (by omega) (by omega) (by omega)
set_option maxRecDepth 4000 in
theorem k60_1_13n {base : Nat} {X : Nat → Option mC} {G : Nat → Value} (E : EnvOK base X G) {d : Nat} (hd : 0 ≤ d) {M : mH} (H : HI base M) (length : Int) (h0 : TC length M) (h1 : 1 ≤ length ∧ length ≤ 8) (h2 : gi M 1 10 ≤ 15) : sOk base X G d T60 [vR 1, vR 13, vI length] M (pI (fun v M' => HI base M' ∧ Fr [(1, 11), (5, 0), (6, 0), (8, 0)] M M' ∧ (0 ≤ v ∧ v ≤ 15) ∧ (v = gi M 1 10) ∧ (gi M' 1 10 = gi M 1 10 + 1) ∧ (∀ i : Int, gi M' 6 i = updN (gi M 6) (gi M 1 10) length i) ∧ (∀ i : Int, gi M' 8 i = wtN (gi M 8) (gi M 1 10 * 4) 4 i) ∧ (∀ i : Int, 0 ≤ i → gi M' 5 i = rwN (gi M 5) (gi M 13) (gi M 1 10 * 8) length i))) := by
  have f0 : Fr [(1, 11), (5, 0), (6, 0), (8, 0)] M M := Fr.rf
  refine sOk.of (show sRn base X G d T60 0 [(0, vR 1), (1, vR 13), (2, vI length)] [] M _ from ?_)
  refine s_blx (lv' := [(0, vR 1), (1, vR 13), (2, vI length)]) (st' := [vR 1]) B60_0_1 rfl ?_
  refine r_gint (ki := 10) (pc' := 4) D60_1 rfl gf_8_43_1 rfl H.1 ?_
  intro w1 e2 r3
  have b_w1 := H.2 1 (10) 0 16 rfl
  rw [← e2] at b_w1; clear r3
  have kn := e2
  refine s_blx (lv' := [(3, vI w1), (0, vR 1), (1, vR 13), (2, vI length)]) (st' := [vR 1, vI 0, vR 13]) B60_4_8 rfl ?_
  refine r_gfix (r := 5) (pc' := 11) D60_8 rfl gf_8_31_1 H.1 ?_
  refine s_blx (lv' := [(3, vI w1), (0, vR 1), (1, vR 13), (2, vI length)]) (st' := [vI length, vI (w1 * 8), vR 5, vI 0, vR 13]) B60_11_16 rfl ?_
  refine r_acpy (pc' := 19) D60_16 rfl mc_8_static_70 sp_8_70 (Nat.le_of_ble_eq_true rfl) sc_13 sc_5 H (by omega) (fun j h0_ h1_ => (show 0 ≤ _ ∧ _ ≤ 29 from by have q := H.2 13 (0 + j) 0 255 rfl; have q2 := h0 (0 + j) (by omega) (by omega); omega)) ?_
  intro M4 u5 H6
  have f7 := f0.cp u5 (fun _ => rfl)
  have kcp := u5
  refine s_blx (lv' := [(3, vI w1), (0, vR 1), (1, vR 13), (2, vI length)]) (st' := [vR 1]) B60_19_20 rfl ?_
  refine r_gfix (r := 6) (pc' := 23) D60_20 rfl gf_8_34_1 H6.1 ?_
  refine s_blx (lv' := [(3, vI w1), (0, vR 1), (1, vR 13), (2, vI length)]) (st' := [vI length, vI w1, vR 6]) B60_23_25 rfl ?_
  refine r_iast (pc' := 26) D60_25 rfl sc_6 H6 (by omega) (by unfold inR; omega) (show 0 ≤ length ∧ length ≤ 8 by omega) ?_
  intro M8 u9 H10 p11
  have f12 := f7.wr u9 rfl
  have kw6 := u9
  have kA5 : ∀ i : Int, 0 ≤ i → gi M8 5 i = rwN (gi M 5) (gi M 13) (gi M 1 10 * 8) length i := fun i hi => by rw [kw6.gi_ne (by omega) (Or.inl (by decide)), rwN_cp kcp (by omega) (by omega) i hi, kn]
  have kA6 : ∀ i : Int, gi M8 6 i = updN (gi M 6) (gi M 1 10) length i := fun i => by rw [← kn, wrU kw6 (by omega) p11 i]; unfold updN; rw [kcp.gi_ne (c := 6) (by decide) i]
  have kA8 : ∀ i : Int, gi M8 8 i = wtN (gi M 8) (gi M 1 10 * 4) 0 i := fun i => by rw [kw6.gi_ne (by omega) (Or.inl (by decide)), kcp.gi_ne (c := 8) (by decide) i]; exact wtN_0.symm
  refine s_blx (lv' := [(4, vI 0), (3, vI w1), (0, vR 1), (1, vR 13), (2, vI length)]) (st' := []) B60_26_29 rfl ?_
  refine r_loc (lv' := [(0, vR 1), (3, vI w1), (4, vI 0)]) ⟨rfl, rfl, rfl, trivial⟩ rfl rfl ?_
  have g13 : gi M8 1 10 = w1 := (u9.gi_ne (by omega) (Or.inl (by decide))).trans ((u5.gi_ne (by decide) _).trans (e2.symm))
  exact (L_k60_1_13n E hd H length h0 h1 h2 (((4 - 0) * 1 + 0 : Int) + 1).toNat) w1 0 M8 H10 f12 (by omega) (by omega) (by omega) (by omega) (kA6) (kA8) (kA5) (by omega) (by omega) (by omega) (by omega) (by omega)
set_option maxRecDepth 4000 in
theorem k61_1n {base : Nat} {X : Nat → Option mC} {G : Nat → Value} (E : EnvOK base X G) {d : Nat} (hd : 0 ≤ d) {M : mH} (H : HI base M) (sentence : Int) (a : Int) (b : Int) (c : Int) (h0 : 0 ≤ sentence ∧ sentence ≤ 15) (h1 : 0 ≤ a ∧ a ≤ 7) (h2 : 0 ≤ b ∧ b ≤ 7) (h3 : 0 ≤ c ∧ c ≤ 7) : sOk base X G d T61 [vR 1, vI sentence, vI a, vI b, vI c] M (pV (fun M' => HI base M' ∧ Fr [(7, 0)] M M' ∧ (∀ i : Int, gi M' 7 i = vlN (gi M 7) (sentence * 3) a b c i))) := by
  have f0 : Fr [(7, 0)] M M := Fr.rf
  refine sOk.of (show sRn base X G d T61 0 [(0, vR 1), (1, vI sentence), (2, vI a), (3, vI b), (4, vI c)] [] M _ from ?_)
  refine s_blx (lv' := [(0, vR 1), (1, vI sentence), (2, vI a), (3, vI b), (4, vI c)]) (st' := [vR 1]) B61_0_1 rfl ?_
  refine r_gfix (r := 7) (pc' := 4) D61_1 rfl gf_8_37_1 H.1 ?_
  refine s_blx (lv' := [(0, vR 1), (1, vI sentence), (2, vI a), (3, vI b), (4, vI c)]) (st' := [vI a, vI (sentence * 3), vR 7]) B61_4_8 rfl ?_
  refine r_iast (pc' := 9) D61_8 rfl sc_7 H (by omega) (by unfold inR; omega) (show 0 ≤ a ∧ a ≤ 7 by omega) ?_
  intro M1 u2 H3 p4
  have f5 := f0.wr u2 rfl
  have ku1 := u2
  have kp1 := p4
  refine s_blx (lv' := [(0, vR 1), (1, vI sentence), (2, vI a), (3, vI b), (4, vI c)]) (st' := [vR 1]) B61_9_10 rfl ?_
  refine r_gfix (r := 7) (pc' := 13) D61_10 rfl gf_8_37_1 H3.1 ?_
  refine s_blx (lv' := [(0, vR 1), (1, vI sentence), (2, vI a), (3, vI b), (4, vI c)]) (st' := [vI b, vI ((sentence * 3) + 1), vR 7]) B61_13_19 rfl ?_
  refine r_iast (pc' := 20) D61_19 rfl sc_7 H3 (by omega) (by unfold inR; omega) (show 0 ≤ b ∧ b ≤ 7 by omega) ?_
  intro M6 u7 H8 p9
  have f10 := f5.wr u7 rfl
  have ku2 := u7
  have kp2 := p9
  refine s_blx (lv' := [(0, vR 1), (1, vI sentence), (2, vI a), (3, vI b), (4, vI c)]) (st' := [vR 1]) B61_20_21 rfl ?_
  refine r_gfix (r := 7) (pc' := 24) D61_21 rfl gf_8_37_1 H8.1 ?_
  refine s_blx (lv' := [(0, vR 1), (1, vI sentence), (2, vI a), (3, vI b), (4, vI c)]) (st' := [vI c, vI ((sentence * 3) + 2), vR 7]) B61_24_31 rfl ?_
  refine r_iast (pc' := 32) D61_31 rfl sc_7 H8 (by omega) (by unfold inR; omega) (show 0 ≤ c ∧ c ≤ 7 by omega) ?_
  intro M11 u12 H13 p14
  have f15 := f10.wr u12 rfl
  have ku3 := u12
  have kp3 := p14
  exact r_retV D61_32 rfl (⟨H13, f15, vl3 (by omega) ku1 kp1 ku2 kp2 ku3 kp3⟩)
set_option maxRecDepth 4000 in
theorem k101n {base : Nat} {X : Nat → Option mC} {G : Nat → Value} (E : EnvOK base X G) {d : Nat} (hd : 2 ≤ d) {M : mH} (H : HI base M) (a : Int) (b : Int) (c : Int) (h0 : -2147483648 ≤ a ∧ a ≤ 2147483647) (h1 : -2147483648 ≤ b ∧ b ≤ 2147483647) (h2 : -2147483648 ≤ c ∧ c ≤ 2147483647) : sOk base X G d T101 [vR 0, vI a, vI b, vI c] M (pI (fun v M' => HI base M' ∧ Fr [(0, 4), (0, 6), (0, 10), (1, 11), (5, 0), (6, 0), (7, 0), (8, 0)] M M' ∧ (-2147483648 ≤ v ∧ v ≤ 2147483647) ∧ (gi M' 0 9 = 1 ∨ gi M' 0 9 = gi M 0 9) ∧ (gi M' 0 3 = 0) ∧ (SnC v a b c M M'))) := by
  have f0 : Fr [(0, 4), (0, 6), (0, 10), (1, 11), (5, 0), (6, 0), (7, 0), (8, 0)] M M := Fr.rf
  refine sOk.of (show sRn base X G d T101 0 [(0, vR 0), (1, vI a), (2, vI b), (3, vI c)] [] M _ from ?_)
  refine s_blx (lv' := [(0, vR 0), (1, vI a), (2, vI b), (3, vI c)]) (st' := [vR 0]) B101_0_1 rfl ?_
  refine r_vI (c := 0) (args := []) (rest := []) (pc' := 4) D101_1 rfl ck_10_virtual_149 TE135 rfl (Nat.le_of_ble_eq_true rfl) ⟨Nat.le_of_ble_eq_true rfl, Nat.le_of_ble_eq_true rfl⟩ sc_0 ⟨rfl, by decide⟩ H.1 (dp_0 hd rfl) (k135e E (dp_n hd rfl) H ) ?_
  intro v1 M2 q8
  obtain ⟨H3, f4, q5, q6, q7⟩ := q8
  have f9 := f0.tr (f4.up rfl)
  have kt := f4
  have kv := q6; clear q6
  refine s_blx (lv' := [(4, vI v1), (0, vR 0), (1, vI a), (2, vI b), (3, vI c)]) (st' := [vI a]) B101_4_7 rfl ?_
  refine r_sIp (args := [vI a]) (rest := []) (pc' := 10) D101_7 rfl ck_10_static_153 TE144 rfl (Nat.le_of_ble_eq_true rfl) ⟨Nat.le_of_ble_eq_true rfl, Nat.le_of_ble_eq_true rfl⟩ (by decide) (dp_0 hd rfl) (k144n E (dp_n hd rfl) H3 a (by omega)) ?_
  intro v10 q15
  obtain ⟨q12, q13, q14⟩ := q15
  refine r_ifc (tgt := 27) (pc' := 13) D101_10 rfl rfl (by unfold inR; omega) (fun (c16 : v10 = 0) => ?_) (fun (c16 : ¬ (v10 = 0)) => ?_)
  · refine s_blx (lv' := [(4, vI v1), (0, vR 0), (1, vI a), (2, vI b), (3, vI c)]) (st' := [vI (-1), vR 0]) B101_27_29 rfl ?_
    refine r_vI (c := 0) (args := [vI (-1)]) (rest := []) (pc' := 32) D101_29 rfl ck_10_virtual_106 TE133 rfl (Nat.le_of_ble_eq_true rfl) ⟨Nat.le_of_ble_eq_true rfl, Nat.le_of_ble_eq_true rfl⟩ sc_0 ⟨rfl, by decide⟩ H3.1 (dp_0 hd rfl) (k133 E (dp_n hd rfl) H3 (-1) (by omega)) ?_
    intro v17 M18 q22
    obtain ⟨H19, f20, q21⟩ := q22
    have f23 := f9.tr (f20.up rfl)
    have kfr : Fr [(0, 4), (0, 6)] M M18 := (kt.up rfl).tr (f20.up rfl)
    have g24 : gi M18 0 9 = gi M 0 9 := (f20.g rfl).trans ((f4.g rfl).trans (rfl))
    have g25 : gi M18 0 3 = 0 := (f20.g rfl).trans (q7)
    exact r_iretI D101_32 rfl (⟨H19, f23, by omega, by first | (rw [g24]; omega) | rw [g24], by first | (rw [g25]; omega) | rw [g25], Or.inl ⟨fun h => by unfold AB at h; omega, by omega, kfr⟩⟩)
  · refine s_blx (lv' := [(4, vI v1), (0, vR 0), (1, vI a), (2, vI b), (3, vI c)]) (st' := [vI b]) B101_13_14 rfl ?_
    refine r_sIp (args := [vI b]) (rest := []) (pc' := 17) D101_14 rfl ck_10_static_153 TE144 rfl (Nat.le_of_ble_eq_true rfl) ⟨Nat.le_of_ble_eq_true rfl, Nat.le_of_ble_eq_true rfl⟩ (by decide) (dp_0 hd rfl) (k144n E (dp_n hd rfl) H3 b (by omega)) ?_
    intro v26 q31
    obtain ⟨q28, q29, q30⟩ := q31
    refine r_ifc (tgt := 27) (pc' := 20) D101_17 rfl rfl (by unfold inR; omega) (fun (c32 : v26 = 0) => ?_) (fun (c32 : ¬ (v26 = 0)) => ?_)
    · refine s_blx (lv' := [(4, vI v1), (0, vR 0), (1, vI a), (2, vI b), (3, vI c)]) (st' := [vI (-1), vR 0]) B101_27_29 rfl ?_
      refine r_vI (c := 0) (args := [vI (-1)]) (rest := []) (pc' := 32) D101_29 rfl ck_10_virtual_106 TE133 rfl (Nat.le_of_ble_eq_true rfl) ⟨Nat.le_of_ble_eq_true rfl, Nat.le_of_ble_eq_true rfl⟩ sc_0 ⟨rfl, by decide⟩ H3.1 (dp_0 hd rfl) (k133 E (dp_n hd rfl) H3 (-1) (by omega)) ?_
      intro v33 M34 q38
      obtain ⟨H35, f36, q37⟩ := q38
      have f39 := f9.tr (f36.up rfl)
      have kfr : Fr [(0, 4), (0, 6)] M M34 := (kt.up rfl).tr (f36.up rfl)
      have g40 : gi M34 0 9 = gi M 0 9 := (f36.g rfl).trans ((f4.g rfl).trans (rfl))
      have g41 : gi M34 0 3 = 0 := (f36.g rfl).trans (q7)
      exact r_iretI D101_32 rfl (⟨H35, f39, by omega, by first | (rw [g40]; omega) | rw [g40], by first | (rw [g41]; omega) | rw [g41], Or.inl ⟨fun h => by unfold AB at h; omega, by omega, kfr⟩⟩)
    · refine s_blx (lv' := [(4, vI v1), (0, vR 0), (1, vI a), (2, vI b), (3, vI c)]) (st' := [vI c]) B101_20_21 rfl ?_
      refine r_sIp (args := [vI c]) (rest := []) (pc' := 24) D101_21 rfl ck_10_static_153 TE144 rfl (Nat.le_of_ble_eq_true rfl) ⟨Nat.le_of_ble_eq_true rfl, Nat.le_of_ble_eq_true rfl⟩ (by decide) (dp_0 hd rfl) (k144n E (dp_n hd rfl) H3 c (by omega)) ?_
      intro v42 q47
      obtain ⟨q44, q45, q46⟩ := q47
      refine r_ifc (tgt := 33) (pc' := 27) D101_24 rfl rfl (by unfold inR; omega) (fun (c48 : v42 ≠ 0) => ?_) (fun (c48 : ¬ (v42 ≠ 0)) => ?_)
      · refine s_blx (lv' := [(4, vI v1), (0, vR 0), (1, vI a), (2, vI b), (3, vI c)]) (st' := [vI v1, vR 0]) B101_33_36 rfl ?_
        refine r_vIp (c := 0) (args := [vI v1]) (rest := []) (pc' := 39) D101_36 rfl ck_10_virtual_156 TE137 rfl (Nat.le_of_ble_eq_true rfl) ⟨Nat.le_of_ble_eq_true rfl, Nat.le_of_ble_eq_true rfl⟩ sc_0 ⟨rfl, by decide⟩ H3.1 (dp_0 hd rfl) (k137n E (dp_n hd rfl) H3 v1 (by omega)) ?_
        intro v49 q55
        obtain ⟨q51, q52, q53, q54⟩ := q55
        have ktc := q53; clear q53
        have krw := q54; clear q54
        refine r_ifc (tgt := 49) (pc' := 42) D101_39 rfl rfl (by unfold inR; omega) (fun (c56 : v49 ≠ 0) => ?_) (fun (c56 : ¬ (v49 ≠ 0)) => ?_)
        · refine s_blx (lv' := [(4, vI v1), (0, vR 0), (1, vI a), (2, vI b), (3, vI c)]) (st' := [vR 0]) B101_49_50 rfl ?_
          refine r_gfix (r := 1) (pc' := 53) D101_50 rfl gf_10_10_0 H3.1 ?_
          refine s_blx (lv' := [(4, vI v1), (0, vR 0), (1, vI a), (2, vI b), (3, vI c)]) (st' := [vR 0, vR 1]) B101_53_54 rfl ?_
          refine r_gfix (r := 13) (pc' := 57) D101_54 rfl gf_10_20_0 H3.1 ?_
          refine s_blx (lv' := [(4, vI v1), (0, vR 0), (1, vI a), (2, vI b), (3, vI c)]) (st' := [vI v1, vR 13, vR 1]) B101_57_59 rfl ?_
          refine r_vIp (c := 1) (args := [vR 13, vI v1]) (rest := []) (pc' := 62) D101_59 rfl ck_10_virtual_159 TE64 rfl (Nat.le_of_ble_eq_true rfl) ⟨Nat.le_of_ble_eq_true rfl, Nat.le_of_ble_eq_true rfl⟩ sc_1 ⟨rfl, by decide⟩ H3.1 (dp_0 hd rfl) (k64_1_13n E (dp_n hd rfl) H3 v1 (by omega)) ?_
          intro v57 q62
          obtain ⟨q59, q60, q61⟩ := q62
          have khr := q60; clear q60
          have knr := q61; clear q61
          refine r_ifc (tgt := 72) (pc' := 65) D101_62 rfl rfl (by unfold inR; omega) (fun (c63 : v57 = 0) => ?_) (fun (c63 : ¬ (v57 = 0)) => ?_)
          · refine s_blx (lv' := [(4, vI v1), (0, vR 0), (1, vI a), (2, vI b), (3, vI c)]) (st' := [vR 0]) B101_72_73 rfl ?_
            refine r_gfix (r := 1) (pc' := 76) D101_73 rfl gf_10_10_0 H3.1 ?_
            refine r_gint (ki := 10) (pc' := 79) D101_76 rfl gf_10_163_1 rfl H3.1 ?_
            intro w64 e65 r66
            have b_w64 := H3.2 1 (10) 0 16 rfl
            rw [← e65] at b_w64; clear r66
            have kct : w64 = gi M 1 10 := e65.trans (fr04 kt (by decide) 10)
            refine s_blx (lv' := [(4, vI v1), (0, vR 0), (1, vI a), (2, vI b), (3, vI c)]) (st' := [vI 16, vI w64]) B101_79_81 rfl ?_
            refine r_icmp (tgt := 91) (pc' := 84) D101_81 rfl rfl (by unfold inR; omega) (fun (c67 : w64 < 16) => ?_) (fun (c67 : ¬ (w64 < 16)) => ?_)
            · refine s_blx (lv' := [(4, vI v1), (0, vR 0), (1, vI a), (2, vI b), (3, vI c)]) (st' := [vR 0]) B101_91_92 rfl ?_
              refine r_gfix (r := 1) (pc' := 95) D101_92 rfl gf_10_10_0 H3.1 ?_
              refine s_blx (lv' := [(4, vI v1), (0, vR 0), (1, vI a), (2, vI b), (3, vI c)]) (st' := [vR 0, vR 1]) B101_95_96 rfl ?_
              refine r_gfix (r := 13) (pc' := 99) D101_96 rfl gf_10_20_0 H3.1 ?_
              refine s_blx (lv' := [(4, vI v1), (0, vR 0), (1, vI a), (2, vI b), (3, vI c)]) (st' := [vI v1, vR 13, vR 1]) B101_99_101 rfl ?_
              have g68 : gi M2 1 10 = w64 := e65.symm
              refine r_vI (c := 1) (args := [vR 13, vI v1]) (rest := []) (pc' := 104) D101_101 rfl ck_10_virtual_166 TE60 rfl (Nat.le_of_ble_eq_true rfl) ⟨Nat.le_of_ble_eq_true rfl, Nat.le_of_ble_eq_true rfl⟩ sc_1 ⟨rfl, by decide⟩ H3.1 (dp_0 hd rfl) (k60_1_13n E (dp_n hd rfl) H3 v1 (ktc (by omega)) (by omega) (by omega)) ?_
              intro v69 M70 q79
              obtain ⟨H71, f72, q73, q74, q75, q76, q77, q78⟩ := q79
              have f80 := f9.tr (f72.up rfl)
              obtain ⟨t81, ht82⟩ : ∃ q, q = gi M70 1 10 := ⟨_, rfl⟩
              have b_t81 := H71.2 1 10 0 16 rfl
              rw [← ht82] at b_t81
              rw [← ht82] at q75
              have r1 := q74; clear q74
              have r2 := ((ht82.symm)).trans q75
              have r3 := q76; clear q76
              have r4 := q77; clear q77
              have r5 := q78; clear q78
              have rf3 := f72
              refine s_blx (lv' := [(5, vI v69), (4, vI v1), (0, vR 0), (1, vI a), (2, vI b), (3, vI c)]) (st' := [vR 0]) B101_104_107 rfl ?_
              refine r_gfix (r := 1) (pc' := 110) D101_107 rfl gf_10_10_0 H71.1 ?_
              refine s_blx (lv' := [(5, vI v69), (4, vI v1), (0, vR 0), (1, vI a), (2, vI b), (3, vI c)]) (st' := [vI c, vI b, vI a, vI v69, vR 1]) B101_110_115 rfl ?_
              refine r_vV (c := 1) (args := [vI v69, vI a, vI b, vI c]) (rest := []) (pc' := 118) D101_115 rfl ck_10_virtual_170 TE61 rfl (Nat.le_of_ble_eq_true rfl) ⟨Nat.le_of_ble_eq_true rfl, Nat.le_of_ble_eq_true rfl⟩ sc_1 ⟨rfl, by decide⟩ H71.1 (dp_0 hd rfl) (k61_1n E (dp_n hd rfl) H71 v69 a b c (by omega) (by omega) (by omega) (by omega)) ?_
              intro M84 q88
              obtain ⟨H85, f86, q87⟩ := q88
              have f89 := f80.tr (f86.up rfl)
              have r7 := q87; clear q87
              have rf4 := f86
              refine s_blx (lv' := [(5, vI v69), (4, vI v1), (0, vR 0), (1, vI a), (2, vI b), (3, vI c)]) (st' := [vI v69, vR 0]) B101_118_121 rfl ?_
              refine r_vI (c := 0) (args := [vI v69]) (rest := []) (pc' := 124) D101_121 rfl ck_10_virtual_123 TE134 rfl (Nat.le_of_ble_eq_true rfl) ⟨Nat.le_of_ble_eq_true rfl, Nat.le_of_ble_eq_true rfl⟩ sc_0 ⟨rfl, by decide⟩ H85.1 (dp_0 hd rfl) (k134s E (dp_n hd rfl) H85 v69 (by omega)) ?_
              intro v90 M91 q96
              obtain ⟨H92, f93, q94, q95⟩ := q96
              have f97 := f89.tr (f93.up rfl)
              have rf5 := f93
              have g98 : gi M91 0 9 = 1 := q95
              have g99 : gi M91 0 3 = 0 := (f93.g rfl).trans ((f86.g rfl).trans ((f72.g rfl).trans (q7)))
              exact r_iretI D101_124 rfl (⟨H92, f97, by omega, by first | (rw [g98]; omega) | rw [g98], by first | (rw [g99]; omega) | rw [g99], Or.inr (Or.inr (Or.inr (Or.inr ⟨(by unfold AB; omega), ⟨by omega, by omega, (by rw [← kv]; exact (ktc (by omega)).of (fun j => (fr04 kt (by decide) j).symm))⟩, (fun h => knr (by omega) (by rw [kv]; exact h.of (fun c i hc => fr04 kt hc i))), by omega, by omega, SAd.make kt kv rf3 rfl r1 r2 r3 r4 r5 rf4 r7 rf5⟩)))⟩)
            · refine s_blx (lv' := [(4, vI v1), (0, vR 0), (1, vI a), (2, vI b), (3, vI c)]) (st' := [vI (-5), vR 0]) B101_84_87 rfl ?_
              refine r_vI (c := 0) (args := [vI (-5)]) (rest := []) (pc' := 90) D101_87 rfl ck_10_virtual_106 TE133 rfl (Nat.le_of_ble_eq_true rfl) ⟨Nat.le_of_ble_eq_true rfl, Nat.le_of_ble_eq_true rfl⟩ sc_0 ⟨rfl, by decide⟩ H3.1 (dp_0 hd rfl) (k133 E (dp_n hd rfl) H3 (-5) (by omega)) ?_
              intro v100 M101 q105
              obtain ⟨H102, f103, q104⟩ := q105
              have f106 := f9.tr (f103.up rfl)
              have kfr : Fr [(0, 4), (0, 6)] M M101 := (kt.up rfl).tr (f103.up rfl)
              have g107 : gi M101 0 9 = gi M 0 9 := (f103.g rfl).trans ((f4.g rfl).trans (rfl))
              have g108 : gi M101 0 3 = 0 := (f103.g rfl).trans (q7)
              exact r_iretI D101_90 rfl (⟨H102, f106, by omega, by first | (rw [g107]; omega) | rw [g107], by first | (rw [g108]; omega) | rw [g108], Or.inr (Or.inr (Or.inr (Or.inl ⟨(by unfold AB; omega), ⟨by omega, by omega, (by rw [← kv]; exact (ktc (by omega)).of (fun j => (fr04 kt (by decide) j).symm))⟩, (fun h => knr (by omega) (by rw [kv]; exact h.of (fun c i hc => fr04 kt hc i))), by omega, by omega, kfr⟩)))⟩)
          · refine s_blx (lv' := [(4, vI v1), (0, vR 0), (1, vI a), (2, vI b), (3, vI c)]) (st' := [vI (-4), vR 0]) B101_65_68 rfl ?_
            refine r_vI (c := 0) (args := [vI (-4)]) (rest := []) (pc' := 71) D101_68 rfl ck_10_virtual_106 TE133 rfl (Nat.le_of_ble_eq_true rfl) ⟨Nat.le_of_ble_eq_true rfl, Nat.le_of_ble_eq_true rfl⟩ sc_0 ⟨rfl, by decide⟩ H3.1 (dp_0 hd rfl) (k133 E (dp_n hd rfl) H3 (-4) (by omega)) ?_
            intro v109 M110 q114
            obtain ⟨H111, f112, q113⟩ := q114
            have f115 := f9.tr (f112.up rfl)
            have kfr : Fr [(0, 4), (0, 6)] M M110 := (kt.up rfl).tr (f112.up rfl)
            have g116 : gi M110 0 9 = gi M 0 9 := (f112.g rfl).trans ((f4.g rfl).trans (rfl))
            have g117 : gi M110 0 3 = 0 := (f112.g rfl).trans (q7)
            exact r_iretI D101_71 rfl (⟨H111, f115, by omega, by first | (rw [g116]; omega) | rw [g116], by first | (rw [g117]; omega) | rw [g117], Or.inr (Or.inr (Or.inl ⟨(by unfold AB; omega), ⟨by omega, by omega, (by rw [← kv]; exact (ktc (by omega)).of (fun j => (fr04 kt (by decide) j).symm))⟩, (by rw [← kv]; exact (khr (by omega)).of (fun c i h => (fr04 kt h i).symm)), by omega, kfr⟩))⟩)
        · refine s_blx (lv' := [(4, vI v1), (0, vR 0), (1, vI a), (2, vI b), (3, vI c)]) (st' := [vI (-6), vR 0]) B101_42_45 rfl ?_
          refine r_vI (c := 0) (args := [vI (-6)]) (rest := []) (pc' := 48) D101_45 rfl ck_10_virtual_106 TE133 rfl (Nat.le_of_ble_eq_true rfl) ⟨Nat.le_of_ble_eq_true rfl, Nat.le_of_ble_eq_true rfl⟩ sc_0 ⟨rfl, by decide⟩ H3.1 (dp_0 hd rfl) (k133 E (dp_n hd rfl) H3 (-6) (by omega)) ?_
          intro v118 M119 q123
          obtain ⟨H120, f121, q122⟩ := q123
          have f124 := f9.tr (f121.up rfl)
          have kfr : Fr [(0, 4), (0, 6)] M M119 := (kt.up rfl).tr (f121.up rfl)
          have g125 : gi M119 0 9 = gi M 0 9 := (f121.g rfl).trans ((f4.g rfl).trans (rfl))
          have g126 : gi M119 0 3 = 0 := (f121.g rfl).trans (q7)
          exact r_iretI D101_48 rfl (⟨H120, f124, by omega, by first | (rw [g125]; omega) | rw [g125], by first | (rw [g126]; omega) | rw [g126], Or.inr (Or.inl ⟨(by unfold AB; omega), fun h => krw (by omega) ⟨by have q := h.1; omega, by have q := h.2.1; omega, by rw [kv]; exact h.2.2.of (fun j => fr04 kt (by decide) j)⟩, by omega, kfr⟩)⟩)
      · refine s_blx (lv' := [(4, vI v1), (0, vR 0), (1, vI a), (2, vI b), (3, vI c)]) (st' := [vI (-1), vR 0]) B101_27_29 rfl ?_
        refine r_vI (c := 0) (args := [vI (-1)]) (rest := []) (pc' := 32) D101_29 rfl ck_10_virtual_106 TE133 rfl (Nat.le_of_ble_eq_true rfl) ⟨Nat.le_of_ble_eq_true rfl, Nat.le_of_ble_eq_true rfl⟩ sc_0 ⟨rfl, by decide⟩ H3.1 (dp_0 hd rfl) (k133 E (dp_n hd rfl) H3 (-1) (by omega)) ?_
        intro v127 M128 q132
        obtain ⟨H129, f130, q131⟩ := q132
        have f133 := f9.tr (f130.up rfl)
        have kfr : Fr [(0, 4), (0, 6)] M M128 := (kt.up rfl).tr (f130.up rfl)
        have g134 : gi M128 0 9 = gi M 0 9 := (f130.g rfl).trans ((f4.g rfl).trans (rfl))
        have g135 : gi M128 0 3 = 0 := (f130.g rfl).trans (q7)
        exact r_iretI D101_32 rfl (⟨H129, f133, by omega, by first | (rw [g134]; omega) | rw [g134], by first | (rw [g135]; omega) | rw [g135], Or.inl ⟨fun h => by unfold AB at h; omega, by omega, kfr⟩⟩)
set_option maxRecDepth 4000 in
theorem k103n {base : Nat} {X : Nat → Option mC} {G : Nat → Value} (E : EnvOK base X G) {d : Nat} (hd : 2 ≤ d) {M : mH} (H : HI base M) (sentence : Int) (i : Int) (h0 : -2147483648 ≤ sentence ∧ sentence ≤ 2147483647) (h1 : -2147483648 ≤ i ∧ i ≤ 2147483647) : sOk base X G d T103 [vR 0, vI sentence, vI i] M (pI (fun v M' => M' = M ∧ (-2147483648 ≤ v ∧ v ≤ 2147483647) ∧ (0 ≤ sentence ∧ sentence < gi M 1 10 ∧ i = -1 → v = gi M 6 sentence) ∧ (0 ≤ sentence ∧ sentence < gi M 1 10 ∧ 0 ≤ i ∧ i < gi M 6 sentence → v = gi M 5 (sentence * 8 + i)) ∧ ((sentence < 0 ∨ gi M 1 10 ≤ sentence ∨ i < -1 ∨ gi M 6 sentence ≤ i) → v = -1))) := by
  refine sOk.of (show sRn base X G d T103 0 [(0, vR 0), (1, vI sentence), (2, vI i)] [] M _ from ?_)
  refine s_blx (lv' := [(0, vR 0), (1, vI sentence), (2, vI i)]) (st' := [vR 0]) B103_0_1 rfl ?_
  refine r_gfix (r := 1) (pc' := 4) D103_1 rfl gf_10_10_0 H.1 ?_
  refine s_blx (lv' := [(0, vR 0), (1, vI sentence), (2, vI i)]) (st' := [vI sentence, vR 1]) B103_4_5 rfl ?_
  refine r_vIp (c := 1) (args := [vI sentence]) (rest := []) (pc' := 8) D103_5 rfl ck_10_virtual_174 TE65 rfl (Nat.le_of_ble_eq_true rfl) ⟨Nat.le_of_ble_eq_true rfl, Nat.le_of_ble_eq_true rfl⟩ sc_1 ⟨rfl, by decide⟩ H.1 (dp_0 hd rfl) (k65_1n E (dp_n hd rfl) H sentence (by omega)) ?_
  intro v1 q6
  obtain ⟨q3, q4, q5⟩ := q6
  refine r_ifc (tgt := 13) (pc' := 11) D103_8 rfl rfl (by unfold inR; omega) (fun (c7 : v1 ≠ 0) => ?_) (fun (c7 : ¬ (v1 ≠ 0)) => ?_)
  · refine s_blx (lv' := [(0, vR 0), (1, vI sentence), (2, vI i)]) (st' := [vR 0]) B103_13_14 rfl ?_
    refine r_gfix (r := 1) (pc' := 17) D103_14 rfl gf_10_10_0 H.1 ?_
    refine r_gfix (r := 6) (pc' := 20) D103_17 rfl gf_10_180_1 H.1 ?_
    refine s_blx (lv' := [(0, vR 0), (1, vI sentence), (2, vI i)]) (st' := [vI sentence, vR 6]) B103_20_21 rfl ?_
    refine r_iald (pc' := 22) D103_21 rfl sc_6 H.1 (by omega) ?_
    intro w8 e9 r10
    have b_w8 := H.2 6 (sentence) 0 8 rfl
    rw [← e9] at b_w8; clear r10
    refine s_blx (lv' := [(3, vI w8), (0, vR 0), (1, vI sentence), (2, vI i)]) (st' := [vI (-1), vI i]) B103_22_25 rfl ?_
    refine r_icmp (tgt := 30) (pc' := 28) D103_25 rfl rfl (by unfold inR; omega) (fun (c11 : i ≠ (-1)) => ?_) (fun (c11 : ¬ (i ≠ (-1))) => ?_)
    · refine s_blx (lv' := [(3, vI w8), (0, vR 0), (1, vI sentence), (2, vI i)]) (st' := [vI (w8 - 1), vI 0, vI i]) B103_30_35 rfl ?_
      refine r_sIp (args := [vI i, vI 0, vI (w8 - 1)]) (rest := []) (pc' := 38) D103_35 rfl ck_10_static_102 TE142 rfl (Nat.le_of_ble_eq_true rfl) ⟨Nat.le_of_ble_eq_true rfl, Nat.le_of_ble_eq_true rfl⟩ (by decide) (dp_0 hd rfl) (k142 E (dp_n hd rfl) H i 0 (w8 - 1) (by omega) (by omega) (by omega)) ?_
      intro v12 q17
      obtain ⟨q14, q15, q16⟩ := q17
      refine r_ifc (tgt := 58) (pc' := 41) D103_38 rfl rfl (by unfold inR; omega) (fun (c18 : v12 = 0) => ?_) (fun (c18 : ¬ (v12 = 0)) => ?_)
      · refine s_blx (lv' := [(3, vI w8), (0, vR 0), (1, vI sentence), (2, vI i)]) (st' := [vI (-1)]) B103_58_59 rfl ?_
        exact r_iretI D103_59 rfl (⟨rfl, by omega, by omega, by omega, by omega⟩)
      · refine s_blx (lv' := [(3, vI w8), (0, vR 0), (1, vI sentence), (2, vI i)]) (st' := [vR 0]) B103_41_42 rfl ?_
        refine r_gfix (r := 1) (pc' := 45) D103_42 rfl gf_10_10_0 H.1 ?_
        refine r_gfix (r := 5) (pc' := 48) D103_45 rfl gf_10_183_1 H.1 ?_
        refine s_blx (lv' := [(3, vI w8), (0, vR 0), (1, vI sentence), (2, vI i)]) (st' := [vI ((sentence * 8) + i), vR 5]) B103_48_54 rfl ?_
        refine r_iald (pc' := 55) D103_54 rfl sc_5 H.1 (by omega) ?_
        intro w19 e20 r21
        have b_w19 := H.2 5 ((sentence * 8) + i) 0 29 rfl
        rw [← e20] at b_w19; clear r21
        refine r_goto (tgt := 59) D103_55 rfl ?_
        exact r_iretI D103_59 rfl (⟨rfl, by omega, by omega, by omega, by omega⟩)
    · refine s_blx (lv' := [(3, vI w8), (0, vR 0), (1, vI sentence), (2, vI i)]) (st' := [vI w8]) B103_28_29 rfl ?_
      exact r_iretI D103_29 rfl (⟨rfl, by omega, by omega, by omega, by omega⟩)
  · refine s_blx (lv' := [(0, vR 0), (1, vI sentence), (2, vI i)]) (st' := [vI (-1)]) B103_11_12 rfl ?_
    exact r_iretI D103_12 rfl (⟨rfl, by omega, by omega, by omega, by omega⟩)
