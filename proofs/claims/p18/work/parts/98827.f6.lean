/-! How both sides change their state. -/
noncomputable def fdS (s : Int) : Int := if s ≤ 380 then s + 20 else s
noncomputable def fdV (s : Int) : Int := if s ≤ 380 then s + 20 else -1
noncomputable def fdT (T : Int → Int) (s a b c d e : Int) : Int → Int := if s ≤ 380 then fdN T s a b c d e 20 else T
noncomputable def enS (s n : Int) : Int := if 0 ≤ n ∧ n ≤ s then n else s
noncomputable def enV (s n : Int) : Int := if 0 ≤ n ∧ n ≤ s then n else -1
noncomputable def imA (i k a : Int) : Int := if k = i then 1 else a
noncomputable def imV (k : Int) : Int := if 0 ≤ k ∧ k ≤ 1 then 0 else -1
noncomputable def bkV (k a0 a1 : Int) : Int := if k = 0 then (if a0 = 0 then -2 else 0) else if k = 1 then (if a1 = 0 then -2 else 0) else -1
noncomputable def imF (i k : Int) (N I : Int → Int) : Int → Int := if k = i then N else I
noncomputable def bkN (k a0 a1 : Int) (I0 I1 N : Int → Int) : Int → Int := if k = 0 then (if a0 = 1 then I0 else N) else if k = 1 then (if a1 = 1 then I1 else N) else N
noncomputable def stV (p : Prop) [Decidable p] (N : Int → Int) (i : Int) : Int := if p then N i else -1
noncomputable def stN (p : Prop) [Decidable p] (N : Int → Int) (i x : Int) : Int → Int := if p then updN N i x else N
noncomputable def ctV (p : Prop) [Decidable p] (N : Int → Int) (i lim : Int) : Int := if p then (if N i < lim then N i else -5) else -1
noncomputable def up4 (N : Int → Int) (b i x y z : Int) : Int → Int := updN (updN (updN (updN N (b + 3 * N i) x) (b + 3 * N i + 1) y) (b + 3 * N i + 2) z) i (N i + 1)
noncomputable def ctN (p : Prop) [Decidable p] (N : Int → Int) (b i lim x y z : Int) : Int → Int := if p then (if N i < lim then up4 N b i x y z else N) else N
theorem stN_pos {p : Prop} [Decidable p] {N : Int → Int} {i x : Int} (h : p) : stN p N i x = updN N i x := if_pos h
theorem stN_neg {p : Prop} [Decidable p] {N : Int → Int} {i x : Int} (h : ¬ p) : stN p N i x = N := if_neg h
theorem stV_pos {p : Prop} [Decidable p] {N : Int → Int} {i : Int} (h : p) : stV p N i = N i := if_pos h
theorem stV_neg {p : Prop} [Decidable p] {N : Int → Int} {i : Int} (h : ¬ p) : stV p N i = -1 := if_neg h
theorem imV.of {k v : Int} (h1 : 0 ≤ k ∧ k ≤ 1 → v = 0) (h2 : k < 0 ∨ 1 < k → v = -1) : v = imV k := by
  unfold imV
  split
  · next e => exact h1 e
  · exact h2 (by omega)
noncomputable def RWn (T : Int → Int) (len : Int) : Prop := 1 ≤ len ∧ len ≤ 8 ∧ ∀ i : Int, 0 ≤ i → i < len → T i ≤ 29
noncomputable def HRn (N T : Int → Int) (len : Int) : Prop := ∃ k : Int, 0 ≤ k ∧ k < N 469 ∧ N (135 + 16 * k) = len ∧ ∀ i : Int, 0 ≤ i → i < len → N (136 + 16 * k + i) = T i
noncomputable def seV (T N : Int → Int) (s a b c : Int) : Int := by classical exact if ¬ AB a b c then -1 else if ¬ RWn T s then -6 else if HRn N T s then -4 else if 16 ≤ N 469 then -5 else N 469
noncomputable def seN (T N : Int → Int) (s a b c : Int) : Int → Int := by classical exact if AB a b c ∧ RWn T s ∧ ¬ HRn N T s ∧ N 469 < 16 then seR N T s a b c else N
section
variable {T N : Int → Int} {s a b c : Int}
theorem se1 (h : ¬ AB a b c) : seV T N s a b c = -1 ∧ seN T N s a b c = N := ⟨by unfold seV; rw [if_pos h], by unfold seN; rw [if_neg (fun q => h q.1)]⟩
theorem se2 (h : AB a b c) (h2 : ¬ RWn T s) : seV T N s a b c = -6 ∧ seN T N s a b c = N := ⟨by unfold seV; rw [if_neg (fun q => q h), if_pos h2], by unfold seN; rw [if_neg (fun q => h2 q.2.1)]⟩
theorem se3 (h : AB a b c) (h2 : RWn T s) (h3 : HRn N T s) : seV T N s a b c = -4 ∧ seN T N s a b c = N := ⟨by unfold seV; rw [if_neg (fun q => q h), if_neg (fun q => q h2), if_pos h3], by unfold seN; rw [if_neg (fun q => q.2.2.1 h3)]⟩
theorem se4 (h : AB a b c) (h2 : RWn T s) (h3 : ¬ HRn N T s) (h4 : 16 ≤ N 469) : seV T N s a b c = -5 ∧ seN T N s a b c = N := ⟨by unfold seV; rw [if_neg (fun q => q h), if_neg (fun q => q h2), if_neg h3, if_pos h4], by unfold seN; rw [if_neg (fun q => by have := q.2.2.2; omega)]⟩
theorem se5 (h : AB a b c) (h2 : RWn T s) (h3 : ¬ HRn N T s) (h4 : N 469 ≤ 15) : seV T N s a b c = N 469 ∧ seN T N s a b c = seR N T s a b c := ⟨by unfold seV; rw [if_neg (fun q => q h), if_neg (fun q => q h2), if_neg h3, if_neg (by omega)], by unfold seN; rw [if_pos ⟨h, h2, h3, by omega⟩]⟩
end
section
variable {K T : Int → Int} {len a b c j : Int}
theorem seR_out (hj : j < 135 + 16 * K 469 ∨ 151 + 16 * K 469 ≤ j) (h : j ≠ 469) : seR K T len a b c j = K j := by
  unfold seR seQ seP
  rw [if_neg h, if_neg (by omega), if_neg (by omega), if_neg (by omega), if_neg (by omega), if_neg (by omega), if_neg (by omega)]
theorem seR_469 : seR K T len a b c 469 = K 469 + 1 := by unfold seR; rw [if_pos rfl]
theorem seR_l (h : j = 135 + 16 * K 469) (hb : 0 ≤ K 469 ∧ K 469 ≤ 15) : seR K T len a b c j = len := by
  unfold seR seQ seP
  rw [if_neg (by omega), if_neg (by omega), if_neg (by omega), if_neg (by omega), if_neg (by omega), if_pos h]
theorem seR_r {i : Int} (h : j = 136 + 16 * K 469 + i) (hi : 0 ≤ i ∧ i < 8) (hb : 0 ≤ K 469 ∧ K 469 ≤ 15) : seR K T len a b c j = if i < len then T i else 0 := by
  unfold seR seQ seP
  rw [if_neg (by omega), if_neg (by omega), if_neg (by omega), if_neg (by omega), if_neg (by omega), if_neg (by omega), if_pos (by omega), show j - (136 + 16 * K 469) = i by omega]
theorem seR_v {i : Int} (h : j = 144 + 16 * K 469 + i) (hi : 0 ≤ i ∧ i < 3) (hb : 0 ≤ K 469 ∧ K 469 ≤ 15) : seR K T len a b c j = if i = 0 then a else if i = 1 then b else c := by
  unfold seR seQ
  rw [if_neg (by omega)]
  by_cases h0 : i = 0
  · rw [if_pos (by omega), if_pos h0]
  rw [if_neg (by omega), if_neg h0]
  by_cases h1 : i = 1
  · rw [if_pos (by omega), if_pos h1]
  rw [if_neg (by omega), if_neg h1, if_pos (by omega)]
theorem seR_g {i : Int} (h : j = 147 + 16 * K 469 + i) (hi : 0 ≤ i ∧ i < 4) (hb : 0 ≤ K 469 ∧ K 469 ≤ 15) : seR K T len a b c j = 1 := by
  unfold seR seQ
  rw [if_neg (by omega), if_neg (by omega), if_neg (by omega), if_neg (by omega), if_pos (by omega)]
theorem ZN.seR (h : ZN K) (hb : 0 ≤ K 469 ∧ K 469 ≤ 15) : ZN (seR K T len a b c) := by
  intro j p q r
  rw [seR_469] at q
  rw [seR_out (by omega) (by omega)]
  exact h j p (by omega) r
theorem seR_cong {K' T' : Int → Int} (h1 : K 469 = K' 469) (h2 : K j = K' j) (hT : ∀ i : Int, 0 ≤ i → i < len → T i = T' i) : seR K T len a b c j = seR K' T' len a b c j := by
  unfold seR seQ seP
  rw [h1, h2]
  by_cases q : 136 + 16 * K' 469 ≤ j ∧ j - (136 + 16 * K' 469) < len
  · rw [hT (j - (136 + 16 * K' 469)) (by omega) q.2]
  · have e : (if 136 + 16 * K' 469 ≤ j ∧ j < 136 + 16 * K' 469 + 8 then (if j - (136 + 16 * K' 469) < len then T (j - (136 + 16 * K' 469)) else 0) else K' j) = (if 136 + 16 * K' 469 ≤ j ∧ j < 136 + 16 * K' 469 + 8 then (if j - (136 + 16 * K' 469) < len then T' (j - (136 + 16 * K' 469)) else 0) else K' j) := by
      by_cases q1 : 136 + 16 * K' 469 ≤ j ∧ j < 136 + 16 * K' 469 + 8
      · rw [if_pos q1, if_pos q1, if_neg (by omega), if_neg (by omega)]
      · rw [if_neg q1, if_neg q1]
    rw [e]
end
section
variable {base : Nat} {s s' a0 a1 : Int} {T T' N N' I0 I1 : Int → Int} {M M' M1 : mH} {L : List (Nat × Nat)}
theorem CSx.n (h : CSx base s T N a0 I0 a1 I1 M) : gi M 1 10 = N 469 := by
  have q := h.2.2.1 469 (by unfold dAs; omega)
  rw [cS_at slA_469] at q
  exact q
theorem CSx.nl (h : CSx base s T N a0 I0 a1 I1 M) {k : Int} (hk : 0 ≤ k ∧ k < 16) : gi M 6 k = N (135 + 16 * k) := by
  have q := h.2.2.1 (135 + 16 * k) (by unfold dAs; omega)
  rw [cS_at (slA_l hk)] at q
  exact q
theorem CSx.nr (h : CSx base s T N a0 I0 a1 I1 M) {k i : Int} (hk : 0 ≤ k ∧ k < 16) (hi : 0 ≤ i ∧ i < 8) : gi M 5 (8 * k + i) = N (136 + 16 * k + i) := by
  have q := h.2.2.1 (136 + 16 * k + i) (by unfold dAs; omega)
  rw [cS_at (slA_r hk hi)] at q
  exact q
theorem CSx.nv (h : CSx base s T N a0 I0 a1 I1 M) {k i : Int} (hk : 0 ≤ k ∧ k < 16) (hi : 0 ≤ i ∧ i < 3) : gi M 7 (3 * k + i) = N (144 + 16 * k + i) := by
  have q := h.2.2.1 (144 + 16 * k + i) (by unfold dAs; omega)
  rw [cS_at (slA_v hk hi)] at q
  exact q
theorem CSx.ng (h : CSx base s T N a0 I0 a1 I1 M) {k i : Int} (hk : 0 ≤ k ∧ k < 16) (hi : 0 ≤ i ∧ i < 4) : gi M 8 (4 * k + i) = N (147 + 16 * k + i) := by
  have q := h.2.2.1 (147 + 16 * k + i) (by unfold dAs; omega)
  rw [cS_at (slA_g hk hi)] at q
  exact q
theorem CSx.zn (h : CSx base s T N a0 I0 a1 I1 M) : ZN N := h.2.2.2.2.2.2.1
theorem RWok.iff (h : CSx base s T N a0 I0 a1 I1 M) : RWok (gi M 0 3) M ↔ RWn T s := by
  rw [h.1]
  unfold RWok RWn TC
  refine ⟨fun q => ⟨q.1, q.2.1, fun i a b => ?_⟩, fun q => ⟨q.1, q.2.1, fun i a b => ?_⟩⟩
  · rw [← h.2.1 i a (by have := q.2.1; omega)]; exact q.2.2 i a b
  · rw [h.2.1 i a (by have := q.2.1; omega)]; exact q.2.2 i a b
theorem HR.iff (h : CSx base s T N a0 I0 a1 I1 M) (hs : s ≤ 8) (hb : gi M 1 10 ≤ 16) : HR (gi M 0 3) M ↔ HRn N T s := by
  rw [h.1]
  rw [h.n] at hb
  refine ⟨fun ⟨k, a, b, c, d⟩ => ⟨k, a, by rw [← h.n]; exact b, ?_, fun i x y => ?_⟩, fun ⟨k, a, b, c, d⟩ => ⟨k, a, by rw [h.n]; exact b, ?_, fun i x y => ?_⟩⟩
  · rw [h.n] at b
    rw [← h.nl ⟨a, by omega⟩]; exact c
  · rw [h.n] at b
    have q := d i x y
    rw [show k * 8 + i = 8 * k + i by omega, h.nr ⟨a, by omega⟩ ⟨x, by omega⟩, show (0 : Int) + i = i by omega, h.2.1 i x (by omega)] at q
    exact q
  · rw [h.nl ⟨a, by omega⟩]; exact c
  · rw [show k * 8 + i = 8 * k + i by omega, h.nr ⟨a, by omega⟩ ⟨x, by omega⟩, show (0 : Int) + i = i by omega, h.2.1 i x (by omega)]
    exact d i x y
/-- a SENTENCE of the class was added -/
theorem SAd.cs {a b c : Int} (h : CSx base s T N a0 I0 a1 I1 M) (q : SAd a b c M M') (hn : 0 ≤ gi M 1 10 ∧ gi M 1 10 ≤ 15) (hs : s ≤ 8) (fr : ∀ (k : Nat) (i : Int), k = 2 ∨ k = 3 ∨ k = 4 ∨ k = 10 ∨ k = 11 → gi M' k i = gi M k i) (fl : ∀ i : Int, i = 2 ∨ i = 4 ∨ i = 5 ∨ i = 14 → gi M' 1 i = gi M 1 i) {j : Int} (hj : dAs j) : cS 1 M' j = seR N T s a b c j := by
  obtain ⟨q1, q2, q3, q4, q5⟩ := q
  have e0 := h.1
  have en := h.n
  rw [en] at hn q1 q2 q3 q4 q5
  rw [e0] at q2 q4
  have old := h.2.2.1 j hj
  rcases slA_in hj with ⟨a', b', e⟩ | ⟨a', b', e⟩ | ⟨a', b', e⟩ | ⟨q, a', b', f, e⟩ | ⟨q, i, a', b', c', d', f, e⟩ | ⟨q, i, a', b', c', d', f, e⟩ | ⟨q, i, a', b', c', d', f, e⟩ | ⟨a', b', e⟩ | ⟨a', b', e⟩ | ⟨a', e⟩ | ⟨a', e⟩ | ⟨a', e⟩ | ⟨a', e⟩ | ⟨a', e⟩ <;> rw [cS_at e] at old ⊢
  · rw [seR_out (by omega) (by omega), ← old]; exact fr 2 _ (by omega)
  · rw [seR_out (by omega) (by omega), ← old]; exact fr 3 _ (by omega)
  · rw [seR_out (by omega) (by omega), ← old]; exact fr 4 _ (by omega)
  · show gi M' 6 q = _
    rw [q2 q]
    by_cases c1 : q = N 469
    · rw [c1, updN_eq, seR_l (by omega) hn]
    · rw [updN_ne c1, seR_out (by omega) (by omega), ← old]
  · show gi M' 5 (8 * q + i) = _
    rw [q4 _ (by omega)]
    unfold rwN
    by_cases c1 : q = N 469
    · rw [seR_r (i := i) (by omega) ⟨c', d'⟩ hn]
      by_cases c2 : i < s
      · rw [if_pos (by omega), if_pos c2, show 8 * q + i - N 469 * 8 = i by omega]
        exact h.2.1 i c' (by omega)
      · rw [if_neg (by omega), if_neg c2]
        have z := h.zn j (by omega) (by omega) (by omega)
        rw [← z]; exact old
    · rw [if_neg (by omega), seR_out (by omega) (by omega), ← old]
  · show gi M' 7 (3 * q + i) = _
    rw [q5]
    unfold vlN
    by_cases c1 : q = N 469
    · rw [seR_v (i := i) (by omega) ⟨c', d'⟩ hn]
      by_cases c2 : i = 0
      · rw [if_pos (by omega), if_pos c2]
      rw [if_neg (by omega), if_neg c2]
      by_cases c3 : i = 1
      · rw [if_pos (by omega), if_pos c3]
      rw [if_neg (by omega), if_neg c3, if_pos (by omega)]
    · rw [if_neg (by omega), if_neg (by omega), if_neg (by omega), seR_out (by omega) (by omega), ← old]
  · show gi M' 8 (4 * q + i) = _
    rw [q3]
    unfold wtN
    by_cases c1 : q = N 469
    · rw [seR_g (i := i) (by omega) ⟨c', d'⟩ hn, if_pos (by omega)]
    · rw [if_neg (by omega), seR_out (by omega) (by omega), ← old]
  · rw [seR_out (by omega) (by omega), ← old]; exact fr 10 _ (by omega)
  · rw [seR_out (by omega) (by omega), ← old]; exact fr 11 _ (by omega)
  · rw [a', seR_469]; exact q1
  · rw [seR_out (by omega) (by omega), ← old]; exact fl 4 (by omega)
  · rw [seR_out (by omega) (by omega), ← old]; exact fl 14 (by omega)
  · rw [seR_out (by omega) (by omega), ← old]; exact fl 2 (by omega)
  · rw [seR_out (by omega) (by omega), ← old]; exact fl 5 (by omega)
theorem RWr.iff (h : RSx s T N a0 I0 a1 I1 M) (hb : ∀ i : Int, -128 ≤ gi M 95 i ∧ gi M 95 i ≤ 127) : RWr (gi M 77 31) M ↔ RWn T s := by
  rw [h.1]
  unfold RWr RWn TA
  refine ⟨fun q => ⟨q.1, q.2.1, fun i a b => ?_⟩, fun q => ⟨q.1, q.2.1, fun i a b => ?_⟩⟩
  · have x := h.2.1 i a (by have := q.2.1; omega)
    have y := q.2.2 i a b
    omega
  · have x := h.2.1 i a (by have := q.2.1; omega)
    have y := q.2.2 i a b
    have z := hb i
    omega
theorem RWr.tp (h : RSx s T N a0 I0 a1 I1 M) (q : RWr (gi M 77 31) M) : ∀ i : Int, 0 ≤ i → i < s → gi M 95 i = T i := by
  rw [h.1] at q
  intro i a b
  have x := h.2.1 i a (by have := q.2.1; omega)
  have y := q.2.2 i a b
  omega
theorem HRr.iff (h : RSx s T N a0 I0 a1 I1 M) (q : RWr (gi M 77 31) M) (hb : gi M 78 469 ≤ 16) : HRr (gi M 77 31) M ↔ HRn N T s := by
  have tp := RWr.tp h q
  have n9 : gi M 78 469 = N 469 := h.2.2.1 469 (by unfold dAs; omega)
  have hs := q.2.1
  rw [h.1] at hs ⊢
  rw [n9] at hb
  refine ⟨fun ⟨k, a, b, c, d⟩ => ⟨k, a, by rw [← n9]; exact b, ?_, fun i x y => ?_⟩, fun ⟨k, a, b, c, d⟩ => ⟨k, a, by rw [n9]; exact b, ?_, fun i x y => ?_⟩⟩
  · rw [n9] at b
    rw [← h.2.2.1 (135 + 16 * k) (by unfold dAs; omega)]; exact c
  · rw [n9] at b
    have w := d i x y
    rw [show 135 + 16 * k + 1 + i = 136 + 16 * k + i by omega, h.2.2.1 (136 + 16 * k + i) (by unfold dAs; omega), tp i x y] at w
    exact w
  · rw [h.2.2.1 (135 + 16 * k) (by unfold dAs; omega)]; exact c
  · rw [show 135 + 16 * k + 1 + i = 136 + 16 * k + i by omega, h.2.2.1 (136 + 16 * k + i) (by unfold dAs; omega), tp i x y]
    exact d i x y
end
/-! The calls that change the state, over the state of both sides. -/
theorem fdN_cong {T T' : Int → Int} {s a b c d e n i : Int} (h : T i = T' i) : fdN T s a b c d e n i = fdN T' s a b c d e n i := by unfold fdN; rw [h]
noncomputable def rwV (N : Int → Int) (s i : Int) : Int := if 0 ≤ s ∧ s < N 469 then (if i = -1 then N (135 + 16 * s) else if 0 ≤ i ∧ i < N (135 + 16 * s) then N (136 + 16 * s + i) else -1) else -1
theorem rwV.of {N : Int → Int} {s i v : Int} (h1 : 0 ≤ s ∧ s < N 469 ∧ i = -1 → v = N (135 + 16 * s)) (h2 : 0 ≤ s ∧ s < N 469 ∧ 0 ≤ i ∧ i < N (135 + 16 * s) → v = N (136 + 16 * s + i)) (h3 : (s < 0 ∨ N 469 ≤ s ∨ i < -1 ∨ N (135 + 16 * s) ≤ i) → v = -1) : v = rwV N s i := by
  unfold rwV
  by_cases c1 : 0 ≤ s ∧ s < N 469
  · rw [if_pos c1]
    by_cases c2 : i = -1
    · rw [if_pos c2]; exact h1 ⟨c1.1, c1.2, c2⟩
    rw [if_neg c2]
    by_cases c3 : 0 ≤ i ∧ i < N (135 + 16 * s)
    · rw [if_pos c3]; exact h2 ⟨c1.1, c1.2, c3.1, c3.2⟩
    · rw [if_neg c3]; exact h3 (by omega)
  · rw [if_neg c1]; exact h3 (by omega)
theorem updN_same {N : Int → Int} {i x : Int} (h : x = N i) (j : Int) : updN N i x j = N j := by
  unfold updN
  split
  · next e => rw [h, e]
  · rfl
section
variable {base : Nat} {s s' a0 a1 : Int} {T T' N N' I0 I1 : Int → Int} {M M' M1 : mH} {L : List (Nat × Nat)}
theorem CSx.row {v k i : Int} (h : CSx base s T N a0 I0 a1 I1 M) (hb : gi M 1 10 ≤ 16) (hl : gi M 6 k ≤ 8) (h1 : 0 ≤ k ∧ k < gi M 1 10 ∧ i = -1 → v = gi M 6 k) (h2 : 0 ≤ k ∧ k < gi M 1 10 ∧ 0 ≤ i ∧ i < gi M 6 k → v = gi M 5 (k * 8 + i)) (h3 : (k < 0 ∨ gi M 1 10 ≤ k ∨ i < -1 ∨ gi M 6 k ≤ i) → v = -1) : v = rwV N k i := by
  rw [h.n] at hb h1 h2 h3
  by_cases c : 0 ≤ k ∧ k < N 469
  · have el := h.nl (k := k) ⟨c.1, by omega⟩
    rw [el] at h1 h2 h3 hl
    refine rwV.of h1 (fun q => ?_) h3
    rw [h2 q, show k * 8 + i = 8 * k + i by omega]
    exact h.nr ⟨c.1, by omega⟩ ⟨q.2.2.1, by omega⟩
  · exact rwV.of (fun q => absurd ⟨q.1, q.2.1⟩ c) (fun q => absurd ⟨q.1, q.2.1⟩ c) (fun _ => h3 (by omega))
theorem RSx.row {v k i : Int} (h : RSx s T N a0 I0 a1 I1 M) (hb : gi M 78 469 ≤ 16) (hl : 0 ≤ k → k < 16 → gi M 78 (135 + 16 * k) ≤ 8) (h1 : 0 ≤ k ∧ k < gi M 78 469 ∧ i = -1 → v = gi M 78 (135 + 16 * k)) (h2 : 0 ≤ k ∧ k < gi M 78 469 ∧ 0 ≤ i ∧ i < gi M 78 (135 + 16 * k) → v = gi M 78 (136 + 16 * k + i)) (h3 : (k < 0 ∨ gi M 78 469 ≤ k ∨ i < -1 ∨ gi M 78 (135 + 16 * k) ≤ i) → v = -1) : v = rwV N k i := by
  have n9 : gi M 78 469 = N 469 := h.2.2.1 469 (by unfold dAs; omega)
  rw [n9] at hb h1 h2 h3
  by_cases c : 0 ≤ k ∧ k < N 469
  · have el : gi M 78 (135 + 16 * k) = N (135 + 16 * k) := h.2.2.1 _ (by unfold dAs; omega)
    have hl2 := hl c.1 (by omega)
    rw [el] at h1 h2 h3 hl2
    refine rwV.of h1 (fun q => ?_) h3
    rw [h2 q]
    exact h.2.2.1 _ (by unfold dAs; omega)
  · exact rwV.of (fun q => absurd ⟨q.1, q.2.1⟩ c) (fun q => absurd ⟨q.1, q.2.1⟩ c) (fun _ => h3 (by omega))
/-- four slots of the class's state -/
theorem CSx.w4 {c f : Nat} {b i lim x y z : Int} (h : CSx base s T N a0 I0 a1 I1 M) (sl : ∀ k : Int, 0 ≤ k → k < 3 * lim → slA (b + k) = (c, k)) (sf : slA i = (0, (f : Int))) (di : dAs i) (db : ∀ k : Int, 0 ≤ k → k < 3 * lim → dAs (b + k)) (zo : b + 3 * lim ≤ 135 ∨ 391 ≤ b) (zb : b + 3 * lim ≤ 469 ∨ 469 < b) (zi : 469 < i) (bi : i < b ∨ b + 3 * lim ≤ i) (hn : 0 ≤ gi M 1 (f : Int) ∧ gi M 1 (f : Int) < lim) (hl : lim ≤ 12) (hx : inR x) (hy : inR y) (hz : inR z) (q : W4 (1 + c) (gi M 1 (f : Int) * 3) 1 (f : Int) x y z (gi M 1 (f : Int) + 1) M M1) : CSx base s T (up4 N b i x y z) a0 I0 a1 I1 M1 := by
  have en : gi M 1 (f : Int) = N i := by
    have w := h.2.2.1 i di
    rw [cS_at sf] at w
    exact w
  rw [en] at hn q
  obtain ⟨A, B, C, u1, u2, u3, u4⟩ := q
  have z0 := h.2.2.2.2.2.2.1
  have k1 := h.wr u1 (j0 := b + 3 * N i) (db _ (by omega) (by omega)) (sl _ (by omega) (by omega)) rfl (by omega) hx (z0.upd (by omega) (by omega))
  have k2 := k1.wr u2 (j0 := b + 3 * N i + 1) (by rw [show b + 3 * N i + 1 = b + (3 * N i + 1) by omega]; exact db _ (by omega) (by omega)) (by rw [show b + 3 * N i + 1 = b + (3 * N i + 1) by omega]; exact sl _ (by omega) (by omega)) rfl (by omega) hy (k1.2.2.2.2.2.2.1.upd (by omega) (by omega))
  have k3 := k2.wr u3 (j0 := b + 3 * N i + 2) (by rw [show b + 3 * N i + 2 = b + (3 * N i + 2) by omega]; exact db _ (by omega) (by omega)) (by rw [show b + 3 * N i + 2 = b + (3 * N i + 2) by omega]; exact sl _ (by omega) (by omega)) rfl (by omega) hz (k2.2.2.2.2.2.2.1.upd (by omega) (by omega))
  exact k3.wr u4 (j0 := i) di sf rfl rfl (by unfold inR; omega) (k3.2.2.2.2.2.2.1.upd (by omega) (by omega))
theorem RSx.w4 {b i lim x y z : Int} (h : RSx s T N a0 I0 a1 I1 M) (hi : 0 ≤ i ∧ dAs i) (hb : 0 ≤ b) (hn : 0 ≤ gi M 78 i ∧ gi M 78 i < lim) (hl : lim ≤ 12) (hx : inR x) (hy : inR y) (hz : inR z) (q : W4 78 (b + 3 * gi M 78 i) 78 i x y z (gi M 78 i + 1) M M1) : RSx s T (up4 N b i x y z) a0 I0 a1 I1 M1 := by
  have en : gi M 78 i = N i := h.2.2.1 i hi.2
  rw [en] at hn q
  obtain ⟨A, B, C, u1, u2, u3, u4⟩ := q
  have k1 := h.wr u1 (by omega) rfl hx
  have k2 := k1.wr u2 (by omega) rfl hy
  have k3 := k2.wr u3 (by omega) rfl hz
  exact k3.wr u4 hi.1 rfl (by unfold inR; omega)
/-- a SENTENCE of the class -/
theorem CSx.sen {v a b c : Int} (h : CSx base s T N a0 I0 a1 I1 M) (H : HI base M) (f : Fr [(0, 4), (0, 6), (0, 10), (1, 11), (5, 0), (6, 0), (7, 0), (8, 0)] M M') (g : gi M' 0 3 = 0) (q : SnC v a b c M M') : CSx base 0 T (seN T N s a b c) a0 I0 a1 I1 M' ∧ (-2147483648 ≤ v ∧ v ≤ 2147483647) ∧ v = seV T N s a b c := by
  have hM := H.m
  have en := h.n
  have bn : 0 ≤ gi M 1 10 ∧ gi M 1 10 ≤ 16 := H.2 1 10 0 16 rfl
  have no : Fr [(0, 4), (0, 6)] M M' → CSx base 0 T N a0 I0 a1 I1 M' := fun fr => h.tape hM (fr.q rfl).z rfl g
  rcases q with ⟨c1, hv, fr⟩ | ⟨c1, c2, hv, fr⟩ | ⟨c1, c2, c3, hv, fr⟩ | ⟨c1, c2, c3, c4, hv, fr⟩ | ⟨c1, c2, c3, c4, hv, q⟩
  · obtain ⟨e1, e2⟩ := se1 (T := T) (N := N) (s := s) c1
    rw [e1, e2]; exact ⟨no fr, by omega, hv⟩
  · obtain ⟨e1, e2⟩ := se2 c1 (fun w => c2 ((RWok.iff h).mpr w))
    rw [e1, e2]; exact ⟨no fr, by omega, hv⟩
  · have w := (RWok.iff h).mp c2
    obtain ⟨e1, e2⟩ := se3 c1 w ((HR.iff h w.2.1 bn.2).mp c3)
    rw [e1, e2]; exact ⟨no fr, by omega, hv⟩
  · have w := (RWok.iff h).mp c2
    obtain ⟨e1, e2⟩ := se4 c1 w (fun y => c3 ((HR.iff h w.2.1 bn.2).mpr y)) (by rw [← en]; exact c4)
    rw [e1, e2]; exact ⟨no fr, by omega, hv⟩
  · have w := (RWok.iff h).mp c2
    obtain ⟨e1, e2⟩ := se5 c1 w (fun y => c3 ((HR.iff h w.2.1 bn.2).mpr y)) (by rw [← en]; exact c4)
    rw [e1, e2]
    refine ⟨?_, by omega, hv.trans en⟩
    have z := (f.q rfl).z
    refine h.gen (ImK.fz hM z rfl) g (fun i x y => (f.g rfl).trans (h.2.1 i x y)) (fun j hj => q.cs h ⟨bn.1, c4⟩ w.2.1 (fun k i hk => ?_) (fun i hi => ?_) hj) (h.zn.seR (by rw [← en]; exact ⟨bn.1, c4⟩))
    · rcases hk with rfl | rfl | rfl | rfl | rfl <;> exact f.g rfl
    · rcases hi with rfl | rfl | rfl | rfl <;> exact f.g rfl
theorem RSx.sen {v a b c : Int} (h : RSx s T N a0 I0 a1 I1 M) (H : HI base M) (f : Fr L M M') (hc : (oxI L && s_al L (fun c => c != 95)) = true) (g : gi M' 77 31 = 0) (q : SnR v a b c M M') : RSx 0 T (seN T N s a b c) a0 I0 a1 I1 M' ∧ (-2147483648 ≤ v ∧ v ≤ 2147483647) ∧ v = seV T N s a b c := by
  have en : gi M 78 469 = N 469 := h.2.2.1 469 (by unfold dAs; omega)
  have bn : 0 ≤ gi M 78 469 ∧ gi M 78 469 ≤ 16 := H.2 78 469 0 16 (rk_many (by omega))
  have b95 : ∀ i : Int, -128 ≤ gi M 95 i ∧ gi M 95 i ≤ 127 := fun i => H.2 95 i (-128) 127 rfl
  have no : (∀ i : Int, gi M' 78 i = gi M 78 i) → RSx 0 T N a0 I0 a1 I1 M' := fun e => h.kn f hc g (fun j hj => (e j).trans (h.2.2.1 j hj))
  rcases q with ⟨c1, hv, fr⟩ | ⟨c1, c2, hv, fr⟩ | ⟨c1, c2, c3, hv, fr⟩ | ⟨c1, c2, c3, c4, hv, fr⟩ | ⟨c1, c2, c3, c4, hv, q⟩
  · obtain ⟨e1, e2⟩ := se1 (T := T) (N := N) (s := s) c1
    rw [e1, e2]; exact ⟨no fr, by omega, hv⟩
  · obtain ⟨e1, e2⟩ := se2 c1 (fun w => c2 ((RWr.iff h b95).mpr w))
    rw [e1, e2]; exact ⟨no fr, by omega, hv⟩
  · obtain ⟨e1, e2⟩ := se3 c1 ((RWr.iff h b95).mp c2) ((HRr.iff h c2 bn.2).mp c3)
    rw [e1, e2]; exact ⟨no fr, by omega, hv⟩
  · obtain ⟨e1, e2⟩ := se4 c1 ((RWr.iff h b95).mp c2) (fun y => c3 ((HRr.iff h c2 bn.2).mpr y)) (by rw [← en]; exact c4)
    rw [e1, e2]; exact ⟨no fr, by omega, hv⟩
  · obtain ⟨e1, e2⟩ := se5 c1 ((RWr.iff h b95).mp c2) (fun y => c3 ((HRr.iff h c2 bn.2).mpr y)) (by rw [← en]; exact c4)
    rw [e1, e2]
    refine ⟨h.kn f hc g (fun j hj => ?_), by omega, hv.trans en⟩
    rw [q j, h.1]
    exact seR_cong en (h.2.2.1 j hj) (RWr.tp h c2)
theorem CSx.img0 (h : CSx base s T N a0 I0 a1 I1 M) (q : ImN base 0 M M') (hn : M.1 ≤ M'.1) (hkk : ∀ r, r < M.1 → hk M r = 3 → hk M' r = 3) (g : gi M' 0 3 = gi M 0 3) : CSx base s T N 1 N a1 I1 M' := by
  obtain ⟨c, q1, q2, q3, q4, q5, q6, q7⟩ := q
  obtain ⟨h1, hT, h2, h3, h4, h5, y1, y2, y3⟩ := h
  have ne : ∀ c', StS base c' M → 111 ≤ c' → hv M 12 1 = .ref (base + c') → c' ≠ c ∧ ∀ r, c' ≤ r → r ≤ c' + 10 → sameC r M M' := fun c' a b d => q7 c' a b (fun e => h5 c' e d)
  refine ⟨g.trans h1, fun i a b => by rw [(q6 13 (by decide) (by decide) (by decide)).gi]; exact hT i a b, fun j hj => by rw [cS.sm (c := 1) (fun r a b => q6 r (by omega) (by omega) (by omega)) hj]; exact h2 j hj, Or.inr ⟨rfl, c, q1, q2, q3, fun j hj => (q4 j hj).trans (h2 j hj)⟩, h4.keep hn (q5 1 (by decide)) (fun c' a b d => (ne c' a b d).2) hkk, fun c' e1 e2 => ?_, y1, y1, y3⟩
  rw [q1] at e1
  rw [q5 1 (by decide)] at e2
  have ec : c = c' := Nat.add_left_cancel (Value.ref.inj e1)
  rcases h4 with ⟨-, z⟩ | ⟨-, d, z1, z2, z3, -⟩
  · rw [z] at e2; cases e2
  · have ed : d = c' := by rw [z1] at e2; exact Nat.add_left_cancel (Value.ref.inj e2)
    exact (ne d z3 z2 z1).1 (ed.trans ec.symm)
theorem CSx.img1 (h : CSx base s T N a0 I0 a1 I1 M) (q : ImN base 1 M M') (hn : M.1 ≤ M'.1) (hkk : ∀ r, r < M.1 → hk M r = 3 → hk M' r = 3) (g : gi M' 0 3 = gi M 0 3) : CSx base s T N a0 I0 1 N M' := by
  obtain ⟨c, q1, q2, q3, q4, q5, q6, q7⟩ := q
  obtain ⟨h1, hT, h2, h3, h4, h5, y1, y2, y3⟩ := h
  have ne : ∀ c', StS base c' M → 111 ≤ c' → hv M 12 0 = .ref (base + c') → c' ≠ c ∧ ∀ r, c' ≤ r → r ≤ c' + 10 → sameC r M M' := fun c' a b d => q7 c' a b (fun e => h5 c' d e)
  refine ⟨g.trans h1, fun i a b => by rw [(q6 13 (by decide) (by decide) (by decide)).gi]; exact hT i a b, fun j hj => by rw [cS.sm (c := 1) (fun r a b => q6 r (by omega) (by omega) (by omega)) hj]; exact h2 j hj, h3.keep hn (q5 0 (by decide)) (fun c' a b d => (ne c' a b d).2) hkk, Or.inr ⟨rfl, c, q1, q2, q3, fun j hj => (q4 j hj).trans (h2 j hj)⟩, fun c' e1 e2 => ?_, y1, y2, y1⟩
  rw [q1] at e2
  rw [q5 0 (by decide)] at e1
  have ec : c = c' := Nat.add_left_cancel (Value.ref.inj e2)
  rcases h3 with ⟨-, z⟩ | ⟨-, d, z1, z2, z3, -⟩
  · rw [z] at e1; cases e1
  · have ed : d = c' := by rw [z1] at e1; exact Nat.add_left_cancel (Value.ref.inj e1)
    exact (ne d z3 z2 z1).1 (ed.trans ec.symm)
theorem RSx.img0 (h : RSx s T N a0 I0 a1 I1 M) (g7 : gi M' 77 31 = gi M 77 31) (g5 : ∀ j : Int, gi M' 95 j = gi M 95 j) (g8 : ∀ j : Int, gi M' 78 j = gi M 78 j) (h1 : gi M' 80 0 = 1) (h2 : gi M' 80 1 = gi M 80 1) (h3 : ∀ j : Int, 0 ≤ j → j < 6883 → gi M' 79 (6883 * 0 + j) = gi M 78 j) (h4 : ∀ j : Int, 0 ≤ j → (j < 6883 * 0 ∨ 6883 * 0 + 6883 ≤ j) → gi M' 79 j = gi M 79 j) : RSx s T N 1 N a1 I1 M' := by
  obtain ⟨a, hT, b, c, d, e, f⟩ := h
  have bd : ∀ j, dAs j → 0 ≤ j ∧ j < 6883 := fun j hj => by unfold dAs at hj; omega
  refine ⟨g7.trans a, fun i x y => by rw [g5]; exact hT i x y, fun j hj => (g8 j).trans (b j hj), h1, fun _ j hj => ?_, h2.trans e, fun z j hj => ?_⟩
  · have := h3 j (bd j hj).1 (bd j hj).2
    rw [show (6883 : Int) * 0 + j = j by omega] at this
    rw [this]; exact b j hj
  · rw [h4 (6883 + j) (by have := (bd j hj).1; omega) (Or.inr (by have := (bd j hj).1; omega))]
    exact f z j hj
theorem RSx.img1 (h : RSx s T N a0 I0 a1 I1 M) (g7 : gi M' 77 31 = gi M 77 31) (g5 : ∀ j : Int, gi M' 95 j = gi M 95 j) (g8 : ∀ j : Int, gi M' 78 j = gi M 78 j) (h1 : gi M' 80 1 = 1) (h2 : gi M' 80 0 = gi M 80 0) (h3 : ∀ j : Int, 0 ≤ j → j < 6883 → gi M' 79 (6883 * 1 + j) = gi M 78 j) (h4 : ∀ j : Int, 0 ≤ j → (j < 6883 * 1 ∨ 6883 * 1 + 6883 ≤ j) → gi M' 79 j = gi M 79 j) : RSx s T N a0 I0 1 N M' := by
  obtain ⟨a, hT, b, c, d, e, f⟩ := h
  have bd : ∀ j, dAs j → 0 ≤ j ∧ j < 6883 := fun j hj => by unfold dAs at hj; omega
  refine ⟨g7.trans a, fun i x y => by rw [g5]; exact hT i x y, fun j hj => (g8 j).trans (b j hj), h2.trans c, fun z j hj => ?_, h1, fun _ j hj => ?_⟩
  · rw [h4 j (bd j hj).1 (Or.inl (by have := (bd j hj).2; omega))]
    exact d z j hj
  · have := h3 j (bd j hj).1 (bd j hj).2
    rw [show (6883 : Int) * 1 + j = 6883 + j by omega] at this
    rw [this]; exact b j hj
theorem CSx.back {k : Int} (h : CSx base s T N a0 I0 a1 I1 M) (hk01 : 0 ≤ k ∧ k ≤ 1) (e12 : ∀ i, hv M' 12 i = hv M 12 i) (g : gi M' 0 3 = s) (hn : M.1 ≤ M'.1) (hkk : ∀ r, r < M.1 → hk M r = 3 → hk M' r = 3) (e1 : hv M 12 k.toNat = .null → ∀ r, 0 < r → sameC r M M') (e2 : ∀ c, hv M 12 k.toNat = .ref (base + c) → (∀ j, dAs j → cS 1 M' j = cS c M j) ∧ ∀ r, 11 < r → sameC r M M') : CSx base s T (bkN k a0 a1 I0 I1 N) a0 I0 a1 I1 M' := by
  obtain ⟨h1, hT, h2, h3, h4, h5, y1, y2, y3⟩ := h
  have fin : ∀ (N' : Int → Int), (∀ r, 11 < r → sameC r M M') → (∀ j, dAs j → cS 1 M' j = N' j) → ZN N' → CSx base s T N' a0 I0 a1 I1 M' := fun N' sm hN z => ⟨g, fun i a b => by rw [(sm 13 (by decide)).gi]; exact hT i a b, hN, h3.keep hn (e12 0) (fun c' _ b _ r x _ => sm r (by omega)) hkk, h4.keep hn (e12 1) (fun c' _ b _ r x _ => sm r (by omega)) hkk, fun c a b => h5 c (by rw [← e12]; exact a) (by rw [← e12]; exact b), z, y2, y3⟩
  have nul : hv M 12 k.toNat = .null → CSx base s T N a0 I0 a1 I1 M' := fun z => fin N (fun r hr => e1 z r (by omega)) (fun j hj => by rw [cS.sm (c := 1) (fun r x _ => e1 z r (by omega)) hj]; exact h2 j hj) y1
  unfold bkN
  have kk : k = 0 ∨ k = 1 := by omega
  rcases kk with rfl | rfl
  · rw [if_pos rfl]
    rcases h3 with ⟨a, b⟩ | ⟨a, c, p, q, r, t⟩
    · rw [if_neg (by omega)]; exact nul b
    · rw [if_pos a]
      exact fin I0 (e2 c p).2 (fun j hj => ((e2 c p).1 j hj).trans (t j hj)) y2
  · rw [if_neg (by decide), if_pos rfl]
    rcases h4 with ⟨a, b⟩ | ⟨a, c, p, q, r, t⟩
    · rw [if_neg (by omega)]; exact nul b
    · rw [if_pos a]
      exact fin I1 (e2 c p).2 (fun j hj => ((e2 c p).1 j hj).trans (t j hj)) y3
theorem bkV.cx {k v : Int} (h : CSx base s T N a0 I0 a1 I1 M) (h1 : k < 0 ∨ 1 < k → v = -1) (h2 : 0 ≤ k ∧ k ≤ 1 → hv M 12 k.toNat = .null → v = -2) (h3 : 0 ≤ k ∧ k ≤ 1 → ∀ c, hv M 12 k.toNat = .ref (base + c) → v = 0) : v = bkV k a0 a1 := by
  unfold bkV
  by_cases e0 : k = 0
  · subst e0
    rw [if_pos rfl]
    rcases h.2.2.2.1 with ⟨a, b⟩ | ⟨a, c, b, -⟩
    · rw [if_pos a]; exact h2 (by decide) b
    · rw [if_neg (by omega)]; exact h3 (by decide) c b
  rw [if_neg e0]
  by_cases e1 : k = 1
  · subst e1
    rw [if_pos rfl]
    rcases h.2.2.2.2.1 with ⟨a, b⟩ | ⟨a, c, b, -⟩
    · rw [if_pos a]; exact h2 (by decide) b
    · rw [if_neg (by omega)]; exact h3 (by decide) c b
  rw [if_neg e1]
  exact h1 (by omega)
theorem bkV.rx {k v : Int} (h : RSx s T N a0 I0 a1 I1 M) (b0 : a0 = 0 ∨ a0 = 1) (b1 : a1 = 0 ∨ a1 = 1) (h1 : k < 0 ∨ 1 < k → v = -1) (h2 : 0 ≤ k ∧ k ≤ 1 → gi M 80 k = 0 → v = -2) (h3 : 0 ≤ k ∧ k ≤ 1 → gi M 80 k = 1 → v = 0) : v = bkV k a0 a1 := by
  unfold bkV
  by_cases e0 : k = 0
  · subst e0
    rw [if_pos rfl]
    rcases b0 with a | a
    · rw [if_pos a]; exact h2 (by decide) (h.2.2.2.1.trans a)
    · rw [if_neg (by omega)]; exact h3 (by decide) (h.2.2.2.1.trans a)
  rw [if_neg e0]
  by_cases e1 : k = 1
  · subst e1
    rw [if_pos rfl]
    rcases b1 with a | a
    · rw [if_pos a]; exact h2 (by decide) (h.2.2.2.2.2.1.trans a)
    · rw [if_neg (by omega)]; exact h3 (by decide) (h.2.2.2.2.2.1.trans a)
  rw [if_neg e1]
  exact h1 (by omega)
theorem RSx.bits2 (h : RSx s T N a0 I0 a1 I1 M) (H : HI base M) : (a0 = 0 ∨ a0 = 1) ∧ (a1 = 0 ∨ a1 = 1) := by
  have q0 := H.2 80 0 0 1 rfl
  have q1 := H.2 80 1 0 1 rfl
  rw [h.2.2.2.1] at q0
  rw [h.2.2.2.2.2.1] at q1
  omega
theorem RSx.back {k : Int} (h : RSx s T N a0 I0 a1 I1 M) (H : HI base M) (f : Fr L M M') (hc : (oxI L && s_al L (fun c => c != 95)) = true) (g : gi M' 77 31 = s) (q6 : 0 ≤ k ∧ k ≤ 1 → gi M 80 k = 1 → ∀ j : Int, 0 ≤ j → j < 6883 → gi M' 78 j = gi M 79 (6883 * k + j)) (q7 : k < 0 ∨ 1 < k ∨ gi M 80 k = 0 → ∀ j : Int, gi M' 78 j = gi M 78 j) : RSx s T (bkN k a0 a1 I0 I1 N) a0 I0 a1 I1 M' := by
  have bb := h.bits2 H
  refine h.kn f hc g (fun j hj => ?_)
  have jb : 0 ≤ j ∧ j < 6883 := by unfold dAs at hj; omega
  unfold bkN
  by_cases k0 : k = 0
  · subst k0
    rw [if_pos rfl]
    rcases bb.1 with z | z
    · rw [if_neg (by omega), q7 (Or.inr (Or.inr (h.2.2.2.1.trans z)))]; exact h.2.2.1 j hj
    · rw [if_pos z, q6 (by decide) (h.2.2.2.1.trans z) j jb.1 jb.2, show (6883 : Int) * 0 + j = j by omega]; exact h.2.2.2.2.1 z j hj
  rw [if_neg k0]
  by_cases k1 : k = 1
  · subst k1
    rw [if_pos rfl]
    rcases bb.2 with z | z
    · rw [if_neg (by omega), q7 (Or.inr (Or.inr (h.2.2.2.2.2.1.trans z)))]; exact h.2.2.1 j hj
    · rw [if_pos z, q6 (by decide) (h.2.2.2.2.2.1.trans z) j jb.1 jb.2, show (6883 : Int) * 1 + j = 6883 + j by omega]; exact h.2.2.2.2.2.2 z j hj
  rw [if_neg k1, q7 (by omega)]
  exact h.2.2.1 j hj
end
