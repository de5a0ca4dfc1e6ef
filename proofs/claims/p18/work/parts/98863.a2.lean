/-! What a TEXT is: CLAUSES, TESTS, SUMS, by what the TOKENS are. -/
noncomputable def seqP (o : Option (Int × Int × Int)) (g : Int → Int → Option (Int × Int × Int)) : Option (Int × Int × Int) := match o with
  | none => none
  | some r => if r.2.2 = -1 then g r.1 r.2.1 else some r
theorem seqP_ok {p q : Int} {g : Int → Int → Option (Int × Int × Int)} : seqP (some (p, q, -1)) g = g p q := by simp [seqP]
theorem seqP_no {p q : Int} {g : Int → Int → Option (Int × Int × Int)} : seqP (some (p, q, 0)) g = some (p, q, 0) := by simp [seqP]
noncomputable def sgP (K : Int → Int) (c p q : Int) : Option (Int × Int × Int) := if K p = c then some (p + 1, q, -1) else some (p, q, 0)
noncomputable def lfP (p q : Int) : Option (Int × Int × Int) := if 50 ≤ q then some (p, q, 0) else some (p + 1, q + 1, -1)
/-- from TOKEN p on with q PARTS so far, d brackets deep: where it ends, how many PARTS, 0 if that TOKEN can't stand there -/
noncomputable def PP (K : Int → Int) : Nat → Nat → Int → Int → Int → Option (Int × Int × Int)
  | 0, _, _, _, _ => none
  | f + 1, m, d, p, q =>
    if m = 0 then seqP (PP K f 2 d p q) (fun p' q' => PP K f 1 d p' q')
    else if m = 1 then (if K p = 7 then seqP (PP K f 2 d (p + 1) q) (fun p' q' => PP K f 1 d p' q') else some (p, q, -1))
    else if m = 2 then seqP (PP K f 4 d p q) (fun p' q' => PP K f 3 d p' q')
    else if m = 3 then (if K p = 8 then seqP (PP K f 4 d (p + 1) q) (fun p' q' => PP K f 3 d p' q') else some (p, q, -1))
    else if m = 4 then (if K p = 9 then PP K f 4 d (p + 1) q else if K p = 140 then (if 8 ≤ d then some (p, q, 0) else seqP (PP K f 0 (d + 1) (p + 1) q) (fun p' q' => sgP K 141 p' q')) else if K p = 10 ∨ K p = 11 then lfP p q else seqP (PP K f 5 d p q) (fun p' q' => if K p' = 160 ∨ K p' = 161 ∨ K p' = 162 then PP K f 5 d (p' + 1) q' else some (p', q', 0)))
    else if m = 5 then seqP (PP K f 7 d p q) (fun p' q' => PP K f 6 d p' q')
    else if m = 6 then (if K p = 143 ∨ K p = 145 then seqP (PP K f 7 d (p + 1) q) (fun p' q' => PP K f 6 d p' q') else some (p, q, -1))
    else if m = 7 then seqP (PP K f 9 d p q) (fun p' q' => PP K f 8 d p' q')
    else if m = 8 then (if K p = 142 ∨ K p = 147 then seqP (PP K f 9 d (p + 1) q) (fun p' q' => PP K f 8 d p' q') else some (p, q, -1))
    else if m = 9 then (if K p = 191 then (if 8 ≤ d then some (p, q, 0) else seqP (PP K f 5 (d + 1) (p + 1) q) (fun p' q' => sgP K 193 p' q')) else if K p = 21 ∨ (12 ≤ K p ∧ K p ≤ 20) then lfP p q else some (p, q, 0))
    else if m = 10 then (if 12 ≤ d ∨ 5 < K p then some (p, q, 0) else if K (p + 1) = 6 then seqP (PP K f 0 0 (p + 2) q) (fun p' q' => PP K f 11 d p' q') else PP K f 11 d (p + 1) q)
    else (if K p = 22 then some (p, q, -1) else if K p = 159 then PP K f 10 (d + 1) (p + 1) q else some (p, q, 0))
theorem seqP_mono {o o' : Option (Int × Int × Int)} {g g' : Int → Int → Option (Int × Int × Int)} {r : Int × Int × Int} (h : seqP o g = some r) (h1 : ∀ x, o = some x → o' = some x) (h2 : ∀ p q x, g p q = some x → g' p q = some x) : seqP o' g' = some r := by
  cases o with
  | none => exact absurd h (by simp [seqP])
  | some x =>
    rw [h1 x rfl]
    have h' : (if x.2.2 = -1 then g x.1 x.2.1 else some x) = some r := h
    show (if x.2.2 = -1 then g' x.1 x.2.1 else some x) = some r
    by_cases c : x.2.2 = -1
    · rw [if_pos c] at h' ⊢; exact h2 _ _ _ h'
    · rw [if_neg c] at h' ⊢; exact h'
theorem PP_s (K : Int → Int) (f m : Nat) (d p q : Int) : PP K (f + 1) m d p q = (if m = 0 then seqP (PP K f 2 d p q) (fun p' q' => PP K f 1 d p' q')
    else if m = 1 then (if K p = 7 then seqP (PP K f 2 d (p + 1) q) (fun p' q' => PP K f 1 d p' q') else some (p, q, -1))
    else if m = 2 then seqP (PP K f 4 d p q) (fun p' q' => PP K f 3 d p' q')
    else if m = 3 then (if K p = 8 then seqP (PP K f 4 d (p + 1) q) (fun p' q' => PP K f 3 d p' q') else some (p, q, -1))
    else if m = 4 then (if K p = 9 then PP K f 4 d (p + 1) q else if K p = 140 then (if 8 ≤ d then some (p, q, 0) else seqP (PP K f 0 (d + 1) (p + 1) q) (fun p' q' => sgP K 141 p' q')) else if K p = 10 ∨ K p = 11 then lfP p q else seqP (PP K f 5 d p q) (fun p' q' => if K p' = 160 ∨ K p' = 161 ∨ K p' = 162 then PP K f 5 d (p' + 1) q' else some (p', q', 0)))
    else if m = 5 then seqP (PP K f 7 d p q) (fun p' q' => PP K f 6 d p' q')
    else if m = 6 then (if K p = 143 ∨ K p = 145 then seqP (PP K f 7 d (p + 1) q) (fun p' q' => PP K f 6 d p' q') else some (p, q, -1))
    else if m = 7 then seqP (PP K f 9 d p q) (fun p' q' => PP K f 8 d p' q')
    else if m = 8 then (if K p = 142 ∨ K p = 147 then seqP (PP K f 9 d (p + 1) q) (fun p' q' => PP K f 8 d p' q') else some (p, q, -1))
    else if m = 9 then (if K p = 191 then (if 8 ≤ d then some (p, q, 0) else seqP (PP K f 5 (d + 1) (p + 1) q) (fun p' q' => sgP K 193 p' q')) else if K p = 21 ∨ (12 ≤ K p ∧ K p ≤ 20) then lfP p q else some (p, q, 0))
    else if m = 10 then (if 12 ≤ d ∨ 5 < K p then some (p, q, 0) else if K (p + 1) = 6 then seqP (PP K f 0 0 (p + 2) q) (fun p' q' => PP K f 11 d p' q') else PP K f 11 d (p + 1) q)
    else (if K p = 22 then some (p, q, -1) else if K p = 159 then PP K f 10 (d + 1) (p + 1) q else some (p, q, 0))) := rfl
theorem ite_mono {c : Prop} [Decidable c] {a b a' b' : Option (Int × Int × Int)} {r : Int × Int × Int} (h : (if c then a else b) = some r) (h1 : a = some r → a' = some r) (h2 : b = some r → b' = some r) : (if c then a' else b') = some r := by
  by_cases q : c
  · rw [if_pos q] at h ⊢; exact h1 h
  · rw [if_neg q] at h ⊢; exact h2 h
theorem PP_mono1 (K : Int → Int) : ∀ (f m : Nat) (d p q : Int) (r : Int × Int × Int), PP K f m d p q = some r → PP K (f + 1) m d p q = some r := by
  intro f
  induction f with
  | zero => intro m d p q r h; exact absurd h (by simp [PP])
  | succ f ih =>
    intro m d p q r h
    rw [PP_s] at h ⊢
    have sq : ∀ (a b : Nat) (d1 p1 q1 d2 : Int) (r : Int × Int × Int), seqP (PP K f a d1 p1 q1) (fun p' q' => PP K f b d2 p' q') = some r → seqP (PP K (f + 1) a d1 p1 q1) (fun p' q' => PP K (f + 1) b d2 p' q') = some r := fun a b d1 p1 q1 d2 r h => seqP_mono h (fun x => ih a d1 p1 q1 x) (fun p q x => ih b d2 p q x)
    refine ite_mono h (sq _ _ _ _ _ _ _) (fun h => ite_mono h (fun h => ite_mono h (sq _ _ _ _ _ _ _) id) (fun h => ite_mono h (sq _ _ _ _ _ _ _) (fun h => ite_mono h (fun h => ite_mono h (sq _ _ _ _ _ _ _) id) (fun h => ite_mono h (fun h => ite_mono h (ih _ _ _ _ _) (fun h => ite_mono h (fun h => ite_mono h id (fun h => seqP_mono h (fun x => ih _ _ _ _ x) (fun p q x => id))) (fun h => ite_mono h id (fun h => seqP_mono h (fun x => ih _ _ _ _ x) (fun p q x => fun h => ite_mono h (ih _ _ _ _ _) id))))) (fun h => ite_mono h (sq _ _ _ _ _ _ _) (fun h => ite_mono h (fun h => ite_mono h (sq _ _ _ _ _ _ _) id) (fun h => ite_mono h (sq _ _ _ _ _ _ _) (fun h => ite_mono h (fun h => ite_mono h (sq _ _ _ _ _ _ _) id) (fun h => ite_mono h (fun h => ite_mono h (fun h => ite_mono h id (fun h => seqP_mono h (fun x => ih _ _ _ _ x) (fun p q x => id))) (fun h => ite_mono h id id)) (fun h => ite_mono h (fun h => ite_mono h id (fun h => ite_mono h (sq _ _ _ _ _ _ _) (ih _ _ _ _ _))) (fun h => ite_mono h id (fun h => ite_mono h (ih _ _ _ _ _) id))))))))))))
theorem PP_mono {K : Int → Int} {f m : Nat} {d p q : Int} {r : Int × Int × Int} (h : PP K f m d p q = some r) : ∀ n : Nat, PP K (f + n) m d p q = some r := by
  intro n
  induction n with
  | zero => exact h
  | succ n ih => exact PP_mono1 K (f + n) m d p q r ih
/-- so it reads, however long it takes -/
noncomputable def RR (K : Int → Int) (m : Nat) (d p q : Int) (r : Int × Int × Int) : Prop := ∃ f, PP K f m d p q = some r
theorem RR.det {K : Int → Int} {m : Nat} {d p q : Int} {r r' : Int × Int × Int} (h : RR K m d p q r) (h' : RR K m d p q r') : r = r' := by
  obtain ⟨f, a⟩ := h
  obtain ⟨g, b⟩ := h'
  have x := PP_mono a g
  have y := PP_mono b f
  rw [Nat.add_comm g f] at y
  rw [x] at y
  exact Option.some.inj y
section
variable {K : Int → Int} {a b m : Nat} {d d1 d2 p p1 q q1 p0 q0 : Int} {r : Int × Int × Int}
/-- one after another -/
theorem RR.seq (h1 : RR K a d1 p0 q0 (p1, q1, -1)) (h2 : RR K b d2 p1 q1 r) : ∃ f, seqP (PP K f a d1 p0 q0) (fun p' q' => PP K f b d2 p' q') = some r := by
  obtain ⟨f, x⟩ := h1
  obtain ⟨g, y⟩ := h2
  refine ⟨f + g, ?_⟩
  rw [PP_mono x g, seqP_ok, Nat.add_comm f g]
  exact PP_mono y f
theorem RR.bad {g : Nat → Int → Int → Option (Int × Int × Int)} (h1 : RR K a d1 p0 q0 (p1, q1, 0)) : ∃ f, seqP (PP K f a d1 p0 q0) (g f) = some (p1, q1, 0) := by
  obtain ⟨f, x⟩ := h1
  refine ⟨f, ?_⟩
  rw [x, seqP_no]
theorem RR.mk {o : Nat → Option (Int × Int × Int)} (h : ∃ f, o f = some r) (e : ∀ f, PP K (f + 1) m d p q = o f) : RR K m d p q r := by
  obtain ⟨f, x⟩ := h
  exact ⟨f + 1, (e f).trans x⟩
theorem RR.m0 (h1 : RR K 2 d p q (p1, q1, -1)) (h2 : RR K 1 d p1 q1 r) : RR K 0 d p q r := RR.mk (h1.seq h2) (fun f => rfl)
theorem RR.b0 (h1 : RR K 2 d p q (p1, q1, 0)) : RR K 0 d p q (p1, q1, 0) := RR.mk (h1.bad (g := fun f p' q' => PP K f 1 d p' q')) (fun f => rfl)
theorem RR.m1 (hk : K p = 7) (h1 : RR K 2 d (p + 1) q (p1, q1, -1)) (h2 : RR K 1 d p1 q1 r) : RR K 1 d p q r := RR.mk (h1.seq h2) (fun f => if_pos hk)
theorem RR.b1 (hk : K p = 7) (h1 : RR K 2 d (p + 1) q (p1, q1, 0)) : RR K 1 d p q (p1, q1, 0) := RR.mk (h1.bad (g := fun f p' q' => PP K f 1 d p' q')) (fun f => if_pos hk)
theorem RR.e1 (hk : K p ≠ 7) : RR K 1 d p q (p, q, -1) := ⟨1, if_neg hk⟩
theorem RR.m2 (h1 : RR K 4 d p q (p1, q1, -1)) (h2 : RR K 3 d p1 q1 r) : RR K 2 d p q r := RR.mk (h1.seq h2) (fun f => rfl)
theorem RR.b2 (h1 : RR K 4 d p q (p1, q1, 0)) : RR K 2 d p q (p1, q1, 0) := RR.mk (h1.bad (g := fun f p' q' => PP K f 3 d p' q')) (fun f => rfl)
theorem RR.m3 (hk : K p = 8) (h1 : RR K 4 d (p + 1) q (p1, q1, -1)) (h2 : RR K 3 d p1 q1 r) : RR K 3 d p q r := RR.mk (h1.seq h2) (fun f => if_pos hk)
theorem RR.b3 (hk : K p = 8) (h1 : RR K 4 d (p + 1) q (p1, q1, 0)) : RR K 3 d p q (p1, q1, 0) := RR.mk (h1.bad (g := fun f p' q' => PP K f 3 d p' q')) (fun f => if_pos hk)
theorem RR.e3 (hk : K p ≠ 8) : RR K 3 d p q (p, q, -1) := ⟨1, if_neg hk⟩
theorem RR.n4 (hk : K p = 9) (h1 : RR K 4 d (p + 1) q r) : RR K 4 d p q r := by
  obtain ⟨f, x⟩ := h1
  exact ⟨f + 1, (if_pos hk : PP K (f + 1) 4 d p q = _).trans x⟩
theorem PP4 {f : Nat} (hk : K p ≠ 9) : PP K (f + 1) 4 d p q = (if K p = 140 then (if 8 ≤ d then some (p, q, 0) else seqP (PP K f 0 (d + 1) (p + 1) q) (fun p' q' => sgP K 141 p' q')) else if K p = 10 ∨ K p = 11 then lfP p q else seqP (PP K f 5 d p q) (fun p' q' => if K p' = 160 ∨ K p' = 161 ∨ K p' = 162 then PP K f 5 d (p' + 1) q' else some (p', q', 0))) := if_neg hk
theorem RR.d4 (hk : K p = 140) (hd : 8 ≤ d) : RR K 4 d p q (p, q, 0) := ⟨1, by rw [PP4 (by omega), if_pos hk, if_pos hd]⟩
theorem RR.o4 (hk : K p = 140) (hd : d < 8) (h1 : RR K 0 (d + 1) (p + 1) q (p1, q1, -1)) (hc : K p1 = 141) : RR K 4 d p q (p1 + 1, q1, -1) := by
  obtain ⟨f, x⟩ := h1
  refine ⟨f + 1, ?_⟩
  rw [PP4 (by omega), if_pos hk, if_neg (by omega), x, seqP_ok]
  unfold sgP
  rw [if_pos hc]
theorem RR.c4 (hk : K p = 140) (hd : d < 8) (h1 : RR K 0 (d + 1) (p + 1) q (p1, q1, -1)) (hc : K p1 ≠ 141) : RR K 4 d p q (p1, q1, 0) := by
  obtain ⟨f, x⟩ := h1
  refine ⟨f + 1, ?_⟩
  rw [PP4 (by omega), if_pos hk, if_neg (by omega), x, seqP_ok]
  unfold sgP
  rw [if_neg hc]
theorem RR.b4 (hk : K p = 140) (hd : d < 8) (h1 : RR K 0 (d + 1) (p + 1) q (p1, q1, 0)) : RR K 4 d p q (p1, q1, 0) := RR.mk (h1.bad (g := fun f p' q' => sgP K 141 p' q')) (fun f => by rw [PP4 (by omega), if_pos hk, if_neg (by omega)])
theorem RR.l4 (hk : K p = 10 ∨ K p = 11) (hq : q < 50) : RR K 4 d p q (p + 1, q + 1, -1) := ⟨1, by rw [PP4 (by omega), if_neg (by omega), if_pos hk]; unfold lfP; rw [if_neg (by omega)]⟩
theorem RR.lb4 (hk : K p = 10 ∨ K p = 11) (hq : 50 ≤ q) : RR K 4 d p q (p, q, 0) := ⟨1, by rw [PP4 (by omega), if_neg (by omega), if_pos hk]; unfold lfP; rw [if_pos hq]⟩
theorem RR.s4 (hk : K p ≠ 9 ∧ K p ≠ 140 ∧ K p ≠ 10 ∧ K p ≠ 11) (h1 : RR K 5 d p q (p1, q1, -1)) (hc : K p1 = 160 ∨ K p1 = 161 ∨ K p1 = 162) (h2 : RR K 5 d (p1 + 1) q1 r) : RR K 4 d p q r := by
  obtain ⟨f, x⟩ := h1
  obtain ⟨g, y⟩ := h2
  refine ⟨f + g + 1, ?_⟩
  rw [PP4 hk.1, if_neg hk.2.1, if_neg (by omega), PP_mono x g, seqP_ok, if_pos hc, Nat.add_comm f g]
  exact PP_mono y f
theorem RR.sc4 (hk : K p ≠ 9 ∧ K p ≠ 140 ∧ K p ≠ 10 ∧ K p ≠ 11) (h1 : RR K 5 d p q (p1, q1, -1)) (hc : ¬ (K p1 = 160 ∨ K p1 = 161 ∨ K p1 = 162)) : RR K 4 d p q (p1, q1, 0) := by
  obtain ⟨f, x⟩ := h1
  refine ⟨f + 1, ?_⟩
  rw [PP4 hk.1, if_neg hk.2.1, if_neg (by omega), x, seqP_ok, if_neg hc]
theorem RR.sb4 (hk : K p ≠ 9 ∧ K p ≠ 140 ∧ K p ≠ 10 ∧ K p ≠ 11) (h1 : RR K 5 d p q (p1, q1, 0)) : RR K 4 d p q (p1, q1, 0) := RR.mk (h1.bad (g := fun f p' q' => if K p' = 160 ∨ K p' = 161 ∨ K p' = 162 then PP K f 5 d (p' + 1) q' else some (p', q', 0))) (fun f => by rw [PP4 hk.1, if_neg hk.2.1, if_neg (by omega)])
theorem RR.m5 (h1 : RR K 7 d p q (p1, q1, -1)) (h2 : RR K 6 d p1 q1 r) : RR K 5 d p q r := RR.mk (h1.seq h2) (fun f => rfl)
theorem RR.b5 (h1 : RR K 7 d p q (p1, q1, 0)) : RR K 5 d p q (p1, q1, 0) := RR.mk (h1.bad (g := fun f p' q' => PP K f 6 d p' q')) (fun f => rfl)
theorem RR.m6 (hk : K p = 143 ∨ K p = 145) (h1 : RR K 7 d (p + 1) q (p1, q1, -1)) (h2 : RR K 6 d p1 q1 r) : RR K 6 d p q r := RR.mk (h1.seq h2) (fun f => if_pos hk)
theorem RR.b6 (hk : K p = 143 ∨ K p = 145) (h1 : RR K 7 d (p + 1) q (p1, q1, 0)) : RR K 6 d p q (p1, q1, 0) := RR.mk (h1.bad (g := fun f p' q' => PP K f 6 d p' q')) (fun f => if_pos hk)
theorem RR.e6 (hk : ¬ (K p = 143 ∨ K p = 145)) : RR K 6 d p q (p, q, -1) := ⟨1, if_neg hk⟩
theorem RR.m7 (h1 : RR K 9 d p q (p1, q1, -1)) (h2 : RR K 8 d p1 q1 r) : RR K 7 d p q r := RR.mk (h1.seq h2) (fun f => rfl)
theorem RR.b7 (h1 : RR K 9 d p q (p1, q1, 0)) : RR K 7 d p q (p1, q1, 0) := RR.mk (h1.bad (g := fun f p' q' => PP K f 8 d p' q')) (fun f => rfl)
theorem RR.m8 (hk : K p = 142 ∨ K p = 147) (h1 : RR K 9 d (p + 1) q (p1, q1, -1)) (h2 : RR K 8 d p1 q1 r) : RR K 8 d p q r := RR.mk (h1.seq h2) (fun f => if_pos hk)
theorem RR.b8 (hk : K p = 142 ∨ K p = 147) (h1 : RR K 9 d (p + 1) q (p1, q1, 0)) : RR K 8 d p q (p1, q1, 0) := RR.mk (h1.bad (g := fun f p' q' => PP K f 8 d p' q')) (fun f => if_pos hk)
theorem RR.e8 (hk : ¬ (K p = 142 ∨ K p = 147)) : RR K 8 d p q (p, q, -1) := ⟨1, if_neg hk⟩
theorem PP9 {f : Nat} : PP K (f + 1) 9 d p q = (if K p = 191 then (if 8 ≤ d then some (p, q, 0) else seqP (PP K f 5 (d + 1) (p + 1) q) (fun p' q' => sgP K 193 p' q')) else if K p = 21 ∨ (12 ≤ K p ∧ K p ≤ 20) then lfP p q else some (p, q, 0)) := rfl
theorem RR.d9 (hk : K p = 191) (hd : 8 ≤ d) : RR K 9 d p q (p, q, 0) := ⟨1, by rw [PP9, if_pos hk, if_pos hd]⟩
theorem RR.o9 (hk : K p = 191) (hd : d < 8) (h1 : RR K 5 (d + 1) (p + 1) q (p1, q1, -1)) (hc : K p1 = 193) : RR K 9 d p q (p1 + 1, q1, -1) := by
  obtain ⟨f, x⟩ := h1
  refine ⟨f + 1, ?_⟩
  rw [PP9, if_pos hk, if_neg (by omega), x, seqP_ok]
  unfold sgP
  rw [if_pos hc]
theorem RR.c9 (hk : K p = 191) (hd : d < 8) (h1 : RR K 5 (d + 1) (p + 1) q (p1, q1, -1)) (hc : K p1 ≠ 193) : RR K 9 d p q (p1, q1, 0) := by
  obtain ⟨f, x⟩ := h1
  refine ⟨f + 1, ?_⟩
  rw [PP9, if_pos hk, if_neg (by omega), x, seqP_ok]
  unfold sgP
  rw [if_neg hc]
theorem RR.b9 (hk : K p = 191) (hd : d < 8) (h1 : RR K 5 (d + 1) (p + 1) q (p1, q1, 0)) : RR K 9 d p q (p1, q1, 0) := RR.mk (h1.bad (g := fun f p' q' => sgP K 193 p' q')) (fun f => by rw [PP9, if_pos hk, if_neg (by omega)])
theorem RR.l9 (hk : K p = 21 ∨ (12 ≤ K p ∧ K p ≤ 20)) (hq : q < 50) : RR K 9 d p q (p + 1, q + 1, -1) := ⟨1, by rw [PP9, if_neg (by omega), if_pos hk]; unfold lfP; rw [if_neg (by omega)]⟩
theorem RR.lb9 (hk : K p = 21 ∨ (12 ≤ K p ∧ K p ≤ 20)) (hq : 50 ≤ q) : RR K 9 d p q (p, q, 0) := ⟨1, by rw [PP9, if_neg (by omega), if_pos hk]; unfold lfP; rw [if_pos hq]⟩
theorem RR.f9 (hk : K p ≠ 191 ∧ K p ≠ 21 ∧ ¬ (12 ≤ K p ∧ K p ≤ 20)) : RR K 9 d p q (p, q, 0) := ⟨1, by rw [PP9, if_neg hk.1, if_neg (by omega)]⟩
theorem PP10 {f : Nat} : PP K (f + 1) 10 d p q = (if 12 ≤ d ∨ 5 < K p then some (p, q, 0) else if K (p + 1) = 6 then seqP (PP K f 0 0 (p + 2) q) (fun p' q' => PP K f 11 d p' q') else PP K f 11 d (p + 1) q) := rfl
theorem PP11 {f : Nat} : PP K (f + 1) 11 d p q = (if K p = 22 then some (p, q, -1) else if K p = 159 then PP K f 10 (d + 1) (p + 1) q else some (p, q, 0)) := rfl
theorem RR.f10 (h : 12 ≤ d ∨ 5 < K p) : RR K 10 d p q (p, q, 0) := ⟨1, by rw [PP10, if_pos h]⟩
theorem RR.t10 (h : d < 12 ∧ K p ≤ 5) (hk : K (p + 1) = 6) (h1 : RR K 0 0 (p + 2) q (p1, q1, -1)) (h2 : RR K 11 d p1 q1 r) : RR K 10 d p q r := RR.mk (h1.seq h2) (fun f => by rw [PP10, if_neg (by omega), if_pos hk])
theorem RR.tb10 (h : d < 12 ∧ K p ≤ 5) (hk : K (p + 1) = 6) (h1 : RR K 0 0 (p + 2) q (p1, q1, 0)) : RR K 10 d p q (p1, q1, 0) := RR.mk (h1.bad (g := fun f p' q' => PP K f 11 d p' q')) (fun f => by rw [PP10, if_neg (by omega), if_pos hk])
theorem RR.h10 (h : d < 12 ∧ K p ≤ 5) (hk : K (p + 1) ≠ 6) (h2 : RR K 11 d (p + 1) q r) : RR K 10 d p q r := by
  obtain ⟨f, x⟩ := h2
  exact ⟨f + 1, by rw [PP10, if_neg (by omega), if_neg hk]; exact x⟩
theorem RR.e11 (hk : K p = 22) : RR K 11 d p q (p, q, -1) := ⟨1, by rw [PP11, if_pos hk]⟩
theorem RR.m11 (hk : K p = 159) (h2 : RR K 10 (d + 1) (p + 1) q r) : RR K 11 d p q r := by
  obtain ⟨f, x⟩ := h2
  exact ⟨f + 1, by rw [PP11, if_neg (by omega), if_pos hk]; exact x⟩
theorem RR.f11 (hk : K p ≠ 22 ∧ K p ≠ 159) : RR K 11 d p q (p, q, 0) := ⟨1, by rw [PP11, if_neg hk.1, if_neg hk.2]⟩
end
