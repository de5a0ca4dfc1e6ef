/-! The reference takes a TEXT. -/
/-- what a CODE of the reference is, of the j-th of n TOKENS -/
noncomputable def KOK (n j k c v : Int) : Prop := (1 ≤ c ∧ c ≤ 21 ∧ k = c - 1 ∧ j < n) ∨ (c = 50 ∧ v ≤ 100000 ∧ k = 21 ∧ j < n) ∨ (c = 50 ∧ 100000 < v ∧ k = 23 ∧ j < n) ∨ (c = 0 ∧ k = 23 ∧ j < n) ∨ (c = 23 ∧ k = 23 ∧ j < n) ∨ (c = 0 ∧ k = 22 ∧ j = n) ∨ (100 ≤ c ∧ c ≤ 355 ∧ k = c ∧ j < n)
theorem rkF_cases (c v : Int) : (c = 0 ∧ rkF c v = 23) ∨ (c ≠ 0 ∧ c ≤ 21 ∧ rkF c v = c - 1) ∨ (c = 50 ∧ v ≤ 100000 ∧ rkF c v = 21) ∨ (c = 50 ∧ 100000 < v ∧ rkF c v = 23) ∨ (21 < c ∧ c ≠ 50 ∧ rkF c v = c) := by
  unfold rkF
  by_cases h0 : c = 0
  · rw [if_pos h0]; exact Or.inl ⟨h0, rfl⟩
  · rw [if_neg h0]
    by_cases h1 : c ≤ 21
    · rw [if_pos h1]; exact Or.inr (Or.inl ⟨h0, h1, rfl⟩)
    · rw [if_neg h1]
      by_cases h2 : c = 50
      · rw [if_pos h2]
        by_cases h3 : v ≤ 100000
        · rw [if_pos h3]; exact Or.inr (Or.inr (Or.inl ⟨h2, h3, rfl⟩))
        · rw [if_neg h3]; exact Or.inr (Or.inr (Or.inr (Or.inl ⟨h2, by omega, rfl⟩)))
      · rw [if_neg h2]; exact Or.inr (Or.inr (Or.inr (Or.inr ⟨by omega, h2, rfl⟩)))
theorem KOK.of {T : Int → Int} {a e c v w n j : Int} (h : KD T a e (rkF c v) w) (hb : 0 ≤ T a ∧ T a ≤ 255) (hj : j < n) : KOK n j (rkF c v) c v := by
  have kr : (0 ≤ rkF c v ∧ rkF c v ≤ 20) ∨ rkF c v = 21 ∨ rkF c v = 23 ∨ (100 ≤ rkF c v ∧ rkF c v ≤ 355) := by
    obtain ⟨h1, h2, h3⟩ := h
    by_cases s : isSm (T a)
    · rcases h1 s with ⟨p, q, -⟩ | ⟨p, -⟩ <;> omega
    · by_cases g : isDg (T a)
      · rcases h2 g with ⟨-, p, -⟩ | ⟨-, p⟩ <;> omega
      · have q := h3 s g; omega
  have kc := rkF_cases c v
  unfold KOK
  omega
noncomputable def KQ (K C V : Int → Int) (n : Int) : Prop := ∀ j : Int, 0 ≤ j → j ≤ n → KOK n j (K j) (C j) (V j)
theorem KQ.of {T K C V st : Int → Int} {s n : Int} (h : TOK T s n st (rkN n C V) V) (hb : ∀ i : Int, 0 ≤ i → i < s → 0 ≤ T i ∧ T i ≤ 255) (hc : C n = 0) (hk : ∀ j : Int, 0 ≤ j → j ≤ n → rkN n C V j = K j) : KQ K C V n := by
  intro j x y
  rw [← hk j x y]
  by_cases q : j < n
  · obtain ⟨e, q1, q2⟩ := h.2.1 j x q
    have o := h.1.nn j x q
    unfold rkN at q2 ⊢
    rw [if_pos q] at q2 ⊢
    exact KOK.of q2 (hb _ o (by have := q1.1; omega)) q
  · unfold rkN
    rw [if_neg q]
    have e : j = n := by omega
    subst e
    unfold KOK
    omega
section
variable {K C V : Int → Int} {n j c k : Int}
/-- is it this TOKEN? -/
noncomputable def isC (c k : Int) : Prop := (c = k + 1 ∧ 0 ≤ k ∧ k ≤ 20) ∨ (c = k ∧ 100 ≤ k ∧ k ≤ 355)
theorem KQ.yes (h : KQ K C V n) (hc : isC c k) (h0 : 0 ≤ j ∧ j ≤ n) (e : C j = c) : K j = k ∧ j < n := by
  have w := h j h0.1 h0.2
  unfold KOK at w
  unfold isC at hc
  omega
theorem KQ.no (h : KQ K C V n) (hc : isC c k) (h0 : 0 ≤ j ∧ j ≤ n) (e : C j ≠ c) : K j ≠ k := by
  have w := h j h0.1 h0.2
  unfold KOK at w
  unfold isC at hc
  omega
end
/-- the TOKENS of the reference -/
noncomputable def RTx (C V st : Int → Int) (n : Int) (M : mH) : Prop := (∀ j : Int, gi M 97 j = C j) ∧ (∀ j : Int, gi M 98 j = V j) ∧ ∀ j : Int, 0 ≤ j → j ≤ n → gi M 99 j = st j
theorem RTx.of {C V st : Int → Int} {n : Int} {M M' : mH} (h : RTx C V st n M) (e : ∀ j : Int, gi M' 97 j = gi M 97 j) (e' : ∀ j : Int, gi M' 98 j = gi M 98 j) (e'' : ∀ j : Int, gi M' 99 j = gi M 99 j) : RTx C V st n M' := ⟨fun j => by rw [e]; exact h.1 j, fun j => by rw [e']; exact h.2.1 j, fun j a b => by rw [e'']; exact h.2.2 j a b⟩
theorem RTx.fr {C V st : Int → Int} {n : Int} {L : List (Nat × Nat)} {M M' : mH} (h : RTx C V st n M) (f : Fr L M M') (hc : s_al L (fun c => c != 97 && c != 98 && c != 99) = true) : RTx C V st n M' := h.of (fun _ => f.g (s_al_ok hc (by simp))) (fun _ => f.g (s_al_ok hc (by simp))) (fun _ => f.g (s_al_ok hc (by simp)))
theorem RTx.wr {C V st : Int → Int} {n : Int} {M M' : mH} {c i : Nat} {v : Value} (h : RTx C V st n M) (u : Wr M c i v M') (hc : c ≠ 97 ∧ c ≠ 98 ∧ c ≠ 99) : RTx C V st n M' := h.of (fun j => by unfold gi; rw [u.ne (Or.inl (Ne.symm hc.1))]) (fun j => by unfold gi; rw [u.ne (Or.inl (Ne.symm hc.2.1))]) (fun j => by unfold gi; rw [u.ne (Or.inl (Ne.symm hc.2.2))])
/-- from TOKEN a, q PARTS, fault b, one part is taken: to a', q', b' -/
noncomputable def RBx (K st : Int → Int) (m : Nat) (d a q b a' q' b' : Int) : Prop := (b ≠ -1 → a' = a ∧ q' = q ∧ b' = b) ∧ (b = -1 → (b' = -1 → q' ≤ 50 ∧ RR K m d a q (a', q', -1)) ∧ (b' ≠ -1 → b' = st a' ∧ ∃ z, RR K m d a q (a', z, 0)))
/-- so far in a row of parts -/
noncomputable def LQx (K st : Int → Int) (m n : Nat) (d a q b a' q' b' : Int) : Prop := (b ≠ -1 → a' = a ∧ q' = q ∧ b' = b) ∧ (b = -1 → (b' = -1 → q' ≤ 50 ∧ ∀ r, RR K n d a' q' r → RR K m d a q r) ∧ (b' ≠ -1 → b' = st a' ∧ ∃ z, RR K m d a q (a', z, 0)))
/-- what leaf does -/
noncomputable def LFx (st : Int → Int) (a q a' q' b' : Int) : Prop := (q < 50 ∧ a' = a + 1 ∧ q' = q + 1 ∧ b' = -1) ∨ (50 ≤ q ∧ a' = a ∧ b' = st a ∧ b' ≠ -1)
/-- what must does -/
noncomputable def MUx (K st : Int → Int) (k a b a' b' : Int) : Prop := (b ≠ -1 ∧ a' = a ∧ b' = b) ∨ (b = -1 ∧ K a = k ∧ a' = a + 1 ∧ b' = -1) ∨ (b = -1 ∧ K a ≠ k ∧ a' = a ∧ b' = st a ∧ b' ≠ -1)
section
variable {K st : Int → Int} {k m n : Nat} {d a q b a' q' b' p a0 q0 b0 a1 q1 b1 a2 q2 b2 a3 q3 b3 : Int}
theorem RBx.id (hb : b ≠ -1) (ea : a' = a) (eq : q' = q) (eb : b' = b) : RBx K st m d a q b a' q' b' := ⟨fun _ => ⟨ea, eq, eb⟩, fun c => absurd c hb⟩
theorem RBx.ok (hb : b' = -1) (hq : q' ≤ 50) (h : RR K m d a q (a', q', -1)) : RBx K st m d a q (-1) a' q' b' := ⟨fun c => absurd rfl c, fun _ => ⟨fun _ => ⟨hq, h⟩, fun c => absurd hb c⟩⟩
theorem RBx.no {z : Int} (hb : b' ≠ -1) (e : b' = st a') (h : RR K m d a q (a', z, 0)) : RBx K st m d a q (-1) a' q' b' := ⟨fun c => absurd rfl c, fun _ => ⟨fun c => absurd c hb, fun _ => ⟨e, z, h⟩⟩⟩
theorem RBx.at (h : RBx K st m d a q b a' q' b') (ea : a = a0) (eq : q = q0) (eb : b = b0) : RBx K st m d a0 q0 b0 a' q' b' := by subst ea eq eb; exact h
theorem RBx.to (h : RBx K st m d a q b a' q' b') (ea : a' = a0) (eq : q' = q0) (eb : b' = b0) : RBx K st m d a q b a0 q0 b0 := by subst ea eq eb; exact h
theorem LQx.ini (hm : ∀ (p1 q1 : Int) (r : Int × Int × Int), RR K k d a q (p1, q1, -1) → RR K n d p1 q1 r → RR K m d a q r) (hb : ∀ p1 q1 : Int, RR K k d a q (p1, q1, 0) → RR K m d a q (p1, q1, 0)) (h : RBx K st k d a q b a' q' b') : LQx K st m n d a q b a' q' b' :=
  ⟨h.1, fun c => ⟨fun e => ⟨((h.2 c).1 e).1, fun r g => hm _ _ r ((h.2 c).1 e).2 g⟩, fun e => ⟨((h.2 c).2 e).1, ((h.2 c).2 e).2.elim fun z g => ⟨z, hb _ _ g⟩⟩⟩⟩
theorem LQx.stp (hm : ∀ (p1 q1 : Int) (r : Int × Int × Int), RR K k d (a0 + 1) q0 (p1, q1, -1) → RR K n d p1 q1 r → RR K n d a0 q0 r) (hb : ∀ p1 q1 : Int, RR K k d (a0 + 1) q0 (p1, q1, 0) → RR K n d a0 q0 (p1, q1, 0)) (i : LQx K st m n d a q b a0 q0 b0) (e0 : b0 = -1) (h : RBx K st k d (a0 + 1) q0 b0 a1 q1 b1) : LQx K st m n d a q b a1 q1 b1 := by
  subst e0
  refine ⟨fun c => absurd ((i.1 c).2.2).symm c, fun c => ⟨fun e => ?_, fun e => ?_⟩⟩
  · have o := (h.2 rfl).1 e
    exact ⟨o.1, fun r g => ((i.2 c).1 rfl).2 r (hm _ _ r o.2 g)⟩
  · obtain ⟨x, z, g⟩ := (h.2 rfl).2 e
    exact ⟨x, z, ((i.2 c).1 rfl).2 _ (hb _ _ g)⟩
theorem LQx.fin (i : LQx K st m n d a q b a0 q0 b0) (he : b0 = -1 → RR K n d a0 q0 (a0, q0, -1)) : RBx K st m d a q b a0 q0 b0 :=
  ⟨i.1, fun c => ⟨fun e => ⟨((i.2 c).1 e).1, ((i.2 c).1 e).2 _ (he e)⟩, (i.2 c).2⟩⟩
theorem LQx.q50 (i : LQx K st m n d a q b a0 q0 b0) (h : b = -1 → q ≤ 50) (e : b0 = -1) : q0 ≤ 50 := by
  by_cases c : b = -1
  · exact ((i.2 c).1 e).1
  · exact absurd ((i.1 c).2.2.symm.trans e) c
theorem RBx.q50 (i : RBx K st m d a q b a0 q0 b0) (h : b = -1 → q ≤ 50) (e : b0 = -1) : q0 ≤ 50 := by
  by_cases c : b = -1
  · exact ((i.2 c).1 e).1
  · exact absurd ((i.1 c).2.2.symm.trans e) c
theorem RBx.l4 (hk : K a = 10 ∨ K a = 11) (h : LFx st a q a' q' b') : RBx K st 4 d a q (-1) a' q' b' := by
  rcases h with ⟨x, rfl, rfl, y⟩ | ⟨x, rfl, y, z⟩
  · exact RBx.ok y (by omega) (RR.l4 hk x)
  · exact RBx.no z y (RR.lb4 hk x)
theorem RBx.l9 (hk : K a = 21 ∨ (12 ≤ K a ∧ K a ≤ 20)) (h : LFx st a q a' q' b') : RBx K st 9 d a q (-1) a' q' b' := by
  rcases h with ⟨x, rfl, rfl, y⟩ | ⟨x, rfl, y, z⟩
  · exact RBx.ok y (by omega) (RR.l9 hk x)
  · exact RBx.no z y (RR.lb9 hk x)
theorem RBx.o9 (hk : K a = 191) (hd : d < 8) (h : RBx K st 5 (d + 1) (a + 1) q (-1) a1 q1 b1) (hm : MUx K st 193 a1 b1 a2 b2) : RBx K st 9 d a q (-1) a2 q1 b2 := by
  rcases hm with ⟨x, rfl, rfl⟩ | ⟨rfl, x, rfl, y⟩ | ⟨rfl, x, rfl, y, z⟩
  · obtain ⟨e, w, g⟩ := (h.2 rfl).2 x
    exact RBx.no x e (RR.b9 hk hd g)
  · have o := (h.2 rfl).1 rfl
    exact RBx.ok y o.1 (RR.o9 hk hd o.2 x)
  · have o := (h.2 rfl).1 rfl
    exact RBx.no z y (RR.c9 hk hd o.2 x)
theorem RBx.o4 (hk : K a = 140) (hd : d < 8) (h : RBx K st 0 (d + 1) (a + 1) q (-1) a1 q1 b1) (hm : MUx K st 141 a1 b1 a2 b2) : RBx K st 4 d a q (-1) a2 q1 b2 := by
  rcases hm with ⟨x, rfl, rfl⟩ | ⟨rfl, x, rfl, y⟩ | ⟨rfl, x, rfl, y, z⟩
  · obtain ⟨e, w, g⟩ := (h.2 rfl).2 x
    exact RBx.no x e (RR.b4 hk hd g)
  · have o := (h.2 rfl).1 rfl
    exact RBx.ok y o.1 (RR.o4 hk hd o.2 x)
  · have o := (h.2 rfl).1 rfl
    exact RBx.no z y (RR.c4 hk hd o.2 x)
/-- two SUMS and what lies between them -/
theorem RBx.cmp (hk : K a ≠ 9 ∧ K a ≠ 140 ∧ K a ≠ 10 ∧ K a ≠ 11) (h : RBx K st 5 d a q (-1) a1 q1 b1) (hs : (b1 ≠ -1 ∧ a2 = a1 ∧ b2 = b1) ∨ (b1 = -1 ∧ (K a1 = 160 ∨ K a1 = 161 ∨ K a1 = 162) ∧ a2 = a1 + 1 ∧ b2 = -1) ∨ (b1 = -1 ∧ ¬ (K a1 = 160 ∨ K a1 = 161 ∨ K a1 = 162) ∧ a2 = a1 ∧ b2 = st a1 ∧ b2 ≠ -1)) (h2 : RBx K st 5 d a2 q1 b2 a3 q3 b3) : RBx K st 4 d a q (-1) a3 q3 b3 := by
  rcases hs with ⟨x, rfl, rfl⟩ | ⟨rfl, x, rfl, rfl⟩ | ⟨rfl, x, rfl, y, z⟩
  · obtain ⟨e, w, g⟩ := (h.2 rfl).2 x
    obtain ⟨rfl, rfl, rfl⟩ := h2.1 x
    exact RBx.no x e (RR.sb4 hk g)
  · have o := (h.2 rfl).1 rfl
    refine ⟨fun c => absurd rfl c, fun _ => ⟨fun e => ?_, fun e => ?_⟩⟩
    · have w := (h2.2 rfl).1 e
      exact ⟨w.1, RR.s4 hk o.2 x w.2⟩
    · obtain ⟨w, u, g⟩ := (h2.2 rfl).2 e
      exact ⟨w, u, RR.s4 hk o.2 x g⟩
  · have o := (h.2 rfl).1 rfl
    obtain ⟨rfl, rfl, rfl⟩ := h2.1 z
    exact RBx.no z y (RR.sc4 hk o.2 x)
theorem RBx.nots (hn : NTx K d a q a0) (h : RBx K st 4 d a0 q (-1) a' q' b') : RBx K st 4 d a q (-1) a' q' b' :=
  ⟨fun c => absurd rfl c, fun _ => ⟨fun e => ⟨((h.2 rfl).1 e).1, hn _ ((h.2 rfl).1 e).2⟩, fun e => ⟨((h.2 rfl).2 e).1, ((h.2 rfl).2 e).2.elim fun z g => ⟨z, hn _ g⟩⟩⟩⟩
end
/-- one CLAUSE: what follows it -/
noncomputable def CRx (K st : Int → Int) (a q a' q' b' : Int) : Prop := (b' = -1 → q' ≤ 50 ∧ ∀ (d : Int) (r : Int × Int × Int), d < 12 → RR K 11 d a' q' r → RR K 10 d a q r) ∧ (b' ≠ -1 → b' = st a' ∧ ∀ d : Int, d < 12 → ∃ z, RR K 10 d a q (a', z, 0))
/-- so far in a row of CLAUSES, x of them -/
noncomputable def QRx (K st : Int → Int) (x a' q' b' : Int) : Prop := (b' = -1 → q' ≤ 50 ∧ ∀ r, RR K 11 (x - 1) a' q' r → RR K 10 0 0 0 r) ∧ (b' ≠ -1 → b' = st a' ∧ ∃ z, RR K 10 0 0 0 (a', z, 0))
section
variable {K st : Int → Int} {d a q a' q' b' x a0 q0 b0 : Int}
theorem CRx.t (hk : K a ≤ 5) (hk2 : K (a + 1) = 6) (h : RBx K st 0 0 (a + 2) q (-1) a' q' b') : CRx K st a q a' q' b' :=
  ⟨fun e => ⟨((h.2 rfl).1 e).1, fun d r hd g => RR.t10 ⟨hd, hk⟩ hk2 ((h.2 rfl).1 e).2 g⟩, fun e => ⟨((h.2 rfl).2 e).1, fun d hd => ((h.2 rfl).2 e).2.elim fun z g => ⟨z, RR.tb10 ⟨hd, hk⟩ hk2 g⟩⟩⟩
theorem CRx.h (hk : K a ≤ 5) (hk2 : K (a + 1) ≠ 6) (hq : q ≤ 50) (ea : a' = a + 1) (eq : q' = q) (eb : b' = -1) : CRx K st a q a' q' b' := by
  subst ea eq eb
  exact ⟨fun _ => ⟨hq, fun d r hd g => RR.h10 ⟨hd, hk⟩ hk2 g⟩, fun c => absurd rfl c⟩
theorem CRx.f (hk : 5 < K a) (ea : a' = a) (eb : b' = st a) (hb : b' ≠ -1) : CRx K st a q a' q' b' := by
  subst ea
  exact ⟨fun c => absurd c hb, fun _ => ⟨eb, fun d _ => ⟨q, RR.f10 (Or.inr hk)⟩⟩⟩
theorem QRx.one (h : CRx K st 0 0 a' q' b') : QRx K st 1 a' q' b' :=
  ⟨fun e => ⟨(h.1 e).1, fun r g => (h.1 e).2 0 r (by decide) g⟩, fun e => ⟨(h.2 e).1, (h.2 e).2 0 (by decide)⟩⟩
theorem QRx.next (i : QRx K st x a0 q0 b0) (e0 : b0 = -1) (hx : x < 12) (hk : K a0 = 159) (h : CRx K st (a0 + 1) q0 a' q' b') : QRx K st (x + 1) a' q' b' := by
  refine ⟨fun e => ⟨(h.1 e).1, fun r g => (i.1 e0).2 r (RR.m11 hk ?_)⟩, fun e => ⟨(h.2 e).1, ?_⟩⟩
  · exact (h.1 e).2 _ r (by omega) (by rw [show x - 1 + 1 = x + 1 - 1 by omega]; exact g)
  · obtain ⟨z, g⟩ := (h.2 e).2 (x - 1 + 1) (by omega)
    exact ⟨z, (i.1 e0).2 _ (RR.m11 hk g)⟩
theorem QRx.full (i : QRx K st x a0 q0 b0) (e0 : b0 = -1) (hx : x = 12) (hk : K a0 = 159) (ea : a' = a0 + 1) (eb : b' = st a') (hb : b' ≠ -1) : QRx K st (x + 1) a' q' b' := by
  subst ea
  exact ⟨fun c => absurd c hb, fun _ => ⟨eb, q0, (i.1 e0).2 _ (RR.m11 hk (RR.f10 (Or.inl (by omega))))⟩⟩
theorem QRx.bad (i : QRx K st x a0 q0 b0) (hb : b0 ≠ -1) (ea : a' = a0) (eb : b' = b0) (y : Int) : QRx K st y a' q' b' := by
  subst ea eb
  exact ⟨fun c => absurd c hb, i.2⟩
/-- at the end of a TEXT: all is well, or the fault -/
theorem QRx.fin (i : QRx K st x a0 q0 b0) (h : (b0 ≠ -1 ∧ a' = a0 ∧ b' = b0) ∨ (b0 = -1 ∧ K a0 = 22 ∧ a' = a0 ∧ b' = -1) ∨ (b0 = -1 ∧ K a0 ≠ 22 ∧ K a0 ≠ 159 ∧ a' = a0 ∧ b' = st a0 ∧ b' ≠ -1)) : (b' = -1 → ∃ u w, RR K 10 0 0 0 (u, w, -1)) ∧ (b' ≠ -1 → b' = st a' ∧ ∃ z, RR K 10 0 0 0 (a', z, 0)) := by
  rcases h with ⟨x, rfl, rfl⟩ | ⟨x, y, rfl, rfl⟩ | ⟨x, y, z, rfl, w, u⟩
  · exact ⟨fun c => absurd c x, i.2⟩
  · exact ⟨fun _ => ⟨_, _, (i.1 x).2 _ (RR.e11 y)⟩, fun c => absurd rfl c⟩
  · exact ⟨fun c => absurd c u, fun _ => ⟨w, _, (i.1 x).2 _ (RR.f11 ⟨y, z⟩)⟩⟩
end

set_option maxRecDepth 4000 in
theorem k217p {base : Nat} {X : Nat → Option mC} {G : Nat → Value} (E : EnvOK base X G) {d : Nat} (hd : 1 ≤ d) {M : mH} (H : HI base M) (n : Int) (tok : Int) (bd : Int) (C : Int → Int) (V : Int → Int) (st : Int → Int) (h0 : RTx C V st n M) (h1 : 0 ≤ n ∧ n ≤ 400) (h2 : gi M 77 36 = n) (h3 : gi M 77 37 = tok) (h4 : 0 ≤ tok ∧ tok ≤ n) (h5 : gi M 77 39 = bd) : sOk base X G d T217 [vR 77] M (pV (fun M' => HI base M' ∧ Fr [(77, 40)] M M' ∧ (gi M' 77 39 ≠ -1) ∧ (bd ≠ -1 → gi M' 77 39 = bd) ∧ (bd = -1 → gi M' 77 39 = st tok))) := by
  have f0 : Fr [(77, 40)] M M := Fr.rf
  refine sOk.of (show sRn base X G d T217 0 [(0, vR 77)] [] M _ from ?_)
  refine s_blx (lv' := [(0, vR 77)]) (st' := [vR 77]) B217_0_1 rfl ?_
  have g1 : gi M 77 39 = bd := h5
  refine r_vIp (c := 77) (args := []) (rest := []) (pc' := 4) D217_1 rfl ck_11_virtual_321 TE216 rfl (Nat.le_of_ble_eq_true rfl) ⟨Nat.le_of_ble_eq_true rfl, Nat.le_of_ble_eq_true rfl⟩ sc_77 ⟨rfl, by decide⟩ H.1 (dp_0 hd rfl) (k216x E (dp_n hd rfl) H ) ?_
  intro v2 q7
  obtain ⟨q4, q5, q6⟩ := q7
  refine r_ifc (tgt := 20) (pc' := 7) D217_4 rfl rfl (by unfold inR; omega) (fun (c8 : v2 = 0) => ?_) (fun (c8 : ¬ (v2 = 0)) => ?_)
  · have g9 : gi M 77 39 = bd := h5
    exact r_retV D217_20 rfl (⟨H, f0, by first | (rw [g9]; omega) | rw [g9], by first | (rw [g9]; omega) | rw [g9], by first | (rw [g9]; omega) | rw [g9]⟩)
  · refine s_blx (lv' := [(0, vR 77)]) (st' := [vR 77, vR 77]) B217_7_9 rfl ?_
    refine r_gfix (r := 99) (pc' := 12) D217_9 rfl gf_11_84_77 H.1 ?_
    refine s_blx (lv' := [(0, vR 77)]) (st' := [vR 77, vR 99, vR 77]) B217_12_13 rfl ?_
    refine r_gint (ki := 37) (pc' := 16) D217_13 rfl gf_11_325_77 rfl H.1 ?_
    intro w10 e11 r12
    have e13 : tok = w10 := (e11.trans (h3)).symm
    subst e13
    refine r_iald (pc' := 17) D217_16 rfl sc_99 H.1 (by omega) ?_
    intro w14 e15 r16
    have b_w14 := H.2 99 (tok) 0 400 rfl
    rw [← e15] at b_w14; clear r16
    have kw : w14 = st tok := by rw [e15]; exact (h0).2.2 tok (by omega) (by omega)
    refine r_pint (ki := 39) (pc' := 20) D217_17 rfl pf_11_318_77 rfl H (by unfold inR; omega) trivial ?_
    intro M17 u18 H19 p20
    have f21 := f0.wr u18 rfl
    have g22 : gi M17 77 39 = w14 := p20
    exact r_retV D217_20 rfl (⟨H19, f21, by first | (rw [g22]; omega) | rw [g22], by first | (rw [g22]; omega) | rw [g22], by first | (rw [g22]; omega) | rw [g22]⟩)
set_option maxRecDepth 4000 in
theorem k218p {base : Nat} {X : Nat → Option mC} {G : Nat → Value} (E : EnvOK base X G) {d : Nat} (hd : 1 ≤ d) {M : mH} (H : HI base M) (c : Int) (kk : Int) (n : Int) (tok : Int) (bd : Int) (lq : Int) (K : Int → Int) (C : Int → Int) (V : Int → Int) (st : Int → Int) (h0 : RTx C V st n M) (h1 : KQ K C V n) (h2 : 0 ≤ n ∧ n ≤ 400) (h3 : gi M 77 36 = n) (h4 : gi M 77 37 = tok) (h5 : 0 ≤ tok ∧ tok ≤ n) (h6 : gi M 77 38 = lq) (h7 : gi M 77 39 = bd) (h8 : 0 ≤ lq ∧ lq ≤ 51) (h9 : bd = -1 → lq ≤ 50) (h10 : isC c kk) (h11 : -2147483648 ≤ c ∧ c ≤ 2147483647) : sOk base X G d T218 [vR 77, vI c] M (pI (fun v M' => HI base M' ∧ Fr [(77, 38)] M M' ∧ (v = 0 ∨ v = 1) ∧ (gi M' 77 37 = tok + v) ∧ (gi M' 77 37 ≤ n) ∧ (v = 1 → bd = -1 ∧ K tok = kk) ∧ (v = 0 → bd ≠ -1 ∨ K tok ≠ kk))) := by
  have f0 : Fr [(77, 38)] M M := Fr.rf
  refine sOk.of (show sRn base X G d T218 0 [(0, vR 77), (1, vI c)] [] M _ from ?_)
  refine s_blx (lv' := [(0, vR 77), (1, vI c)]) (st' := [vR 77]) B218_0_1 rfl ?_
  have g1 : gi M 77 39 = bd := h7
  refine r_vIp (c := 77) (args := []) (rest := []) (pc' := 4) D218_1 rfl ck_11_virtual_321 TE216 rfl (Nat.le_of_ble_eq_true rfl) ⟨Nat.le_of_ble_eq_true rfl, Nat.le_of_ble_eq_true rfl⟩ sc_77 ⟨rfl, by decide⟩ H.1 (dp_0 hd rfl) (k216x E (dp_n hd rfl) H ) ?_
  intro v2 q7
  obtain ⟨q4, q5, q6⟩ := q7
  refine r_ifc (tgt := 24) (pc' := 7) D218_4 rfl rfl (by unfold inR; omega) (fun (c8 : v2 = 0) => ?_) (fun (c8 : ¬ (v2 = 0)) => ?_)
  · refine s_blx (lv' := [(2, vI 0), (0, vR 77), (1, vI c)]) (st' := [vI 0]) B218_24_27 rfl ?_
    refine r_ifc (tgt := 40) (pc' := 30) D218_27 rfl rfl (by unfold inR; omega) (fun (c9 : 0 = 0) => ?_) (fun (c9 : ¬ (0 = 0)) => ?_)
    · refine s_blx (lv' := [(2, vI 0), (0, vR 77), (1, vI c)]) (st' := [vI 0]) B218_40_41 rfl ?_
      have g10 : gi M 77 37 = tok := h4
      exact r_zretI D218_41 rfl (by omega) (⟨H, f0, by omega, by first | (rw [g10]; omega) | rw [g10], by first | (rw [g10]; omega) | rw [g10], by omega, by omega⟩)
    · exfalso; omega
  · refine s_blx (lv' := [(0, vR 77), (1, vI c)]) (st' := [vR 77]) B218_7_8 rfl ?_
    refine r_gfix (r := 97) (pc' := 11) D218_8 rfl gf_11_78_77 H.1 ?_
    refine s_blx (lv' := [(0, vR 77), (1, vI c)]) (st' := [vR 77, vR 97]) B218_11_12 rfl ?_
    refine r_gint (ki := 37) (pc' := 15) D218_12 rfl gf_11_325_77 rfl H.1 ?_
    intro w11 e12 r13
    have e14 : tok = w11 := (e12.trans (h4)).symm
    subst e14
    refine r_iald (pc' := 16) D218_15 rfl sc_97 H.1 (by omega) ?_
    intro w15 e16 r17
    unfold inR at r17
    have kc : w15 = C tok := by rw [e16]; exact (h0).1 tok
    have kY : C tok = c → K tok = kk ∧ tok < n := fun e_ => h1.yes h10 h5 e_
    have kN : C tok ≠ c → K tok ≠ kk := fun e_ => h1.no h10 h5 e_
    refine s_blx (lv' := [(0, vR 77), (1, vI c)]) (st' := [vI c, vI w15]) B218_16_17 rfl ?_
    refine r_icmp (tgt := 24) (pc' := 20) D218_17 rfl rfl (by unfold inR; omega) (fun (c18 : w15 ≠ c) => ?_) (fun (c18 : ¬ (w15 ≠ c)) => ?_)
    · refine s_blx (lv' := [(2, vI 0), (0, vR 77), (1, vI c)]) (st' := [vI 0]) B218_24_27 rfl ?_
      refine r_ifc (tgt := 40) (pc' := 30) D218_27 rfl rfl (by unfold inR; omega) (fun (c19 : 0 = 0) => ?_) (fun (c19 : ¬ (0 = 0)) => ?_)
      · refine s_blx (lv' := [(2, vI 0), (0, vR 77), (1, vI c)]) (st' := [vI 0]) B218_40_41 rfl ?_
        have g20 : gi M 77 37 = tok := h4
        exact r_zretI D218_41 rfl (by omega) (⟨H, f0, by omega, by first | (rw [g20]; omega) | rw [g20], by first | (rw [g20]; omega) | rw [g20], by omega, by omega⟩)
      · exfalso; omega
    · refine s_blx (lv' := [(0, vR 77), (1, vI c)]) (st' := [vI 1]) B218_20_21 rfl ?_
      refine r_goto (tgt := 25) D218_21 rfl ?_
      refine s_blx (lv' := [(2, vI 1), (0, vR 77), (1, vI c)]) (st' := [vI 1]) B218_25_27 rfl ?_
      refine r_ifc (tgt := 40) (pc' := 30) D218_27 rfl rfl (by unfold inR; omega) (fun (c21 : 1 = 0) => ?_) (fun (c21 : ¬ (1 = 0)) => ?_)
      · exfalso; omega
      · refine s_blx (lv' := [(2, vI 1), (0, vR 77), (1, vI c)]) (st' := [vR 77, vR 77]) B218_30_32 rfl ?_
        refine r_gint (ki := 37) (pc' := 35) D218_32 rfl gf_11_325_77 rfl H.1 ?_
        intro w22 e23 r24
        have e25 : tok = w22 := (e23.trans (h4)).symm
        subst e25
        refine s_blx (lv' := [(2, vI 1), (0, vR 77), (1, vI c)]) (st' := [vI (tok + 1), vR 77]) B218_35_37 rfl ?_
        refine r_pint (ki := 37) (pc' := 40) D218_37 rfl pf_11_325_77 rfl H (by unfold inR; omega) (show 0 ≤ (tok + 1) ∧ (tok + 1) ≤ 400 by omega) ?_
        intro M26 u27 H28 p29
        have f30 := f0.wr u27 rfl
        refine s_blx (lv' := [(2, vI 1), (0, vR 77), (1, vI c)]) (st' := [vI 1]) B218_40_41 rfl ?_
        have g31 : gi M26 77 37 = tok + 1 := p29
        exact r_zretI D218_41 rfl (by omega) (⟨H28, f30, by omega, by first | (rw [g31]; omega) | rw [g31], by first | (rw [g31]; omega) | rw [g31], by omega, by omega⟩)
set_option maxRecDepth 4000 in
theorem k219p {base : Nat} {X : Nat → Option mC} {G : Nat → Value} (E : EnvOK base X G) {d : Nat} (hd : 2 ≤ d) {M : mH} (H : HI base M) (c : Int) (kk : Int) (n : Int) (tok : Int) (bd : Int) (lq : Int) (K : Int → Int) (C : Int → Int) (V : Int → Int) (st : Int → Int) (h0 : RTx C V st n M) (h1 : KQ K C V n) (h2 : 0 ≤ n ∧ n ≤ 400) (h3 : gi M 77 36 = n) (h4 : gi M 77 37 = tok) (h5 : 0 ≤ tok ∧ tok ≤ n) (h6 : gi M 77 38 = lq) (h7 : gi M 77 39 = bd) (h8 : 0 ≤ lq ∧ lq ≤ 51) (h9 : bd = -1 → lq ≤ 50) (h10 : isC c kk) (h11 : -2147483648 ≤ c ∧ c ≤ 2147483647) : sOk base X G d T219 [vR 77, vI c] M (pV (fun M' => HI base M' ∧ Fr [(77, 38), (77, 40)] M M' ∧ (MUx K st kk tok bd (gi M' 77 37) (gi M' 77 39)) ∧ (tok ≤ gi M' 77 37 ∧ gi M' 77 37 ≤ n) ∧ (gi M' 77 39 = -1 → bd = -1))) := by
  have f0 : Fr [(77, 38), (77, 40)] M M := Fr.rf
  refine sOk.of (show sRn base X G d T219 0 [(0, vR 77), (1, vI c)] [] M _ from ?_)
  refine s_blx (lv' := [(0, vR 77), (1, vI c)]) (st' := [vI c, vR 77]) B219_0_2 rfl ?_
  have g1 : gi M 77 36 = n := h3
  have g2 : gi M 77 37 = tok := h4
  have g3 : gi M 77 38 = lq := h6
  have g4 : gi M 77 39 = bd := h7
  refine r_vI (c := 77) (args := [vI c]) (rest := []) (pc' := 5) D219_2 rfl ck_11_virtual_328 TE218 rfl (Nat.le_of_ble_eq_true rfl) ⟨Nat.le_of_ble_eq_true rfl, Nat.le_of_ble_eq_true rfl⟩ sc_77 ⟨rfl, by decide⟩ H.1 (dp_0 hd rfl) (k218p E (dp_n hd rfl) H c kk n tok bd lq K C V st (h0) (h1) (by omega) (by omega) (by omega) (by omega) (by omega) (by omega) (by omega) (by omega) (by first | assumption | (unfold isC; omega)) (by omega)) ?_
  intro v5 M6 q14
  obtain ⟨H7, f8, q9, q10, q11, q12, q13⟩ := q14
  have f15 := f0.tr (f8.up rfl)
  obtain ⟨t16, ht17⟩ : ∃ q, q = gi M6 77 37 := ⟨_, rfl⟩
  have b_t16 := H7.2 77 37 0 400 rfl
  rw [← ht17] at b_t16
  rw [← ht17] at q10
  rw [← ht17] at q11
  refine r_ifc (tgt := 12) (pc' := 8) D219_5 rfl rfl (by unfold inR; omega) (fun (c18 : v5 ≠ 0) => ?_) (fun (c18 : ¬ (v5 ≠ 0)) => ?_)
  · have g19 : gi M6 77 37 = t16 := ht17.symm
    have g20 : gi M6 77 39 = bd := (f8.g rfl).trans (h7)
    exact r_retV D219_12 rfl (⟨H7, f15, by rw [(ht17.symm), ((f8.g rfl).trans (h7))]; unfold MUx; omega, by first | (rw [g19]; omega) | rw [g19], by first | (rw [g20]; omega) | rw [g20]⟩)
  · refine s_blx (lv' := [(0, vR 77), (1, vI c)]) (st' := [vR 77]) B219_8_9 rfl ?_
    have g21 : gi M6 77 36 = n := (f8.g rfl).trans (h3)
    have g22 : gi M6 77 37 = t16 := ht17.symm
    have g23 : gi M6 77 39 = bd := (f8.g rfl).trans (h7)
    refine r_vV (c := 77) (args := []) (rest := []) (pc' := 12) D219_9 rfl ck_11_virtual_331 TE217 rfl (Nat.le_of_ble_eq_true rfl) ⟨Nat.le_of_ble_eq_true rfl, Nat.le_of_ble_eq_true rfl⟩ sc_77 ⟨rfl, by decide⟩ H7.1 (dp_0 hd rfl) (k217p E (dp_n hd rfl) H7 n t16 bd C V st ((h0.fr f15 rfl)) (by omega) (by omega) (by omega) (by omega) (by omega)) ?_
    intro M25 q31
    obtain ⟨H26, f27, q28, q29, q30⟩ := q31
    have f32 := f15.tr (f27.up rfl)
    obtain ⟨t33, ht34⟩ : ∃ q, q = gi M25 77 39 := ⟨_, rfl⟩
    have b_t33 := (H26.1.int sc_77 (i := 39) (by decide) (by decide) rfl).2
    unfold inR at b_t33; rw [← ht34] at b_t33
    rw [← ht34] at q28
    rw [← ht34] at q29
    rw [← ht34] at q30
    have kst : st t16 = st tok := by rw [show t16 = tok by omega]
    have g35 : gi M25 77 37 = t16 := (f27.g rfl).trans (ht17.symm)
    have g36 : gi M25 77 39 = t33 := ht34.symm
    exact r_retV D219_12 rfl (⟨H26, f32, by rw [((f27.g rfl).trans (ht17.symm)), (ht34.symm)]; unfold MUx; omega, by first | (rw [g35]; omega) | rw [g35], by first | (rw [g36]; omega) | rw [g36]⟩)
set_option maxRecDepth 4000 in
theorem k220p {base : Nat} {X : Nat → Option mC} {G : Nat → Value} (E : EnvOK base X G) {d : Nat} (hd : 2 ≤ d) {M : mH} (H : HI base M) (n : Int) (tok : Int) (bd : Int) (lq : Int) (K : Int → Int) (C : Int → Int) (V : Int → Int) (st : Int → Int) (h0 : RTx C V st n M) (h1 : KQ K C V n) (h2 : 0 ≤ n ∧ n ≤ 400) (h3 : gi M 77 36 = n) (h4 : gi M 77 37 = tok) (h5 : 0 ≤ tok ∧ tok ≤ n) (h6 : gi M 77 38 = lq) (h7 : gi M 77 39 = bd) (h8 : 0 ≤ lq ∧ lq ≤ 51) (h9 : bd = -1 → lq ≤ 50) (h10 : bd = -1) (h11 : tok < n) : sOk base X G d T220 [vR 77] M (pV (fun M' => HI base M' ∧ Fr [(77, 38), (77, 39), (77, 40)] M M' ∧ (LFx st tok lq (gi M' 77 37) (gi M' 77 38) (gi M' 77 39)) ∧ (tok ≤ gi M' 77 37 ∧ gi M' 77 37 ≤ n) ∧ (0 ≤ gi M' 77 38 ∧ gi M' 77 38 ≤ 51) ∧ (gi M' 77 39 = -1 → gi M' 77 38 ≤ 50))) := by
  have f0 : Fr [(77, 38), (77, 39), (77, 40)] M M := Fr.rf
  refine sOk.of (show sRn base X G d T220 0 [(0, vR 77)] [] M _ from ?_)
  refine s_blx (lv' := [(0, vR 77)]) (st' := [vR 77]) B220_0_1 rfl ?_
  refine r_gint (ki := 38) (pc' := 4) D220_1 rfl gf_11_334_77 rfl H.1 ?_
  intro w1 e2 r3
  have e4 : lq = w1 := (e2.trans (h6)).symm
  subst e4
  refine s_blx (lv' := [(0, vR 77)]) (st' := [vI 50, vI lq]) B220_4_6 rfl ?_
  refine r_icmp (tgt := 13) (pc' := 9) D220_6 rfl rfl (by unfold inR; omega) (fun (c5 : lq ≠ 50) => ?_) (fun (c5 : ¬ (lq ≠ 50)) => ?_)
  · refine s_blx (lv' := [(0, vR 77)]) (st' := [vR 77, vR 77]) B220_13_15 rfl ?_
    refine r_gint (ki := 38) (pc' := 18) D220_15 rfl gf_11_334_77 rfl H.1 ?_
    intro w6 e7 r8
    have e9 : lq = w6 := (e7.trans (h6)).symm
    subst e9
    refine s_blx (lv' := [(0, vR 77)]) (st' := [vI (lq + 1), vR 77]) B220_18_20 rfl ?_
    refine r_pint (ki := 38) (pc' := 23) D220_20 rfl pf_11_334_77 rfl H (by unfold inR; omega) trivial ?_
    intro M10 u11 H12 p13
    have f14 := f0.wr u11 rfl
    refine s_blx (lv' := [(0, vR 77)]) (st' := [vR 77]) B220_23_24 rfl ?_
    have g15 : gi M10 77 39 = bd := (u11.gi_ne (by decide) (Or.inr (by decide))).trans (h7)
    refine r_vIp (c := 77) (args := []) (rest := []) (pc' := 27) D220_24 rfl ck_11_virtual_321 TE216 rfl (Nat.le_of_ble_eq_true rfl) ⟨Nat.le_of_ble_eq_true rfl, Nat.le_of_ble_eq_true rfl⟩ sc_77 ⟨rfl, by decide⟩ H12.1 (dp_0 hd rfl) (k216x E (dp_n hd rfl) H12 ) ?_
    intro v16 q21
    obtain ⟨q18, q19, q20⟩ := q21
    refine r_ifc (tgt := 40) (pc' := 30) D220_27 rfl rfl (by unfold inR; omega) (fun (c22 : v16 = 0) => ?_) (fun (c22 : ¬ (v16 = 0)) => ?_)
    · have g23 : gi M10 77 37 = tok := (u11.gi_ne (by decide) (Or.inr (by decide))).trans (h4)
      have g24 : gi M10 77 38 = lq + 1 := p13
      have g25 : gi M10 77 39 = bd := (u11.gi_ne (by decide) (Or.inr (by decide))).trans (h7)
      exact r_retV D220_40 rfl (⟨H12, f14, by rw [((u11.gi_ne (by decide) (Or.inr (by decide))).trans (h4)), (p13), ((u11.gi_ne (by decide) (Or.inr (by decide))).trans (h7))]; unfold LFx; omega, by first | (rw [g23]; omega) | rw [g23], by first | (rw [g24]; omega) | rw [g24], by first | (rw [g24, g25]; omega) | rw [g24, g25]⟩)
    · refine s_blx (lv' := [(0, vR 77)]) (st' := [vR 77, vR 77]) B220_30_32 rfl ?_
      refine r_gint (ki := 37) (pc' := 35) D220_32 rfl gf_11_325_77 rfl H12.1 ?_
      intro w26 e27 r28
      have e29 : tok = w26 := (e27.trans ((u11.gi_ne (by decide) (Or.inr (by decide))).trans (h4))).symm
      subst e29
      refine s_blx (lv' := [(0, vR 77)]) (st' := [vI (tok + 1), vR 77]) B220_35_37 rfl ?_
      refine r_pint (ki := 37) (pc' := 40) D220_37 rfl pf_11_325_77 rfl H12 (by unfold inR; omega) (show 0 ≤ (tok + 1) ∧ (tok + 1) ≤ 400 by omega) ?_
      intro M30 u31 H32 p33
      have f34 := f14.wr u31 rfl
      have g35 : gi M30 77 37 = tok + 1 := p33
      have g36 : gi M30 77 38 = lq + 1 := (u31.gi_ne (by decide) (Or.inr (by decide))).trans (p13)
      have g37 : gi M30 77 39 = bd := (u31.gi_ne (by decide) (Or.inr (by decide))).trans ((u11.gi_ne (by decide) (Or.inr (by decide))).trans (h7))
      exact r_retV D220_40 rfl (⟨H32, f34, by rw [(p33), ((u31.gi_ne (by decide) (Or.inr (by decide))).trans (p13)), ((u31.gi_ne (by decide) (Or.inr (by decide))).trans ((u11.gi_ne (by decide) (Or.inr (by decide))).trans (h7)))]; unfold LFx; omega, by first | (rw [g35]; omega) | rw [g35], by first | (rw [g36]; omega) | rw [g36], by first | (rw [g36, g37]; omega) | rw [g36, g37]⟩)
  · refine s_blx (lv' := [(0, vR 77)]) (st' := [vR 77]) B220_9_10 rfl ?_
    have g38 : gi M 77 36 = n := h3
    have g39 : gi M 77 37 = tok := h4
    have g40 : gi M 77 39 = bd := h7
    refine r_vV (c := 77) (args := []) (rest := []) (pc' := 13) D220_10 rfl ck_11_virtual_331 TE217 rfl (Nat.le_of_ble_eq_true rfl) ⟨Nat.le_of_ble_eq_true rfl, Nat.le_of_ble_eq_true rfl⟩ sc_77 ⟨rfl, by decide⟩ H.1 (dp_0 hd rfl) (k217p E (dp_n hd rfl) H n tok bd C V st (h0) (by omega) (by omega) (by omega) (by omega) (by omega)) ?_
    intro M42 q48
    obtain ⟨H43, f44, q45, q46, q47⟩ := q48
    have f49 := f0.tr (f44.up rfl)
    obtain ⟨t50, ht51⟩ : ∃ q, q = gi M42 77 39 := ⟨_, rfl⟩
    have b_t50 := (H43.1.int sc_77 (i := 39) (by decide) (by decide) rfl).2
    unfold inR at b_t50; rw [← ht51] at b_t50
    rw [← ht51] at q45
    rw [← ht51] at q46
    rw [← ht51] at q47
    refine s_blx (lv' := [(0, vR 77)]) (st' := [vR 77, vR 77]) B220_13_15 rfl ?_
    refine r_gint (ki := 38) (pc' := 18) D220_15 rfl gf_11_334_77 rfl H43.1 ?_
    intro w52 e53 r54
    have e55 : lq = w52 := (e53.trans ((f44.g rfl).trans (h6))).symm
    subst e55
    refine s_blx (lv' := [(0, vR 77)]) (st' := [vI (lq + 1), vR 77]) B220_18_20 rfl ?_
    refine r_pint (ki := 38) (pc' := 23) D220_20 rfl pf_11_334_77 rfl H43 (by unfold inR; omega) trivial ?_
    intro M56 u57 H58 p59
    have f60 := f49.wr u57 rfl
    refine s_blx (lv' := [(0, vR 77)]) (st' := [vR 77]) B220_23_24 rfl ?_
    have g61 : gi M56 77 39 = t50 := (u57.gi_ne (by decide) (Or.inr (by decide))).trans (ht51.symm)
    refine r_vIp (c := 77) (args := []) (rest := []) (pc' := 27) D220_24 rfl ck_11_virtual_321 TE216 rfl (Nat.le_of_ble_eq_true rfl) ⟨Nat.le_of_ble_eq_true rfl, Nat.le_of_ble_eq_true rfl⟩ sc_77 ⟨rfl, by decide⟩ H58.1 (dp_0 hd rfl) (k216x E (dp_n hd rfl) H58 ) ?_
    intro v62 q67
    obtain ⟨q64, q65, q66⟩ := q67
    refine r_ifc (tgt := 40) (pc' := 30) D220_27 rfl rfl (by unfold inR; omega) (fun (c68 : v62 = 0) => ?_) (fun (c68 : ¬ (v62 = 0)) => ?_)
    · have g69 : gi M56 77 37 = tok := (u57.gi_ne (by decide) (Or.inr (by decide))).trans ((f44.g rfl).trans (h4))
      have g70 : gi M56 77 38 = lq + 1 := p59
      have g71 : gi M56 77 39 = t50 := (u57.gi_ne (by decide) (Or.inr (by decide))).trans (ht51.symm)
      exact r_retV D220_40 rfl (⟨H58, f60, by rw [((u57.gi_ne (by decide) (Or.inr (by decide))).trans ((f44.g rfl).trans (h4))), (p59), ((u57.gi_ne (by decide) (Or.inr (by decide))).trans (ht51.symm))]; unfold LFx; omega, by first | (rw [g69]; omega) | rw [g69], by first | (rw [g70]; omega) | rw [g70], by first | (rw [g70, g71]; omega) | rw [g70, g71]⟩)
    · refine s_blx (lv' := [(0, vR 77)]) (st' := [vR 77, vR 77]) B220_30_32 rfl ?_
      refine r_gint (ki := 37) (pc' := 35) D220_32 rfl gf_11_325_77 rfl H58.1 ?_
      intro w72 e73 r74
      have e75 : tok = w72 := (e73.trans ((u57.gi_ne (by decide) (Or.inr (by decide))).trans ((f44.g rfl).trans (h4)))).symm
      subst e75
      refine s_blx (lv' := [(0, vR 77)]) (st' := [vI (tok + 1), vR 77]) B220_35_37 rfl ?_
      refine r_pint (ki := 37) (pc' := 40) D220_37 rfl pf_11_325_77 rfl H58 (by unfold inR; omega) (show 0 ≤ (tok + 1) ∧ (tok + 1) ≤ 400 by omega) ?_
      intro M76 u77 H78 p79
      have f80 := f60.wr u77 rfl
      have g81 : gi M76 77 37 = tok + 1 := p79
      have g82 : gi M76 77 38 = lq + 1 := (u77.gi_ne (by decide) (Or.inr (by decide))).trans (p59)
      have g83 : gi M76 77 39 = t50 := (u77.gi_ne (by decide) (Or.inr (by decide))).trans ((u57.gi_ne (by decide) (Or.inr (by decide))).trans (ht51.symm))
      exact r_retV D220_40 rfl (⟨H78, f80, by rw [(p79), ((u77.gi_ne (by decide) (Or.inr (by decide))).trans (p59)), ((u77.gi_ne (by decide) (Or.inr (by decide))).trans ((u57.gi_ne (by decide) (Or.inr (by decide))).trans (ht51.symm)))]; unfold LFx; omega, by first | (rw [g81]; omega) | rw [g81], by first | (rw [g82]; omega) | rw [g82], by first | (rw [g82, g83]; omega) | rw [g82, g83]⟩)
set_option maxRecDepth 4000 in
theorem k228p {base : Nat} {X : Nat → Option mC} {G : Nat → Value} (E : EnvOK base X G) {rr : Nat} (ihr : ∀ {d : Nat} (_ : 3 + 3 * rr ≤ d) {M : mH} (_ : HI base M) (deep : Int) (n : Int) (tok : Int) (bd : Int) (lq : Int) (K : Int → Int) (C : Int → Int) (V : Int → Int) (st : Int → Int), (RTx C V st n M) → (KQ K C V n) → (0 ≤ n ∧ n ≤ 400) → (gi M 77 36 = n) → (gi M 77 37 = tok) → (0 ≤ tok ∧ tok ≤ n) → (gi M 77 38 = lq) → (gi M 77 39 = bd) → (0 ≤ lq ∧ lq ≤ 51) → (bd = -1 → lq ≤ 50) → (0 ≤ deep ∧ deep ≤ 8) → 8 - deep < ((rr : Nat) : Int) → sOk base X G d T226 [vR 77, vI deep] M (pV (fun M' => HI base M' ∧ Fr [(77, 38), (77, 39), (77, 40)] M M' ∧ (tok ≤ gi M' 77 37 ∧ gi M' 77 37 ≤ n) ∧ (0 ≤ gi M' 77 38 ∧ gi M' 77 38 ≤ 51) ∧ (gi M' 77 39 = -1 → gi M' 77 38 ≤ 50) ∧ (RBx K st 5 deep tok lq bd (gi M' 77 37) (gi M' 77 38) (gi M' 77 39))))) {d : Nat} (hd : 4 + 3 * rr ≤ d) {M : mH} (H : HI base M) (deep : Int) (n : Int) (tok : Int) (bd : Int) (lq : Int) (K : Int → Int) (C : Int → Int) (V : Int → Int) (st : Int → Int) (h0 : RTx C V st n M) (h1 : KQ K C V n) (h2 : 0 ≤ n ∧ n ≤ 400) (h3 : gi M 77 36 = n) (h4 : gi M 77 37 = tok) (h5 : 0 ≤ tok ∧ tok ≤ n) (h6 : gi M 77 38 = lq) (h7 : gi M 77 39 = bd) (h8 : 0 ≤ lq ∧ lq ≤ 51) (h9 : bd = -1 → lq ≤ 50) (h10 : 0 ≤ deep ∧ deep ≤ 8) (h11 : 8 - deep < (rr : Int) + 1) : sOk base X G d T228 [vR 77, vI deep] M (pV (fun M' => HI base M' ∧ Fr [(77, 38), (77, 39), (77, 40)] M M' ∧ (tok ≤ gi M' 77 37 ∧ gi M' 77 37 ≤ n) ∧ (0 ≤ gi M' 77 38 ∧ gi M' 77 38 ≤ 51) ∧ (gi M' 77 39 = -1 → gi M' 77 38 ≤ 50) ∧ (RBx K st 9 deep tok lq bd (gi M' 77 37) (gi M' 77 38) (gi M' 77 39)))) := by
  have f0 : Fr [(77, 38), (77, 39), (77, 40)] M M := Fr.rf
  refine sOk.of (show sRn base X G d T228 0 [(0, vR 77), (1, vI deep)] [] M _ from ?_)
  refine s_blx (lv' := [(0, vR 77), (1, vI deep)]) (st' := [vR 77]) B228_0_1 rfl ?_
  have g1 : gi M 77 39 = bd := h7
  refine r_vIp (c := 77) (args := []) (rest := []) (pc' := 4) D228_1 rfl ck_11_virtual_321 TE216 rfl (Nat.le_of_ble_eq_true rfl) ⟨Nat.le_of_ble_eq_true rfl, Nat.le_of_ble_eq_true rfl⟩ sc_77 ⟨rfl, by decide⟩ H.1 (by omega) (k216x E (by omega) H ) ?_
  intro v2 q7
  obtain ⟨q4, q5, q6⟩ := q7
  refine r_ifc (tgt := 8) (pc' := 7) D228_4 rfl rfl (by unfold inR; omega) (fun (c8 : v2 ≠ 0) => ?_) (fun (c8 : ¬ (v2 ≠ 0)) => ?_)
  · refine s_blx (lv' := [(0, vR 77), (1, vI deep)]) (st' := [vR 77]) B228_8_9 rfl ?_
    have kbd : bd = -1 := by omega
    have kq50 : lq ≤ 50 := h9 kbd
    clear h9 q5 q6
    refine r_gfix (r := 97) (pc' := 12) D228_9 rfl gf_11_78_77 H.1 ?_
    refine s_blx (lv' := [(0, vR 77), (1, vI deep)]) (st' := [vR 77, vR 97]) B228_12_13 rfl ?_
    refine r_gint (ki := 37) (pc' := 16) D228_13 rfl gf_11_325_77 rfl H.1 ?_
    intro w9 e10 r11
    have e12 : tok = w9 := (e10.trans (h4)).symm
    subst e12
    refine r_iald (pc' := 17) D228_16 rfl sc_97 H.1 (by omega) ?_
    intro w13 e14 r15
    unfold inR at r15
    have kc : w13 = C tok := by rw [e14]; exact (h0).1 tok
    refine s_blx (lv' := [(2, vI w13), (0, vR 77), (1, vI deep)]) (st' := [vI 91, vI w13]) B228_17_21 rfl ?_
    refine r_sIp (args := [vI 91]) (rest := [vI w13]) (pc' := 24) D228_21 rfl ck_11_static_346 TE221 rfl (Nat.le_of_ble_eq_true rfl) ⟨Nat.le_of_ble_eq_true rfl, Nat.le_of_ble_eq_true rfl⟩ (by decide) (by omega) (k221 E (by omega) H 91 (by omega)) ?_
    intro v16 q19
    have q18 := q19; clear q19
    have e20 : v16 = 191 := by omega
    subst e20
    refine r_icmp (tgt := 74) (pc' := 27) D228_24 rfl rfl (by unfold inR; omega) (fun (c21 : w13 ≠ 191) => ?_) (fun (c21 : ¬ (w13 ≠ 191)) => ?_)
    · refine s_blx (lv' := [(2, vI w13), (0, vR 77), (1, vI deep)]) (st' := [vI 50, vI w13]) B228_74_77 rfl ?_
      refine r_icmp (tgt := 95) (pc' := 80) D228_77 rfl rfl (by unfold inR; omega) (fun (c22 : w13 ≠ 50) => ?_) (fun (c22 : ¬ (w13 ≠ 50)) => ?_)
      · refine s_blx (lv' := [(2, vI w13), (0, vR 77), (1, vI deep)]) (st' := [vI 13, vI w13]) B228_95_98 rfl ?_
        refine r_icmp (tgt := 114) (pc' := 101) D228_98 rfl rfl (by unfold inR; omega) (fun (c23 : w13 < 13) => ?_) (fun (c23 : ¬ (w13 < 13)) => ?_)
        · refine s_blx (lv' := [(2, vI w13), (0, vR 77), (1, vI deep)]) (st' := [vR 77]) B228_114_115 rfl ?_
          have kf9 : K tok ≠ 191 ∧ K tok ≠ 21 ∧ ¬ (12 ≤ K tok ∧ K tok ≤ 20) := by have w_ := h1 tok (by omega) (by omega); unfold KOK at w_; omega
          have g24 : gi M 77 36 = n := h3
          have g25 : gi M 77 37 = tok := h4
          have g26 : gi M 77 39 = bd := h7
          refine r_vV (c := 77) (args := []) (rest := []) (pc' := 118) D228_115 rfl ck_11_virtual_331 TE217 rfl (Nat.le_of_ble_eq_true rfl) ⟨Nat.le_of_ble_eq_true rfl, Nat.le_of_ble_eq_true rfl⟩ sc_77 ⟨rfl, by decide⟩ H.1 (by omega) (k217p E (by omega) H n tok bd C V st (h0) (by omega) (by omega) (by omega) (by omega) (by omega)) ?_
          intro M28 q34
          obtain ⟨H29, f30, q31, q32, q33⟩ := q34
          have f35 := f0.tr (f30.up rfl)
          obtain ⟨t36, ht37⟩ : ∃ q, q = gi M28 77 39 := ⟨_, rfl⟩
          have b_t36 := (H29.1.int sc_77 (i := 39) (by decide) (by decide) rfl).2
          unfold inR at b_t36; rw [← ht37] at b_t36
          rw [← ht37] at q31
          rw [← ht37] at q32
          rw [← ht37] at q33
          have g38 : gi M28 77 37 = tok := (f30.g rfl).trans (h4)
          have g39 : gi M28 77 38 = lq := (f30.g rfl).trans (h6)
          have g40 : gi M28 77 39 = t36 := ht37.symm
          exact r_retV D228_118 rfl (⟨H29, f35, by first | (rw [g38]; omega) | rw [g38], by first | (rw [g39]; omega) | rw [g39], by first | (rw [g39, g40]; omega) | rw [g39, g40], by rw [((f30.g rfl).trans (h4)), ((f30.g rfl).trans (h6)), (ht37.symm)]; first | exact (RBx.o9 kn.1 (by omega) (kS.at (by omega) rfl (by omega)) kM).at rfl rfl (by omega) | exact (RBx.l9 kn9.1 kL).at rfl rfl (by omega) | exact (RBx.no (by omega) (by omega) (RR.f9 kf9)).at rfl rfl (by omega)⟩)
        · refine s_blx (lv' := [(2, vI w13), (0, vR 77), (1, vI deep)]) (st' := [vI 21, vI w13]) B228_101_104 rfl ?_
          refine r_icmp (tgt := 114) (pc' := 107) D228_104 rfl rfl (by unfold inR; omega) (fun (c41 : 21 < w13) => ?_) (fun (c41 : ¬ (21 < w13)) => ?_)
          · refine s_blx (lv' := [(2, vI w13), (0, vR 77), (1, vI deep)]) (st' := [vR 77]) B228_114_115 rfl ?_
            have kf9 : K tok ≠ 191 ∧ K tok ≠ 21 ∧ ¬ (12 ≤ K tok ∧ K tok ≤ 20) := by have w_ := h1 tok (by omega) (by omega); unfold KOK at w_; omega
            have g42 : gi M 77 36 = n := h3
            have g43 : gi M 77 37 = tok := h4
            have g44 : gi M 77 39 = bd := h7
            refine r_vV (c := 77) (args := []) (rest := []) (pc' := 118) D228_115 rfl ck_11_virtual_331 TE217 rfl (Nat.le_of_ble_eq_true rfl) ⟨Nat.le_of_ble_eq_true rfl, Nat.le_of_ble_eq_true rfl⟩ sc_77 ⟨rfl, by decide⟩ H.1 (by omega) (k217p E (by omega) H n tok bd C V st (h0) (by omega) (by omega) (by omega) (by omega) (by omega)) ?_
            intro M46 q52
            obtain ⟨H47, f48, q49, q50, q51⟩ := q52
            have f53 := f0.tr (f48.up rfl)
            obtain ⟨t54, ht55⟩ : ∃ q, q = gi M46 77 39 := ⟨_, rfl⟩
            have b_t54 := (H47.1.int sc_77 (i := 39) (by decide) (by decide) rfl).2
            unfold inR at b_t54; rw [← ht55] at b_t54
            rw [← ht55] at q49
            rw [← ht55] at q50
            rw [← ht55] at q51
            have g56 : gi M46 77 37 = tok := (f48.g rfl).trans (h4)
            have g57 : gi M46 77 38 = lq := (f48.g rfl).trans (h6)
            have g58 : gi M46 77 39 = t54 := ht55.symm
            exact r_retV D228_118 rfl (⟨H47, f53, by first | (rw [g56]; omega) | rw [g56], by first | (rw [g57]; omega) | rw [g57], by first | (rw [g57, g58]; omega) | rw [g57, g58], by rw [((f48.g rfl).trans (h4)), ((f48.g rfl).trans (h6)), (ht55.symm)]; first | exact (RBx.o9 kn.1 (by omega) (kS.at (by omega) rfl (by omega)) kM).at rfl rfl (by omega) | exact (RBx.l9 kn9.1 kL).at rfl rfl (by omega) | exact (RBx.no (by omega) (by omega) (RR.f9 kf9)).at rfl rfl (by omega)⟩)
          · refine s_blx (lv' := [(2, vI w13), (0, vR 77), (1, vI deep)]) (st' := [vR 77]) B228_107_108 rfl ?_
            have kn9 : (K tok = 21 ∨ (12 ≤ K tok ∧ K tok ≤ 20)) ∧ tok < n := by have w_ := h1 tok (by omega) (by omega); unfold KOK at w_; omega
            have g59 : gi M 77 36 = n := h3
            have g60 : gi M 77 37 = tok := h4
            have g61 : gi M 77 38 = lq := h6
            have g62 : gi M 77 39 = bd := h7
            refine r_vV (c := 77) (args := []) (rest := []) (pc' := 111) D228_108 rfl ck_11_virtual_353 TE220 rfl (Nat.le_of_ble_eq_true rfl) ⟨Nat.le_of_ble_eq_true rfl, Nat.le_of_ble_eq_true rfl⟩ sc_77 ⟨rfl, by decide⟩ H.1 (by omega) (k220p E (by omega) H n tok bd lq K C V st (h0) (h1) (by omega) (by omega) (by omega) (by omega) (by omega) (by omega) (by omega) (by omega) (by omega) (by omega)) ?_
            intro M64 q71
            obtain ⟨H65, f66, q67, q68, q69, q70⟩ := q71
            have f72 := f0.tr (f66.up rfl)
            obtain ⟨t73, ht74⟩ : ∃ q, q = gi M64 77 37 := ⟨_, rfl⟩
            have b_t73 := H65.2 77 37 0 400 rfl
            rw [← ht74] at b_t73
            obtain ⟨t75, ht76⟩ : ∃ q, q = gi M64 77 38 := ⟨_, rfl⟩
            have b_t75 := (H65.1.int sc_77 (i := 38) (by decide) (by decide) rfl).2
            unfold inR at b_t75; rw [← ht76] at b_t75
            obtain ⟨t77, ht78⟩ : ∃ q, q = gi M64 77 39 := ⟨_, rfl⟩
            have b_t77 := (H65.1.int sc_77 (i := 39) (by decide) (by decide) rfl).2
            unfold inR at b_t77; rw [← ht78] at b_t77
            rw [← ht74, ← ht76, ← ht78] at q67
            rw [← ht74] at q68
            rw [← ht76] at q69
            rw [← ht76, ← ht78] at q70
            have kL := q67; clear q67
            refine r_goto (tgt := 118) D228_111 rfl ?_
            have g79 : gi M64 77 37 = t73 := ht74.symm
            have g80 : gi M64 77 38 = t75 := ht76.symm
            have g81 : gi M64 77 39 = t77 := ht78.symm
            exact r_retV D228_118 rfl (⟨H65, f72, by first | (rw [g79]; omega) | rw [g79], by first | (rw [g80]; omega) | rw [g80], by first | (rw [g80, g81]; omega) | rw [g80, g81], by rw [(ht74.symm), (ht76.symm), (ht78.symm)]; first | exact (RBx.o9 kn.1 (by omega) (kS.at (by omega) rfl (by omega)) kM).at rfl rfl (by omega) | exact (RBx.l9 kn9.1 kL).at rfl rfl (by omega) | exact (RBx.no (by omega) (by omega) (RR.f9 kf9)).at rfl rfl (by omega)⟩)
      · refine s_blx (lv' := [(2, vI w13), (0, vR 77), (1, vI deep)]) (st' := [vR 77]) B228_80_81 rfl ?_
        refine r_gfix (r := 98) (pc' := 84) D228_81 rfl gf_11_81_77 H.1 ?_
        refine s_blx (lv' := [(2, vI w13), (0, vR 77), (1, vI deep)]) (st' := [vR 77, vR 98]) B228_84_85 rfl ?_
        refine r_gint (ki := 37) (pc' := 88) D228_85 rfl gf_11_325_77 rfl H.1 ?_
        intro w82 e83 r84
        have e85 : tok = w82 := (e83.trans (h4)).symm
        subst e85
        refine r_iald (pc' := 89) D228_88 rfl sc_98 H.1 (by omega) ?_
        intro w86 e87 r88
        unfold inR at r88
        have kv : w86 = V tok := by rw [e87]; exact (h0).2.1 tok
        refine r_ldcw (e := 100000) (pc' := 92) D228_89 rfl ci_11_365 (by decide) ?_
        refine r_icmp (tgt := 107) (pc' := 95) D228_92 rfl rfl (by unfold inR; omega) (fun (c89 : w86 ≤ 100000) => ?_) (fun (c89 : ¬ (w86 ≤ 100000)) => ?_)
        · refine s_blx (lv' := [(2, vI w13), (0, vR 77), (1, vI deep)]) (st' := [vR 77]) B228_107_108 rfl ?_
          have kn9 : (K tok = 21 ∨ (12 ≤ K tok ∧ K tok ≤ 20)) ∧ tok < n := by have w_ := h1 tok (by omega) (by omega); unfold KOK at w_; omega
          have g90 : gi M 77 36 = n := h3
          have g91 : gi M 77 37 = tok := h4
          have g92 : gi M 77 38 = lq := h6
          have g93 : gi M 77 39 = bd := h7
          refine r_vV (c := 77) (args := []) (rest := []) (pc' := 111) D228_108 rfl ck_11_virtual_353 TE220 rfl (Nat.le_of_ble_eq_true rfl) ⟨Nat.le_of_ble_eq_true rfl, Nat.le_of_ble_eq_true rfl⟩ sc_77 ⟨rfl, by decide⟩ H.1 (by omega) (k220p E (by omega) H n tok bd lq K C V st (h0) (h1) (by omega) (by omega) (by omega) (by omega) (by omega) (by omega) (by omega) (by omega) (by omega) (by omega)) ?_
          intro M95 q102
          obtain ⟨H96, f97, q98, q99, q100, q101⟩ := q102
          have f103 := f0.tr (f97.up rfl)
          obtain ⟨t104, ht105⟩ : ∃ q, q = gi M95 77 37 := ⟨_, rfl⟩
          have b_t104 := H96.2 77 37 0 400 rfl
          rw [← ht105] at b_t104
          obtain ⟨t106, ht107⟩ : ∃ q, q = gi M95 77 38 := ⟨_, rfl⟩
          have b_t106 := (H96.1.int sc_77 (i := 38) (by decide) (by decide) rfl).2
          unfold inR at b_t106; rw [← ht107] at b_t106
          obtain ⟨t108, ht109⟩ : ∃ q, q = gi M95 77 39 := ⟨_, rfl⟩
          have b_t108 := (H96.1.int sc_77 (i := 39) (by decide) (by decide) rfl).2
          unfold inR at b_t108; rw [← ht109] at b_t108
          rw [← ht105, ← ht107, ← ht109] at q98
          rw [← ht105] at q99
          rw [← ht107] at q100
          rw [← ht107, ← ht109] at q101
          have kL := q98; clear q98
          refine r_goto (tgt := 118) D228_111 rfl ?_
          have g110 : gi M95 77 37 = t104 := ht105.symm
          have g111 : gi M95 77 38 = t106 := ht107.symm
          have g112 : gi M95 77 39 = t108 := ht109.symm
          exact r_retV D228_118 rfl (⟨H96, f103, by first | (rw [g110]; omega) | rw [g110], by first | (rw [g111]; omega) | rw [g111], by first | (rw [g111, g112]; omega) | rw [g111, g112], by rw [(ht105.symm), (ht107.symm), (ht109.symm)]; first | exact (RBx.o9 kn.1 (by omega) (kS.at (by omega) rfl (by omega)) kM).at rfl rfl (by omega) | exact (RBx.l9 kn9.1 kL).at rfl rfl (by omega) | exact (RBx.no (by omega) (by omega) (RR.f9 kf9)).at rfl rfl (by omega)⟩)
        · refine s_blx (lv' := [(2, vI w13), (0, vR 77), (1, vI deep)]) (st' := [vI 13, vI w13]) B228_95_98 rfl ?_
          refine r_icmp (tgt := 114) (pc' := 101) D228_98 rfl rfl (by unfold inR; omega) (fun (c113 : w13 < 13) => ?_) (fun (c113 : ¬ (w13 < 13)) => ?_)
          · exfalso; omega
          · refine s_blx (lv' := [(2, vI w13), (0, vR 77), (1, vI deep)]) (st' := [vI 21, vI w13]) B228_101_104 rfl ?_
            refine r_icmp (tgt := 114) (pc' := 107) D228_104 rfl rfl (by unfold inR; omega) (fun (c114 : 21 < w13) => ?_) (fun (c114 : ¬ (21 < w13)) => ?_)
            · refine s_blx (lv' := [(2, vI w13), (0, vR 77), (1, vI deep)]) (st' := [vR 77]) B228_114_115 rfl ?_
              have kf9 : K tok ≠ 191 ∧ K tok ≠ 21 ∧ ¬ (12 ≤ K tok ∧ K tok ≤ 20) := by have w_ := h1 tok (by omega) (by omega); unfold KOK at w_; omega
              have g115 : gi M 77 36 = n := h3
              have g116 : gi M 77 37 = tok := h4
              have g117 : gi M 77 39 = bd := h7
              refine r_vV (c := 77) (args := []) (rest := []) (pc' := 118) D228_115 rfl ck_11_virtual_331 TE217 rfl (Nat.le_of_ble_eq_true rfl) ⟨Nat.le_of_ble_eq_true rfl, Nat.le_of_ble_eq_true rfl⟩ sc_77 ⟨rfl, by decide⟩ H.1 (by omega) (k217p E (by omega) H n tok bd C V st (h0) (by omega) (by omega) (by omega) (by omega) (by omega)) ?_
              intro M119 q125
              obtain ⟨H120, f121, q122, q123, q124⟩ := q125
              have f126 := f0.tr (f121.up rfl)
              obtain ⟨t127, ht128⟩ : ∃ q, q = gi M119 77 39 := ⟨_, rfl⟩
              have b_t127 := (H120.1.int sc_77 (i := 39) (by decide) (by decide) rfl).2
              unfold inR at b_t127; rw [← ht128] at b_t127
              rw [← ht128] at q122
              rw [← ht128] at q123
              rw [← ht128] at q124
              have g129 : gi M119 77 37 = tok := (f121.g rfl).trans (h4)
              have g130 : gi M119 77 38 = lq := (f121.g rfl).trans (h6)
              have g131 : gi M119 77 39 = t127 := ht128.symm
              exact r_retV D228_118 rfl (⟨H120, f126, by first | (rw [g129]; omega) | rw [g129], by first | (rw [g130]; omega) | rw [g130], by first | (rw [g130, g131]; omega) | rw [g130, g131], by rw [((f121.g rfl).trans (h4)), ((f121.g rfl).trans (h6)), (ht128.symm)]; first | exact (RBx.o9 kn.1 (by omega) (kS.at (by omega) rfl (by omega)) kM).at rfl rfl (by omega) | exact (RBx.l9 kn9.1 kL).at rfl rfl (by omega) | exact (RBx.no (by omega) (by omega) (RR.f9 kf9)).at rfl rfl (by omega)⟩)
            · exfalso; omega
    · refine s_blx (lv' := [(2, vI w13), (0, vR 77), (1, vI deep)]) (st' := [vI 8, vI deep]) B228_27_30 rfl ?_
      have kn := h1.yes (c := 191) (k := 191) (by unfold isC; omega) h5 (show C tok = 191 by omega)
      refine r_icmp (tgt := 37) (pc' := 33) D228_30 rfl rfl (by unfold inR; omega) (fun (c132 : deep ≠ 8) => ?_) (fun (c132 : ¬ (deep ≠ 8)) => ?_)
      · refine s_blx (lv' := [(2, vI w13), (0, vR 77), (1, vI deep)]) (st' := [vR 77]) B228_37_38 rfl ?_
        have g133 : gi M 77 39 = bd := h7
        refine r_vIp (c := 77) (args := []) (rest := []) (pc' := 41) D228_38 rfl ck_11_virtual_321 TE216 rfl (Nat.le_of_ble_eq_true rfl) ⟨Nat.le_of_ble_eq_true rfl, Nat.le_of_ble_eq_true rfl⟩ sc_77 ⟨rfl, by decide⟩ H.1 (by omega) (k216x E (by omega) H ) ?_
        intro v134 q139
        obtain ⟨q136, q137, q138⟩ := q139
        refine r_ifc (tgt := 45) (pc' := 44) D228_41 rfl rfl (by unfold inR; omega) (fun (c140 : v134 ≠ 0) => ?_) (fun (c140 : ¬ (v134 ≠ 0)) => ?_)
        · refine s_blx (lv' := [(2, vI w13), (0, vR 77), (1, vI deep)]) (st' := [vR 77, vR 77]) B228_45_47 rfl ?_
          refine r_gint (ki := 37) (pc' := 50) D228_47 rfl gf_11_325_77 rfl H.1 ?_
          intro w141 e142 r143
          have e144 : tok = w141 := (e142.trans (h4)).symm
          subst e144
          refine s_blx (lv' := [(2, vI w13), (0, vR 77), (1, vI deep)]) (st' := [vI (tok + 1), vR 77]) B228_50_52 rfl ?_
          refine r_pint (ki := 37) (pc' := 55) D228_52 rfl pf_11_325_77 rfl H (by unfold inR; omega) (show 0 ≤ (tok + 1) ∧ (tok + 1) ≤ 400 by omega) ?_
          intro M145 u146 H147 p148
          have f149 := f0.wr u146 rfl
          refine s_blx (lv' := [(2, vI w13), (0, vR 77), (1, vI deep)]) (st' := [vI (deep + 1), vR 77]) B228_55_59 rfl ?_
          have g150 : gi M145 77 36 = n := (u146.gi_ne (by decide) (Or.inr (by decide))).trans (h3)
          have g151 : gi M145 77 37 = tok + 1 := p148
          have g152 : gi M145 77 38 = lq := (u146.gi_ne (by decide) (Or.inr (by decide))).trans (h6)
          have g153 : gi M145 77 39 = bd := (u146.gi_ne (by decide) (Or.inr (by decide))).trans (h7)
          refine r_vV (c := 77) (args := [vI (deep + 1)]) (rest := []) (pc' := 62) D228_59 rfl ck_11_virtual_356 TE226 rfl (Nat.le_of_ble_eq_true rfl) ⟨Nat.le_of_ble_eq_true rfl, Nat.le_of_ble_eq_true rfl⟩ sc_77 ⟨rfl, by decide⟩ H147.1 (by omega) (ihr (by omega) H147 (deep + 1) n (tok + 1) bd lq K C V st ((h0.fr f149 rfl)) (h1) (by omega) (by omega) (by omega) (by omega) (by omega) (by omega) (by omega) (by omega) (by omega) (by omega)) ?_
          intro M155 q162
          obtain ⟨H156, f157, q158, q159, q160, q161⟩ := q162
          have f163 := f149.tr (f157.up rfl)
          obtain ⟨t164, ht165⟩ : ∃ q, q = gi M155 77 37 := ⟨_, rfl⟩
          have b_t164 := H156.2 77 37 0 400 rfl
          rw [← ht165] at b_t164
          obtain ⟨t166, ht167⟩ : ∃ q, q = gi M155 77 38 := ⟨_, rfl⟩
          have b_t166 := (H156.1.int sc_77 (i := 38) (by decide) (by decide) rfl).2
          unfold inR at b_t166; rw [← ht167] at b_t166
          obtain ⟨t168, ht169⟩ : ∃ q, q = gi M155 77 39 := ⟨_, rfl⟩
          have b_t168 := (H156.1.int sc_77 (i := 39) (by decide) (by decide) rfl).2
          unfold inR at b_t168; rw [← ht169] at b_t168
          rw [← ht165] at q158
          rw [← ht167] at q159
          rw [← ht167, ← ht169] at q160
          rw [← ht165, ← ht167, ← ht169] at q161
          have kS := q161; clear q161
          refine s_blx (lv' := [(2, vI w13), (0, vR 77), (1, vI deep)]) (st' := [vI 93, vR 77]) B228_62_65 rfl ?_
          refine r_sIp (args := [vI 93]) (rest := [vR 77]) (pc' := 68) D228_65 rfl ck_11_static_346 TE221 rfl (Nat.le_of_ble_eq_true rfl) ⟨Nat.le_of_ble_eq_true rfl, Nat.le_of_ble_eq_true rfl⟩ (by decide) (by omega) (k221 E (by omega) H156 93 (by omega)) ?_
          intro v170 q173
          have q172 := q173; clear q173
          have e174 : v170 = 193 := by omega
          subst e174
          have g175 : gi M155 77 36 = n := (f157.g rfl).trans ((u146.gi_ne (by decide) (Or.inr (by decide))).trans (h3))
          have g176 : gi M155 77 37 = t164 := ht165.symm
          have g177 : gi M155 77 38 = t166 := ht167.symm
          have g178 : gi M155 77 39 = t168 := ht169.symm
          refine r_vV (c := 77) (args := [vI 193]) (rest := []) (pc' := 71) D228_68 rfl ck_11_virtual_350 TE219 rfl (Nat.le_of_ble_eq_true rfl) ⟨Nat.le_of_ble_eq_true rfl, Nat.le_of_ble_eq_true rfl⟩ sc_77 ⟨rfl, by decide⟩ H156.1 (by omega) (k219p E (by omega) H156 193 193 n t164 t168 t166 K C V st ((h0.fr f163 rfl)) (h1) (by omega) (by omega) (by omega) (by omega) (by omega) (by omega) (by omega) (by omega) (by first | assumption | (unfold isC; omega)) (by omega)) ?_
          intro M180 q186
          obtain ⟨H181, f182, q183, q184, q185⟩ := q186
          have f187 := f163.tr (f182.up rfl)
          obtain ⟨t188, ht189⟩ : ∃ q, q = gi M180 77 37 := ⟨_, rfl⟩
          have b_t188 := H181.2 77 37 0 400 rfl
          rw [← ht189] at b_t188
          obtain ⟨t190, ht191⟩ : ∃ q, q = gi M180 77 39 := ⟨_, rfl⟩
          have b_t190 := (H181.1.int sc_77 (i := 39) (by decide) (by decide) rfl).2
          unfold inR at b_t190; rw [← ht191] at b_t190
          rw [← ht189, ← ht191] at q183
          rw [← ht189] at q184
          rw [← ht191] at q185
          have kM := q183; clear q183
          refine r_goto (tgt := 118) D228_71 rfl ?_
          have g192 : gi M180 77 37 = t188 := ht189.symm
          have g193 : gi M180 77 38 = t166 := (f182.g rfl).trans (ht167.symm)
          have g194 : gi M180 77 39 = t190 := ht191.symm
          exact r_retV D228_118 rfl (⟨H181, f187, by first | (rw [g192]; omega) | rw [g192], by first | (rw [g193]; omega) | rw [g193], by first | (rw [g193, g194]; omega) | rw [g193, g194], by rw [(ht189.symm), ((f182.g rfl).trans (ht167.symm)), (ht191.symm)]; first | exact (RBx.o9 kn.1 (by omega) (kS.at (by omega) rfl (by omega)) kM).at rfl rfl (by omega) | exact (RBx.l9 kn9.1 kL).at rfl rfl (by omega) | exact (RBx.no (by omega) (by omega) (RR.f9 kf9)).at rfl rfl (by omega)⟩)
        · have g195 : gi M 77 37 = tok := h4
          have g196 : gi M 77 38 = lq := h6
          have g197 : gi M 77 39 = bd := h7
          exact r_retV D228_44 rfl (⟨H, f0, by first | (rw [g195]; omega) | rw [g195], by first | (rw [g196]; omega) | rw [g196], by first | (rw [g196, g197]; omega) | rw [g196, g197], by rw [(h4), (h6), (h7)]; first | exact (RBx.no (by omega) (by omega) (RR.d9 kn.1 (by omega))).at rfl rfl (by omega) | (exfalso; omega)⟩)
      · refine s_blx (lv' := [(2, vI w13), (0, vR 77), (1, vI deep)]) (st' := [vR 77]) B228_33_34 rfl ?_
        have g198 : gi M 77 36 = n := h3
        have g199 : gi M 77 37 = tok := h4
        have g200 : gi M 77 39 = bd := h7
        refine r_vV (c := 77) (args := []) (rest := []) (pc' := 37) D228_34 rfl ck_11_virtual_331 TE217 rfl (Nat.le_of_ble_eq_true rfl) ⟨Nat.le_of_ble_eq_true rfl, Nat.le_of_ble_eq_true rfl⟩ sc_77 ⟨rfl, by decide⟩ H.1 (by omega) (k217p E (by omega) H n tok bd C V st (h0) (by omega) (by omega) (by omega) (by omega) (by omega)) ?_
        intro M202 q208
        obtain ⟨H203, f204, q205, q206, q207⟩ := q208
        have f209 := f0.tr (f204.up rfl)
        obtain ⟨t210, ht211⟩ : ∃ q, q = gi M202 77 39 := ⟨_, rfl⟩
        have b_t210 := (H203.1.int sc_77 (i := 39) (by decide) (by decide) rfl).2
        unfold inR at b_t210; rw [← ht211] at b_t210
        rw [← ht211] at q205
        rw [← ht211] at q206
        rw [← ht211] at q207
        refine s_blx (lv' := [(2, vI w13), (0, vR 77), (1, vI deep)]) (st' := [vR 77]) B228_37_38 rfl ?_
        have g212 : gi M202 77 39 = t210 := ht211.symm
        refine r_vIp (c := 77) (args := []) (rest := []) (pc' := 41) D228_38 rfl ck_11_virtual_321 TE216 rfl (Nat.le_of_ble_eq_true rfl) ⟨Nat.le_of_ble_eq_true rfl, Nat.le_of_ble_eq_true rfl⟩ sc_77 ⟨rfl, by decide⟩ H203.1 (by omega) (k216x E (by omega) H203 ) ?_
        intro v213 q218
        obtain ⟨q215, q216, q217⟩ := q218
        refine r_ifc (tgt := 45) (pc' := 44) D228_41 rfl rfl (by unfold inR; omega) (fun (c219 : v213 ≠ 0) => ?_) (fun (c219 : ¬ (v213 ≠ 0)) => ?_)
        · refine s_blx (lv' := [(2, vI w13), (0, vR 77), (1, vI deep)]) (st' := [vR 77, vR 77]) B228_45_47 rfl ?_
          refine r_gint (ki := 37) (pc' := 50) D228_47 rfl gf_11_325_77 rfl H203.1 ?_
          intro w220 e221 r222
          have e223 : tok = w220 := (e221.trans ((f204.g rfl).trans (h4))).symm
          subst e223
          refine s_blx (lv' := [(2, vI w13), (0, vR 77), (1, vI deep)]) (st' := [vI (tok + 1), vR 77]) B228_50_52 rfl ?_
          refine r_pint (ki := 37) (pc' := 55) D228_52 rfl pf_11_325_77 rfl H203 (by unfold inR; omega) (show 0 ≤ (tok + 1) ∧ (tok + 1) ≤ 400 by omega) ?_
          intro M224 u225 H226 p227
          have f228 := f209.wr u225 rfl
          refine s_blx (lv' := [(2, vI w13), (0, vR 77), (1, vI deep)]) (st' := [vI (deep + 1), vR 77]) B228_55_59 rfl ?_
          have g229 : gi M224 77 36 = n := (u225.gi_ne (by decide) (Or.inr (by decide))).trans ((f204.g rfl).trans (h3))
          have g230 : gi M224 77 37 = tok + 1 := p227
          have g231 : gi M224 77 38 = lq := (u225.gi_ne (by decide) (Or.inr (by decide))).trans ((f204.g rfl).trans (h6))
          have g232 : gi M224 77 39 = t210 := (u225.gi_ne (by decide) (Or.inr (by decide))).trans (ht211.symm)
          refine r_vV (c := 77) (args := [vI (deep + 1)]) (rest := []) (pc' := 62) D228_59 rfl ck_11_virtual_356 TE226 rfl (Nat.le_of_ble_eq_true rfl) ⟨Nat.le_of_ble_eq_true rfl, Nat.le_of_ble_eq_true rfl⟩ sc_77 ⟨rfl, by decide⟩ H226.1 (by omega) (ihr (by omega) H226 (deep + 1) n (tok + 1) t210 lq K C V st ((h0.fr f228 rfl)) (h1) (by omega) (by omega) (by omega) (by omega) (by omega) (by omega) (by omega) (by omega) (by omega) (by omega)) ?_
          intro M234 q241
          obtain ⟨H235, f236, q237, q238, q239, q240⟩ := q241
          have f242 := f228.tr (f236.up rfl)
          obtain ⟨t243, ht244⟩ : ∃ q, q = gi M234 77 37 := ⟨_, rfl⟩
          have b_t243 := H235.2 77 37 0 400 rfl
          rw [← ht244] at b_t243
          obtain ⟨t245, ht246⟩ : ∃ q, q = gi M234 77 38 := ⟨_, rfl⟩
          have b_t245 := (H235.1.int sc_77 (i := 38) (by decide) (by decide) rfl).2
          unfold inR at b_t245; rw [← ht246] at b_t245
          obtain ⟨t247, ht248⟩ : ∃ q, q = gi M234 77 39 := ⟨_, rfl⟩
          have b_t247 := (H235.1.int sc_77 (i := 39) (by decide) (by decide) rfl).2
          unfold inR at b_t247; rw [← ht248] at b_t247
          rw [← ht244] at q237
          rw [← ht246] at q238
          rw [← ht246, ← ht248] at q239
          rw [← ht244, ← ht246, ← ht248] at q240
          have kS := q240; clear q240
          refine s_blx (lv' := [(2, vI w13), (0, vR 77), (1, vI deep)]) (st' := [vI 93, vR 77]) B228_62_65 rfl ?_
          refine r_sIp (args := [vI 93]) (rest := [vR 77]) (pc' := 68) D228_65 rfl ck_11_static_346 TE221 rfl (Nat.le_of_ble_eq_true rfl) ⟨Nat.le_of_ble_eq_true rfl, Nat.le_of_ble_eq_true rfl⟩ (by decide) (by omega) (k221 E (by omega) H235 93 (by omega)) ?_
          intro v249 q252
          have q251 := q252; clear q252
          have e253 : v249 = 193 := by omega
          subst e253
          have g254 : gi M234 77 36 = n := (f236.g rfl).trans ((u225.gi_ne (by decide) (Or.inr (by decide))).trans ((f204.g rfl).trans (h3)))
          have g255 : gi M234 77 37 = t243 := ht244.symm
          have g256 : gi M234 77 38 = t245 := ht246.symm
          have g257 : gi M234 77 39 = t247 := ht248.symm
          refine r_vV (c := 77) (args := [vI 193]) (rest := []) (pc' := 71) D228_68 rfl ck_11_virtual_350 TE219 rfl (Nat.le_of_ble_eq_true rfl) ⟨Nat.le_of_ble_eq_true rfl, Nat.le_of_ble_eq_true rfl⟩ sc_77 ⟨rfl, by decide⟩ H235.1 (by omega) (k219p E (by omega) H235 193 193 n t243 t247 t245 K C V st ((h0.fr f242 rfl)) (h1) (by omega) (by omega) (by omega) (by omega) (by omega) (by omega) (by omega) (by omega) (by first | assumption | (unfold isC; omega)) (by omega)) ?_
          intro M259 q265
          obtain ⟨H260, f261, q262, q263, q264⟩ := q265
          have f266 := f242.tr (f261.up rfl)
          obtain ⟨t267, ht268⟩ : ∃ q, q = gi M259 77 37 := ⟨_, rfl⟩
          have b_t267 := H260.2 77 37 0 400 rfl
          rw [← ht268] at b_t267
          obtain ⟨t269, ht270⟩ : ∃ q, q = gi M259 77 39 := ⟨_, rfl⟩
          have b_t269 := (H260.1.int sc_77 (i := 39) (by decide) (by decide) rfl).2
          unfold inR at b_t269; rw [← ht270] at b_t269
          rw [← ht268, ← ht270] at q262
          rw [← ht268] at q263
          rw [← ht270] at q264
          have kM := q262; clear q262
          refine r_goto (tgt := 118) D228_71 rfl ?_
          have g271 : gi M259 77 37 = t267 := ht268.symm
          have g272 : gi M259 77 38 = t245 := (f261.g rfl).trans (ht246.symm)
          have g273 : gi M259 77 39 = t269 := ht270.symm
          exact r_retV D228_118 rfl (⟨H260, f266, by first | (rw [g271]; omega) | rw [g271], by first | (rw [g272]; omega) | rw [g272], by first | (rw [g272, g273]; omega) | rw [g272, g273], by rw [(ht268.symm), ((f261.g rfl).trans (ht246.symm)), (ht270.symm)]; first | exact (RBx.o9 kn.1 (by omega) (kS.at (by omega) rfl (by omega)) kM).at rfl rfl (by omega) | exact (RBx.l9 kn9.1 kL).at rfl rfl (by omega) | exact (RBx.no (by omega) (by omega) (RR.f9 kf9)).at rfl rfl (by omega)⟩)
        · have g274 : gi M202 77 37 = tok := (f204.g rfl).trans (h4)
          have g275 : gi M202 77 38 = lq := (f204.g rfl).trans (h6)
          have g276 : gi M202 77 39 = t210 := ht211.symm
          exact r_retV D228_44 rfl (⟨H203, f209, by first | (rw [g274]; omega) | rw [g274], by first | (rw [g275]; omega) | rw [g275], by first | (rw [g275, g276]; omega) | rw [g275, g276], by rw [((f204.g rfl).trans (h4)), ((f204.g rfl).trans (h6)), (ht211.symm)]; first | exact (RBx.no (by omega) (by omega) (RR.d9 kn.1 (by omega))).at rfl rfl (by omega) | (exfalso; omega)⟩)
  · have g277 : gi M 77 37 = tok := h4
    have g278 : gi M 77 38 = lq := h6
    have g279 : gi M 77 39 = bd := h7
    exact r_retV D228_7 rfl (⟨H, f0, by first | (rw [g277]; omega) | rw [g277], by first | (rw [g278]; omega) | rw [g278], by first | (rw [g278, g279]; omega) | rw [g278, g279], by rw [(h4), (h6), (h7)]; exact RBx.id (by omega) rfl rfl rfl⟩)
set_option maxRecDepth 4000 in
theorem L_k227p {base : Nat} {X : Nat → Option mC} {G : Nat → Value} (E : EnvOK base X G) {rr : Nat} (ihr : ∀ {d : Nat} (_ : 3 + 3 * rr ≤ d) {M : mH} (_ : HI base M) (deep : Int) (n : Int) (tok : Int) (bd : Int) (lq : Int) (K : Int → Int) (C : Int → Int) (V : Int → Int) (st : Int → Int), (RTx C V st n M) → (KQ K C V n) → (0 ≤ n ∧ n ≤ 400) → (gi M 77 36 = n) → (gi M 77 37 = tok) → (0 ≤ tok ∧ tok ≤ n) → (gi M 77 38 = lq) → (gi M 77 39 = bd) → (0 ≤ lq ∧ lq ≤ 51) → (bd = -1 → lq ≤ 50) → (0 ≤ deep ∧ deep ≤ 8) → 8 - deep < ((rr : Nat) : Int) → sOk base X G d T226 [vR 77, vI deep] M (pV (fun M' => HI base M' ∧ Fr [(77, 38), (77, 39), (77, 40)] M M' ∧ (tok ≤ gi M' 77 37 ∧ gi M' 77 37 ≤ n) ∧ (0 ≤ gi M' 77 38 ∧ gi M' 77 38 ≤ 51) ∧ (gi M' 77 39 = -1 → gi M' 77 38 ≤ 50) ∧ (RBx K st 5 deep tok lq bd (gi M' 77 37) (gi M' 77 38) (gi M' 77 39))))) {d : Nat} (hd : 5 + 3 * rr ≤ d) {M : mH} (H : HI base M) (deep : Int) (n : Int) (tok : Int) (bd : Int) (lq : Int) (K : Int → Int) (C : Int → Int) (V : Int → Int) (st : Int → Int) (h0 : RTx C V st n M) (h1 : KQ K C V n) (h2 : 0 ≤ n ∧ n ≤ 400) (h3 : gi M 77 36 = n) (h4 : gi M 77 37 = tok) (h5 : 0 ≤ tok ∧ tok ≤ n) (h6 : gi M 77 38 = lq) (h7 : gi M 77 39 = bd) (h8 : 0 ≤ lq ∧ lq ≤ 51) (h9 : bd = -1 → lq ≤ 50) (h10 : 0 ≤ deep ∧ deep ≤ 8) (h11 : 8 - deep < (rr : Int) + 1) : ∀ mz : Nat, (∀ (t0 l0 b0 : Int) (N : mH), HI base N → Fr [(77, 38), (77, 39), (77, 40)] M N → (gi N 77 37 = t0) → (gi N 77 38 = l0) → (gi N 77 39 = b0) → (gi N 77 36 = n) → (tok ≤ t0 ∧ t0 ≤ n) → (0 ≤ l0 ∧ l0 ≤ 51) → (b0 = -1 → l0 ≤ 50) → (LQx K st 7 8 deep tok lq bd t0 l0 b0) → (400 - t0) * 1 + 0 < (mz : Int) → sRn base X G d T227 5 [(0, vR 77), (1, vI deep)] [] N (s_Q base (pV (fun M' => HI base M' ∧ Fr [(77, 38), (77, 39), (77, 40)] M M' ∧ (tok ≤ gi M' 77 37 ∧ gi M' 77 37 ≤ n) ∧ (0 ≤ gi M' 77 38 ∧ gi M' 77 38 ≤ 51) ∧ (gi M' 77 39 = -1 → gi M' 77 38 ≤ 50) ∧ (RBx K st 7 deep tok lq bd (gi M' 77 37) (gi M' 77 38) (gi M' 77 39)))))) := by
  have f0 : Fr [(77, 38), (77, 39), (77, 40)] M M := Fr.rf
  intro mz
  induction mz with
  | zero => exact fun t0 l0 b0 N _ _ z0 z1 z2 z3 z4 z5 z6 z7 z8 => by omega
  | succ mz ih =>
    intro t0 l0 b0 N HN fN i0 i1 i2 i3 i4 i5 i6 i7 hmu
    refine s_blx (lv' := [(0, vR 77), (1, vI deep)]) (st' := [vI 42, vR 77]) B227_5_8 rfl ?_
    refine r_sIp (args := [vI 42]) (rest := [vR 77]) (pc' := 11) D227_8 rfl ck_11_static_346 TE221 rfl (Nat.le_of_ble_eq_true rfl) ⟨Nat.le_of_ble_eq_true rfl, Nat.le_of_ble_eq_true rfl⟩ (by decide) (by omega) (k221 E (by omega) HN 42 (by omega)) ?_
    intro v25 q28
    have q27 := q28; clear q28
    have e29 : v25 = 142 := by omega
    subst e29
    have g30 : gi N 77 36 = n := i3
    have g31 : gi N 77 37 = t0 := i0
    have g32 : gi N 77 38 = l0 := i1
    have g33 : gi N 77 39 = b0 := i2
    refine r_vI (c := 77) (args := [vI 142]) (rest := []) (pc' := 14) D227_11 rfl ck_11_virtual_328 TE218 rfl (Nat.le_of_ble_eq_true rfl) ⟨Nat.le_of_ble_eq_true rfl, Nat.le_of_ble_eq_true rfl⟩ sc_77 ⟨rfl, by decide⟩ HN.1 (by omega) (k218p E (by omega) HN 142 142 n t0 b0 l0 K C V st ((h0.fr fN rfl)) (h1) (by omega) (by omega) (by omega) (by omega) (by omega) (by omega) (by omega) (by omega) (by first | assumption | (unfold isC; omega)) (by omega)) ?_
    intro v34 M35 q43
    obtain ⟨H36, f37, q38, q39, q40, q41, q42⟩ := q43
    have f44 := fN.tr (f37.up rfl)
    obtain ⟨t45, ht46⟩ : ∃ q, q = gi M35 77 37 := ⟨_, rfl⟩
    have b_t45 := H36.2 77 37 0 400 rfl
    rw [← ht46] at b_t45
    rw [← ht46] at q39
    rw [← ht46] at q40
    refine r_ifc (tgt := 29) (pc' := 17) D227_14 rfl rfl (by unfold inR; omega) (fun (c47 : v34 ≠ 0) => ?_) (fun (c47 : ¬ (v34 ≠ 0)) => ?_)
    · refine s_blx (lv' := [(0, vR 77), (1, vI deep)]) (st' := [vI deep, vR 77]) B227_29_31 rfl ?_
      have g48 : gi M35 77 36 = n := (f37.g rfl).trans (i3)
      have g49 : gi M35 77 37 = t45 := ht46.symm
      have g50 : gi M35 77 38 = l0 := (f37.g rfl).trans (i1)
      have g51 : gi M35 77 39 = b0 := (f37.g rfl).trans (i2)
      refine r_vV (c := 77) (args := [vI deep]) (rest := []) (pc' := 34) D227_31 rfl ck_11_virtual_362 TE228 rfl (Nat.le_of_ble_eq_true rfl) ⟨Nat.le_of_ble_eq_true rfl, Nat.le_of_ble_eq_true rfl⟩ sc_77 ⟨rfl, by decide⟩ H36.1 (by omega) (k228p E ihr (by omega) H36 deep n t45 b0 l0 K C V st ((h0.fr f44 rfl)) (h1) (by omega) (by omega) (by omega) (by omega) (by omega) (by omega) (by omega) (by omega) (by omega) (by omega)) ?_
      intro M53 q60
      obtain ⟨H54, f55, q56, q57, q58, q59⟩ := q60
      have f61 := f44.tr (f55.up rfl)
      obtain ⟨t62, ht63⟩ : ∃ q, q = gi M53 77 37 := ⟨_, rfl⟩
      have b_t62 := H54.2 77 37 0 400 rfl
      rw [← ht63] at b_t62
      obtain ⟨t64, ht65⟩ : ∃ q, q = gi M53 77 38 := ⟨_, rfl⟩
      have b_t64 := (H54.1.int sc_77 (i := 38) (by decide) (by decide) rfl).2
      unfold inR at b_t64; rw [← ht65] at b_t64
      obtain ⟨t66, ht67⟩ : ∃ q, q = gi M53 77 39 := ⟨_, rfl⟩
      have b_t66 := (H54.1.int sc_77 (i := 39) (by decide) (by decide) rfl).2
      unfold inR at b_t66; rw [← ht67] at b_t66
      rw [← ht63] at q56
      rw [← ht65] at q57
      rw [← ht65, ← ht67] at q58
      rw [← ht63, ← ht65, ← ht67] at q59
      have kS := q59; clear q59
      refine r_goto (tgt := 5) D227_34 rfl ?_
      refine r_loc (lv' := [(0, vR 77), (1, vI deep)]) ⟨rfl, rfl, trivial⟩ rfl rfl ?_
      have g68 : gi M53 77 37 = t62 := ht63.symm
      have g69 : gi M53 77 38 = t64 := ht65.symm
      have g70 : gi M53 77 39 = t66 := ht67.symm
      have g71 : gi M53 77 36 = n := (f55.g rfl).trans ((f37.g rfl).trans (i3))
      exact ih t62 t64 t66 M53 H54 f61 (by omega) (by omega) (by omega) (by omega) (by omega) (by omega) (by omega) (LQx.stp (fun _ _ _ g1 g2 => RR.m8 (by omega) g1 g2) (fun _ _ g1 => RR.b8 (by omega) g1) i7 (by omega) (kS.at (by omega) (by omega) (by omega))) (by omega)
    · refine s_blx (lv' := [(0, vR 77), (1, vI deep)]) (st' := [vI 47, vR 77]) B227_17_20 rfl ?_
      refine r_sIp (args := [vI 47]) (rest := [vR 77]) (pc' := 23) D227_20 rfl ck_11_static_346 TE221 rfl (Nat.le_of_ble_eq_true rfl) ⟨Nat.le_of_ble_eq_true rfl, Nat.le_of_ble_eq_true rfl⟩ (by decide) (by omega) (k221 E (by omega) H36 47 (by omega)) ?_
      intro v72 q75
      have q74 := q75; clear q75
      have e76 : v72 = 147 := by omega
      subst e76
      have kq : K t45 = K t0 := by rw [show t45 = t0 by omega]
      have g77 : gi M35 77 36 = n := (f37.g rfl).trans (i3)
      have g78 : gi M35 77 37 = t45 := ht46.symm
      have g79 : gi M35 77 38 = l0 := (f37.g rfl).trans (i1)
      have g80 : gi M35 77 39 = b0 := (f37.g rfl).trans (i2)
      refine r_vI (c := 77) (args := [vI 147]) (rest := []) (pc' := 26) D227_23 rfl ck_11_virtual_328 TE218 rfl (Nat.le_of_ble_eq_true rfl) ⟨Nat.le_of_ble_eq_true rfl, Nat.le_of_ble_eq_true rfl⟩ sc_77 ⟨rfl, by decide⟩ H36.1 (by omega) (k218p E (by omega) H36 147 147 n t45 b0 l0 K C V st ((h0.fr f44 rfl)) (h1) (by omega) (by omega) (by omega) (by omega) (by omega) (by omega) (by omega) (by omega) (by first | assumption | (unfold isC; omega)) (by omega)) ?_
      intro v81 M82 q90
      obtain ⟨H83, f84, q85, q86, q87, q88, q89⟩ := q90
      have f91 := f44.tr (f84.up rfl)
      obtain ⟨t92, ht93⟩ : ∃ q, q = gi M82 77 37 := ⟨_, rfl⟩
      have b_t92 := H83.2 77 37 0 400 rfl
      rw [← ht93] at b_t92
      rw [← ht93] at q86
      rw [← ht93] at q87
      refine r_ifc (tgt := 37) (pc' := 29) D227_26 rfl rfl (by unfold inR; omega) (fun (c94 : v81 = 0) => ?_) (fun (c94 : ¬ (v81 = 0)) => ?_)
      · have g95 : gi M82 77 37 = t92 := ht93.symm
        have g96 : gi M82 77 38 = l0 := (f84.g rfl).trans ((f37.g rfl).trans (i1))
        have g97 : gi M82 77 39 = b0 := (f84.g rfl).trans ((f37.g rfl).trans (i2))
        exact r_retV D227_37 rfl (⟨H83, f91, by first | (rw [g95]; omega) | rw [g95], by first | (rw [g96]; omega) | rw [g96], by first | (rw [g96, g97]; omega) | rw [g96, g97], by rw [(ht93.symm), ((f84.g rfl).trans ((f37.g rfl).trans (i1))), ((f84.g rfl).trans ((f37.g rfl).trans (i2)))]; exact (LQx.fin i7 (fun hb => RR.e8 (by omega))).to (by omega) (by omega) (by omega)⟩)
      · refine s_blx (lv' := [(0, vR 77), (1, vI deep)]) (st' := [vI deep, vR 77]) B227_29_31 rfl ?_
        have g98 : gi M82 77 36 = n := (f84.g rfl).trans ((f37.g rfl).trans (i3))
        have g99 : gi M82 77 37 = t92 := ht93.symm
        have g100 : gi M82 77 38 = l0 := (f84.g rfl).trans ((f37.g rfl).trans (i1))
        have g101 : gi M82 77 39 = b0 := (f84.g rfl).trans ((f37.g rfl).trans (i2))
        refine r_vV (c := 77) (args := [vI deep]) (rest := []) (pc' := 34) D227_31 rfl ck_11_virtual_362 TE228 rfl (Nat.le_of_ble_eq_true rfl) ⟨Nat.le_of_ble_eq_true rfl, Nat.le_of_ble_eq_true rfl⟩ sc_77 ⟨rfl, by decide⟩ H83.1 (by omega) (k228p E ihr (by omega) H83 deep n t92 b0 l0 K C V st ((h0.fr f91 rfl)) (h1) (by omega) (by omega) (by omega) (by omega) (by omega) (by omega) (by omega) (by omega) (by omega) (by omega)) ?_
        intro M103 q110
        obtain ⟨H104, f105, q106, q107, q108, q109⟩ := q110
        have f111 := f91.tr (f105.up rfl)
        obtain ⟨t112, ht113⟩ : ∃ q, q = gi M103 77 37 := ⟨_, rfl⟩
        have b_t112 := H104.2 77 37 0 400 rfl
        rw [← ht113] at b_t112
        obtain ⟨t114, ht115⟩ : ∃ q, q = gi M103 77 38 := ⟨_, rfl⟩
        have b_t114 := (H104.1.int sc_77 (i := 38) (by decide) (by decide) rfl).2
        unfold inR at b_t114; rw [← ht115] at b_t114
        obtain ⟨t116, ht117⟩ : ∃ q, q = gi M103 77 39 := ⟨_, rfl⟩
        have b_t116 := (H104.1.int sc_77 (i := 39) (by decide) (by decide) rfl).2
        unfold inR at b_t116; rw [← ht117] at b_t116
        rw [← ht113] at q106
        rw [← ht115] at q107
        rw [← ht115, ← ht117] at q108
        rw [← ht113, ← ht115, ← ht117] at q109
        have kS := q109; clear q109
        refine r_goto (tgt := 5) D227_34 rfl ?_
        refine r_loc (lv' := [(0, vR 77), (1, vI deep)]) ⟨rfl, rfl, trivial⟩ rfl rfl ?_
        have g118 : gi M103 77 37 = t112 := ht113.symm
        have g119 : gi M103 77 38 = t114 := ht115.symm
        have g120 : gi M103 77 39 = t116 := ht117.symm
        have g121 : gi M103 77 36 = n := (f105.g rfl).trans ((f84.g rfl).trans ((f37.g rfl).trans (i3)))
        exact ih t112 t114 t116 M103 H104 f111 (by omega) (by omega) (by omega) (by omega) (by omega) (by omega) (by omega) (LQx.stp (fun _ _ _ g1 g2 => RR.m8 (by omega) g1 g2) (fun _ _ g1 => RR.b8 (by omega) g1) i7 (by omega) (kS.at (by omega) (by omega) (by omega))) (by omega)
set_option maxRecDepth 4000 in
theorem k227p {base : Nat} {X : Nat → Option mC} {G : Nat → Value} (E : EnvOK base X G) {rr : Nat} (ihr : ∀ {d : Nat} (_ : 3 + 3 * rr ≤ d) {M : mH} (_ : HI base M) (deep : Int) (n : Int) (tok : Int) (bd : Int) (lq : Int) (K : Int → Int) (C : Int → Int) (V : Int → Int) (st : Int → Int), (RTx C V st n M) → (KQ K C V n) → (0 ≤ n ∧ n ≤ 400) → (gi M 77 36 = n) → (gi M 77 37 = tok) → (0 ≤ tok ∧ tok ≤ n) → (gi M 77 38 = lq) → (gi M 77 39 = bd) → (0 ≤ lq ∧ lq ≤ 51) → (bd = -1 → lq ≤ 50) → (0 ≤ deep ∧ deep ≤ 8) → 8 - deep < ((rr : Nat) : Int) → sOk base X G d T226 [vR 77, vI deep] M (pV (fun M' => HI base M' ∧ Fr [(77, 38), (77, 39), (77, 40)] M M' ∧ (tok ≤ gi M' 77 37 ∧ gi M' 77 37 ≤ n) ∧ (0 ≤ gi M' 77 38 ∧ gi M' 77 38 ≤ 51) ∧ (gi M' 77 39 = -1 → gi M' 77 38 ≤ 50) ∧ (RBx K st 5 deep tok lq bd (gi M' 77 37) (gi M' 77 38) (gi M' 77 39))))) {d : Nat} (hd : 5 + 3 * rr ≤ d) {M : mH} (H : HI base M) (deep : Int) (n : Int) (tok : Int) (bd : Int) (lq : Int) (K : Int → Int) (C : Int → Int) (V : Int → Int) (st : Int → Int) (h0 : RTx C V st n M) (h1 : KQ K C V n) (h2 : 0 ≤ n ∧ n ≤ 400) (h3 : gi M 77 36 = n) (h4 : gi M 77 37 = tok) (h5 : 0 ≤ tok ∧ tok ≤ n) (h6 : gi M 77 38 = lq) (h7 : gi M 77 39 = bd) (h8 : 0 ≤ lq ∧ lq ≤ 51) (h9 : bd = -1 → lq ≤ 50) (h10 : 0 ≤ deep ∧ deep ≤ 8) (h11 : 8 - deep < (rr : Int) + 1) : sOk base X G d T227 [vR 77, vI deep] M (pV (fun M' => HI base M' ∧ Fr [(77, 38), (77, 39), (77, 40)] M M' ∧ (tok ≤ gi M' 77 37 ∧ gi M' 77 37 ≤ n) ∧ (0 ≤ gi M' 77 38 ∧ gi M' 77 38 ≤ 51) ∧ (gi M' 77 39 = -1 → gi M' 77 38 ≤ 50) ∧ (RBx K st 7 deep tok lq bd (gi M' 77 37) (gi M' 77 38) (gi M' 77 39)))) := by
  have f0 : Fr [(77, 38), (77, 39), (77, 40)] M M := Fr.rf
  refine sOk.of (show sRn base X G d T227 0 [(0, vR 77), (1, vI deep)] [] M _ from ?_)
  refine s_blx (lv' := [(0, vR 77), (1, vI deep)]) (st' := [vI deep, vR 77]) B227_0_2 rfl ?_
  have g1 : gi M 77 36 = n := h3
  have g2 : gi M 77 37 = tok := h4
  have g3 : gi M 77 38 = lq := h6
  have g4 : gi M 77 39 = bd := h7
  refine r_vV (c := 77) (args := [vI deep]) (rest := []) (pc' := 5) D227_2 rfl ck_11_virtual_362 TE228 rfl (Nat.le_of_ble_eq_true rfl) ⟨Nat.le_of_ble_eq_true rfl, Nat.le_of_ble_eq_true rfl⟩ sc_77 ⟨rfl, by decide⟩ H.1 (by omega) (k228p E ihr (by omega) H deep n tok bd lq K C V st (h0) (h1) (by omega) (by omega) (by omega) (by omega) (by omega) (by omega) (by omega) (by omega) (by omega) (by omega)) ?_
  intro M6 q13
  obtain ⟨H7, f8, q9, q10, q11, q12⟩ := q13
  have f14 := f0.tr (f8.up rfl)
  obtain ⟨t15, ht16⟩ : ∃ q, q = gi M6 77 37 := ⟨_, rfl⟩
  have b_t15 := H7.2 77 37 0 400 rfl
  rw [← ht16] at b_t15
  obtain ⟨t17, ht18⟩ : ∃ q, q = gi M6 77 38 := ⟨_, rfl⟩
  have b_t17 := (H7.1.int sc_77 (i := 38) (by decide) (by decide) rfl).2
  unfold inR at b_t17; rw [← ht18] at b_t17
  obtain ⟨t19, ht20⟩ : ∃ q, q = gi M6 77 39 := ⟨_, rfl⟩
  have b_t19 := (H7.1.int sc_77 (i := 39) (by decide) (by decide) rfl).2
  unfold inR at b_t19; rw [← ht20] at b_t19
  rw [← ht16] at q9
  rw [← ht18] at q10
  rw [← ht18, ← ht20] at q11
  rw [← ht16, ← ht18, ← ht20] at q12
  have kS := q12; clear q12
  refine r_loc (lv' := [(0, vR 77), (1, vI deep)]) ⟨rfl, rfl, trivial⟩ rfl rfl ?_
  have g21 : gi M6 77 37 = t15 := ht16.symm
  have g22 : gi M6 77 38 = t17 := ht18.symm
  have g23 : gi M6 77 39 = t19 := ht20.symm
  have g24 : gi M6 77 36 = n := (f8.g rfl).trans (h3)
  exact (L_k227p E ihr hd H deep n tok bd lq K C V st h0 h1 h2 h3 h4 h5 h6 h7 h8 h9 h10 h11 (((400 - t15) * 1 + 0 : Int) + 1).toNat) t15 t17 t19 M6 H7 f14 (by omega) (by omega) (by omega) (by omega) (by omega) (by omega) (by omega) (LQx.ini (fun _ _ _ g1 g2 => RR.m7 g1 g2) (fun _ _ g1 => RR.b7 g1) kS) (by omega)
set_option maxRecDepth 4000 in
theorem L_k226p {base : Nat} {X : Nat → Option mC} {G : Nat → Value} (E : EnvOK base X G) {rr : Nat} (ihr : ∀ {d : Nat} (_ : 3 + 3 * rr ≤ d) {M : mH} (_ : HI base M) (deep : Int) (n : Int) (tok : Int) (bd : Int) (lq : Int) (K : Int → Int) (C : Int → Int) (V : Int → Int) (st : Int → Int), (RTx C V st n M) → (KQ K C V n) → (0 ≤ n ∧ n ≤ 400) → (gi M 77 36 = n) → (gi M 77 37 = tok) → (0 ≤ tok ∧ tok ≤ n) → (gi M 77 38 = lq) → (gi M 77 39 = bd) → (0 ≤ lq ∧ lq ≤ 51) → (bd = -1 → lq ≤ 50) → (0 ≤ deep ∧ deep ≤ 8) → 8 - deep < ((rr : Nat) : Int) → sOk base X G d T226 [vR 77, vI deep] M (pV (fun M' => HI base M' ∧ Fr [(77, 38), (77, 39), (77, 40)] M M' ∧ (tok ≤ gi M' 77 37 ∧ gi M' 77 37 ≤ n) ∧ (0 ≤ gi M' 77 38 ∧ gi M' 77 38 ≤ 51) ∧ (gi M' 77 39 = -1 → gi M' 77 38 ≤ 50) ∧ (RBx K st 5 deep tok lq bd (gi M' 77 37) (gi M' 77 38) (gi M' 77 39))))) {d : Nat} (hd : 3 + 3 * (rr + 1) ≤ d) {M : mH} (H : HI base M) (deep : Int) (n : Int) (tok : Int) (bd : Int) (lq : Int) (K : Int → Int) (C : Int → Int) (V : Int → Int) (st : Int → Int) (h0 : RTx C V st n M) (h1 : KQ K C V n) (h2 : 0 ≤ n ∧ n ≤ 400) (h3 : gi M 77 36 = n) (h4 : gi M 77 37 = tok) (h5 : 0 ≤ tok ∧ tok ≤ n) (h6 : gi M 77 38 = lq) (h7 : gi M 77 39 = bd) (h8 : 0 ≤ lq ∧ lq ≤ 51) (h9 : bd = -1 → lq ≤ 50) (h10 : 0 ≤ deep ∧ deep ≤ 8) (hrr : 8 - deep < ((rr + 1 : Nat) : Int)) : ∀ mz : Nat, (∀ (t0 l0 b0 : Int) (N : mH), HI base N → Fr [(77, 38), (77, 39), (77, 40)] M N → (gi N 77 37 = t0) → (gi N 77 38 = l0) → (gi N 77 39 = b0) → (gi N 77 36 = n) → (tok ≤ t0 ∧ t0 ≤ n) → (0 ≤ l0 ∧ l0 ≤ 51) → (b0 = -1 → l0 ≤ 50) → (LQx K st 5 6 deep tok lq bd t0 l0 b0) → (400 - t0) * 1 + 0 < (mz : Int) → sRn base X G d T226 5 [(0, vR 77), (1, vI deep)] [] N (s_Q base (pV (fun M' => HI base M' ∧ Fr [(77, 38), (77, 39), (77, 40)] M M' ∧ (tok ≤ gi M' 77 37 ∧ gi M' 77 37 ≤ n) ∧ (0 ≤ gi M' 77 38 ∧ gi M' 77 38 ≤ 51) ∧ (gi M' 77 39 = -1 → gi M' 77 38 ≤ 50) ∧ (RBx K st 5 deep tok lq bd (gi M' 77 37) (gi M' 77 38) (gi M' 77 39)))))) := by
  have f0 : Fr [(77, 38), (77, 39), (77, 40)] M M := Fr.rf
  intro mz
  induction mz with
  | zero => exact fun t0 l0 b0 N _ _ z0 z1 z2 z3 z4 z5 z6 z7 z8 => by omega
  | succ mz ih =>
    intro t0 l0 b0 N HN fN i0 i1 i2 i3 i4 i5 i6 i7 hmu
    refine s_blx (lv' := [(0, vR 77), (1, vI deep)]) (st' := [vI 43, vR 77]) B226_5_8 rfl ?_
    refine r_sIp (args := [vI 43]) (rest := [vR 77]) (pc' := 11) D226_8 rfl ck_11_static_346 TE221 rfl (Nat.le_of_ble_eq_true rfl) ⟨Nat.le_of_ble_eq_true rfl, Nat.le_of_ble_eq_true rfl⟩ (by decide) (by omega) (k221 E (by omega) HN 43 (by omega)) ?_
    intro v25 q28
    have q27 := q28; clear q28
    have e29 : v25 = 143 := by omega
    subst e29
    have g30 : gi N 77 36 = n := i3
    have g31 : gi N 77 37 = t0 := i0
    have g32 : gi N 77 38 = l0 := i1
    have g33 : gi N 77 39 = b0 := i2
    refine r_vI (c := 77) (args := [vI 143]) (rest := []) (pc' := 14) D226_11 rfl ck_11_virtual_328 TE218 rfl (Nat.le_of_ble_eq_true rfl) ⟨Nat.le_of_ble_eq_true rfl, Nat.le_of_ble_eq_true rfl⟩ sc_77 ⟨rfl, by decide⟩ HN.1 (by omega) (k218p E (by omega) HN 143 143 n t0 b0 l0 K C V st ((h0.fr fN rfl)) (h1) (by omega) (by omega) (by omega) (by omega) (by omega) (by omega) (by omega) (by omega) (by first | assumption | (unfold isC; omega)) (by omega)) ?_
    intro v34 M35 q43
    obtain ⟨H36, f37, q38, q39, q40, q41, q42⟩ := q43
    have f44 := fN.tr (f37.up rfl)
    obtain ⟨t45, ht46⟩ : ∃ q, q = gi M35 77 37 := ⟨_, rfl⟩
    have b_t45 := H36.2 77 37 0 400 rfl
    rw [← ht46] at b_t45
    rw [← ht46] at q39
    rw [← ht46] at q40
    refine r_ifc (tgt := 29) (pc' := 17) D226_14 rfl rfl (by unfold inR; omega) (fun (c47 : v34 ≠ 0) => ?_) (fun (c47 : ¬ (v34 ≠ 0)) => ?_)
    · refine s_blx (lv' := [(0, vR 77), (1, vI deep)]) (st' := [vI deep, vR 77]) B226_29_31 rfl ?_
      have g48 : gi M35 77 36 = n := (f37.g rfl).trans (i3)
      have g49 : gi M35 77 37 = t45 := ht46.symm
      have g50 : gi M35 77 38 = l0 := (f37.g rfl).trans (i1)
      have g51 : gi M35 77 39 = b0 := (f37.g rfl).trans (i2)
      refine r_vV (c := 77) (args := [vI deep]) (rest := []) (pc' := 34) D226_31 rfl ck_11_virtual_359 TE227 rfl (Nat.le_of_ble_eq_true rfl) ⟨Nat.le_of_ble_eq_true rfl, Nat.le_of_ble_eq_true rfl⟩ sc_77 ⟨rfl, by decide⟩ H36.1 (by omega) (k227p E ihr (by omega) H36 deep n t45 b0 l0 K C V st ((h0.fr f44 rfl)) (h1) (by omega) (by omega) (by omega) (by omega) (by omega) (by omega) (by omega) (by omega) (by omega) (by omega)) ?_
      intro M53 q60
      obtain ⟨H54, f55, q56, q57, q58, q59⟩ := q60
      have f61 := f44.tr (f55.up rfl)
      obtain ⟨t62, ht63⟩ : ∃ q, q = gi M53 77 37 := ⟨_, rfl⟩
      have b_t62 := H54.2 77 37 0 400 rfl
      rw [← ht63] at b_t62
      obtain ⟨t64, ht65⟩ : ∃ q, q = gi M53 77 38 := ⟨_, rfl⟩
      have b_t64 := (H54.1.int sc_77 (i := 38) (by decide) (by decide) rfl).2
      unfold inR at b_t64; rw [← ht65] at b_t64
      obtain ⟨t66, ht67⟩ : ∃ q, q = gi M53 77 39 := ⟨_, rfl⟩
      have b_t66 := (H54.1.int sc_77 (i := 39) (by decide) (by decide) rfl).2
      unfold inR at b_t66; rw [← ht67] at b_t66
      rw [← ht63] at q56
      rw [← ht65] at q57
      rw [← ht65, ← ht67] at q58
      rw [← ht63, ← ht65, ← ht67] at q59
      have kS := q59; clear q59
      refine r_goto (tgt := 5) D226_34 rfl ?_
      refine r_loc (lv' := [(0, vR 77), (1, vI deep)]) ⟨rfl, rfl, trivial⟩ rfl rfl ?_
      have g68 : gi M53 77 37 = t62 := ht63.symm
      have g69 : gi M53 77 38 = t64 := ht65.symm
      have g70 : gi M53 77 39 = t66 := ht67.symm
      have g71 : gi M53 77 36 = n := (f55.g rfl).trans ((f37.g rfl).trans (i3))
      exact ih t62 t64 t66 M53 H54 f61 (by omega) (by omega) (by omega) (by omega) (by omega) (by omega) (by omega) (LQx.stp (fun _ _ _ g1 g2 => RR.m6 (by omega) g1 g2) (fun _ _ g1 => RR.b6 (by omega) g1) i7 (by omega) (kS.at (by omega) (by omega) (by omega))) (by omega)
    · refine s_blx (lv' := [(0, vR 77), (1, vI deep)]) (st' := [vI 45, vR 77]) B226_17_20 rfl ?_
      refine r_sIp (args := [vI 45]) (rest := [vR 77]) (pc' := 23) D226_20 rfl ck_11_static_346 TE221 rfl (Nat.le_of_ble_eq_true rfl) ⟨Nat.le_of_ble_eq_true rfl, Nat.le_of_ble_eq_true rfl⟩ (by decide) (by omega) (k221 E (by omega) H36 45 (by omega)) ?_
      intro v72 q75
      have q74 := q75; clear q75
      have e76 : v72 = 145 := by omega
      subst e76
      have kq : K t45 = K t0 := by rw [show t45 = t0 by omega]
      have g77 : gi M35 77 36 = n := (f37.g rfl).trans (i3)
      have g78 : gi M35 77 37 = t45 := ht46.symm
      have g79 : gi M35 77 38 = l0 := (f37.g rfl).trans (i1)
      have g80 : gi M35 77 39 = b0 := (f37.g rfl).trans (i2)
      refine r_vI (c := 77) (args := [vI 145]) (rest := []) (pc' := 26) D226_23 rfl ck_11_virtual_328 TE218 rfl (Nat.le_of_ble_eq_true rfl) ⟨Nat.le_of_ble_eq_true rfl, Nat.le_of_ble_eq_true rfl⟩ sc_77 ⟨rfl, by decide⟩ H36.1 (by omega) (k218p E (by omega) H36 145 145 n t45 b0 l0 K C V st ((h0.fr f44 rfl)) (h1) (by omega) (by omega) (by omega) (by omega) (by omega) (by omega) (by omega) (by omega) (by first | assumption | (unfold isC; omega)) (by omega)) ?_
      intro v81 M82 q90
      obtain ⟨H83, f84, q85, q86, q87, q88, q89⟩ := q90
      have f91 := f44.tr (f84.up rfl)
      obtain ⟨t92, ht93⟩ : ∃ q, q = gi M82 77 37 := ⟨_, rfl⟩
      have b_t92 := H83.2 77 37 0 400 rfl
      rw [← ht93] at b_t92
      rw [← ht93] at q86
      rw [← ht93] at q87
      refine r_ifc (tgt := 37) (pc' := 29) D226_26 rfl rfl (by unfold inR; omega) (fun (c94 : v81 = 0) => ?_) (fun (c94 : ¬ (v81 = 0)) => ?_)
      · have g95 : gi M82 77 37 = t92 := ht93.symm
        have g96 : gi M82 77 38 = l0 := (f84.g rfl).trans ((f37.g rfl).trans (i1))
        have g97 : gi M82 77 39 = b0 := (f84.g rfl).trans ((f37.g rfl).trans (i2))
        exact r_retV D226_37 rfl (⟨H83, f91, by first | (rw [g95]; omega) | rw [g95], by first | (rw [g96]; omega) | rw [g96], by first | (rw [g96, g97]; omega) | rw [g96, g97], by rw [(ht93.symm), ((f84.g rfl).trans ((f37.g rfl).trans (i1))), ((f84.g rfl).trans ((f37.g rfl).trans (i2)))]; exact (LQx.fin i7 (fun hb => RR.e6 (by omega))).to (by omega) (by omega) (by omega)⟩)
      · refine s_blx (lv' := [(0, vR 77), (1, vI deep)]) (st' := [vI deep, vR 77]) B226_29_31 rfl ?_
        have g98 : gi M82 77 36 = n := (f84.g rfl).trans ((f37.g rfl).trans (i3))
        have g99 : gi M82 77 37 = t92 := ht93.symm
        have g100 : gi M82 77 38 = l0 := (f84.g rfl).trans ((f37.g rfl).trans (i1))
        have g101 : gi M82 77 39 = b0 := (f84.g rfl).trans ((f37.g rfl).trans (i2))
        refine r_vV (c := 77) (args := [vI deep]) (rest := []) (pc' := 34) D226_31 rfl ck_11_virtual_359 TE227 rfl (Nat.le_of_ble_eq_true rfl) ⟨Nat.le_of_ble_eq_true rfl, Nat.le_of_ble_eq_true rfl⟩ sc_77 ⟨rfl, by decide⟩ H83.1 (by omega) (k227p E ihr (by omega) H83 deep n t92 b0 l0 K C V st ((h0.fr f91 rfl)) (h1) (by omega) (by omega) (by omega) (by omega) (by omega) (by omega) (by omega) (by omega) (by omega) (by omega)) ?_
        intro M103 q110
        obtain ⟨H104, f105, q106, q107, q108, q109⟩ := q110
        have f111 := f91.tr (f105.up rfl)
        obtain ⟨t112, ht113⟩ : ∃ q, q = gi M103 77 37 := ⟨_, rfl⟩
        have b_t112 := H104.2 77 37 0 400 rfl
        rw [← ht113] at b_t112
        obtain ⟨t114, ht115⟩ : ∃ q, q = gi M103 77 38 := ⟨_, rfl⟩
        have b_t114 := (H104.1.int sc_77 (i := 38) (by decide) (by decide) rfl).2
        unfold inR at b_t114; rw [← ht115] at b_t114
        obtain ⟨t116, ht117⟩ : ∃ q, q = gi M103 77 39 := ⟨_, rfl⟩
        have b_t116 := (H104.1.int sc_77 (i := 39) (by decide) (by decide) rfl).2
        unfold inR at b_t116; rw [← ht117] at b_t116
        rw [← ht113] at q106
        rw [← ht115] at q107
        rw [← ht115, ← ht117] at q108
        rw [← ht113, ← ht115, ← ht117] at q109
        have kS := q109; clear q109
        refine r_goto (tgt := 5) D226_34 rfl ?_
        refine r_loc (lv' := [(0, vR 77), (1, vI deep)]) ⟨rfl, rfl, trivial⟩ rfl rfl ?_
        have g118 : gi M103 77 37 = t112 := ht113.symm
        have g119 : gi M103 77 38 = t114 := ht115.symm
        have g120 : gi M103 77 39 = t116 := ht117.symm
        have g121 : gi M103 77 36 = n := (f105.g rfl).trans ((f84.g rfl).trans ((f37.g rfl).trans (i3)))
        exact ih t112 t114 t116 M103 H104 f111 (by omega) (by omega) (by omega) (by omega) (by omega) (by omega) (by omega) (LQx.stp (fun _ _ _ g1 g2 => RR.m6 (by omega) g1 g2) (fun _ _ g1 => RR.b6 (by omega) g1) i7 (by omega) (kS.at (by omega) (by omega) (by omega))) (by omega)
set_option maxRecDepth 4000 in
theorem k226pr {base : Nat} {X : Nat → Option mC} {G : Nat → Value} (E : EnvOK base X G) : ∀ rr : Nat, ∀ {d : Nat} (_ : 3 + 3 * rr ≤ d) {M : mH} (_ : HI base M) (deep : Int) (n : Int) (tok : Int) (bd : Int) (lq : Int) (K : Int → Int) (C : Int → Int) (V : Int → Int) (st : Int → Int), (RTx C V st n M) → (KQ K C V n) → (0 ≤ n ∧ n ≤ 400) → (gi M 77 36 = n) → (gi M 77 37 = tok) → (0 ≤ tok ∧ tok ≤ n) → (gi M 77 38 = lq) → (gi M 77 39 = bd) → (0 ≤ lq ∧ lq ≤ 51) → (bd = -1 → lq ≤ 50) → (0 ≤ deep ∧ deep ≤ 8) → 8 - deep < ((rr : Nat) : Int) → sOk base X G d T226 [vR 77, vI deep] M (pV (fun M' => HI base M' ∧ Fr [(77, 38), (77, 39), (77, 40)] M M' ∧ (tok ≤ gi M' 77 37 ∧ gi M' 77 37 ≤ n) ∧ (0 ≤ gi M' 77 38 ∧ gi M' 77 38 ≤ 51) ∧ (gi M' 77 39 = -1 → gi M' 77 38 ≤ 50) ∧ (RBx K st 5 deep tok lq bd (gi M' 77 37) (gi M' 77 38) (gi M' 77 39)))) := by
  intro rr
  induction rr with
  | zero => intro d hd M H deep n tok bd lq K C V st h0 h1 h2 h3 h4 h5 h6 h7 h8 h9 h10 hrr; exfalso; omega
  | succ rr ihr =>
  intro d hd M H deep n tok bd lq K C V st h0 h1 h2 h3 h4 h5 h6 h7 h8 h9 h10 hrr
  have f0 : Fr [(77, 38), (77, 39), (77, 40)] M M := Fr.rf
  refine sOk.of (show sRn base X G d T226 0 [(0, vR 77), (1, vI deep)] [] M _ from ?_)
  refine s_blx (lv' := [(0, vR 77), (1, vI deep)]) (st' := [vI deep, vR 77]) B226_0_2 rfl ?_
  have g1 : gi M 77 36 = n := h3
  have g2 : gi M 77 37 = tok := h4
  have g3 : gi M 77 38 = lq := h6
  have g4 : gi M 77 39 = bd := h7
  refine r_vV (c := 77) (args := [vI deep]) (rest := []) (pc' := 5) D226_2 rfl ck_11_virtual_359 TE227 rfl (Nat.le_of_ble_eq_true rfl) ⟨Nat.le_of_ble_eq_true rfl, Nat.le_of_ble_eq_true rfl⟩ sc_77 ⟨rfl, by decide⟩ H.1 (by omega) (k227p E ihr (by omega) H deep n tok bd lq K C V st (h0) (h1) (by omega) (by omega) (by omega) (by omega) (by omega) (by omega) (by omega) (by omega) (by omega) (by omega)) ?_
  intro M6 q13
  obtain ⟨H7, f8, q9, q10, q11, q12⟩ := q13
  have f14 := f0.tr (f8.up rfl)
  obtain ⟨t15, ht16⟩ : ∃ q, q = gi M6 77 37 := ⟨_, rfl⟩
  have b_t15 := H7.2 77 37 0 400 rfl
  rw [← ht16] at b_t15
  obtain ⟨t17, ht18⟩ : ∃ q, q = gi M6 77 38 := ⟨_, rfl⟩
  have b_t17 := (H7.1.int sc_77 (i := 38) (by decide) (by decide) rfl).2
  unfold inR at b_t17; rw [← ht18] at b_t17
  obtain ⟨t19, ht20⟩ : ∃ q, q = gi M6 77 39 := ⟨_, rfl⟩
  have b_t19 := (H7.1.int sc_77 (i := 39) (by decide) (by decide) rfl).2
  unfold inR at b_t19; rw [← ht20] at b_t19
  rw [← ht16] at q9
  rw [← ht18] at q10
  rw [← ht18, ← ht20] at q11
  rw [← ht16, ← ht18, ← ht20] at q12
  have kS := q12; clear q12
  refine r_loc (lv' := [(0, vR 77), (1, vI deep)]) ⟨rfl, rfl, trivial⟩ rfl rfl ?_
  have g21 : gi M6 77 37 = t15 := ht16.symm
  have g22 : gi M6 77 38 = t17 := ht18.symm
  have g23 : gi M6 77 39 = t19 := ht20.symm
  have g24 : gi M6 77 36 = n := (f8.g rfl).trans (h3)
  exact (L_k226p E ihr hd H deep n tok bd lq K C V st h0 h1 h2 h3 h4 h5 h6 h7 h8 h9 h10 hrr (((400 - t15) * 1 + 0 : Int) + 1).toNat) t15 t17 t19 M6 H7 f14 (by omega) (by omega) (by omega) (by omega) (by omega) (by omega) (by omega) (LQx.ini (fun _ _ _ g1 g2 => RR.m5 g1 g2) (fun _ _ g1 => RR.b5 g1) kS) (by omega)
theorem k226p {base : Nat} {X : Nat → Option mC} {G : Nat → Value} (E : EnvOK base X G) {d : Nat} (hd : 30 ≤ d) {M : mH} (H : HI base M) (deep : Int) (n : Int) (tok : Int) (bd : Int) (lq : Int) (K : Int → Int) (C : Int → Int) (V : Int → Int) (st : Int → Int) (h0 : RTx C V st n M) (h1 : KQ K C V n) (h2 : 0 ≤ n ∧ n ≤ 400) (h3 : gi M 77 36 = n) (h4 : gi M 77 37 = tok) (h5 : 0 ≤ tok ∧ tok ≤ n) (h6 : gi M 77 38 = lq) (h7 : gi M 77 39 = bd) (h8 : 0 ≤ lq ∧ lq ≤ 51) (h9 : bd = -1 → lq ≤ 50) (h10 : 0 ≤ deep ∧ deep ≤ 8) : sOk base X G d T226 [vR 77, vI deep] M (pV (fun M' => HI base M' ∧ Fr [(77, 38), (77, 39), (77, 40)] M M' ∧ (tok ≤ gi M' 77 37 ∧ gi M' 77 37 ≤ n) ∧ (0 ≤ gi M' 77 38 ∧ gi M' 77 38 ≤ 51) ∧ (gi M' 77 39 = -1 → gi M' 77 38 ≤ 50) ∧ (RBx K st 5 deep tok lq bd (gi M' 77 37) (gi M' 77 38) (gi M' 77 39)))) := k226pr E 9 (by omega) H deep n tok bd lq K C V st h0 h1 h2 h3 h4 h5 h6 h7 h8 h9 h10 (by omega)
