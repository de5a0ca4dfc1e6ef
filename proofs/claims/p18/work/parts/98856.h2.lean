/-! What is carried beside the state: the latest RELIEVED, the latest CHAIN, how much BOXES keep. -/
noncomputable def BXB (N : Int → Int) : Prop := ∀ b : Int, 0 ≤ b → b < 6 → 0 ≤ N (391 + (3 * b + 1)) ∧ N (391 + (3 * b + 1)) ≤ 100
noncomputable def BX3 (N I0 I1 : Int → Int) : Prop := BXB N ∧ BXB I0 ∧ BXB I1
section
variable {N I0 I1 T : Int → Int} {s a b c x y z i k a0 a1 : Int}
theorem BXB.st {p : Prop} [Decidable p] (h : BXB N) (hi : p → i < 391 ∨ 409 ≤ i) : BXB (stN p N i x) := by
  by_cases c : p
  · rw [stN_pos c]
    intro b x0 x1
    have hi2 := hi c
    rw [updN_ne (by omega)]
    exact h b x0 x1
  · rw [stN_neg c]; exact h
theorem BXB.ctO {p : Prop} [Decidable p] (h : BXB N) (hn : 0 ≤ N 470) : BXB (ctN p N 99 470 12 x y z) := by
  unfold ctN
  by_cases c : p
  · rw [if_pos c]
    by_cases c2 : N 470 < 12
    · rw [if_pos c2]
      intro b x0 x1
      unfold up4
      rw [updN_ne (by omega), updN_ne (by omega), updN_ne (by omega), updN_ne (by omega)]
      exact h b x0 x1
    · rw [if_neg c2]; exact h
  · rw [if_neg c]; exact h
theorem BXB.ctB {p : Prop} [Decidable p] (h : BXB N) (hn : 0 ≤ N 472) (hk : p → 0 ≤ y ∧ y ≤ 100) : BXB (ctN p N 391 472 6 x y z) := by
  unfold ctN
  by_cases c : p
  · rw [if_pos c]
    by_cases c2 : N 472 < 6
    · rw [if_pos c2]
      intro b x0 x1
      unfold up4
      rw [updN_ne (by omega), updN_ne (by omega)]
      by_cases e : b = N 472
      · rw [show 391 + (3 * b + 1) = 391 + 3 * N 472 + 1 by omega, updN_eq]
        exact hk c
      · rw [updN_ne (by omega), updN_ne (by omega)]
        exact h b x0 x1
    · rw [if_neg c2]; exact h
  · rw [if_neg c]; exact h
theorem BXB.se (h : BXB N) (hn : 0 ≤ N 469) : BXB (seN T N s a b c) := by
  by_cases q : AB a b c ∧ RWn T s ∧ ¬ HRn N T s ∧ N 469 < 16
  · have e : seN T N s a b c = seR N T s a b c := by unfold seN; rw [if_pos q]
    have q4 := q.2.2.2
    rw [e]
    intro k x0 x1
    rw [seR_out (by omega) (by omega)]
    exact h k x0 x1
  · have e : seN T N s a b c = N := by unfold seN; rw [if_neg q]
    rw [e]; exact h
theorem BX3.st {p : Prop} [Decidable p] (h : BX3 N I0 I1) (hi : p → i < 391 ∨ 409 ≤ i) : BX3 (stN p N i x) I0 I1 := ⟨h.1.st hi, h.2⟩
theorem BX3.ctO {p : Prop} [Decidable p] (h : BX3 N I0 I1) (hn : 0 ≤ N 470) : BX3 (ctN p N 99 470 12 x y z) I0 I1 := ⟨h.1.ctO hn, h.2⟩
theorem BX3.ctB {p : Prop} [Decidable p] (h : BX3 N I0 I1) (hn : 0 ≤ N 472) (hk : p → 0 ≤ y ∧ y ≤ 100) : BX3 (ctN p N 391 472 6 x y z) I0 I1 := ⟨h.1.ctB hn hk, h.2⟩
theorem BX3.se (h : BX3 N I0 I1) (hn : 0 ≤ N 469) : BX3 (seN T N s a b c) I0 I1 := ⟨h.1.se hn, h.2⟩
theorem BX3.bk (h : BX3 N I0 I1) : BX3 (bkN k a0 a1 I0 I1 N) I0 I1 := by
  refine ⟨?_, h.2⟩
  unfold bkN
  by_cases k0 : k = 0
  · rw [if_pos k0]
    by_cases e : a0 = 1
    · rw [if_pos e]; exact h.2.1
    · rw [if_neg e]; exact h.1
  · rw [if_neg k0]
    by_cases k1 : k = 1
    · rw [if_pos k1]
      by_cases e : a1 = 1
      · rw [if_pos e]; exact h.2.2
      · rw [if_neg e]; exact h.1
    · rw [if_neg k1]; exact h.1
theorem BX3.im (h : BX3 N I0 I1) : BX3 N (imF 0 k N I0) (imF 1 k N I1) := by
  refine ⟨h.1, ?_, ?_⟩
  · unfold imF
    by_cases e : k = 0
    · rw [if_pos e]; exact h.1
    · rw [if_neg e]; exact h.2.1
  · unfold imF
    by_cases e : k = 1
    · rw [if_pos e]; exact h.1
    · rw [if_neg e]; exact h.2.2
end
noncomputable def rcN (N : Int → Int) (n c : Int) : Int := if 1 ≤ n ∧ n ≤ 120 then (rlQ N n).2.1 else c
noncomputable def rcF (N : Int → Int) (n : Int) (C : Int → Int) : Int → Int := if 1 ≤ n ∧ n ≤ 120 then (rlQ N n).2.2 else C
noncomputable def chQ (N : Int → Int) : Int × (Int → Int) := Classical.epsilon (fun q : Int × (Int → Int) => CBX (bxK N) (N 472) (pwN (N 472) (N 472).toNat) q.1 q.2)
noncomputable def chV (N : Int → Int) : Int := if 1 ≤ N 472 then (chQ N).1 else -1
noncomputable def clN (N : Int → Int) (l : Int) : Int := if 1 ≤ N 472 then N 472 else l
noncomputable def clF (N : Int → Int) (L : Int → Int) : Int → Int := if 1 ≤ N 472 then (chQ N).2 else L
theorem chQ.of {N L : Int → Int} {v : Int} (hn : 1 ≤ N 472 ∧ N 472 ≤ 6) (h : CBX (bxK N) (N 472) (pwN (N 472) (N 472).toNat) v L) : v = (chQ N).1 ∧ ∀ i : Int, 0 ≤ i → i < N 472 → L i = (chQ N).2 i := h.uniq (Classical.epsilon_spec (p := fun q : Int × (Int → Int) => CBX (bxK N) (N 472) (pwN (N 472) (N 472).toNat) q.1 q.2) ⟨(v, L), h⟩) (cn_ex hn)
theorem lkF_cong {c c' i : Int} {C C' : Int → Int} (e : c = c') (h : ∀ j : Int, 0 ≤ j → j < c' → C j = C' j) : lkF c C i = lkF c' C' i := by
  unfold lkF
  rw [e]
  by_cases q : 0 ≤ i ∧ i < c'
  · rw [if_pos q, if_pos q]; exact h i q.1 q.2
  · rw [if_neg q, if_neg q]
theorem chF_cong {c c' i : Int} {C C' : Int → Int} (e : c = c') (h : ∀ j : Int, 0 ≤ j → j < c' → C j = C' j) : chF c C i = chF c' C' i := by
  unfold chF
  rw [lkF_cong e h, e]
noncomputable def LXc (N I0 I1 : Int → Int) (gc : Int) (gC : Int → Int) (gl : Int) (gL : Int → Int) (M : mH) : Prop := BX3 N I0 I1 ∧ gi M 69 1 = gc ∧ (∀ i : Int, 0 ≤ i → i < gc → gi M 70 i = gC i) ∧ gi M 66 1 = gl ∧ ∀ i : Int, 0 ≤ i → i < gl → gi M 67 i = gL i
noncomputable def LXr (N I0 I1 : Int → Int) (gc : Int) (gC : Int → Int) (gl : Int) (gL : Int → Int) (M : mH) : Prop := BX3 N I0 I1 ∧ gi M 77 55 = gc ∧ (∀ i : Int, 0 ≤ i → i < gc → gi M 107 i = gC i) ∧ gi M 77 51 = gl ∧ ∀ i : Int, 0 ≤ i → i < gl → gi M 103 i = gL i
noncomputable def ltA (L : List (Nat × Nat)) : Bool := !s_md L 69 1 && s_al L (fun c => c != 70)
noncomputable def ltB (L : List (Nat × Nat)) : Bool := !s_md L 66 1 && s_al L (fun c => c != 67)
noncomputable def ltP (L : List (Nat × Nat)) : Bool := !s_md L 77 55 && s_al L (fun c => c != 107)
noncomputable def ltQ (L : List (Nat × Nat)) : Bool := !s_md L 77 51 && s_al L (fun c => c != 103)
section
variable {base : Nat} {s a0 a1 c l n v i : Int} {T N I0 I1 N' I0' I1' C L : Int → Int} {M M' : mH} {Lm : List (Nat × Nat)}
theorem ltA.k (hc : ltA Lm = true) (hM : 111 ≤ M.1) (f : Fz Lm M M') : gi M' 69 1 = gi M 69 1 ∧ ∀ i : Int, gi M' 70 i = gi M 70 i := by
  unfold ltA at hc
  rw [Bool.and_eq_true, Bool.not_eq_true'] at hc
  exact ⟨f.g hM (by rw [show ((1 : Int)).toNat = 1 from rfl, hc.1]; rfl), fun i => f.gs hM (by decide) (fun i => s_al_ok hc.2 (by simp)) i⟩
theorem ltB.k (hc : ltB Lm = true) (hM : 111 ≤ M.1) (f : Fz Lm M M') : gi M' 66 1 = gi M 66 1 ∧ ∀ i : Int, gi M' 67 i = gi M 67 i := by
  unfold ltB at hc
  rw [Bool.and_eq_true, Bool.not_eq_true'] at hc
  exact ⟨f.g hM (by rw [show ((1 : Int)).toNat = 1 from rfl, hc.1]; rfl), fun i => f.gs hM (by decide) (fun i => s_al_ok hc.2 (by simp)) i⟩
theorem ltP.k (hc : ltP Lm = true) (f : Fr Lm M M') : gi M' 77 55 = gi M 77 55 ∧ ∀ i : Int, gi M' 107 i = gi M 107 i := by
  unfold ltP at hc
  rw [Bool.and_eq_true, Bool.not_eq_true'] at hc
  exact ⟨f.g (i := 55) hc.1, fun i => f.g (s_al_ok hc.2 (by simp))⟩
theorem ltQ.k (hc : ltQ Lm = true) (f : Fr Lm M M') : gi M' 77 51 = gi M 77 51 ∧ ∀ i : Int, gi M' 103 i = gi M 103 i := by
  unfold ltQ at hc
  rw [Bool.and_eq_true, Bool.not_eq_true'] at hc
  exact ⟨f.g (i := 51) hc.1, fun i => f.g (s_al_ok hc.2 (by simp))⟩
theorem LXc.fz (h : LXc N I0 I1 c C l L M) (hM : 111 ≤ M.1) (f : Fz Lm M M') (hc : (ltA Lm && ltB Lm) = true) (b : BX3 N' I0' I1') : LXc N' I0' I1' c C l L M' := by
  rw [Bool.and_eq_true] at hc
  obtain ⟨-, h1, h2, h3, h4⟩ := h
  have qa := ltA.k hc.1 hM f
  have qb := ltB.k hc.2 hM f
  exact ⟨b, qa.1.trans h1, fun i x y => (qa.2 i).trans (h2 i x y), qb.1.trans h3, fun i x y => (qb.2 i).trans (h4 i x y)⟩
theorem LXc.of (h : LXc N I0 I1 c C l L M) (e : ∀ r : Nat, 66 ≤ r → r ≤ 70 → sameC r M M') (b : BX3 N' I0' I1') : LXc N' I0' I1' c C l L M' := by
  obtain ⟨-, h1, h2, h3, h4⟩ := h
  exact ⟨b, ((e 69 (by decide) (by decide)).gi 1).trans h1, fun i x y => ((e 70 (by decide) (by decide)).gi i).trans (h2 i x y), ((e 66 (by decide) (by decide)).gi 1).trans h3, fun i x y => ((e 67 (by decide) (by decide)).gi i).trans (h4 i x y)⟩
theorem LXr.fr (h : LXr N I0 I1 c C l L M) (f : Fr Lm M M') (hc : (ltP Lm && ltQ Lm) = true) (b : BX3 N' I0' I1') : LXr N' I0' I1' c C l L M' := by
  rw [Bool.and_eq_true] at hc
  obtain ⟨-, h1, h2, h3, h4⟩ := h
  have qa := ltP.k hc.1 f
  have qb := ltQ.k hc.2 f
  exact ⟨b, qa.1.trans h1, fun i x y => (qa.2 i).trans (h2 i x y), qb.1.trans h3, fun i x y => (qb.2 i).trans (h4 i x y)⟩
theorem LXr.of (h : LXr N I0 I1 c C l L M) (e : ∀ r : Nat, 77 ≤ r → r < 111 → sameC r M M') : LXr N I0 I1 c C l L M' := by
  obtain ⟨b, h1, h2, h3, h4⟩ := h
  exact ⟨b, ((e 77 (by decide) (by decide)).gi 55).trans h1, fun i x y => ((e 107 (by decide) (by decide)).gi i).trans (h2 i x y), ((e 77 (by decide) (by decide)).gi 51).trans h3, fun i x y => ((e 103 (by decide) (by decide)).gi i).trans (h4 i x y)⟩
theorem LXc.rl (h : LXc N I0 I1 c C l L M) (hM : 111 ≤ M.1) (f : Fz Lm M M') (hc : ltB Lm = true) (q1 : 1 ≤ n ∧ n ≤ 120 → RLX (uK N) (N 98) n (v, gi M' 69 1, gi M' 70)) (q2 : n < 1 ∨ 120 < n → gi M' 69 1 = gi M 69 1 ∧ ∀ i : Int, gi M' 70 i = gi M 70 i) : LXc N I0 I1 (rcN N n c) (rcF N n C) l L M' := by
  obtain ⟨b, h1, h2, h3, h4⟩ := h
  have qb := ltB.k hc hM f
  unfold rcN rcF
  by_cases c0 : 1 ≤ n ∧ n ≤ 120
  · rw [if_pos c0, if_pos c0]
    have w := rlQ.of c0.1 (q1 c0)
    have e : gi M' 69 1 = (rlQ N n).2.1 := w.2.1
    exact ⟨b, e, fun i x y => w.2.2 i x (by rw [← e] at y; exact y), qb.1.trans h3, fun i x y => (qb.2 i).trans (h4 i x y)⟩
  · rw [if_neg c0, if_neg c0]
    have w := q2 (by omega)
    exact ⟨b, w.1.trans h1, fun i x y => (w.2 i).trans (h2 i x y), qb.1.trans h3, fun i x y => (qb.2 i).trans (h4 i x y)⟩
theorem LXr.rl (h : LXr N I0 I1 c C l L M) (f : Fr Lm M M') (hc : ltQ Lm = true) (q1 : 1 ≤ n ∧ n ≤ 120 → RLX (uK N) (N 98) n (v, gi M' 77 55, gi M' 107)) (q2 : n < 1 ∨ 120 < n → gi M' 77 55 = gi M 77 55 ∧ ∀ i : Int, gi M' 107 i = gi M 107 i) : LXr N I0 I1 (rcN N n c) (rcF N n C) l L M' := by
  obtain ⟨b, h1, h2, h3, h4⟩ := h
  have qb := ltQ.k hc f
  unfold rcN rcF
  by_cases c0 : 1 ≤ n ∧ n ≤ 120
  · rw [if_pos c0, if_pos c0]
    have w := rlQ.of c0.1 (q1 c0)
    have e : gi M' 77 55 = (rlQ N n).2.1 := w.2.1
    exact ⟨b, e, fun i x y => w.2.2 i x (by rw [← e] at y; exact y), qb.1.trans h3, fun i x y => (qb.2 i).trans (h4 i x y)⟩
  · rw [if_neg c0, if_neg c0]
    have w := q2 (by omega)
    exact ⟨b, w.1.trans h1, fun i x y => (w.2 i).trans (h2 i x y), qb.1.trans h3, fun i x y => (qb.2 i).trans (h4 i x y)⟩
theorem LXc.ch (h : LXc N I0 I1 c C l L M) (hM : 111 ≤ M.1) (f : Fz Lm M M') (hc : ltA Lm = true) (hn : N 472 ≤ 6) (q1 : 1 ≤ N 472 → CBX (bxK N) (N 472) (pwN (N 472) (N 472).toNat) v (gi M' 67) ∧ gi M' 66 1 = N 472) (q2 : N 472 < 1 → v = -1 ∧ gi M' 66 1 = gi M 66 1 ∧ ∀ i : Int, gi M' 67 i = gi M 67 i) : LXc N I0 I1 c C (clN N l) (clF N L) M' ∧ v = chV N := by
  obtain ⟨b, h1, h2, h3, h4⟩ := h
  have qa := ltA.k hc hM f
  unfold clN clF chV
  by_cases c0 : 1 ≤ N 472
  · rw [if_pos c0, if_pos c0, if_pos c0]
    have w := chQ.of ⟨c0, hn⟩ (q1 c0).1
    exact ⟨⟨b, qa.1.trans h1, fun i x y => (qa.2 i).trans (h2 i x y), (q1 c0).2, w.2⟩, w.1⟩
  · rw [if_neg c0, if_neg c0, if_neg c0]
    have w := q2 (by omega)
    exact ⟨⟨b, qa.1.trans h1, fun i x y => (qa.2 i).trans (h2 i x y), w.2.1.trans h3, fun i x y => (w.2.2 i).trans (h4 i x y)⟩, w.1⟩
theorem LXr.ch (h : LXr N I0 I1 c C l L M) (f : Fr Lm M M') (hc : ltP Lm = true) (hn : N 472 ≤ 6) (q1 : 1 ≤ N 472 → CBX (bxK N) (N 472) (pwN (N 472) (N 472).toNat) v (gi M' 103) ∧ gi M' 77 51 = N 472) (q2 : N 472 < 1 → v = -1 ∧ gi M' 77 51 = gi M 77 51 ∧ ∀ i : Int, gi M' 103 i = gi M 103 i) : LXr N I0 I1 c C (clN N l) (clF N L) M' ∧ v = chV N := by
  obtain ⟨b, h1, h2, h3, h4⟩ := h
  have qa := ltP.k hc f
  unfold clN clF chV
  by_cases c0 : 1 ≤ N 472
  · rw [if_pos c0, if_pos c0, if_pos c0]
    have w := chQ.of ⟨c0, hn⟩ (q1 c0).1
    exact ⟨⟨b, qa.1.trans h1, fun i x y => (qa.2 i).trans (h2 i x y), (q1 c0).2, w.2⟩, w.1⟩
  · rw [if_neg c0, if_neg c0, if_neg c0]
    have w := q2 (by omega)
    exact ⟨⟨b, qa.1.trans h1, fun i x y => (qa.2 i).trans (h2 i x y), w.2.1.trans h3, fun i x y => (w.2.2 i).trans (h4 i x y)⟩, w.1⟩
theorem LXc.lk (h : LXc N I0 I1 c C l L M) (e : v = lkF (gi M 66 1) (gi M 67) i) : v = lkF l L i := e.trans (lkF_cong h.2.2.2.1 h.2.2.2.2)
theorem LXr.lk (h : LXr N I0 I1 c C l L M) (e : v = lkF (gi M 77 51) (gi M 103) i) : v = lkF l L i := e.trans (lkF_cong h.2.2.2.1 h.2.2.2.2)
theorem LXc.cg (h : LXc N I0 I1 c C l L M) (e : v = chF (gi M 69 1) (gi M 70) i) : v = chF c C i := e.trans (chF_cong h.2.1 h.2.2.1)
theorem LXr.cg (h : LXr N I0 I1 c C l L M) (e : v = chF (gi M 77 55) (gi M 107) i) : v = chF c C i := e.trans (chF_cong h.2.1 h.2.2.1)
theorem CSx.bx (h : CSx base s T N a0 I0 a1 I1 M) {j : Int} (a : 0 ≤ j) (b : j < 18) : gi M 10 j = bxK N j := by
  have q := h.2.2.1 (391 + j) (by unfold dAs; omega)
  rw [cS_at (slA_b (by omega)), show 391 + j - 391 = j by omega] at q
  exact q
theorem CSx.bn (h : CSx base s T N a0 I0 a1 I1 M) : gi M 1 14 = N 472 := by
  have q := h.2.2.1 472 (by unfold dAs; omega)
  rw [cS_at slA_472] at q
  exact q
theorem CSx.on (h : CSx base s T N a0 I0 a1 I1 M) : gi M 1 4 = N 470 := by
  have q := h.2.2.1 470 (by unfold dAs; omega)
  rw [cS_at slA_470] at q
  exact q
end

theorem W96 {base : Nat} {X : Nat → Option mC} {G : Nat → Value} (E : EnvOK base X G) {d : Nat} (hd : 1 ≤ d) {M : mH} (H : HI base M) (w : Int) (what : Int) (value : Int) (j : Int) (gs : Int) (gT : Int → Int) (gN : Int → Int) (ga : Int) (g0 : Int → Int) (gb : Int) (g1 : Int → Int) (gc : Int) (gC : Int → Int) (gl : Int) (gL : Int → Int) (h0 : INVl base j M) (h1 : CSx base gs gT gN ga g0 gb g1 M) (h2 : RSx gs gT gN ga g0 gb g1 M) (h3 : LXc gN g0 g1 gc gC gl gL M) (h4 : LXr gN g0 g1 gc gC gl gL M) (b_w : -2147483648 ≤ w ∧ w ≤ 2147483647) (b_what : -2147483648 ≤ what ∧ what ≤ 2147483647) (b_value : -2147483648 ≤ value ∧ value ≤ 2147483647) : sOk base X G d T96 [vR 0, vI w, vI what, vI value] M (pI (fun v M' => HI base M' ∧ Ftr [(0, 0)] M M' ∧ (INVl base (j + 6) M') ∧ (CSx base gs gT (stN (WV w what value) gN (30 * what + w) value) ga g0 gb g1 M') ∧ (RSx gs gT gN ga g0 gb g1 M') ∧ (LXc (stN (WV w what value) gN (30 * what + w) value) g0 g1 gc gC gl gL M') ∧ (LXr gN g0 g1 gc gC gl gL M') ∧ (-2147483648 ≤ v ∧ v ≤ 2147483647) ∧ (v = stV (WV w what value) gN (30 * what + w)))) := by
  obtain ⟨wa, wb, hK, hR, r1, r2⟩ := h0
  have hK2 := hK
  obtain ⟨hH, hB, hN, hI, hA, hZ, hS, ⟨wn, hn, hT, hG⟩, ha, hb⟩ := hK2
  have hR2 := hR
  obtain ⟨hTB, hWD, hLN, hGK, hVT, hIM⟩ := hR2
  have hs := h1.1
  refine sOk.imp (k96n E (by omega) H w what value (by omega) (by omega) (by omega)) ?_
  rintro v M' ⟨v', e, H', f, q0, q1⟩
  have z := (f.q rfl).z
  have rf := z.ref H.m rfl
  have kr := hR.of rf
  have cs : CSx base gs gT (stN (WV w what value) gN (30 * what + w) value) ga g0 gb g1 M' ∧ (-2147483648 ≤ v' ∧ v' ≤ 2147483647) ∧ v' = stV (WV w what value) gN (30 * what + w) := by
    rcases q1 with ⟨hp, hvv, M1, u, fa⟩ | ⟨hp, hvv, fr⟩
    · have hp2 := hp
      unfold WV at hp2
      have dj : dAs (30 * what + w) := by unfold dAs; omega
      have zn := h1.2.2.2.2.2.2.1
      have bv := H.2 2 (what * 30 + w) 0 60 rfl
      have es : slA (30 * what + w) = (1, 30 * what + w) := slA_w (by omega)
      rw [stN_pos hp, stV_pos hp]
      have ww := h1.wr u dj es rfl (by omega) (by unfold inR; omega) (zn.upd (by omega) (by omega))
      have ww2 := ww.fz (by rw [u.n1]; exact H.m) (fa.q rfl).z rfl
      refine ⟨ww2, by omega, ?_⟩
      have o := h1.2.2.1 _ dj
      rw [cS_at es] at o
      rw [hvv, ← o]
      show gi M 2 (what * 30 + w) = gi M 2 (30 * what + w)
      congr 1
      omega
    · rw [stN_neg hp, stV_neg hp]
      have ww := h1.fz H.m (fr.q rfl).z rfl
      exact ⟨ww, by omega, hvv⟩
  exact ⟨v', e, H', trivial, ⟨wa, wb, hK.st H' z rfl rfl q0, kr, by rw [f.1]; omega, by rw [f.2.1]; omega⟩, cs.1, h2.of rf, h3.fz H.m z rfl (h3.1.st (fun hp => by unfold WV at hp; omega)), h4.of rf, cs.2.1, cs.2.2⟩
theorem W97 {base : Nat} {X : Nat → Option mC} {G : Nat → Value} (E : EnvOK base X G) {d : Nat} (hd : 1 ≤ d) {M : mH} (H : HI base M) (what : Int) (value : Int) (j : Int) (gs : Int) (gT : Int → Int) (gN : Int → Int) (ga : Int) (g0 : Int → Int) (gb : Int) (g1 : Int → Int) (gc : Int) (gC : Int → Int) (gl : Int) (gL : Int → Int) (h0 : INVl base j M) (h1 : CSx base gs gT gN ga g0 gb g1 M) (h2 : RSx gs gT gN ga g0 gb g1 M) (h3 : LXc gN g0 g1 gc gC gl gL M) (h4 : LXr gN g0 g1 gc gC gl gL M) (b_what : -2147483648 ≤ what ∧ what ≤ 2147483647) (b_value : -2147483648 ≤ value ∧ value ≤ 2147483647) : sOk base X G d T97 [vR 0, vI what, vI value] M (pI (fun v M' => HI base M' ∧ Ftr [(0, 0)] M M' ∧ (INVl base (j + 6) M') ∧ (CSx base gs gT (stN (TV what value) gN (90 + what) value) ga g0 gb g1 M') ∧ (RSx gs gT gN ga g0 gb g1 M') ∧ (LXc (stN (TV what value) gN (90 + what) value) g0 g1 gc gC gl gL M') ∧ (LXr gN g0 g1 gc gC gl gL M') ∧ (-2147483648 ≤ v ∧ v ≤ 2147483647) ∧ (v = stV (TV what value) gN (90 + what)))) := by
  obtain ⟨wa, wb, hK, hR, r1, r2⟩ := h0
  have hK2 := hK
  obtain ⟨hH, hB, hN, hI, hA, hZ, hS, ⟨wn, hn, hT, hG⟩, ha, hb⟩ := hK2
  have hR2 := hR
  obtain ⟨hTB, hWD, hLN, hGK, hVT, hIM⟩ := hR2
  have hs := h1.1
  refine sOk.imp (k97n E (by omega) H what value (by omega) (by omega)) ?_
  rintro v M' ⟨v', e, H', f, q0, q1⟩
  have z := (f.q rfl).z
  have rf := z.ref H.m rfl
  have kr := hR.of rf
  have cs : CSx base gs gT (stN (TV what value) gN (90 + what) value) ga g0 gb g1 M' ∧ (-2147483648 ≤ v' ∧ v' ≤ 2147483647) ∧ v' = stV (TV what value) gN (90 + what) := by
    rcases q1 with ⟨hp, hvv, M1, u, fa⟩ | ⟨hp, hvv, fr⟩
    · have hp2 := hp
      unfold TV at hp2
      have dj : dAs (90 + what) := by unfold dAs; omega
      have zn := h1.2.2.2.2.2.2.1
      have bv := H.2 3 (what) 0 1000 rfl
      have es : slA (90 + what) = (2, 90 + what - 90) := slA_t (by omega)
      rw [stN_pos hp, stV_pos hp]
      have ww := h1.wr u dj es rfl (by omega) (by unfold inR; omega) (zn.upd (by omega) (by omega))
      have ww2 := ww.fz (by rw [u.n1]; exact H.m) (fa.q rfl).z rfl
      refine ⟨ww2, by omega, ?_⟩
      have o := h1.2.2.1 _ dj
      rw [cS_at es] at o
      rw [hvv, ← o]
      show gi M 3 (what) = gi M 3 (90 + what - 90)
      congr 1
      omega
    · rw [stN_neg hp, stV_neg hp]
      have ww := h1.fz H.m (fr.q rfl).z rfl
      exact ⟨ww, by omega, hvv⟩
  exact ⟨v', e, H', trivial, ⟨wa, wb, hK.st H' z rfl rfl q0, kr, by rw [f.1]; omega, by rw [f.2.1]; omega⟩, cs.1, h2.of rf, h3.fz H.m z rfl (h3.1.st (fun hp => by unfold TV at hp; omega)), h4.of rf, cs.2.1, cs.2.2⟩
theorem W98 {base : Nat} {X : Nat → Option mC} {G : Nat → Value} (E : EnvOK base X G) {d : Nat} (hd : 1 ≤ d) {M : mH} (H : HI base M) (x : Int) (j : Int) (gs : Int) (gT : Int → Int) (gN : Int → Int) (ga : Int) (g0 : Int → Int) (gb : Int) (g1 : Int → Int) (gc : Int) (gC : Int → Int) (gl : Int) (gL : Int → Int) (h0 : INVl base j M) (h1 : CSx base gs gT gN ga g0 gb g1 M) (h2 : RSx gs gT gN ga g0 gb g1 M) (h3 : LXc gN g0 g1 gc gC gl gL M) (h4 : LXr gN g0 g1 gc gC gl gL M) (b_x : -2147483648 ≤ x ∧ x ≤ 2147483647) : sOk base X G d T98 [vR 0, vI x] M (pI (fun v M' => HI base M' ∧ Ftr [(0, 0)] M M' ∧ (INVl base (j + 6) M') ∧ (CSx base gs gT (stN (OV x) gN 473 x) ga g0 gb g1 M') ∧ (RSx gs gT gN ga g0 gb g1 M') ∧ (LXc (stN (OV x) gN 473 x) g0 g1 gc gC gl gL M') ∧ (LXr gN g0 g1 gc gC gl gL M') ∧ (-2147483648 ≤ v ∧ v ≤ 2147483647) ∧ (v = stV (OV x) gN 473))) := by
  obtain ⟨wa, wb, hK, hR, r1, r2⟩ := h0
  have hK2 := hK
  obtain ⟨hH, hB, hN, hI, hA, hZ, hS, ⟨wn, hn, hT, hG⟩, ha, hb⟩ := hK2
  have hR2 := hR
  obtain ⟨hTB, hWD, hLN, hGK, hVT, hIM⟩ := hR2
  have hs := h1.1
  refine sOk.imp (k98n E (by omega) H x (by omega)) ?_
  rintro v M' ⟨v', e, H', f, q0, q1⟩
  have z := (f.q rfl).z
  have rf := z.ref H.m rfl
  have kr := hR.of rf
  have cs : CSx base gs gT (stN (OV x) gN 473 x) ga g0 gb g1 M' ∧ (-2147483648 ≤ v' ∧ v' ≤ 2147483647) ∧ v' = stV (OV x) gN 473 := by
    rcases q1 with ⟨hp, hvv, M1, u, fa⟩ | ⟨hp, hvv, fr⟩
    · have hp2 := hp
      unfold OV at hp2
      have dj : dAs (473) := by unfold dAs; omega
      have zn := h1.2.2.2.2.2.2.1
      have bv := H.2 1 ((2 : Int)) 0 5 rfl
      have es : slA (473) = (0, 2) := slA_473
      rw [stN_pos hp, stV_pos hp]
      have ww := h1.wr u dj es rfl (by omega) (by unfold inR; omega) (zn.upd (by omega) (by omega))
      have ww2 := ww.fz (by rw [u.n1]; exact H.m) (fa.q rfl).z rfl
      refine ⟨ww2, by omega, ?_⟩
      have o := h1.2.2.1 _ dj
      rw [cS_at es] at o
      rw [hvv, ← o]
    · rw [stN_neg hp, stV_neg hp]
      have ww := h1.fz H.m (fr.q rfl).z rfl
      exact ⟨ww, by omega, hvv⟩
  exact ⟨v', e, H', trivial, ⟨wa, wb, hK.st H' z rfl rfl q0, kr, by rw [f.1]; omega, by rw [f.2.1]; omega⟩, cs.1, h2.of rf, h3.fz H.m z rfl (h3.1.st (fun hp => by unfold OV at hp; omega)), h4.of rf, cs.2.1, cs.2.2⟩
theorem W99 {base : Nat} {X : Nat → Option mC} {G : Nat → Value} (E : EnvOK base X G) {d : Nat} (hd : 2 ≤ d) {M : mH} (H : HI base M) (slot : Int) (values : Int) (length : Int) (j : Int) (gs : Int) (gT : Int → Int) (gN : Int → Int) (ga : Int) (g0 : Int → Int) (gb : Int) (g1 : Int → Int) (gc : Int) (gC : Int → Int) (gl : Int) (gL : Int → Int) (h0 : INVl base j M) (h1 : CSx base gs gT gN ga g0 gb g1 M) (h2 : RSx gs gT gN ga g0 gb g1 M) (h3 : LXc gN g0 g1 gc gC gl gL M) (h4 : LXr gN g0 g1 gc gC gl gL M) (b_slot : -2147483648 ≤ slot ∧ slot ≤ 2147483647) (b_values : -2147483648 ≤ values ∧ values ≤ 2147483647) (b_length : -2147483648 ≤ length ∧ length ≤ 2147483647) : sOk base X G d T99 [vR 0, vI slot, vI values, vI length] M (pI (fun v M' => HI base M' ∧ Ftr [(0, 0)] M M' ∧ (INVl base (j + 6) M') ∧ (CSx base gs gT (ctN (NV slot values length) gN 99 470 12 slot values length) ga g0 gb g1 M') ∧ (RSx gs gT gN ga g0 gb g1 M') ∧ (LXc (ctN (NV slot values length) gN 99 470 12 slot values length) g0 g1 gc gC gl gL M') ∧ (LXr gN g0 g1 gc gC gl gL M') ∧ (-2147483648 ≤ v ∧ v ≤ 2147483647) ∧ (v = ctV (NV slot values length) gN 470 12))) := by
  obtain ⟨wa, wb, hK, hR, r1, r2⟩ := h0
  have hK2 := hK
  obtain ⟨hH, hB, hN, hI, hA, hZ, hS, ⟨wn, hn, hT, hG⟩, ha, hb⟩ := hK2
  have hR2 := hR
  obtain ⟨hTB, hWD, hLN, hGK, hVT, hIM⟩ := hR2
  have hs := h1.1
  refine sOk.imp (k99n E (by omega) H slot values length (by omega) (by omega) (by omega)) ?_
  rintro v M' ⟨v', e, H', f, q0, q1⟩
  have z := (f.q rfl).z
  have rf := z.ref H.m rfl
  have kr := hR.of rf
  have dj : dAs 470 := by unfold dAs; omega
  have cn : gi M 1 4 = gN 470 := by
    have o := h1.2.2.1 470 dj
    rw [cS_at slA_470] at o
    exact o
  have bv := H.2 1 4 0 12 rfl
  have cs : CSx base gs gT (ctN (NV slot values length) gN 99 470 12 slot values length) ga g0 gb g1 M' ∧ (-2147483648 ≤ v' ∧ v' ≤ 2147483647) ∧ v' = ctV (NV slot values length) gN 470 12 := by
    unfold ctN ctV
    rcases q1 with ⟨hp, hl, hvv, M1, u, fa⟩ | ⟨hp, hl, hvv, fr⟩ | ⟨hp, hvv, fr⟩
    · have hp2 := hp
      unfold NV at hp2
      rw [if_pos hp, if_pos hp, if_pos (show gN 470 < 12 by omega), if_pos (show gN 470 < 12 by omega)]
      have w := h1.w4 (c := 3) (f := 4) (b := 99) (i := 470) (lim := 12) (fun k k1 k2 => by rw [slA_o ⟨by omega, by omega⟩]; exact Prod.ext rfl (by dsimp only; omega)) slA_470 dj (fun k k1 k2 => by unfold dAs; omega) (by omega) (by omega) (by omega) (by omega) (show 0 ≤ gi M 1 4 ∧ gi M 1 4 < 12 from ⟨by omega, by omega⟩) (by omega) (by unfold inR; omega) (by unfold inR; omega) (by unfold inR; omega) u
      exact ⟨w.fz (by obtain ⟨A, B, C, u1, u2, u3, u4⟩ := u; rw [u4.n1, u3.n1, u2.n1, u1.n1]; exact H.m) (fa.q rfl).z rfl, by omega, by rw [hvv]; exact cn⟩
    · rw [if_pos hp, if_pos hp, if_neg (show ¬ gN 470 < 12 by omega), if_neg (show ¬ gN 470 < 12 by omega)]
      exact ⟨h1.fz H.m (fr.q rfl).z rfl, by omega, hvv⟩
    · rw [if_neg hp, if_neg hp]
      exact ⟨h1.fz H.m (fr.q rfl).z rfl, by omega, hvv⟩
  exact ⟨v', e, H', trivial, ⟨wa, wb, hK.st H' z rfl rfl q0, kr, by rw [f.1]; omega, by rw [f.2.1]; omega⟩, cs.1, h2.of rf, h3.fz H.m z rfl (h3.1.ctO (by have q := H.2 1 4 0 12 rfl; rw [h1.on] at q; omega)), h4.of rf, cs.2.1, cs.2.2⟩
theorem W100 {base : Nat} {X : Nat → Option mC} {G : Nat → Value} (E : EnvOK base X G) {d : Nat} (hd : 1 ≤ d) {M : mH} (H : HI base M) (x : Int) (j : Int) (gs : Int) (gT : Int → Int) (gN : Int → Int) (ga : Int) (g0 : Int → Int) (gb : Int) (g1 : Int → Int) (gc : Int) (gC : Int → Int) (gl : Int) (gL : Int → Int) (h0 : INVl base j M) (h1 : CSx base gs gT gN ga g0 gb g1 M) (h2 : RSx gs gT gN ga g0 gb g1 M) (h3 : LXc gN g0 g1 gc gC gl gL M) (h4 : LXr gN g0 g1 gc gC gl gL M) (b_x : -2147483648 ≤ x ∧ x ≤ 2147483647) : sOk base X G d T100 [vR 0, vI x] M (pI (fun v M' => HI base M' ∧ Ftr [(0, 0)] M M' ∧ (INVl base (j + 6) M') ∧ (CSx base gs gT (stN (PV x) gN 474 x) ga g0 gb g1 M') ∧ (RSx gs gT gN ga g0 gb g1 M') ∧ (LXc (stN (PV x) gN 474 x) g0 g1 gc gC gl gL M') ∧ (LXr gN g0 g1 gc gC gl gL M') ∧ (-2147483648 ≤ v ∧ v ≤ 2147483647) ∧ (v = stV (PV x) gN 474))) := by
  obtain ⟨wa, wb, hK, hR, r1, r2⟩ := h0
  have hK2 := hK
  obtain ⟨hH, hB, hN, hI, hA, hZ, hS, ⟨wn, hn, hT, hG⟩, ha, hb⟩ := hK2
  have hR2 := hR
  obtain ⟨hTB, hWD, hLN, hGK, hVT, hIM⟩ := hR2
  have hs := h1.1
  refine sOk.imp (k100n E (by omega) H x (by omega)) ?_
  rintro v M' ⟨v', e, H', f, q0, q1⟩
  have z := (f.q rfl).z
  have rf := z.ref H.m rfl
  have kr := hR.of rf
  have cs : CSx base gs gT (stN (PV x) gN 474 x) ga g0 gb g1 M' ∧ (-2147483648 ≤ v' ∧ v' ≤ 2147483647) ∧ v' = stV (PV x) gN 474 := by
    rcases q1 with ⟨hp, hvv, M1, u, fa⟩ | ⟨hp, hvv, fr⟩
    · have hp2 := hp
      unfold PV at hp2
      have dj : dAs (474) := by unfold dAs; omega
      have zn := h1.2.2.2.2.2.2.1
      have bv := H.2 1 ((5 : Int)) 0 3 rfl
      have es : slA (474) = (0, 5) := slA_474
      rw [stN_pos hp, stV_pos hp]
      have ww := h1.wr u dj es rfl (by omega) (by unfold inR; omega) (zn.upd (by omega) (by omega))
      have ww2 := ww.fz (by rw [u.n1]; exact H.m) (fa.q rfl).z rfl
      refine ⟨ww2, by omega, ?_⟩
      have o := h1.2.2.1 _ dj
      rw [cS_at es] at o
      rw [hvv, ← o]
    · rw [stN_neg hp, stV_neg hp]
      have ww := h1.fz H.m (fr.q rfl).z rfl
      exact ⟨ww, by omega, hvv⟩
  exact ⟨v', e, H', trivial, ⟨wa, wb, hK.st H' z rfl rfl q0, kr, by rw [f.1]; omega, by rw [f.2.1]; omega⟩, cs.1, h2.of rf, h3.fz H.m z rfl (h3.1.st (fun hp => by unfold PV at hp; omega)), h4.of rf, cs.2.1, cs.2.2⟩
theorem W101 {base : Nat} {X : Nat → Option mC} {G : Nat → Value} (E : EnvOK base X G) {d : Nat} (hd : 2 ≤ d) {M : mH} (H : HI base M) (xa : Int) (xb : Int) (xc : Int) (j : Int) (gs : Int) (gT : Int → Int) (gN : Int → Int) (ga : Int) (g0 : Int → Int) (gb : Int) (g1 : Int → Int) (gc : Int) (gC : Int → Int) (gl : Int) (gL : Int → Int) (h0 : INVl base j M) (h1 : CSx base gs gT gN ga g0 gb g1 M) (h2 : RSx gs gT gN ga g0 gb g1 M) (h3 : LXc gN g0 g1 gc gC gl gL M) (h4 : LXr gN g0 g1 gc gC gl gL M) (b_xa : -2147483648 ≤ xa ∧ xa ≤ 2147483647) (b_xb : -2147483648 ≤ xb ∧ xb ≤ 2147483647) (b_xc : -2147483648 ≤ xc ∧ xc ≤ 2147483647) : sOk base X G d T101 [vR 0, vI xa, vI xb, vI xc] M (pI (fun v M' => HI base M' ∧ Ftr [(0, 0)] M M' ∧ (INVl base (j + 6) M') ∧ (CSx base 0 gT (seN gT gN gs xa xb xc) ga g0 gb g1 M') ∧ (RSx gs gT gN ga g0 gb g1 M') ∧ (LXc (seN gT gN gs xa xb xc) g0 g1 gc gC gl gL M') ∧ (LXr gN g0 g1 gc gC gl gL M') ∧ (-2147483648 ≤ v ∧ v ≤ 2147483647) ∧ (v = seV gT gN gs xa xb xc))) := by
  obtain ⟨wa, wb, hK, hR, r1, r2⟩ := h0
  have hK2 := hK
  obtain ⟨hH, hB, hN, hI, hA, hZ, hS, ⟨wn, hn, hT, hG⟩, ha, hb⟩ := hK2
  have hR2 := hR
  obtain ⟨hTB, hWD, hLN, hGK, hVT, hIM⟩ := hR2
  have hs := h1.1
  refine sOk.imp (k101n E (by omega) H xa xb xc (by omega) (by omega) (by omega)) ?_
  rintro v M' ⟨v', e, H', f, q0, q1, q2, q3⟩
  have z := (f.q rfl).z
  have rf := z.ref H.m rfl
  have kr := hR.of rf
  have cs := h1.sen H f q2 q3
  exact ⟨v', e, H', trivial, ⟨wa, wb, hK.st H' z rfl rfl q1, kr, by rw [f.1]; omega, by rw [f.2.1]; omega⟩, cs.1, h2.of rf, h3.fz H.m z rfl (h3.1.se (by have q := H.2 1 10 0 16 rfl; rw [h1.n] at q; omega)), h4.of rf, cs.2.1, cs.2.2⟩
theorem W102 {base : Nat} {X : Nat → Option mC} {G : Nat → Value} (E : EnvOK base X G) {d : Nat} (hd : 2 ≤ d) {M : mH} (H : HI base M) (xs : Int) (xp : Int) (xw : Int) (j : Int) (gs : Int) (gT : Int → Int) (gN : Int → Int) (ga : Int) (g0 : Int → Int) (gb : Int) (g1 : Int → Int) (gc : Int) (gC : Int → Int) (gl : Int) (gL : Int → Int) (h0 : INVl base j M) (h1 : CSx base gs gT gN ga g0 gb g1 M) (h2 : RSx gs gT gN ga g0 gb g1 M) (h3 : LXc gN g0 g1 gc gC gl gL M) (h4 : LXr gN g0 g1 gc gC gl gL M) (b_xs : -2147483648 ≤ xs ∧ xs ≤ 2147483647) (b_xp : -2147483648 ≤ xp ∧ xp ≤ 2147483647) (b_xw : -2147483648 ≤ xw ∧ xw ≤ 2147483647) : sOk base X G d T102 [vR 0, vI xs, vI xp, vI xw] M (pI (fun v M' => HI base M' ∧ Ftr [(0, 0)] M M' ∧ (INVl base (j + 6) M') ∧ (CSx base gs gT (stN (GV (gN 469) xs xp xw) gN (147 + 16 * xs + xp) xw) ga g0 gb g1 M') ∧ (RSx gs gT gN ga g0 gb g1 M') ∧ (LXc (stN (GV (gN 469) xs xp xw) gN (147 + 16 * xs + xp) xw) g0 g1 gc gC gl gL M') ∧ (LXr gN g0 g1 gc gC gl gL M'))) := by
  obtain ⟨wa, wb, hK, hR, r1, r2⟩ := h0
  have hK2 := hK
  obtain ⟨hH, hB, hN, hI, hA, hZ, hS, ⟨wn, hn, hT, hG⟩, ha, hb⟩ := hK2
  have hR2 := hR
  obtain ⟨hTB, hWD, hLN, hGK, hVT, hIM⟩ := hR2
  have hs := h1.1
  refine sOk.imp (k102n E (by omega) H xs xp xw (by omega) (by omega) (by omega)) ?_
  rintro v M' ⟨v', e, H', f, q0, q1⟩
  have z := (f.q rfl).z
  have rf := z.ref H.m rfl
  have kr := hR.of rf
  have cs : CSx base gs gT (stN (GV (gN 469) xs xp xw) gN (147 + 16 * xs + xp) xw) ga g0 gb g1 M' := by
    have en : gi M 1 10 = gN 469 := h1.n
    rw [en] at q1
    have bn : 0 ≤ gi M 1 10 ∧ gi M 1 10 ≤ 16 := H.2 1 10 0 16 rfl
    rw [en] at bn
    rcases q1 with ⟨hp, hvv, M1, u, fa⟩ | ⟨hp, hvv, fr⟩
    · have hp2 := hp
      unfold GV at hp2
      have dj : dAs (147 + 16 * xs + xp) := by unfold dAs; omega
      have zn := h1.2.2.2.2.2.2.1
      have bv := H.2 8 (xs * 4 + xp) 0 100 rfl
      have es : slA (147 + 16 * xs + xp) = (7, 4 * xs + xp) := slA_g (q := xs) (i := xp) ⟨by omega, by omega⟩ (by omega)
      rw [stN_pos hp]
      have ww := h1.wr u dj es rfl (by omega) (by unfold inR; omega) (zn.upd (by omega) (by omega))
      have ww2 := ww.fz (by rw [u.n1]; exact H.m) (fa.q rfl).z rfl
      exact ww2
    · rw [stN_neg hp]
      have ww := h1.fz H.m (fr.q rfl).z rfl
      exact ww
  exact ⟨v', e, H', trivial, ⟨wa, wb, hK.st H' z rfl rfl q0, kr, by rw [f.1]; omega, by rw [f.2.1]; omega⟩, cs, h2.of rf, h3.fz H.m z rfl (h3.1.st (fun hp => by have q := H.2 1 10 0 16 rfl; rw [h1.n] at q; unfold GV at hp; omega)), h4.of rf⟩
theorem W103 {base : Nat} {X : Nat → Option mC} {G : Nat → Value} (E : EnvOK base X G) {d : Nat} (hd : 2 ≤ d) {M : mH} (H : HI base M) (xs : Int) (xi : Int) (j : Int) (gs : Int) (gT : Int → Int) (gN : Int → Int) (ga : Int) (g0 : Int → Int) (gb : Int) (g1 : Int → Int) (gc : Int) (gC : Int → Int) (gl : Int) (gL : Int → Int) (h0 : INVl base j M) (h1 : CSx base gs gT gN ga g0 gb g1 M) (h2 : RSx gs gT gN ga g0 gb g1 M) (h3 : LXc gN g0 g1 gc gC gl gL M) (h4 : LXr gN g0 g1 gc gC gl gL M) (b_xs : -2147483648 ≤ xs ∧ xs ≤ 2147483647) (b_xi : -2147483648 ≤ xi ∧ xi ≤ 2147483647) : sOk base X G d T103 [vR 0, vI xs, vI xi] M (pI (fun v M' => HI base M' ∧ Ftr [(0, 0)] M M' ∧ (INVl base (j + 6) M') ∧ (CSx base gs gT gN ga g0 gb g1 M') ∧ (RSx gs gT gN ga g0 gb g1 M') ∧ (LXc gN g0 g1 gc gC gl gL M') ∧ (LXr gN g0 g1 gc gC gl gL M') ∧ (-2147483648 ≤ v ∧ v ≤ 2147483647) ∧ (v = rwV gN xs xi))) := by
  obtain ⟨wa, wb, hK, hR, r1, r2⟩ := h0
  have hK2 := hK
  obtain ⟨hH, hB, hN, hI, hA, hZ, hS, ⟨wn, hn, hT, hG⟩, ha, hb⟩ := hK2
  have hR2 := hR
  obtain ⟨hTB, hWD, hLN, hGK, hVT, hIM⟩ := hR2
  have hs := h1.1
  refine sOk.imp (k103n E (by omega) H xs xi (by omega) (by omega)) ?_
  rintro v M' ⟨v', e, rfl, q0, q1, q2, q3⟩
  have vv := (⟨q0, h1.row (by have := H.2 1 10 0 16 rfl; omega) (by have := H.2 6 xs 0 8 rfl; omega) q1 q2 q3⟩ : _ ∧ v' = rwV gN xs xi)
  exact ⟨v', e, H, trivial, ⟨wa, wb, hK, hR, by omega, by omega⟩, h1, h2, h3, h4, vv⟩
theorem W104 {base : Nat} {X : Nat → Option mC} {G : Nat → Value} (E : EnvOK base X G) {d : Nat} (hd : 2 ≤ d) {M : mH} (H : HI base M) (xs : Int) (xl : Int) (j : Int) (gs : Int) (gT : Int → Int) (gN : Int → Int) (ga : Int) (g0 : Int → Int) (gb : Int) (g1 : Int → Int) (gc : Int) (gC : Int → Int) (gl : Int) (gL : Int → Int) (h0 : INVl base j M) (h1 : CSx base gs gT gN ga g0 gb g1 M) (h2 : RSx gs gT gN ga g0 gb g1 M) (h3 : LXc gN g0 g1 gc gC gl gL M) (h4 : LXr gN g0 g1 gc gC gl gL M) (b_xs : -2147483648 ≤ xs ∧ xs ≤ 2147483647) (b_xl : -2147483648 ≤ xl ∧ xl ≤ 2147483647) : sOk base X G d T104 [vR 0, vI xs, vI xl] M (pI (fun v M' => HI base M' ∧ Ftr [(0, 0)] M M' ∧ (INVl base (j + 6) M') ∧ (CSx base gs gT gN ga g0 gb g1 M') ∧ (RSx gs gT gN ga g0 gb g1 M') ∧ (LXc gN g0 g1 gc gC gl gL M') ∧ (LXr gN g0 g1 gc gC gl gL M') ∧ (-2147483648 ≤ v ∧ v ≤ 2147483647) ∧ (v = fxV gN xs xl))) := by
  obtain ⟨wa, wb, hK, hR, r1, r2⟩ := h0
  have hR2 := hR
  obtain ⟨hTB, hWD, hLN, hGK, hVT, hIM⟩ := hR2
  refine sOk.imp (k104g E (by omega) H xs xl (by omega) (by omega)) ?_
  rintro v M' ⟨v', e, rfl, q0, q1, q2⟩
  exact ⟨v', e, H, trivial, ⟨wa, wb, hK, hR, by omega, by omega⟩, h1, h2, h3, h4, q0, h1.fx H q1 q2⟩
theorem W105 {base : Nat} {X : Nat → Option mC} {G : Nat → Value} (E : EnvOK base X G) {d : Nat} (hd : 2 ≤ d) {M : mH} (H : HI base M) (xs : Int) (xn : Int) (xl : Int) (xv : Int) (xp : Int) (j : Int) (gs : Int) (gT : Int → Int) (gN : Int → Int) (ga : Int) (g0 : Int → Int) (gb : Int) (g1 : Int → Int) (gc : Int) (gC : Int → Int) (gl : Int) (gL : Int → Int) (h0 : INVl base j M) (h1 : CSx base gs gT gN ga g0 gb g1 M) (h2 : RSx gs gT gN ga g0 gb g1 M) (h3 : LXc gN g0 g1 gc gC gl gL M) (h4 : LXr gN g0 g1 gc gC gl gL M) (b_xs : -2147483648 ≤ xs ∧ xs ≤ 2147483647) (b_xn : -2147483648 ≤ xn ∧ xn ≤ 2147483647) (b_xl : -2147483648 ≤ xl ∧ xl ≤ 2147483647) (b_xv : -2147483648 ≤ xv ∧ xv ≤ 2147483647) (b_xp : -2147483648 ≤ xp ∧ xp ≤ 2147483647) : sOk base X G d T105 [vR 0, vI xs, vI xn, vI xl, vI xv, vI xp] M (pI (fun v M' => HI base M' ∧ Ftr [(0, 0)] M M' ∧ (INVl base (j + 6) M') ∧ (CSx base gs gT gN ga g0 gb g1 M') ∧ (RSx gs gT gN ga g0 gb g1 M') ∧ (LXc gN g0 g1 gc gC gl gL M') ∧ (LXr gN g0 g1 gc gC gl gL M') ∧ (-2147483648 ≤ v ∧ v ≤ 2147483647) ∧ (v = odV gN xs xn xl xv xp))) := by
  obtain ⟨wa, wb, hK, hR, r1, r2⟩ := h0
  have hR2 := hR
  obtain ⟨hTB, hWD, hLN, hGK, hVT, hIM⟩ := hR2
  refine sOk.imp (k105g E (by omega) H xs xn xl xv xp (by omega) (by omega) (by omega) (by omega) (by omega)) ?_
  rintro v M' ⟨v', e, rfl, q0, q1⟩
  exact ⟨v', e, H, trivial, ⟨wa, wb, hK, hR, by omega, by omega⟩, h1, h2, h3, h4, q0, h1.od H q1⟩
theorem W106 {base : Nat} {X : Nat → Option mC} {G : Nat → Value} (E : EnvOK base X G) {d : Nat} (hd : 2 ≤ d) {M : mH} (H : HI base M) (sentence : Int) (n : Int) (slot : Int) (j : Int) (gs : Int) (gT : Int → Int) (gN : Int → Int) (ga : Int) (g0 : Int → Int) (gb : Int) (g1 : Int → Int) (gc : Int) (gC : Int → Int) (gl : Int) (gL : Int → Int) (h0 : INVl base j M) (h1 : CSx base gs gT gN ga g0 gb g1 M) (h2 : RSx gs gT gN ga g0 gb g1 M) (h3 : LXc gN g0 g1 gc gC gl gL M) (h4 : LXr gN g0 g1 gc gC gl gL M) (b_sentence : -2147483648 ≤ sentence ∧ sentence ≤ 2147483647) (b_n : -2147483648 ≤ n ∧ n ≤ 2147483647) (b_slot : -2147483648 ≤ slot ∧ slot ≤ 2147483647) : sOk base X G d T106 [vR 0, vI sentence, vI n, vI slot] M (pI (fun v M' => HI base M' ∧ Ftr [(0, 0)] M M' ∧ (INVl base (j + 6) M') ∧ (CSx base gs gT gN ga g0 gb g1 M') ∧ (RSx gs gT gN ga g0 gb g1 M') ∧ (LXc gN g0 g1 gc gC gl gL M') ∧ (LXr gN g0 g1 gc gC gl gL M'))) := by
  obtain ⟨wa, wb, hK, hR, r1, r2⟩ := h0
  have hK2 := hK
  obtain ⟨hH, hB, hN, hI, hA, hZ, hS, ⟨wn, hn, hT, hG⟩, ha, hb⟩ := hK2
  have hR2 := hR
  obtain ⟨hTB, hWD, hLN, hGK, hVT, hIM⟩ := hR2
  have hs := h1.1
  refine sOk.imp (k106 E (by omega) H sentence n slot (by omega) (by omega) (by omega)) ?_
  rintro v M' ⟨v', e, rfl, -⟩
  exact ⟨v', e, H, trivial, ⟨wa, wb, hK, hR, by omega, by omega⟩, h1, h2, h3, h4⟩
theorem W107 {base : Nat} {X : Nat → Option mC} {G : Nat → Value} (E : EnvOK base X G) {d : Nat} (hd : 176 ≤ d) {M : mH} (H : HI base M) (j : Int) (gs : Int) (gT : Int → Int) (gN : Int → Int) (ga : Int) (g0 : Int → Int) (gb : Int) (g1 : Int → Int) (gc : Int) (gC : Int → Int) (gl : Int) (gL : Int → Int) (h0 : INVl base j M) (h1 : CSx base gs gT gN ga g0 gb g1 M) (h2 : RSx gs gT gN ga g0 gb g1 M) (h3 : LXc gN g0 g1 gc gC gl gL M) (h4 : LXr gN g0 g1 gc gC gl gL M) : sOk base X G d T107 [vR 0] M (pL (fun v M' => HI base M' ∧ Ftr [(0, 0)] M M' ∧ (INVl base (j + 6) M') ∧ (CSx base gs gT gN ga g0 gb g1 M') ∧ (RSx gs gT gN ga g0 gb g1 M') ∧ (LXc gN g0 g1 gc gC gl gL M') ∧ (LXr gN g0 g1 gc gC gl gL M'))) := by
  obtain ⟨wa, wb, hK, hR, r1, r2⟩ := h0
  have hK2 := hK
  obtain ⟨hH, hB, hN, hI, hA, hZ, hS, ⟨wn, hn, hT, hG⟩, ha, hb⟩ := hK2
  have hR2 := hR
  obtain ⟨hTB, hWD, hLN, hGK, hVT, hIM⟩ := hR2
  have hs := h1.1
  refine sOk.imp (k107k E (by omega) H wb hZ (by omega)) ?_
  rintro v M' ⟨v', e, H', f, q0⟩
  have z := f
  have rf := z.ref H.m rfl
  have kr := hR.of rf
  obtain ⟨w2, n2, hb2, hrn, htr, hgt, hrm⟩ := q0
  unfold RM at hrm
  exact ⟨v', e, H', trivial, ⟨wa, w2, hK.best H' z rfl hrn (by omega) (by omega) htr hgt, kr, by omega, by omega⟩, h1.fz H.m z rfl, h2.of rf, h3.fz H.m z rfl h3.1, h4.of rf⟩
theorem W108 {base : Nat} {X : Nat → Option mC} {G : Nat → Value} (E : EnvOK base X G) {d : Nat} (hd : 178 ≤ d) {M : mH} (H : HI base M) (sentence : Int) (second : Int) (said : Int) (j : Int) (gs : Int) (gT : Int → Int) (gN : Int → Int) (ga : Int) (g0 : Int → Int) (gb : Int) (g1 : Int → Int) (gc : Int) (gC : Int → Int) (gl : Int) (gL : Int → Int) (h0 : INVl base j M) (h1 : CSx base gs gT gN ga g0 gb g1 M) (h2 : RSx gs gT gN ga g0 gb g1 M) (h3 : LXc gN g0 g1 gc gC gl gL M) (h4 : LXr gN g0 g1 gc gC gl gL M) (b_sentence : -2147483648 ≤ sentence ∧ sentence ≤ 2147483647) (b_second : -2147483648 ≤ second ∧ second ≤ 2147483647) (b_said : -2147483648 ≤ said ∧ said ≤ 2147483647) : sOk base X G d T108 [vR 0, vI sentence, vI second, vI said] M (pI (fun v M' => HI base M' ∧ Ftr [(0, 0)] M M' ∧ (INVl base (j + 6) M') ∧ (CSx base gs gT gN ga g0 gb g1 M') ∧ (RSx gs gT gN ga g0 gb g1 M') ∧ (LXc gN g0 g1 gc gC gl gL M') ∧ (LXr gN g0 g1 gc gC gl gL M'))) := by
  obtain ⟨wa, wb, hK, hR, r1, r2⟩ := h0
  have hK2 := hK
  obtain ⟨hH, hB, hN, hI, hA, hZ, hS, ⟨wn, hn, hT, hG⟩, ha, hb⟩ := hK2
  have hR2 := hR
  obtain ⟨hTB, hWD, hLN, hGK, hVT, hIM⟩ := hR2
  have hs := h1.1
  refine sOk.imp (k108z E (by omega) H sentence second said wn (hZ.rw hn.2) hT hG (by omega) (by omega) (by omega) (by omega)) ?_
  rintro v M' ⟨v', e, H', f, q0⟩
  have z := f.z
  have rf := z.ref H.m rfl
  have kr := hR.of rf
  exact ⟨v', e, H', trivial, ⟨wa, wb, hK.keep H' z rfl rfl, kr, by rw [f.1]; omega, by rw [f.2.1]; omega⟩, h1.fz H.m z rfl, h2.of rf, h3.fz H.m z rfl h3.1, h4.of rf⟩
theorem W109 {base : Nat} {X : Nat → Option mC} {G : Nat → Value} (E : EnvOK base X G) {d : Nat} (hd : 178 ≤ d) {M : mH} (H : HI base M) (sentence : Int) (second : Int) (j : Int) (gs : Int) (gT : Int → Int) (gN : Int → Int) (ga : Int) (g0 : Int → Int) (gb : Int) (g1 : Int → Int) (gc : Int) (gC : Int → Int) (gl : Int) (gL : Int → Int) (h0 : INVl base j M) (h1 : CSx base gs gT gN ga g0 gb g1 M) (h2 : RSx gs gT gN ga g0 gb g1 M) (h3 : LXc gN g0 g1 gc gC gl gL M) (h4 : LXr gN g0 g1 gc gC gl gL M) (b_sentence : -2147483648 ≤ sentence ∧ sentence ≤ 2147483647) (b_second : -2147483648 ≤ second ∧ second ≤ 2147483647) : sOk base X G d T109 [vR 0, vI sentence, vI second] M (pI (fun v M' => HI base M' ∧ Ftr [(0, 0)] M M' ∧ (INVl base (j + 6) M') ∧ (CSx base gs gT gN ga g0 gb g1 M') ∧ (RSx gs gT gN ga g0 gb g1 M') ∧ (LXc gN g0 g1 gc gC gl gL M') ∧ (LXr gN g0 g1 gc gC gl gL M'))) := by
  obtain ⟨wa, wb, hK, hR, r1, r2⟩ := h0
  have hK2 := hK
  obtain ⟨hH, hB, hN, hI, hA, hZ, hS, ⟨wn, hn, hT, hG⟩, ha, hb⟩ := hK2
  have hR2 := hR
  obtain ⟨hTB, hWD, hLN, hGK, hVT, hIM⟩ := hR2
  have hs := h1.1
  refine sOk.imp (k109k E (by omega) H sentence second wn (hZ.rw hn.2) hT hG (by omega) (by omega) (by omega)) ?_
  rintro v M' ⟨v', e, H', f, q0⟩
  have z := f.z
  have rf := z.ref H.m rfl
  have kr := hR.of rf
  exact ⟨v', e, H', trivial, ⟨wa, wb, hK.keep H' z rfl rfl, kr, by rw [f.1]; omega, by rw [f.2.1]; omega⟩, h1.fz H.m z rfl, h2.of rf, h3.fz H.m z rfl h3.1, h4.of rf⟩
theorem W110 {base : Nat} {X : Nat → Option mC} {G : Nat → Value} (E : EnvOK base X G) {d : Nat} (hd : 1 ≤ d) {M : mH} (H : HI base M) (xa : Int) (xb : Int) (xc : Int) (xd : Int) (xe : Int) (j : Int) (gs : Int) (gT : Int → Int) (gN : Int → Int) (ga : Int) (g0 : Int → Int) (gb : Int) (g1 : Int → Int) (gc : Int) (gC : Int → Int) (gl : Int) (gL : Int → Int) (h0 : INVl base j M) (h1 : CSx base gs gT gN ga g0 gb g1 M) (h2 : RSx gs gT gN ga g0 gb g1 M) (h3 : LXc gN g0 g1 gc gC gl gL M) (h4 : LXr gN g0 g1 gc gC gl gL M) (b_xa : -2147483648 ≤ xa ∧ xa ≤ 2147483647) (b_xb : -2147483648 ≤ xb ∧ xb ≤ 2147483647) (b_xc : -2147483648 ≤ xc ∧ xc ≤ 2147483647) (b_xd : -2147483648 ≤ xd ∧ xd ≤ 2147483647) (b_xe : -2147483648 ≤ xe ∧ xe ≤ 2147483647) : sOk base X G d T110 [vR 0, vI xa, vI xb, vI xc, vI xd, vI xe] M (pI (fun v M' => HI base M' ∧ Ftr [(0, 0)] M M' ∧ (INVl base (j + 6) M') ∧ (CSx base (fdS gs) (fdT gT gs xa xb xc xd xe) gN ga g0 gb g1 M') ∧ (RSx gs gT gN ga g0 gb g1 M') ∧ (LXc gN g0 g1 gc gC gl gL M') ∧ (LXr gN g0 g1 gc gC gl gL M') ∧ (-2147483648 ≤ v ∧ v ≤ 2147483647) ∧ (v = fdV gs))) := by
  obtain ⟨wa, wb, hK, hR, r1, r2⟩ := h0
  have hK2 := hK
  obtain ⟨hH, hB, hN, hI, hA, hZ, hS, ⟨wn, hn, hT, hG⟩, ha, hb⟩ := hK2
  have hR2 := hR
  obtain ⟨hTB, hWD, hLN, hGK, hVT, hIM⟩ := hR2
  have hs := h1.1
  refine sOk.imp (k110n E (by omega) H xa xb xc xd xe (by omega) (by omega) (by omega) (by omega) (by omega)) ?_
  rintro v M' ⟨v', e, H', f, q0, q1, q2, q3, q4⟩
  have z := (f.q rfl).z
  have rf := z.ref H.m rfl
  have kr := hR.of rf
  have cs : CSx base (fdS gs) (fdT gT gs xa xb xc xd xe) gN ga g0 gb g1 M' := by
    unfold fdS fdT
    by_cases c : gs ≤ 380
    · rw [if_pos c, if_pos c]
      refine h1.fed H.m z rfl (by omega) (fun i p q => ?_)
      rw [q3 (by omega) i p, hs]
      exact fdN_cong (h1.2.1 i p q)
    · rw [if_neg c, if_neg c]
      exact h1.tape H.m (((q4) (by omega)).q rfl).z rfl (by omega)
  exact ⟨v', e, H', trivial, ⟨wa, wb, hK.keep H' z rfl rfl, kr, by rw [f.1]; omega, by rw [f.2.1]; omega⟩, cs, h2.of rf, h3.fz H.m z rfl h3.1, h4.of rf, q0, (by unfold fdV; split <;> omega)⟩
theorem W111 {base : Nat} {X : Nat → Option mC} {G : Nat → Value} (E : EnvOK base X G) {d : Nat} (hd : 1 ≤ d) {M : mH} (H : HI base M) (n : Int) (j : Int) (gs : Int) (gT : Int → Int) (gN : Int → Int) (ga : Int) (g0 : Int → Int) (gb : Int) (g1 : Int → Int) (gc : Int) (gC : Int → Int) (gl : Int) (gL : Int → Int) (h0 : INVl base j M) (h1 : CSx base gs gT gN ga g0 gb g1 M) (h2 : RSx gs gT gN ga g0 gb g1 M) (h3 : LXc gN g0 g1 gc gC gl gL M) (h4 : LXr gN g0 g1 gc gC gl gL M) (b_n : -2147483648 ≤ n ∧ n ≤ 2147483647) : sOk base X G d T111 [vR 0, vI n] M (pI (fun v M' => HI base M' ∧ Ftr [(0, 0)] M M' ∧ (INVl base (j + 6) M') ∧ (CSx base (enS gs n) gT gN ga g0 gb g1 M') ∧ (RSx gs gT gN ga g0 gb g1 M') ∧ (LXc gN g0 g1 gc gC gl gL M') ∧ (LXr gN g0 g1 gc gC gl gL M') ∧ (-2147483648 ≤ v ∧ v ≤ 2147483647) ∧ (v = enV gs n))) := by
  obtain ⟨wa, wb, hK, hR, r1, r2⟩ := h0
  have hK2 := hK
  obtain ⟨hH, hB, hN, hI, hA, hZ, hS, ⟨wn, hn, hT, hG⟩, ha, hb⟩ := hK2
  have hR2 := hR
  obtain ⟨hTB, hWD, hLN, hGK, hVT, hIM⟩ := hR2
  have hs := h1.1
  refine sOk.imp (k111e E (by omega) H n (by omega)) ?_
  rintro v M' ⟨v', e, H', f, q0, q1, q2⟩
  have z := (f.q rfl).z
  have rf := z.ref H.m rfl
  have kr := hR.of rf
  exact ⟨v', e, H', trivial, ⟨wa, wb, hK.keep H' z rfl rfl, kr, by rw [f.1]; omega, by rw [f.2.1]; omega⟩, h1.tape H.m z rfl (by unfold enS; split <;> omega), h2.of rf, h3.fz H.m z rfl h3.1, h4.of rf, q0, (by unfold enV; split <;> omega)⟩
theorem W112 {base : Nat} {X : Nat → Option mC} {G : Nat → Value} (E : EnvOK base X G) {d : Nat} (hd : 60 ≤ d) {M : mH} (H : HI base M) (j : Int) (gs : Int) (gT : Int → Int) (gN : Int → Int) (ga : Int) (g0 : Int → Int) (gb : Int) (g1 : Int → Int) (gc : Int) (gC : Int → Int) (gl : Int) (gL : Int → Int) (h0 : INVl base j M) (h1 : CSx base gs gT gN ga g0 gb g1 M) (h2 : RSx gs gT gN ga g0 gb g1 M) (h3 : LXc gN g0 g1 gc gC gl gL M) (h4 : LXr gN g0 g1 gc gC gl gL M) : sOk base X G d T112 [vR 0] M (pI (fun v M' => HI base M' ∧ Ftr [(0, 0)] M M' ∧ (INVl base (j + 6) M') ∧ (CSx base 0 gT gN ga g0 gb g1 M') ∧ (RSx gs gT gN ga g0 gb g1 M') ∧ (LXc gN g0 g1 gc gC gl gL M') ∧ (LXr gN g0 g1 gc gC gl gL M'))) := by
  obtain ⟨wa, wb, hK, hR, r1, r2⟩ := h0
  have hK2 := hK
  obtain ⟨hH, hB, hN, hI, hA, hZ, hS, ⟨wn, hn, hT, hG⟩, ha, hb⟩ := hK2
  have hR2 := hR
  obtain ⟨hTB, hWD, hLN, hGK, hVT, hIM⟩ := hR2
  have hs := h1.1
  refine sOk.imp (k112e E (by omega) H  hB hN) ?_
  rintro v M' ⟨v', e, H', B', N', f, s0, g3⟩
  have z := f.z rfl
  have f1 := f.1.2
  have f2 := f.2.1
  have rf := z.ref H.m rfl
  exact ⟨v', e, H', trivial, ⟨wa, wb, hK.hab H' B' N' z rfl s0, hR.of rf, by omega, by omega⟩, h1.tape H.m z rfl g3, h2.of rf, h3.fz H.m z rfl h3.1, h4.of rf⟩
theorem W113 {base : Nat} {X : Nat → Option mC} {G : Nat → Value} (E : EnvOK base X G) {d : Nat} (hd : 0 ≤ d) {M : mH} (H : HI base M) (j : Int) (gs : Int) (gT : Int → Int) (gN : Int → Int) (ga : Int) (g0 : Int → Int) (gb : Int) (g1 : Int → Int) (gc : Int) (gC : Int → Int) (gl : Int) (gL : Int → Int) (h0 : INVl base j M) (h1 : CSx base gs gT gN ga g0 gb g1 M) (h2 : RSx gs gT gN ga g0 gb g1 M) (h3 : LXc gN g0 g1 gc gC gl gL M) (h4 : LXr gN g0 g1 gc gC gl gL M) : sOk base X G d T113 [vR 0] M (pI (fun v M' => HI base M' ∧ Ftr [(0, 0)] M M' ∧ (INVl base (j + 6) M') ∧ (CSx base gs gT gN ga g0 gb g1 M') ∧ (RSx gs gT gN ga g0 gb g1 M') ∧ (LXc gN g0 g1 gc gC gl gL M') ∧ (LXr gN g0 g1 gc gC gl gL M'))) := by
  obtain ⟨wa, wb, hK, hR, r1, r2⟩ := h0
  have hK2 := hK
  obtain ⟨hH, hB, hN, hI, hA, hZ, hS, ⟨wn, hn, hT, hG⟩, ha, hb⟩ := hK2
  have hR2 := hR
  obtain ⟨hTB, hWD, hLN, hGK, hVT, hIM⟩ := hR2
  have hs := h1.1
  refine sOk.imp (k113 E (by omega) H  ) ?_
  rintro v M' ⟨v', e, rfl, -⟩
  exact ⟨v', e, H, trivial, ⟨wa, wb, hK, hR, by omega, by omega⟩, h1, h2, h3, h4⟩
theorem W114 {base : Nat} {X : Nat → Option mC} {G : Nat → Value} (E : EnvOK base X G) {d : Nat} (hd : 7 ≤ d) {M : mH} (H : HI base M) (text : Int) (sentence : Int) (j : Int) (gs : Int) (gT : Int → Int) (gN : Int → Int) (ga : Int) (g0 : Int → Int) (gb : Int) (g1 : Int → Int) (gc : Int) (gC : Int → Int) (gl : Int) (gL : Int → Int) (h0 : INVl base j M) (h1 : CSx base gs gT gN ga g0 gb g1 M) (h2 : RSx gs gT gN ga g0 gb g1 M) (h3 : LXc gN g0 g1 gc gC gl gL M) (h4 : LXr gN g0 g1 gc gC gl gL M) (b_text : -2147483648 ≤ text ∧ text ≤ 2147483647) (b_sentence : -2147483648 ≤ sentence ∧ sentence ≤ 2147483647) : sOk base X G d T114 [vR 0, vI text, vI sentence] M (pI (fun v M' => HI base M' ∧ Ftr [(0, 0)] M M' ∧ (INVl base (j + 6) M') ∧ (CSx base gs gT gN ga g0 gb g1 M') ∧ (RSx gs gT gN ga g0 gb g1 M') ∧ (LXc gN g0 g1 gc gC gl gL M') ∧ (LXr gN g0 g1 gc gC gl gL M'))) := by
  obtain ⟨wa, wb, hK, hR, r1, r2⟩ := h0
  have hK2 := hK
  obtain ⟨hH, hB, hN, hI, hA, hZ, hS, ⟨wn, hn, hT, hG⟩, ha, hb⟩ := hK2
  have hR2 := hR
  obtain ⟨hTB, hWD, hLN, hGK, hVT, hIM⟩ := hR2
  have hs := h1.1
  refine sOk.imp (k114s E (by omega) H text sentence hB hS (by omega) (by omega)) ?_
  rintro v M' ⟨v', e, H', f, q0, q1⟩
  have z := (f.q rfl).z
  have rf := z.ref H.m rfl
  have kr := hR.of rf
  exact ⟨v', e, H', trivial, ⟨wa, wb, hK.sf H' z rfl q1, kr, by rw [f.1]; omega, by rw [f.2.1]; omega⟩, h1.fz H.m z rfl, h2.of rf, h3.fz H.m z rfl h3.1, h4.of rf⟩
theorem W115 {base : Nat} {X : Nat → Option mC} {G : Nat → Value} (E : EnvOK base X G) {d : Nat} (hd : 1 ≤ d) {M : mH} (H : HI base M) (second : Int) (j : Int) (gs : Int) (gT : Int → Int) (gN : Int → Int) (ga : Int) (g0 : Int → Int) (gb : Int) (g1 : Int → Int) (gc : Int) (gC : Int → Int) (gl : Int) (gL : Int → Int) (h0 : INVl base j M) (h1 : CSx base gs gT gN ga g0 gb g1 M) (h2 : RSx gs gT gN ga g0 gb g1 M) (h3 : LXc gN g0 g1 gc gC gl gL M) (h4 : LXr gN g0 g1 gc gC gl gL M) (b_second : -2147483648 ≤ second ∧ second ≤ 2147483647) : sOk base X G d T115 [vR 0, vI second] M (pI (fun v M' => HI base M' ∧ Ftr [(0, 0)] M M' ∧ (INVl base (j + 6) M') ∧ (CSx base gs gT gN ga g0 gb g1 M') ∧ (RSx gs gT gN ga g0 gb g1 M') ∧ (LXc gN g0 g1 gc gC gl gL M') ∧ (LXr gN g0 g1 gc gC gl gL M'))) := by
  obtain ⟨wa, wb, hK, hR, r1, r2⟩ := h0
  have hK2 := hK
  obtain ⟨hH, hB, hN, hI, hA, hZ, hS, ⟨wn, hn, hT, hG⟩, ha, hb⟩ := hK2
  have hR2 := hR
  obtain ⟨hTB, hWD, hLN, hGK, hVT, hIM⟩ := hR2
  have hs := h1.1
  refine sOk.imp (k115 E (by omega) H second (by omega)) ?_
  rintro v M' ⟨v', e, rfl, -⟩
  exact ⟨v', e, H, trivial, ⟨wa, wb, hK, hR, by omega, by omega⟩, h1, h2, h3, h4⟩
theorem W116 {base : Nat} {X : Nat → Option mC} {G : Nat → Value} (E : EnvOK base X G) {d : Nat} (hd : 7 ≤ d) {M : mH} (H : HI base M) (text : Int) (j : Int) (gs : Int) (gT : Int → Int) (gN : Int → Int) (ga : Int) (g0 : Int → Int) (gb : Int) (g1 : Int → Int) (gc : Int) (gC : Int → Int) (gl : Int) (gL : Int → Int) (h0 : INVl base j M) (h1 : CSx base gs gT gN ga g0 gb g1 M) (h2 : RSx gs gT gN ga g0 gb g1 M) (h3 : LXc gN g0 g1 gc gC gl gL M) (h4 : LXr gN g0 g1 gc gC gl gL M) (b_text : -2147483648 ≤ text ∧ text ≤ 2147483647) : sOk base X G d T116 [vR 0, vI text] M (pL (fun v M' => HI base M' ∧ Ftr [(0, 0)] M M' ∧ (INVl base (j + 6) M') ∧ (CSx base gs gT gN ga g0 gb g1 M') ∧ (RSx gs gT gN ga g0 gb g1 M') ∧ (LXc gN g0 g1 gc gC gl gL M') ∧ (LXr gN g0 g1 gc gC gl gL M'))) := by
  obtain ⟨wa, wb, hK, hR, r1, r2⟩ := h0
  have hK2 := hK
  obtain ⟨hH, hB, hN, hI, hA, hZ, hS, ⟨wn, hn, hT, hG⟩, ha, hb⟩ := hK2
  have hR2 := hR
  obtain ⟨hTB, hWD, hLN, hGK, hVT, hIM⟩ := hR2
  have hs := h1.1
  refine sOk.imp (k116s E (by omega) H text hB hS (by omega)) ?_
  rintro v M' ⟨v', e, H', f, q0⟩
  have z := (f.q rfl).z
  have rf := z.ref H.m rfl
  have kr := hR.of rf
  exact ⟨v', e, H', trivial, ⟨wa, wb, hK.sf H' z rfl q0, kr, by rw [f.1]; omega, by rw [f.2.1]; omega⟩, h1.fz H.m z rfl, h2.of rf, h3.fz H.m z rfl h3.1, h4.of rf⟩
theorem W117 {base : Nat} {X : Nat → Option mC} {G : Nat → Value} (E : EnvOK base X G) {d : Nat} (hd : 176 ≤ d) {M : mH} (H : HI base M) (j : Int) (gs : Int) (gT : Int → Int) (gN : Int → Int) (ga : Int) (g0 : Int → Int) (gb : Int) (g1 : Int → Int) (gc : Int) (gC : Int → Int) (gl : Int) (gL : Int → Int) (h0 : INVl base j M) (h1 : CSx base gs gT gN ga g0 gb g1 M) (h2 : RSx gs gT gN ga g0 gb g1 M) (h3 : LXc gN g0 g1 gc gC gl gL M) (h4 : LXr gN g0 g1 gc gC gl gL M) : sOk base X G d T117 [vR 0] M (pL (fun v M' => HI base M' ∧ Ftr [(0, 0)] M M' ∧ (INVl base (j + 6) M') ∧ (CSx base gs gT gN ga g0 gb g1 M') ∧ (RSx gs gT gN ga g0 gb g1 M') ∧ (LXc gN g0 g1 gc gC gl gL M') ∧ (LXr gN g0 g1 gc gC gl gL M'))) := by
  obtain ⟨wa, wb, hK, hR, r1, r2⟩ := h0
  have hK2 := hK
  obtain ⟨hH, hB, hN, hI, hA, hZ, hS, ⟨wn, hn, hT, hG⟩, ha, hb⟩ := hK2
  have hR2 := hR
  obtain ⟨hTB, hWD, hLN, hGK, hVT, hIM⟩ := hR2
  have hs := h1.1
  refine sOk.imp (k117k E (by omega) H wa hS hA (by omega)) ?_
  rintro v M' ⟨v', e, H', f, q0, q1⟩
  have z := f
  have rf := z.ref H.m rfl
  have kr := hR.of rf
  obtain ⟨w2, hb2, hrn, hrm⟩ := q0
  unfold RM at hrm
  exact ⟨v', e, H', trivial, ⟨w2, wb, hK.solv H' z rfl hrn (by omega) (fun _ => q1), kr, by omega, by omega⟩, h1.fz H.m z rfl, h2.of rf, h3.fz H.m z rfl h3.1, h4.of rf⟩
theorem W118 {base : Nat} {X : Nat → Option mC} {G : Nat → Value} (E : EnvOK base X G) {d : Nat} (hd : 177 ≤ d) {M : mH} (H : HI base M) (word : Int) (j : Int) (gs : Int) (gT : Int → Int) (gN : Int → Int) (ga : Int) (g0 : Int → Int) (gb : Int) (g1 : Int → Int) (gc : Int) (gC : Int → Int) (gl : Int) (gL : Int → Int) (h0 : INVl base j M) (h1 : CSx base gs gT gN ga g0 gb g1 M) (h2 : RSx gs gT gN ga g0 gb g1 M) (h3 : LXc gN g0 g1 gc gC gl gL M) (h4 : LXr gN g0 g1 gc gC gl gL M) (b_word : -2147483648 ≤ word ∧ word ≤ 2147483647) : sOk base X G d T118 [vR 0, vI word] M (pL (fun v M' => HI base M' ∧ Ftr [(0, 0)] M M' ∧ (INVl base (j + 6) M') ∧ (CSx base gs gT gN ga g0 gb g1 M') ∧ (RSx gs gT gN ga g0 gb g1 M') ∧ (LXc gN g0 g1 gc gC gl gL M') ∧ (LXr gN g0 g1 gc gC gl gL M'))) := by
  obtain ⟨wa, wb, hK, hR, r1, r2⟩ := h0
  have hK2 := hK
  obtain ⟨hH, hB, hN, hI, hA, hZ, hS, ⟨wn, hn, hT, hG⟩, ha, hb⟩ := hK2
  have hR2 := hR
  obtain ⟨hTB, hWD, hLN, hGK, hVT, hIM⟩ := hR2
  have hs := h1.1
  refine sOk.imp (k118k E (by omega) H word wa hS hA (by omega) (by omega)) ?_
  rintro v M' ⟨v', e, H', f, q0, q1⟩
  have z := f
  have rf := z.ref H.m rfl
  have kr := hR.of rf
  obtain ⟨w2, hb2, hrn, hrm⟩ := q0
  unfold RM at hrm
  exact ⟨v', e, H', trivial, ⟨w2, wb, hK.solv H' z rfl hrn (by omega) q1, kr, by omega, by omega⟩, h1.fz H.m z rfl, h2.of rf, h3.fz H.m z rfl h3.1, h4.of rf⟩
theorem W119 {base : Nat} {X : Nat → Option mC} {G : Nat → Value} (E : EnvOK base X G) {d : Nat} (hd : 1 ≤ d) {M : mH} (H : HI base M) (lag : Int) (keeps : Int) (limit : Int) (j : Int) (gs : Int) (gT : Int → Int) (gN : Int → Int) (ga : Int) (g0 : Int → Int) (gb : Int) (g1 : Int → Int) (gc : Int) (gC : Int → Int) (gl : Int) (gL : Int → Int) (h0 : INVl base j M) (h1 : CSx base gs gT gN ga g0 gb g1 M) (h2 : RSx gs gT gN ga g0 gb g1 M) (h3 : LXc gN g0 g1 gc gC gl gL M) (h4 : LXr gN g0 g1 gc gC gl gL M) (b_lag : -2147483648 ≤ lag ∧ lag ≤ 2147483647) (b_keeps : -2147483648 ≤ keeps ∧ keeps ≤ 2147483647) (b_limit : -2147483648 ≤ limit ∧ limit ≤ 2147483647) : sOk base X G d T119 [vR 0, vI lag, vI keeps, vI limit] M (pI (fun v M' => HI base M' ∧ Ftr [(0, 0)] M M' ∧ (INVl base (j + 6) M') ∧ (CSx base gs gT (ctN (BV lag keeps limit) gN 391 472 6 lag keeps limit) ga g0 gb g1 M') ∧ (RSx gs gT gN ga g0 gb g1 M') ∧ (LXc (ctN (BV lag keeps limit) gN 391 472 6 lag keeps limit) g0 g1 gc gC gl gL M') ∧ (LXr gN g0 g1 gc gC gl gL M') ∧ (-2147483648 ≤ v ∧ v ≤ 2147483647) ∧ (v = ctV (BV lag keeps limit) gN 472 6))) := by
  obtain ⟨wa, wb, hK, hR, r1, r2⟩ := h0
  have hK2 := hK
  obtain ⟨hH, hB, hN, hI, hA, hZ, hS, ⟨wn, hn, hT, hG⟩, ha, hb⟩ := hK2
  have hR2 := hR
  obtain ⟨hTB, hWD, hLN, hGK, hVT, hIM⟩ := hR2
  have hs := h1.1
  refine sOk.imp (k119n E (by omega) H lag keeps limit (by omega) (by omega) (by omega)) ?_
  rintro v M' ⟨v', e, H', f, q0, q1⟩
  have z := (f.q rfl).z
  have rf := z.ref H.m rfl
  have kr := hR.of rf
  have dj : dAs 472 := by unfold dAs; omega
  have cn : gi M 1 14 = gN 472 := by
    have o := h1.2.2.1 472 dj
    rw [cS_at slA_472] at o
    exact o
  have bv := H.2 1 14 0 6 rfl
  have cs : CSx base gs gT (ctN (BV lag keeps limit) gN 391 472 6 lag keeps limit) ga g0 gb g1 M' ∧ (-2147483648 ≤ v' ∧ v' ≤ 2147483647) ∧ v' = ctV (BV lag keeps limit) gN 472 6 := by
    unfold ctN ctV
    rcases q1 with ⟨hp, hl, hvv, M1, u, fa⟩ | ⟨hp, hl, hvv, fr⟩ | ⟨hp, hvv, fr⟩
    · have hp2 := hp
      unfold BV at hp2
      rw [if_pos hp, if_pos hp, if_pos (show gN 472 < 6 by omega), if_pos (show gN 472 < 6 by omega)]
      have w := h1.w4 (c := 9) (f := 14) (b := 391) (i := 472) (lim := 6) (fun k k1 k2 => by rw [slA_b ⟨by omega, by omega⟩]; exact Prod.ext rfl (by dsimp only; omega)) slA_472 dj (fun k k1 k2 => by unfold dAs; omega) (by omega) (by omega) (by omega) (by omega) (show 0 ≤ gi M 1 14 ∧ gi M 1 14 < 6 from ⟨by omega, by omega⟩) (by omega) (by unfold inR; omega) (by unfold inR; omega) (by unfold inR; omega) u
      exact ⟨w.fz (by obtain ⟨A, B, C, u1, u2, u3, u4⟩ := u; rw [u4.n1, u3.n1, u2.n1, u1.n1]; exact H.m) (fa.q rfl).z rfl, by omega, by rw [hvv]; exact cn⟩
    · rw [if_pos hp, if_pos hp, if_neg (show ¬ gN 472 < 6 by omega), if_neg (show ¬ gN 472 < 6 by omega)]
      exact ⟨h1.fz H.m (fr.q rfl).z rfl, by omega, hvv⟩
    · rw [if_neg hp, if_neg hp]
      exact ⟨h1.fz H.m (fr.q rfl).z rfl, by omega, hvv⟩
  exact ⟨v', e, H', trivial, ⟨wa, wb, hK.st H' z rfl rfl q0, kr, by rw [f.1]; omega, by rw [f.2.1]; omega⟩, cs.1, h2.of rf, h3.fz H.m z rfl (h3.1.ctB (by have q := H.2 1 14 0 6 rfl; rw [h1.bn] at q; omega) (fun hp => by unfold BV at hp; omega)), h4.of rf, cs.2.1, cs.2.2⟩
theorem W120 {base : Nat} {X : Nat → Option mC} {G : Nat → Value} (E : EnvOK base X G) {d : Nat} (hd : 9 ≤ d) {M : mH} (H : HI base M) (j : Int) (gs : Int) (gT : Int → Int) (gN : Int → Int) (ga : Int) (g0 : Int → Int) (gb : Int) (g1 : Int → Int) (gc : Int) (gC : Int → Int) (gl : Int) (gL : Int → Int) (h0 : INVl base j M) (h1 : CSx base gs gT gN ga g0 gb g1 M) (h2 : RSx gs gT gN ga g0 gb g1 M) (h3 : LXc gN g0 g1 gc gC gl gL M) (h4 : LXr gN g0 g1 gc gC gl gL M) : sOk base X G d T120 [vR 0] M (pI (fun v M' => HI base M' ∧ Ftr [(0, 0)] M M' ∧ (INVl base (j + 6) M') ∧ (CSx base gs gT gN ga g0 gb g1 M') ∧ (RSx gs gT gN ga g0 gb g1 M') ∧ (LXc gN g0 g1 gc gC (clN gN gl) (clF gN gL) M') ∧ (LXr gN g0 g1 gc gC gl gL M') ∧ (-2147483648 ≤ v ∧ v ≤ 2147483647) ∧ (v = chV gN))) := by
  obtain ⟨wa, wb, hK, hR, r1, r2⟩ := h0
  have hR2 := hR
  obtain ⟨hTB, hWD, hLN, hGK, hVT, hIM⟩ := hR2
  refine sOk.imp (k120h E (by omega) H (bxK gN) (fun j a b => h1.bx a b) h3.1.1) ?_
  rintro v M' ⟨v', e, H', f, q0, q1, q2⟩
  have z := (f.q rfl).z
  have rf := z.ref H.m rfl
  have kr := hR.of rf
  rw [h1.bn] at q1 q2
  have kc := h3.ch H.m z rfl (by have q := H.2 1 14 0 6 rfl; rw [h1.bn] at q; omega) q1 q2
  exact ⟨v', e, H', trivial, ⟨wa, wb, hK.keep H' z rfl rfl, kr, by rw [f.1]; omega, by rw [f.2.1]; omega⟩, h1.fz H.m z rfl, h2.of rf, kc.1, h4.of rf, q0, kc.2⟩
theorem W121 {base : Nat} {X : Nat → Option mC} {G : Nat → Value} (E : EnvOK base X G) {d : Nat} (hd : 1 ≤ d) {M : mH} (H : HI base M) (xi : Int) (j : Int) (gs : Int) (gT : Int → Int) (gN : Int → Int) (ga : Int) (g0 : Int → Int) (gb : Int) (g1 : Int → Int) (gc : Int) (gC : Int → Int) (gl : Int) (gL : Int → Int) (h0 : INVl base j M) (h1 : CSx base gs gT gN ga g0 gb g1 M) (h2 : RSx gs gT gN ga g0 gb g1 M) (h3 : LXc gN g0 g1 gc gC gl gL M) (h4 : LXr gN g0 g1 gc gC gl gL M) (b_xi : -2147483648 ≤ xi ∧ xi ≤ 2147483647) : sOk base X G d T121 [vR 0, vI xi] M (pI (fun v M' => HI base M' ∧ Ftr [(0, 0)] M M' ∧ (INVl base (j + 6) M') ∧ (CSx base gs gT gN ga g0 gb g1 M') ∧ (RSx gs gT gN ga g0 gb g1 M') ∧ (LXc gN g0 g1 gc gC gl gL M') ∧ (LXr gN g0 g1 gc gC gl gL M') ∧ (-2147483648 ≤ v ∧ v ≤ 2147483647) ∧ (v = lkF gl gL xi))) := by
  obtain ⟨wa, wb, hK, hR, r1, r2⟩ := h0
  have hR2 := hR
  obtain ⟨hTB, hWD, hLN, hGK, hVT, hIM⟩ := hR2
  refine sOk.imp (k121h E (by omega) H xi (by omega)) ?_
  rintro v M' ⟨v', e, rfl, q0, q1⟩
  exact ⟨v', e, H, trivial, ⟨wa, wb, hK, hR, by omega, by omega⟩, h1, h2, h3, h4, q0, h3.lk q1⟩
theorem W122 {base : Nat} {X : Nat → Option mC} {G : Nat → Value} (E : EnvOK base X G) {d : Nat} (hd : 1 ≤ d) {M : mH} (H : HI base M) (minute : Int) (cost : Int) (j : Int) (gs : Int) (gT : Int → Int) (gN : Int → Int) (ga : Int) (g0 : Int → Int) (gb : Int) (g1 : Int → Int) (gc : Int) (gC : Int → Int) (gl : Int) (gL : Int → Int) (h0 : INVl base j M) (h1 : CSx base gs gT gN ga g0 gb g1 M) (h2 : RSx gs gT gN ga g0 gb g1 M) (h3 : LXc gN g0 g1 gc gC gl gL M) (h4 : LXr gN g0 g1 gc gC gl gL M) (b_minute : -2147483648 ≤ minute ∧ minute ≤ 2147483647) (b_cost : -2147483648 ≤ cost ∧ cost ≤ 2147483647) : sOk base X G d T122 [vR 0, vI minute, vI cost] M (pI (fun v M' => HI base M' ∧ Ftr [(0, 0)] M M' ∧ (INVl base (j + 6) M') ∧ (CSx base gs gT (stN (MV minute cost) gN (409 + minute) cost) ga g0 gb g1 M') ∧ (RSx gs gT gN ga g0 gb g1 M') ∧ (LXc (stN (MV minute cost) gN (409 + minute) cost) g0 g1 gc gC gl gL M') ∧ (LXr gN g0 g1 gc gC gl gL M') ∧ (-2147483648 ≤ v ∧ v ≤ 2147483647) ∧ (v = stV (MV minute cost) gN (409 + minute)))) := by
  obtain ⟨wa, wb, hK, hR, r1, r2⟩ := h0
  have hK2 := hK
  obtain ⟨hH, hB, hN, hI, hA, hZ, hS, ⟨wn, hn, hT, hG⟩, ha, hb⟩ := hK2
  have hR2 := hR
  obtain ⟨hTB, hWD, hLN, hGK, hVT, hIM⟩ := hR2
  have hs := h1.1
  refine sOk.imp (k122n E (by omega) H minute cost (by omega) (by omega)) ?_
  rintro v M' ⟨v', e, H', f, q0, q1⟩
  have z := (f.q rfl).z
  have rf := z.ref H.m rfl
  have kr := hR.of rf
  have cs : CSx base gs gT (stN (MV minute cost) gN (409 + minute) cost) ga g0 gb g1 M' ∧ (-2147483648 ≤ v' ∧ v' ≤ 2147483647) ∧ v' = stV (MV minute cost) gN (409 + minute) := by
    rcases q1 with ⟨hp, hvv, M1, u, fa⟩ | ⟨hp, hvv, fr⟩
    · have hp2 := hp
      unfold MV at hp2
      have dj : dAs (409 + minute) := by unfold dAs; omega
      have zn := h1.2.2.2.2.2.2.1
      have bv := H.2 11 (minute) 0 1000 rfl
      have es : slA (409 + minute) = (10, 409 + minute - 409) := slA_c (by omega)
      rw [stN_pos hp, stV_pos hp]
      have ww := h1.wr u dj es rfl (by omega) (by unfold inR; omega) (zn.upd (by omega) (by omega))
      have ww2 := ww.fz (by rw [u.n1]; exact H.m) (fa.q rfl).z rfl
      refine ⟨ww2, by omega, ?_⟩
      have o := h1.2.2.1 _ dj
      rw [cS_at es] at o
      rw [hvv, ← o]
      show gi M 11 (minute) = gi M 11 (409 + minute - 409)
      congr 1
      omega
    · rw [stN_neg hp, stV_neg hp]
      have ww := h1.fz H.m (fr.q rfl).z rfl
      exact ⟨ww, by omega, hvv⟩
  exact ⟨v', e, H', trivial, ⟨wa, wb, hK.st H' z rfl rfl q0, kr, by rw [f.1]; omega, by rw [f.2.1]; omega⟩, cs.1, h2.of rf, h3.fz H.m z rfl (h3.1.st (fun hp => by unfold MV at hp; omega)), h4.of rf, cs.2.1, cs.2.2⟩
theorem W123 {base : Nat} {X : Nat → Option mC} {G : Nat → Value} (E : EnvOK base X G) {d : Nat} (hd : 2 ≤ d) {M : mH} (H : HI base M) (xm : Int) (j : Int) (gs : Int) (gT : Int → Int) (gN : Int → Int) (ga : Int) (g0 : Int → Int) (gb : Int) (g1 : Int → Int) (gc : Int) (gC : Int → Int) (gl : Int) (gL : Int → Int) (h0 : INVl base j M) (h1 : CSx base gs gT gN ga g0 gb g1 M) (h2 : RSx gs gT gN ga g0 gb g1 M) (h3 : LXc gN g0 g1 gc gC gl gL M) (h4 : LXr gN g0 g1 gc gC gl gL M) (b_xm : -2147483648 ≤ xm ∧ xm ≤ 2147483647) : sOk base X G d T123 [vR 0, vI xm] M (pI (fun v M' => HI base M' ∧ Ftr [(0, 0)] M M' ∧ (INVl base (j + 6) M') ∧ (CSx base gs gT gN ga g0 gb g1 M') ∧ (RSx gs gT gN ga g0 gb g1 M') ∧ (LXc gN g0 g1 (rcN gN xm gc) (rcF gN xm gC) gl gL M') ∧ (LXr gN g0 g1 gc gC gl gL M') ∧ (-2147483648 ≤ v ∧ v ≤ 2147483647) ∧ (v = rlV gN xm))) := by
  obtain ⟨wa, wb, hK, hR, r1, r2⟩ := h0
  have hR2 := hR
  obtain ⟨hTB, hWD, hLN, hGK, hVT, hIM⟩ := hR2
  refine sOk.imp (k123g E (by omega) H xm (by omega)) ?_
  rintro v M' ⟨v', e, H', f, q0, q1, q2, q3⟩
  have z := (f.q rfl).z
  have rf := z.ref H.m rfl
  have kr := hR.of rf
  exact ⟨v', e, H', trivial, ⟨wa, wb, hK.keep H' z rfl rfl, kr, by rw [f.1]; omega, by rw [f.2.1]; omega⟩, h1.fz H.m z rfl, h2.of rf, h3.rl H.m z rfl (fun y => h1.rlx (q1 y)) (fun y => (q2 y).2), h4.of rf, q0, rlV.of (fun y => h1.rlx (q1 y)) (fun y => (q2 y).1)⟩
theorem W124 {base : Nat} {X : Nat → Option mC} {G : Nat → Value} (E : EnvOK base X G) {d : Nat} (hd : 1 ≤ d) {M : mH} (H : HI base M) (xi : Int) (j : Int) (gs : Int) (gT : Int → Int) (gN : Int → Int) (ga : Int) (g0 : Int → Int) (gb : Int) (g1 : Int → Int) (gc : Int) (gC : Int → Int) (gl : Int) (gL : Int → Int) (h0 : INVl base j M) (h1 : CSx base gs gT gN ga g0 gb g1 M) (h2 : RSx gs gT gN ga g0 gb g1 M) (h3 : LXc gN g0 g1 gc gC gl gL M) (h4 : LXr gN g0 g1 gc gC gl gL M) (b_xi : -2147483648 ≤ xi ∧ xi ≤ 2147483647) : sOk base X G d T124 [vR 0, vI xi] M (pI (fun v M' => HI base M' ∧ Ftr [(0, 0)] M M' ∧ (INVl base (j + 6) M') ∧ (CSx base gs gT gN ga g0 gb g1 M') ∧ (RSx gs gT gN ga g0 gb g1 M') ∧ (LXc gN g0 g1 gc gC gl gL M') ∧ (LXr gN g0 g1 gc gC gl gL M') ∧ (-2147483648 ≤ v ∧ v ≤ 2147483647) ∧ (v = chF gc gC xi))) := by
  obtain ⟨wa, wb, hK, hR, r1, r2⟩ := h0
  have hR2 := hR
  obtain ⟨hTB, hWD, hLN, hGK, hVT, hIM⟩ := hR2
  refine sOk.imp (k124h E (by omega) H xi (by omega)) ?_
  rintro v M' ⟨v', e, rfl, q0, q1⟩
  exact ⟨v', e, H, trivial, ⟨wa, wb, hK, hR, by omega, by omega⟩, h1, h2, h3, h4, q0, h3.cg q1⟩
theorem W125 {base : Nat} {X : Nat → Option mC} {G : Nat → Value} (E : EnvOK base X G) {d : Nat} (hd : 3 ≤ d) {M : mH} (H : HI base M) (xm : Int) (xq : Int) (j : Int) (gs : Int) (gT : Int → Int) (gN : Int → Int) (ga : Int) (g0 : Int → Int) (gb : Int) (g1 : Int → Int) (gc : Int) (gC : Int → Int) (gl : Int) (gL : Int → Int) (h0 : INVl base j M) (h1 : CSx base gs gT gN ga g0 gb g1 M) (h2 : RSx gs gT gN ga g0 gb g1 M) (h3 : LXc gN g0 g1 gc gC gl gL M) (h4 : LXr gN g0 g1 gc gC gl gL M) (b_xm : -2147483648 ≤ xm ∧ xm ≤ 2147483647) (b_xq : -2147483648 ≤ xq ∧ xq ≤ 2147483647) : sOk base X G d T125 [vR 0, vI xm, vI xq] M (pI (fun v M' => HI base M' ∧ Ftr [(0, 0)] M M' ∧ (INVl base (j + 6) M') ∧ (CSx base gs gT gN ga g0 gb g1 M') ∧ (RSx gs gT gN ga g0 gb g1 M') ∧ (LXc gN g0 g1 gc gC gl gL M') ∧ (LXr gN g0 g1 gc gC gl gL M') ∧ (-2147483648 ≤ v ∧ v ≤ 2147483647) ∧ (v = glV gN xm xq))) := by
  obtain ⟨wa, wb, hK, hR, r1, r2⟩ := h0
  have hR2 := hR
  obtain ⟨hTB, hWD, hLN, hGK, hVT, hIM⟩ := hR2
  refine sOk.imp (k125g E (by omega) H xm xq (by omega) (by omega)) ?_
  rintro v M' ⟨v', e, H', f, q0, q1⟩
  have z := (f.q rfl).z
  have rf := z.ref H.m rfl
  have kr := hR.of rf
  exact ⟨v', e, H', trivial, ⟨wa, wb, hK.keep H' z rfl rfl, kr, by rw [f.1]; omega, by rw [f.2.1]; omega⟩, h1.fz H.m z rfl, h2.of rf, h3.fz H.m z rfl h3.1, h4.of rf, q0, q1.trans (glV_cong h1.2.2.1 (cS_KB H) xm xq)⟩
theorem W126 {base : Nat} {X : Nat → Option mC} {G : Nat → Value} (E : EnvOK base X G) {d : Nat} (hd : 7 ≤ d) {M : mH} (H : HI base M) (text : Int) (sentence : Int) (slot : Int) (meant : Int) (third : Int) (j : Int) (gs : Int) (gT : Int → Int) (gN : Int → Int) (ga : Int) (g0 : Int → Int) (gb : Int) (g1 : Int → Int) (gc : Int) (gC : Int → Int) (gl : Int) (gL : Int → Int) (h0 : INVl base j M) (h1 : CSx base gs gT gN ga g0 gb g1 M) (h2 : RSx gs gT gN ga g0 gb g1 M) (h3 : LXc gN g0 g1 gc gC gl gL M) (h4 : LXr gN g0 g1 gc gC gl gL M) (b_text : -2147483648 ≤ text ∧ text ≤ 2147483647) (b_sentence : -2147483648 ≤ sentence ∧ sentence ≤ 2147483647) (b_slot : -2147483648 ≤ slot ∧ slot ≤ 2147483647) (b_meant : -2147483648 ≤ meant ∧ meant ≤ 2147483647) (b_third : -2147483648 ≤ third ∧ third ≤ 2147483647) : sOk base X G d T126 [vR 0, vI text, vI sentence, vI slot, vI meant, vI third] M (pI (fun v M' => HI base M' ∧ Ftr [(0, 0)] M M' ∧ (INVl base (j + 6) M') ∧ (CSx base gs gT gN ga g0 gb g1 M') ∧ (RSx gs gT gN ga g0 gb g1 M') ∧ (LXc gN g0 g1 gc gC gl gL M') ∧ (LXr gN g0 g1 gc gC gl gL M'))) := by
  obtain ⟨wa, wb, hK, hR, r1, r2⟩ := h0
  have hK2 := hK
  obtain ⟨hH, hB, hN, hI, hA, hZ, hS, ⟨wn, hn, hT, hG⟩, ha, hb⟩ := hK2
  have hR2 := hR
  obtain ⟨hTB, hWD, hLN, hGK, hVT, hIM⟩ := hR2
  have hs := h1.1
  refine sOk.imp (k126s E (by omega) H text sentence slot meant third hB hS (by omega) (by omega) (by omega) (by omega) (by omega)) ?_
  rintro v M' ⟨v', e, H', f, q0⟩
  have z := (f.q rfl).z
  have rf := z.ref H.m rfl
  have kr := hR.of rf
  exact ⟨v', e, H', trivial, ⟨wa, wb, hK.sf H' z rfl q0, kr, by rw [f.1]; omega, by rw [f.2.1]; omega⟩, h1.fz H.m z rfl, h2.of rf, h3.fz H.m z rfl h3.1, h4.of rf⟩
theorem W127 {base : Nat} {X : Nat → Option mC} {G : Nat → Value} (E : EnvOK base X G) {d : Nat} (hd : 7 ≤ d) {M : mH} (H : HI base M) (sentence : Int) (j : Int) (gs : Int) (gT : Int → Int) (gN : Int → Int) (ga : Int) (g0 : Int → Int) (gb : Int) (g1 : Int → Int) (gc : Int) (gC : Int → Int) (gl : Int) (gL : Int → Int) (h0 : INVl base j M) (h1 : CSx base gs gT gN ga g0 gb g1 M) (h2 : RSx gs gT gN ga g0 gb g1 M) (h3 : LXc gN g0 g1 gc gC gl gL M) (h4 : LXr gN g0 g1 gc gC gl gL M) (b_sentence : -2147483648 ≤ sentence ∧ sentence ≤ 2147483647) : sOk base X G d T127 [vR 0, vI sentence] M (pI (fun v M' => HI base M' ∧ Ftr [(0, 0)] M M' ∧ (INVl base (j + 6) M') ∧ (CSx base 0 gT gN ga g0 gb g1 M') ∧ (RSx gs gT gN ga g0 gb g1 M') ∧ (LXc gN g0 g1 gc gC gl gL M') ∧ (LXr gN g0 g1 gc gC gl gL M'))) := by
  obtain ⟨wa, wb, hK, hR, r1, r2⟩ := h0
  have hK2 := hK
  obtain ⟨hH, hB, hN, hI, hA, hZ, hS, ⟨wn, hn, hT, hG⟩, ha, hb⟩ := hK2
  have hR2 := hR
  obtain ⟨hTB, hWD, hLN, hGK, hVT, hIM⟩ := hR2
  have hs := h1.1
  refine sOk.imp (k127e E (by omega) H sentence hB hS (by omega)) ?_
  rintro v M' ⟨v', e, H', f, q0, q1, q2⟩
  have z := (f.q rfl).z
  have rf := z.ref H.m rfl
  have kr := hR.of rf
  exact ⟨v', e, H', trivial, ⟨wa, wb, hK.sf H' z rfl q1, kr, by rw [f.1]; omega, by rw [f.2.1]; omega⟩, h1.tape H.m z rfl q2, h2.of rf, h3.fz H.m z rfl h3.1, h4.of rf⟩
theorem W128 {base : Nat} {X : Nat → Option mC} {G : Nat → Value} (E : EnvOK base X G) {d : Nat} (hd : 7 ≤ d) {M : mH} (H : HI base M) (what : Int) (j : Int) (gs : Int) (gT : Int → Int) (gN : Int → Int) (ga : Int) (g0 : Int → Int) (gb : Int) (g1 : Int → Int) (gc : Int) (gC : Int → Int) (gl : Int) (gL : Int → Int) (h0 : INVl base j M) (h1 : CSx base gs gT gN ga g0 gb g1 M) (h2 : RSx gs gT gN ga g0 gb g1 M) (h3 : LXc gN g0 g1 gc gC gl gL M) (h4 : LXr gN g0 g1 gc gC gl gL M) (b_what : -2147483648 ≤ what ∧ what ≤ 2147483647) : sOk base X G d T128 [vR 0, vI what] M (pI (fun v M' => HI base M' ∧ Ftr [(0, 0)] M M' ∧ (INVl base (j + 6) M') ∧ (CSx base gs gT gN ga g0 gb g1 M') ∧ (RSx gs gT gN ga g0 gb g1 M') ∧ (LXc gN g0 g1 gc gC gl gL M') ∧ (LXr gN g0 g1 gc gC gl gL M'))) := by
  obtain ⟨wa, wb, hK, hR, r1, r2⟩ := h0
  have hK2 := hK
  obtain ⟨hH, hB, hN, hI, hA, hZ, hS, ⟨wn, hn, hT, hG⟩, ha, hb⟩ := hK2
  have hR2 := hR
  obtain ⟨hTB, hWD, hLN, hGK, hVT, hIM⟩ := hR2
  have hs := h1.1
  refine sOk.imp (k128s E (by omega) H what hB hS (by omega)) ?_
  rintro v M' ⟨v', e, H', f, q0, q1⟩
  have z := (f.q rfl).z
  have rf := z.ref H.m rfl
  have kr := hR.of rf
  exact ⟨v', e, H', trivial, ⟨wa, wb, hK.sf H' z rfl q1, kr, by rw [f.1]; omega, by rw [f.2.1]; omega⟩, h1.fz H.m z rfl, h2.of rf, h3.fz H.m z rfl h3.1, h4.of rf⟩
theorem W129 {base : Nat} {X : Nat → Option mC} {G : Nat → Value} (E : EnvOK base X G) {d : Nat} (hd : 3 ≤ d) {M : mH} (H : HI base M) (k : Int) (j : Int) (gs : Int) (gT : Int → Int) (gN : Int → Int) (ga : Int) (g0 : Int → Int) (gb : Int) (g1 : Int → Int) (gc : Int) (gC : Int → Int) (gl : Int) (gL : Int → Int) (h0 : INVl base j M) (h1 : CSx base gs gT gN ga g0 gb g1 M) (h2 : RSx gs gT gN ga g0 gb g1 M) (h3 : LXc gN g0 g1 gc gC gl gL M) (h4 : LXr gN g0 g1 gc gC gl gL M) (b_k : -2147483648 ≤ k ∧ k ≤ 2147483647) : sOk base X G d T129 [vR 0, vI k] M (pI (fun v M' => HI base M' ∧ Ftr [(0, 0)] M M' ∧ (INVl base (j + 6) M') ∧ (CSx base gs gT gN (imA 0 k ga) (imF 0 k gN g0) (imA 1 k gb) (imF 1 k gN g1) M') ∧ (RSx gs gT gN ga g0 gb g1 M') ∧ (LXc gN (imF 0 k gN g0) (imF 1 k gN g1) gc gC gl gL M') ∧ (LXr gN g0 g1 gc gC gl gL M') ∧ (-2147483648 ≤ v ∧ v ≤ 2147483647) ∧ (v = imV k))) := by
  obtain ⟨wa, wb, hK, hR, r1, r2⟩ := h0
  have hK2 := hK
  obtain ⟨hH, hB, hN, hI, hA, hZ, hS, ⟨wn, hn, hT, hG⟩, ha, hb⟩ := hK2
  have hR2 := hR
  obtain ⟨hTB, hWD, hLN, hGK, hVT, hIM⟩ := hR2
  have hs := h1.1
  refine sOk.imp (k129n E (by omega) H k (by omega) hB hN hI) ?_
  rintro v M' ⟨v', e, q, e0, e1, g3, n1, n2, kd⟩
  have q1 := q.2.2.2.2.1.2
  have q2 := q.2.2.2.2.2.1
  have rf : ∀ c, 77 ≤ c → c < 111 → sameC c M M' := fun c x y => q.2.2.2.2.2.2.1 c (by omega) y
  have inv : INVl base (j + 6) M' := ⟨wa, wb, hK.img q, hR.of rf, by omega, by omega⟩
  have hkk : ∀ r, r < M.1 → hk M r = 3 → hk M' r = 3 := fun r hr a => (kd r hr).trans a
  have vv := imV.of e0 e1
  have cs : CSx base gs gT gN (imA 0 k ga) (imF 0 k gN g0) (imA 1 k gb) (imF 1 k gN g1) M' := by
    unfold imA imF
    by_cases k0 : k = 0
    · subst k0
      rw [if_pos rfl, if_pos rfl, if_neg (by decide), if_neg (by decide)]
      exact h1.img0 (n1 (by decide)) q.2.2.2.2.1.1 hkk g3
    · rw [if_neg k0, if_neg k0]
      by_cases k1 : k = 1
      · subst k1
        rw [if_pos rfl, if_pos rfl]
        exact h1.img1 (n1 (by decide)) q.2.2.2.2.1.1 hkk g3
      · rw [if_neg k1, if_neg k1]
        exact h1.fz H.m ((n2 (by omega)).q rfl).z rfl
  exact ⟨v', e, q.1, trivial, inv, cs, h2.of rf, h3.of (fun c x y => q.2.2.2.2.2.2.1 c (by omega) (by omega)) h3.1.im, h4.of rf, (by rw [vv]; unfold imV; split <;> omega), vv⟩
theorem W130 {base : Nat} {X : Nat → Option mC} {G : Nat → Value} (E : EnvOK base X G) {d : Nat} (hd : 3 ≤ d) {M : mH} (H : HI base M) (k : Int) (j : Int) (gs : Int) (gT : Int → Int) (gN : Int → Int) (ga : Int) (g0 : Int → Int) (gb : Int) (g1 : Int → Int) (gc : Int) (gC : Int → Int) (gl : Int) (gL : Int → Int) (h0 : INVl base j M) (h1 : CSx base gs gT gN ga g0 gb g1 M) (h2 : RSx gs gT gN ga g0 gb g1 M) (h3 : LXc gN g0 g1 gc gC gl gL M) (h4 : LXr gN g0 g1 gc gC gl gL M) (b_k : -2147483648 ≤ k ∧ k ≤ 2147483647) : sOk base X G d T130 [vR 0, vI k] M (pI (fun v M' => HI base M' ∧ Ftr [(0, 0)] M M' ∧ (INVl base (j + 6) M') ∧ (CSx base gs gT (bkN k ga gb g0 g1 gN) ga g0 gb g1 M') ∧ (RSx gs gT gN ga g0 gb g1 M') ∧ (LXc (bkN k ga gb g0 g1 gN) g0 g1 gc gC gl gL M') ∧ (LXr gN g0 g1 gc gC gl gL M') ∧ (-2147483648 ≤ v ∧ v ≤ 2147483647) ∧ (v = bkV k ga gb))) := by
  obtain ⟨wa, wb, hK, hR, r1, r2⟩ := h0
  have hK2 := hK
  obtain ⟨hH, hB, hN, hI, hA, hZ, hS, ⟨wn, hn, hT, hG⟩, ha, hb⟩ := hK2
  have hR2 := hR
  obtain ⟨hTB, hWD, hLN, hGK, hVT, hIM⟩ := hR2
  have hs := h1.1
  refine sOk.imp (k130n E (by omega) H k (by omega) hB hN hI) ?_
  rintro v M' ⟨v', e, q, g3, n0, e0, e1, e2, kd⟩
  have q1 := q.2.2.2.2.1.2
  have q2 := q.2.2.2.2.2.1
  have rf : ∀ c, 77 ≤ c → c < 111 → sameC c M M' := fun c x y => q.2.2.2.2.2.2.1 c (by omega) y
  have inv : INVl base (j + 6) M' := ⟨wa, wb, hK.img q, hR.of rf, by omega, by omega⟩
  have vv : v' = bkV k ga gb := by
    refine bkV.cx h1 (fun h => (e0 h).1) (fun h a => (e1 h a).1) (fun h c a => (e2 h c a).1)
  have cs : CSx base gs gT (bkN k ga gb g0 g1 gN) ga g0 gb g1 M' := by
    by_cases kb : k < 0 ∨ 1 < k
    · have e : bkN k ga gb g0 g1 gN = gN := by unfold bkN; rw [if_neg (by omega), if_neg (by omega)]
      rw [e]
      exact h1.fz H.m ((e0 kb).2.q rfl).z rfl
    · exact h1.back (by omega) n0 (g3.trans hs) q.2.2.2.2.1.1 (fun r _ a => (kd r).trans a) (fun a => (e1 (by omega) a).2) (fun c a => (e2 (by omega) c a).2)
  exact ⟨v', e, q.1, trivial, inv, cs, h2.of rf, h3.of (fun c x y => q.2.2.2.2.2.2.1 c (by omega) (by omega)) h3.1.bk, h4.of rf, (by rw [vv]; unfold bkV; split <;> (try split) <;> (try split) <;> omega), vv⟩
theorem W131 {base : Nat} {X : Nat → Option mC} {G : Nat → Value} (E : EnvOK base X G) {d : Nat} (hd : 0 ≤ d) {M : mH} (H : HI base M) (what : Int) (j : Int) (gs : Int) (gT : Int → Int) (gN : Int → Int) (ga : Int) (g0 : Int → Int) (gb : Int) (g1 : Int → Int) (gc : Int) (gC : Int → Int) (gl : Int) (gL : Int → Int) (h0 : INVl base j M) (h1 : CSx base gs gT gN ga g0 gb g1 M) (h2 : RSx gs gT gN ga g0 gb g1 M) (h3 : LXc gN g0 g1 gc gC gl gL M) (h4 : LXr gN g0 g1 gc gC gl gL M) (b_what : -2147483648 ≤ what ∧ what ≤ 2147483647) : sOk base X G d T131 [vR 0, vI what] M (pI (fun v M' => HI base M' ∧ Ftr [(0, 0)] M M' ∧ (INVl base (j + 6) M') ∧ (CSx base gs gT gN ga g0 gb g1 M') ∧ (RSx gs gT gN ga g0 gb g1 M') ∧ (LXc gN g0 g1 gc gC gl gL M') ∧ (LXr gN g0 g1 gc gC gl gL M'))) := by
  obtain ⟨wa, wb, hK, hR, r1, r2⟩ := h0
  have hK2 := hK
  obtain ⟨hH, hB, hN, hI, hA, hZ, hS, ⟨wn, hn, hT, hG⟩, ha, hb⟩ := hK2
  have hR2 := hR
  obtain ⟨hTB, hWD, hLN, hGK, hVT, hIM⟩ := hR2
  have hs := h1.1
  refine sOk.imp (k131 E (by omega) H what (by omega)) ?_
  rintro v M' ⟨v', e, rfl, -⟩
  exact ⟨v', e, H, trivial, ⟨wa, wb, hK, hR, by omega, by omega⟩, h1, h2, h3, h4⟩
theorem W132 {base : Nat} {X : Nat → Option mC} {G : Nat → Value} (E : EnvOK base X G) {d : Nat} (hd : 0 ≤ d) {M : mH} (H : HI base M) (j : Int) (gs : Int) (gT : Int → Int) (gN : Int → Int) (ga : Int) (g0 : Int → Int) (gb : Int) (g1 : Int → Int) (gc : Int) (gC : Int → Int) (gl : Int) (gL : Int → Int) (h0 : INVl base j M) (h1 : CSx base gs gT gN ga g0 gb g1 M) (h2 : RSx gs gT gN ga g0 gb g1 M) (h3 : LXc gN g0 g1 gc gC gl gL M) (h4 : LXr gN g0 g1 gc gC gl gL M) : sOk base X G d T132 [vR 0] M (pI (fun v M' => HI base M' ∧ Ftr [(0, 0)] M M' ∧ (INVl base (j + 6) M') ∧ (CSx base gs gT gN ga g0 gb g1 M') ∧ (RSx gs gT gN ga g0 gb g1 M') ∧ (LXc gN g0 g1 gc gC gl gL M') ∧ (LXr gN g0 g1 gc gC gl gL M'))) := by
  obtain ⟨wa, wb, hK, hR, r1, r2⟩ := h0
  have hK2 := hK
  obtain ⟨hH, hB, hN, hI, hA, hZ, hS, ⟨wn, hn, hT, hG⟩, ha, hb⟩ := hK2
  have hR2 := hR
  obtain ⟨hTB, hWD, hLN, hGK, hVT, hIM⟩ := hR2
  have hs := h1.1
  refine sOk.imp (k132 E (by omega) H  ) ?_
  rintro v M' ⟨v', e, rfl, -⟩
  exact ⟨v', e, H, trivial, ⟨wa, wb, hK, hR, by omega, by omega⟩, h1, h2, h3, h4⟩
theorem W161 {base : Nat} {X : Nat → Option mC} {G : Nat → Value} (E : EnvOK base X G) {d : Nat} (hd : 1 ≤ d) {M : mH} (H : HI base M) (w : Int) (what : Int) (value : Int) (j : Int) (gs : Int) (gT : Int → Int) (gN : Int → Int) (ga : Int) (g0 : Int → Int) (gb : Int) (g1 : Int → Int) (gc : Int) (gC : Int → Int) (gl : Int) (gL : Int → Int) {ec : Int} {eC : Int → Int} {el : Int} {eL : Int → Int} {es : Int} {eT eN : Int → Int} {ea : Int} {e0 : Int → Int} {eb : Int} {e1 : Int → Int} (h0 : INVl base j M) (h1 : CSx base es eT eN ea e0 eb e1 M) (h2 : RSx gs gT gN ga g0 gb g1 M) (h3 : LXc eN e0 e1 ec eC el eL M) (h4 : LXr gN g0 g1 gc gC gl gL M) (b_w : -2147483648 ≤ w ∧ w ≤ 2147483647) (b_what : -2147483648 ≤ what ∧ what ≤ 2147483647) (b_value : -2147483648 ≤ value ∧ value ≤ 2147483647) : sOk base X G d T161 [vR 77, vI w, vI what, vI value] M (pI (fun v M' => HI base M' ∧ Ftr [(0, 0)] M M' ∧ (INVl base j M') ∧ (CSx base es eT eN ea e0 eb e1 M') ∧ (RSx gs gT (stN (WV w what value) gN (30 * what + w) value) ga g0 gb g1 M') ∧ (LXc eN e0 e1 ec eC el eL M') ∧ (LXr (stN (WV w what value) gN (30 * what + w) value) g0 g1 gc gC gl gL M') ∧ (-2147483648 ≤ v ∧ v ≤ 2147483647) ∧ (v = stV (WV w what value) gN (30 * what + w)))) := by
  obtain ⟨wa, wb, hK, hR, r1, r2⟩ := h0
  have hK2 := hK
  obtain ⟨hH, hB, hN, hI, hA, hZ, hS, ⟨wn, hn, hT, hG⟩, ha, hb⟩ := hK2
  have hR2 := hR
  obtain ⟨hTB, hWD, hLN, hGK, hVT, hIM⟩ := hR2
  have hs := h2.1
  refine sOk.imp (k161n E (by omega) H w what value hLN hGK (by omega) (by omega) (by omega)) ?_
  rintro v M' ⟨v', e, H', f, q0, q1, q2⟩
  have z := (f.q rfl).z
  have cs : RSx gs gT (stN (WV w what value) gN (30 * what + w) value) ga g0 gb g1 M' ∧ (-2147483648 ≤ v' ∧ v' ≤ 2147483647) ∧ v' = stV (WV w what value) gN (30 * what + w) := by
    rcases q2 with ⟨hp, hvv, M1, u, fa⟩ | ⟨hp, hvv, fr⟩
    · have hp2 := hp
      unfold WV at hp2
      have dj : dAs (30 * what + w) := by unfold dAs; omega
      have bv := (H.1.int sc_78 (i := 30 * what + w) (by omega) (by show _ < (6883 : Int); omega) rfl).2
      unfold inR at bv
      rw [stN_pos hp, stV_pos hp]
      have ww := (h2.wr u (by omega) rfl (by unfold inR; omega)).fr fa rfl
      exact ⟨ww, by omega, by rw [hvv]; exact h2.2.2.1 _ dj⟩
    · rw [stN_neg hp, stV_neg hp]
      have ww := h2.fr fr rfl
      exact ⟨ww, by omega, hvv⟩
  exact ⟨v', e, H', trivial, ⟨wa, wb, hK.keep H' z rfl rfl, ⟨hTB.fr f rfl, hWD.fr f rfl, q0, q1, hVT.fr f rfl, hIM.fr f rfl⟩, by rw [f.1]; exact r1, by rw [f.2.1]; exact r2⟩, h1.fz H.m z rfl, cs.1, h3.fz H.m z rfl h3.1, h4.fr f rfl (h4.1.st (fun hp => by unfold WV at hp; omega)), cs.2.1, cs.2.2⟩
theorem W162 {base : Nat} {X : Nat → Option mC} {G : Nat → Value} (E : EnvOK base X G) {d : Nat} (hd : 1 ≤ d) {M : mH} (H : HI base M) (what : Int) (value : Int) (j : Int) (gs : Int) (gT : Int → Int) (gN : Int → Int) (ga : Int) (g0 : Int → Int) (gb : Int) (g1 : Int → Int) (gc : Int) (gC : Int → Int) (gl : Int) (gL : Int → Int) {ec : Int} {eC : Int → Int} {el : Int} {eL : Int → Int} {es : Int} {eT eN : Int → Int} {ea : Int} {e0 : Int → Int} {eb : Int} {e1 : Int → Int} (h0 : INVl base j M) (h1 : CSx base es eT eN ea e0 eb e1 M) (h2 : RSx gs gT gN ga g0 gb g1 M) (h3 : LXc eN e0 e1 ec eC el eL M) (h4 : LXr gN g0 g1 gc gC gl gL M) (b_what : -2147483648 ≤ what ∧ what ≤ 2147483647) (b_value : -2147483648 ≤ value ∧ value ≤ 2147483647) : sOk base X G d T162 [vR 77, vI what, vI value] M (pI (fun v M' => HI base M' ∧ Ftr [(0, 0)] M M' ∧ (INVl base j M') ∧ (CSx base es eT eN ea e0 eb e1 M') ∧ (RSx gs gT (stN (TV what value) gN (90 + what) value) ga g0 gb g1 M') ∧ (LXc eN e0 e1 ec eC el eL M') ∧ (LXr (stN (TV what value) gN (90 + what) value) g0 g1 gc gC gl gL M') ∧ (-2147483648 ≤ v ∧ v ≤ 2147483647) ∧ (v = stV (TV what value) gN (90 + what)))) := by
  obtain ⟨wa, wb, hK, hR, r1, r2⟩ := h0
  have hK2 := hK
  obtain ⟨hH, hB, hN, hI, hA, hZ, hS, ⟨wn, hn, hT, hG⟩, ha, hb⟩ := hK2
  have hR2 := hR
  obtain ⟨hTB, hWD, hLN, hGK, hVT, hIM⟩ := hR2
  have hs := h2.1
  refine sOk.imp (k162n E (by omega) H what value hLN hGK (by omega) (by omega)) ?_
  rintro v M' ⟨v', e, H', f, q0, q1, q2⟩
  have z := (f.q rfl).z
  have cs : RSx gs gT (stN (TV what value) gN (90 + what) value) ga g0 gb g1 M' ∧ (-2147483648 ≤ v' ∧ v' ≤ 2147483647) ∧ v' = stV (TV what value) gN (90 + what) := by
    rcases q2 with ⟨hp, hvv, M1, u, fa⟩ | ⟨hp, hvv, fr⟩
    · have hp2 := hp
      unfold TV at hp2
      have dj : dAs (90 + what) := by unfold dAs; omega
      have bv := (H.1.int sc_78 (i := 90 + what) (by omega) (by show _ < (6883 : Int); omega) rfl).2
      unfold inR at bv
      rw [stN_pos hp, stV_pos hp]
      have ww := (h2.wr u (by omega) rfl (by unfold inR; omega)).fr fa rfl
      exact ⟨ww, by omega, by rw [hvv]; exact h2.2.2.1 _ dj⟩
    · rw [stN_neg hp, stV_neg hp]
      have ww := h2.fr fr rfl
      exact ⟨ww, by omega, hvv⟩
  exact ⟨v', e, H', trivial, ⟨wa, wb, hK.keep H' z rfl rfl, ⟨hTB.fr f rfl, hWD.fr f rfl, q0, q1, hVT.fr f rfl, hIM.fr f rfl⟩, by rw [f.1]; exact r1, by rw [f.2.1]; exact r2⟩, h1.fz H.m z rfl, cs.1, h3.fz H.m z rfl h3.1, h4.fr f rfl (h4.1.st (fun hp => by unfold TV at hp; omega)), cs.2.1, cs.2.2⟩
theorem W163 {base : Nat} {X : Nat → Option mC} {G : Nat → Value} (E : EnvOK base X G) {d : Nat} (hd : 1 ≤ d) {M : mH} (H : HI base M) (x : Int) (j : Int) (gs : Int) (gT : Int → Int) (gN : Int → Int) (ga : Int) (g0 : Int → Int) (gb : Int) (g1 : Int → Int) (gc : Int) (gC : Int → Int) (gl : Int) (gL : Int → Int) {ec : Int} {eC : Int → Int} {el : Int} {eL : Int → Int} {es : Int} {eT eN : Int → Int} {ea : Int} {e0 : Int → Int} {eb : Int} {e1 : Int → Int} (h0 : INVl base j M) (h1 : CSx base es eT eN ea e0 eb e1 M) (h2 : RSx gs gT gN ga g0 gb g1 M) (h3 : LXc eN e0 e1 ec eC el eL M) (h4 : LXr gN g0 g1 gc gC gl gL M) (b_x : -2147483648 ≤ x ∧ x ≤ 2147483647) : sOk base X G d T163 [vR 77, vI x] M (pI (fun v M' => HI base M' ∧ Ftr [(0, 0)] M M' ∧ (INVl base j M') ∧ (CSx base es eT eN ea e0 eb e1 M') ∧ (RSx gs gT (stN (OV x) gN 473 x) ga g0 gb g1 M') ∧ (LXc eN e0 e1 ec eC el eL M') ∧ (LXr (stN (OV x) gN 473 x) g0 g1 gc gC gl gL M') ∧ (-2147483648 ≤ v ∧ v ≤ 2147483647) ∧ (v = stV (OV x) gN 473))) := by
  obtain ⟨wa, wb, hK, hR, r1, r2⟩ := h0
  have hK2 := hK
  obtain ⟨hH, hB, hN, hI, hA, hZ, hS, ⟨wn, hn, hT, hG⟩, ha, hb⟩ := hK2
  have hR2 := hR
  obtain ⟨hTB, hWD, hLN, hGK, hVT, hIM⟩ := hR2
  have hs := h2.1
  refine sOk.imp (k163n E (by omega) H x hLN hGK (by omega)) ?_
  rintro v M' ⟨v', e, H', f, q0, q1, q2⟩
  have z := (f.q rfl).z
  have cs : RSx gs gT (stN (OV x) gN 473 x) ga g0 gb g1 M' ∧ (-2147483648 ≤ v' ∧ v' ≤ 2147483647) ∧ v' = stV (OV x) gN 473 := by
    rcases q2 with ⟨hp, hvv, M1, u, fa⟩ | ⟨hp, hvv, fr⟩
    · have hp2 := hp
      unfold OV at hp2
      have dj : dAs (473) := by unfold dAs; omega
      have bv := (H.1.int sc_78 (i := 473) (by omega) (by show _ < (6883 : Int); omega) rfl).2
      unfold inR at bv
      rw [stN_pos hp, stV_pos hp]
      have ww := (h2.wr u (by omega) rfl (by unfold inR; omega)).fr fa rfl
      exact ⟨ww, by omega, by rw [hvv]; exact h2.2.2.1 _ dj⟩
    · rw [stN_neg hp, stV_neg hp]
      have ww := h2.fr fr rfl
      exact ⟨ww, by omega, hvv⟩
  exact ⟨v', e, H', trivial, ⟨wa, wb, hK.keep H' z rfl rfl, ⟨hTB.fr f rfl, hWD.fr f rfl, q0, q1, hVT.fr f rfl, hIM.fr f rfl⟩, by rw [f.1]; exact r1, by rw [f.2.1]; exact r2⟩, h1.fz H.m z rfl, cs.1, h3.fz H.m z rfl h3.1, h4.fr f rfl (h4.1.st (fun hp => by unfold OV at hp; omega)), cs.2.1, cs.2.2⟩
theorem W164 {base : Nat} {X : Nat → Option mC} {G : Nat → Value} (E : EnvOK base X G) {d : Nat} (hd : 1 ≤ d) {M : mH} (H : HI base M) (slot : Int) (values : Int) (length : Int) (j : Int) (gs : Int) (gT : Int → Int) (gN : Int → Int) (ga : Int) (g0 : Int → Int) (gb : Int) (g1 : Int → Int) (gc : Int) (gC : Int → Int) (gl : Int) (gL : Int → Int) {ec : Int} {eC : Int → Int} {el : Int} {eL : Int → Int} {es : Int} {eT eN : Int → Int} {ea : Int} {e0 : Int → Int} {eb : Int} {e1 : Int → Int} (h0 : INVl base j M) (h1 : CSx base es eT eN ea e0 eb e1 M) (h2 : RSx gs gT gN ga g0 gb g1 M) (h3 : LXc eN e0 e1 ec eC el eL M) (h4 : LXr gN g0 g1 gc gC gl gL M) (b_slot : -2147483648 ≤ slot ∧ slot ≤ 2147483647) (b_values : -2147483648 ≤ values ∧ values ≤ 2147483647) (b_length : -2147483648 ≤ length ∧ length ≤ 2147483647) : sOk base X G d T164 [vR 77, vI slot, vI values, vI length] M (pI (fun v M' => HI base M' ∧ Ftr [(0, 0)] M M' ∧ (INVl base j M') ∧ (CSx base es eT eN ea e0 eb e1 M') ∧ (RSx gs gT (ctN (NV slot values length) gN 99 470 12 slot values length) ga g0 gb g1 M') ∧ (LXc eN e0 e1 ec eC el eL M') ∧ (LXr (ctN (NV slot values length) gN 99 470 12 slot values length) g0 g1 gc gC gl gL M') ∧ (-2147483648 ≤ v ∧ v ≤ 2147483647) ∧ (v = ctV (NV slot values length) gN 470 12))) := by
  obtain ⟨wa, wb, hK, hR, r1, r2⟩ := h0
  have hK2 := hK
  obtain ⟨hH, hB, hN, hI, hA, hZ, hS, ⟨wn, hn, hT, hG⟩, ha, hb⟩ := hK2
  have hR2 := hR
  obtain ⟨hTB, hWD, hLN, hGK, hVT, hIM⟩ := hR2
  have hs := h2.1
  refine sOk.imp (k164n E (by omega) H slot values length hLN hGK (by omega) (by omega) (by omega)) ?_
  rintro v M' ⟨v', e, H', f, q0, q1, q2⟩
  have z := (f.q rfl).z
  have dj : dAs 470 := by unfold dAs; omega
  have cn : gi M 78 470 = gN 470 := h2.2.2.1 470 dj
  have bv := H.2 78 470 0 12 (rk_openmany (by omega))
  have cs : RSx gs gT (ctN (NV slot values length) gN 99 470 12 slot values length) ga g0 gb g1 M' ∧ (-2147483648 ≤ v' ∧ v' ≤ 2147483647) ∧ v' = ctV (NV slot values length) gN 470 12 := by
    unfold ctN ctV
    rcases q2 with ⟨hp, hl, hvv, M1, u, fa⟩ | ⟨hp, hl, hvv, fr⟩ | ⟨hp, hvv, fr⟩
    · have hp2 := hp
      unfold NV at hp2
      rw [if_pos hp, if_pos hp, if_pos (show gN 470 < 12 by omega), if_pos (show gN 470 < 12 by omega)]
      have w := h2.w4 (b := 99) (i := 470) (lim := 12) ⟨by omega, dj⟩ (by omega) ⟨by omega, by omega⟩ (by omega) (by unfold inR; omega) (by unfold inR; omega) (by unfold inR; omega) u
      exact ⟨w.fr fa rfl, by omega, by rw [hvv]; exact cn⟩
    · rw [if_pos hp, if_pos hp, if_neg (show ¬ gN 470 < 12 by omega), if_neg (show ¬ gN 470 < 12 by omega)]
      exact ⟨h2.fr fr rfl, by omega, hvv⟩
    · rw [if_neg hp, if_neg hp]
      exact ⟨h2.fr fr rfl, by omega, hvv⟩
  exact ⟨v', e, H', trivial, ⟨wa, wb, hK.keep H' z rfl rfl, ⟨hTB.fr f rfl, hWD.fr f rfl, q0, q1, hVT.fr f rfl, hIM.fr f rfl⟩, by rw [f.1]; exact r1, by rw [f.2.1]; exact r2⟩, h1.fz H.m z rfl, cs.1, h3.fz H.m z rfl h3.1, h4.fr f rfl (h4.1.ctO (by have q := H.2 78 470 0 12 (rk_openmany (by omega)); rw [h2.2.2.1 470 (by unfold dAs; omega)] at q; omega)), cs.2.1, cs.2.2⟩
theorem W165 {base : Nat} {X : Nat → Option mC} {G : Nat → Value} (E : EnvOK base X G) {d : Nat} (hd : 1 ≤ d) {M : mH} (H : HI base M) (x : Int) (j : Int) (gs : Int) (gT : Int → Int) (gN : Int → Int) (ga : Int) (g0 : Int → Int) (gb : Int) (g1 : Int → Int) (gc : Int) (gC : Int → Int) (gl : Int) (gL : Int → Int) {ec : Int} {eC : Int → Int} {el : Int} {eL : Int → Int} {es : Int} {eT eN : Int → Int} {ea : Int} {e0 : Int → Int} {eb : Int} {e1 : Int → Int} (h0 : INVl base j M) (h1 : CSx base es eT eN ea e0 eb e1 M) (h2 : RSx gs gT gN ga g0 gb g1 M) (h3 : LXc eN e0 e1 ec eC el eL M) (h4 : LXr gN g0 g1 gc gC gl gL M) (b_x : -2147483648 ≤ x ∧ x ≤ 2147483647) : sOk base X G d T165 [vR 77, vI x] M (pI (fun v M' => HI base M' ∧ Ftr [(0, 0)] M M' ∧ (INVl base j M') ∧ (CSx base es eT eN ea e0 eb e1 M') ∧ (RSx gs gT (stN (PV x) gN 474 x) ga g0 gb g1 M') ∧ (LXc eN e0 e1 ec eC el eL M') ∧ (LXr (stN (PV x) gN 474 x) g0 g1 gc gC gl gL M') ∧ (-2147483648 ≤ v ∧ v ≤ 2147483647) ∧ (v = stV (PV x) gN 474))) := by
  obtain ⟨wa, wb, hK, hR, r1, r2⟩ := h0
  have hK2 := hK
  obtain ⟨hH, hB, hN, hI, hA, hZ, hS, ⟨wn, hn, hT, hG⟩, ha, hb⟩ := hK2
  have hR2 := hR
  obtain ⟨hTB, hWD, hLN, hGK, hVT, hIM⟩ := hR2
  have hs := h2.1
  refine sOk.imp (k165n E (by omega) H x hLN hGK (by omega)) ?_
  rintro v M' ⟨v', e, H', f, q0, q1, q2⟩
  have z := (f.q rfl).z
  have cs : RSx gs gT (stN (PV x) gN 474 x) ga g0 gb g1 M' ∧ (-2147483648 ≤ v' ∧ v' ≤ 2147483647) ∧ v' = stV (PV x) gN 474 := by
    rcases q2 with ⟨hp, hvv, M1, u, fa⟩ | ⟨hp, hvv, fr⟩
    · have hp2 := hp
      unfold PV at hp2
      have dj : dAs (474) := by unfold dAs; omega
      have bv := (H.1.int sc_78 (i := 474) (by omega) (by show _ < (6883 : Int); omega) rfl).2
      unfold inR at bv
      rw [stN_pos hp, stV_pos hp]
      have ww := (h2.wr u (by omega) rfl (by unfold inR; omega)).fr fa rfl
      exact ⟨ww, by omega, by rw [hvv]; exact h2.2.2.1 _ dj⟩
    · rw [stN_neg hp, stV_neg hp]
      have ww := h2.fr fr rfl
      exact ⟨ww, by omega, hvv⟩
  exact ⟨v', e, H', trivial, ⟨wa, wb, hK.keep H' z rfl rfl, ⟨hTB.fr f rfl, hWD.fr f rfl, q0, q1, hVT.fr f rfl, hIM.fr f rfl⟩, by rw [f.1]; exact r1, by rw [f.2.1]; exact r2⟩, h1.fz H.m z rfl, cs.1, h3.fz H.m z rfl h3.1, h4.fr f rfl (h4.1.st (fun hp => by unfold PV at hp; omega)), cs.2.1, cs.2.2⟩
theorem W167 {base : Nat} {X : Nat → Option mC} {G : Nat → Value} (E : EnvOK base X G) {d : Nat} (hd : 2 ≤ d) {M : mH} (H : HI base M) (xa : Int) (xb : Int) (xc : Int) (j : Int) (gs : Int) (gT : Int → Int) (gN : Int → Int) (ga : Int) (g0 : Int → Int) (gb : Int) (g1 : Int → Int) (gc : Int) (gC : Int → Int) (gl : Int) (gL : Int → Int) {ec : Int} {eC : Int → Int} {el : Int} {eL : Int → Int} {es : Int} {eT eN : Int → Int} {ea : Int} {e0 : Int → Int} {eb : Int} {e1 : Int → Int} (h0 : INVl base j M) (h1 : CSx base es eT eN ea e0 eb e1 M) (h2 : RSx gs gT gN ga g0 gb g1 M) (h3 : LXc eN e0 e1 ec eC el eL M) (h4 : LXr gN g0 g1 gc gC gl gL M) (b_xa : -2147483648 ≤ xa ∧ xa ≤ 2147483647) (b_xb : -2147483648 ≤ xb ∧ xb ≤ 2147483647) (b_xc : -2147483648 ≤ xc ∧ xc ≤ 2147483647) : sOk base X G d T167 [vR 77, vI xa, vI xb, vI xc] M (pI (fun v M' => HI base M' ∧ Ftr [(0, 0)] M M' ∧ (INVl base j M') ∧ (CSx base es eT eN ea e0 eb e1 M') ∧ (RSx 0 gT (seN gT gN gs xa xb xc) ga g0 gb g1 M') ∧ (LXc eN e0 e1 ec eC el eL M') ∧ (LXr (seN gT gN gs xa xb xc) g0 g1 gc gC gl gL M') ∧ (-2147483648 ≤ v ∧ v ≤ 2147483647) ∧ (v = seV gT gN gs xa xb xc))) := by
  obtain ⟨wa, wb, hK, hR, r1, r2⟩ := h0
  have hK2 := hK
  obtain ⟨hH, hB, hN, hI, hA, hZ, hS, ⟨wn, hn, hT, hG⟩, ha, hb⟩ := hK2
  have hR2 := hR
  obtain ⟨hTB, hWD, hLN, hGK, hVT, hIM⟩ := hR2
  have hs := h2.1
  refine sOk.imp (k167n E (by omega) H xa xb xc hLN hGK (by omega) (by omega) (by omega)) ?_
  rintro v M' ⟨v', e, H', f, q0, q1, q2, q3⟩
  have z := (f.q rfl).z
  have cs := h2.sen H f rfl q2 q3
  exact ⟨v', e, H', trivial, ⟨wa, wb, hK.keep H' z rfl rfl, ⟨hTB.fr f rfl, hWD.fr f rfl, q0, q1, hVT.fr f rfl, hIM.fr f rfl⟩, by rw [f.1]; exact r1, by rw [f.2.1]; exact r2⟩, h1.fz H.m z rfl, cs.1, h3.fz H.m z rfl h3.1, h4.fr f rfl (h4.1.se (by have q := H.2 78 469 0 16 (rk_many (by omega)); rw [h2.2.2.1 469 (by unfold dAs; omega)] at q; omega)), cs.2.1, cs.2.2⟩
theorem W168 {base : Nat} {X : Nat → Option mC} {G : Nat → Value} (E : EnvOK base X G) {d : Nat} (hd : 2 ≤ d) {M : mH} (H : HI base M) (xs : Int) (xp : Int) (xw : Int) (j : Int) (gs : Int) (gT : Int → Int) (gN : Int → Int) (ga : Int) (g0 : Int → Int) (gb : Int) (g1 : Int → Int) (gc : Int) (gC : Int → Int) (gl : Int) (gL : Int → Int) {ec : Int} {eC : Int → Int} {el : Int} {eL : Int → Int} {es : Int} {eT eN : Int → Int} {ea : Int} {e0 : Int → Int} {eb : Int} {e1 : Int → Int} (h0 : INVl base j M) (h1 : CSx base es eT eN ea e0 eb e1 M) (h2 : RSx gs gT gN ga g0 gb g1 M) (h3 : LXc eN e0 e1 ec eC el eL M) (h4 : LXr gN g0 g1 gc gC gl gL M) (b_xs : -2147483648 ≤ xs ∧ xs ≤ 2147483647) (b_xp : -2147483648 ≤ xp ∧ xp ≤ 2147483647) (b_xw : -2147483648 ≤ xw ∧ xw ≤ 2147483647) : sOk base X G d T168 [vR 77, vI xs, vI xp, vI xw] M (pI (fun v M' => HI base M' ∧ Ftr [(0, 0)] M M' ∧ (INVl base j M') ∧ (CSx base es eT eN ea e0 eb e1 M') ∧ (RSx gs gT (stN (GV (gN 469) xs xp xw) gN (147 + 16 * xs + xp) xw) ga g0 gb g1 M') ∧ (LXc eN e0 e1 ec eC el eL M') ∧ (LXr (stN (GV (gN 469) xs xp xw) gN (147 + 16 * xs + xp) xw) g0 g1 gc gC gl gL M'))) := by
  obtain ⟨wa, wb, hK, hR, r1, r2⟩ := h0
  have hK2 := hK
  obtain ⟨hH, hB, hN, hI, hA, hZ, hS, ⟨wn, hn, hT, hG⟩, ha, hb⟩ := hK2
  have hR2 := hR
  obtain ⟨hTB, hWD, hLN, hGK, hVT, hIM⟩ := hR2
  have hs := h2.1
  refine sOk.imp (k168n E (by omega) H xs xp xw hLN hGK (by omega) (by omega) (by omega)) ?_
  rintro v M' ⟨v', e, H', f, q0, q1, q2⟩
  have z := (f.q rfl).z
  have cs : RSx gs gT (stN (GV (gN 469) xs xp xw) gN (147 + 16 * xs + xp) xw) ga g0 gb g1 M' := by
    have en : gi M 78 469 = gN 469 := h2.2.2.1 469 (by unfold dAs; omega)
    rw [en] at q2
    have bn : 0 ≤ gi M 78 469 ∧ gi M 78 469 ≤ 16 := H.2 78 469 0 16 (rk_many (by omega))
    rw [en] at bn
    rcases q2 with ⟨hp, hvv, M1, u, fa⟩ | ⟨hp, hvv, fr⟩
    · have hp2 := hp
      unfold GV at hp2
      have dj : dAs (147 + 16 * xs + xp) := by unfold dAs; omega
      have bv := (H.1.int sc_78 (i := 147 + 16 * xs + xp) (by omega) (by show _ < (6883 : Int); omega) rfl).2
      unfold inR at bv
      rw [stN_pos hp]
      have ww := (h2.wr u (by omega) rfl (by unfold inR; omega)).fr fa rfl
      exact ww
    · rw [stN_neg hp]
      have ww := h2.fr fr rfl
      exact ww
  exact ⟨v', e, H', trivial, ⟨wa, wb, hK.keep H' z rfl rfl, ⟨hTB.fr f rfl, hWD.fr f rfl, q0, q1, hVT.fr f rfl, hIM.fr f rfl⟩, by rw [f.1]; exact r1, by rw [f.2.1]; exact r2⟩, h1.fz H.m z rfl, cs, h3.fz H.m z rfl h3.1, h4.fr f rfl (h4.1.st (fun hp => by have q := H.2 78 469 0 16 (rk_many (by omega)); rw [h2.2.2.1 469 (by unfold dAs; omega)] at q; unfold GV at hp; omega))⟩
theorem W169 {base : Nat} {X : Nat → Option mC} {G : Nat → Value} (E : EnvOK base X G) {d : Nat} (hd : 2 ≤ d) {M : mH} (H : HI base M) (xs : Int) (xi : Int) (j : Int) (gs : Int) (gT : Int → Int) (gN : Int → Int) (ga : Int) (g0 : Int → Int) (gb : Int) (g1 : Int → Int) (gc : Int) (gC : Int → Int) (gl : Int) (gL : Int → Int) {ec : Int} {eC : Int → Int} {el : Int} {eL : Int → Int} {es : Int} {eT eN : Int → Int} {ea : Int} {e0 : Int → Int} {eb : Int} {e1 : Int → Int} (h0 : INVl base j M) (h1 : CSx base es eT eN ea e0 eb e1 M) (h2 : RSx gs gT gN ga g0 gb g1 M) (h3 : LXc eN e0 e1 ec eC el eL M) (h4 : LXr gN g0 g1 gc gC gl gL M) (b_xs : -2147483648 ≤ xs ∧ xs ≤ 2147483647) (b_xi : -2147483648 ≤ xi ∧ xi ≤ 2147483647) : sOk base X G d T169 [vR 77, vI xs, vI xi] M (pI (fun v M' => HI base M' ∧ Ftr [(0, 0)] M M' ∧ (INVl base j M') ∧ (CSx base es eT eN ea e0 eb e1 M') ∧ (RSx gs gT gN ga g0 gb g1 M') ∧ (LXc eN e0 e1 ec eC el eL M') ∧ (LXr gN g0 g1 gc gC gl gL M') ∧ (-2147483648 ≤ v ∧ v ≤ 2147483647) ∧ (v = rwV gN xs xi))) := by
  obtain ⟨wa, wb, hK, hR, r1, r2⟩ := h0
  have hK2 := hK
  obtain ⟨hH, hB, hN, hI, hA, hZ, hS, ⟨wn, hn, hT, hG⟩, ha, hb⟩ := hK2
  have hR2 := hR
  obtain ⟨hTB, hWD, hLN, hGK, hVT, hIM⟩ := hR2
  have hs := h2.1
  refine sOk.imp (k169n E (by omega) H xs xi (gi M 78) (fun _ => rfl) (by omega) (by omega)) ?_
  rintro v M' ⟨v', e, rfl, q0, q1, q2, q3⟩
  have vv := (⟨q0, h2.row (by have := H.2 78 469 0 16 (rk_many (by omega)); omega) (fun a b => (H.2 78 (135 + 16 * xs) 0 8 (rk_len (by omega))).2) q1 q2 q3⟩ : _ ∧ v' = rwV gN xs xi)
  exact ⟨v', e, H, trivial, ⟨wa, wb, hK, hR, by omega, by omega⟩, h1, h2, h3, h4, vv⟩
theorem W177 {base : Nat} {X : Nat → Option mC} {G : Nat → Value} (E : EnvOK base X G) {d : Nat} (hd : 3 ≤ d) {M : mH} (H : HI base M) (xs : Int) (xl : Int) (j : Int) (gs : Int) (gT : Int → Int) (gN : Int → Int) (ga : Int) (g0 : Int → Int) (gb : Int) (g1 : Int → Int) (gc : Int) (gC : Int → Int) (gl : Int) (gL : Int → Int) {ec : Int} {eC : Int → Int} {el : Int} {eL : Int → Int} {es : Int} {eT eN : Int → Int} {ea : Int} {e0 : Int → Int} {eb : Int} {e1 : Int → Int} (h0 : INVl base j M) (h1 : CSx base es eT eN ea e0 eb e1 M) (h2 : RSx gs gT gN ga g0 gb g1 M) (h3 : LXc eN e0 e1 ec eC el eL M) (h4 : LXr gN g0 g1 gc gC gl gL M) (b_xs : -2147483648 ≤ xs ∧ xs ≤ 2147483647) (b_xl : -2147483648 ≤ xl ∧ xl ≤ 2147483647) : sOk base X G d T177 [vR 77, vI xs, vI xl] M (pI (fun v M' => HI base M' ∧ Ftr [(0, 0)] M M' ∧ (INVl base j M') ∧ (CSx base es eT eN ea e0 eb e1 M') ∧ (RSx gs gT gN ga g0 gb g1 M') ∧ (LXc eN e0 e1 ec eC el eL M') ∧ (LXr gN g0 g1 gc gC gl gL M') ∧ (-2147483648 ≤ v ∧ v ≤ 2147483647) ∧ (v = fxV gN xs xl))) := by
  obtain ⟨wa, wb, hK, hR, r1, r2⟩ := h0
  have hR2 := hR
  obtain ⟨hTB, hWD, hLN, hGK, hVT, hIM⟩ := hR2
  refine sOk.imp (k177g E (by omega) H xs xl (gi M 78) (fun _ => rfl) (by omega) (by omega)) ?_
  rintro v M' ⟨v', e, rfl, q0, q1⟩
  exact ⟨v', e, H, trivial, ⟨wa, wb, hK, hR, by omega, by omega⟩, h1, h2, h3, h4, q0, h2.fx H q1⟩
theorem W179 {base : Nat} {X : Nat → Option mC} {G : Nat → Value} (E : EnvOK base X G) {d : Nat} (hd : 3 ≤ d) {M : mH} (H : HI base M) (xs : Int) (xn : Int) (xl : Int) (xv : Int) (xp : Int) (j : Int) (gs : Int) (gT : Int → Int) (gN : Int → Int) (ga : Int) (g0 : Int → Int) (gb : Int) (g1 : Int → Int) (gc : Int) (gC : Int → Int) (gl : Int) (gL : Int → Int) {ec : Int} {eC : Int → Int} {el : Int} {eL : Int → Int} {es : Int} {eT eN : Int → Int} {ea : Int} {e0 : Int → Int} {eb : Int} {e1 : Int → Int} (h0 : INVl base j M) (h1 : CSx base es eT eN ea e0 eb e1 M) (h2 : RSx gs gT gN ga g0 gb g1 M) (h3 : LXc eN e0 e1 ec eC el eL M) (h4 : LXr gN g0 g1 gc gC gl gL M) (b_xs : -2147483648 ≤ xs ∧ xs ≤ 2147483647) (b_xn : -2147483648 ≤ xn ∧ xn ≤ 2147483647) (b_xl : -2147483648 ≤ xl ∧ xl ≤ 2147483647) (b_xv : -2147483648 ≤ xv ∧ xv ≤ 2147483647) (b_xp : -2147483648 ≤ xp ∧ xp ≤ 2147483647) : sOk base X G d T179 [vR 77, vI xs, vI xn, vI xl, vI xv, vI xp] M (pI (fun v M' => HI base M' ∧ Ftr [(0, 0)] M M' ∧ (INVl base j M') ∧ (CSx base es eT eN ea e0 eb e1 M') ∧ (RSx gs gT gN ga g0 gb g1 M') ∧ (LXc eN e0 e1 ec eC el eL M') ∧ (LXr gN g0 g1 gc gC gl gL M') ∧ (-2147483648 ≤ v ∧ v ≤ 2147483647) ∧ (v = odV gN xs xn xl xv xp))) := by
  obtain ⟨wa, wb, hK, hR, r1, r2⟩ := h0
  have hR2 := hR
  obtain ⟨hTB, hWD, hLN, hGK, hVT, hIM⟩ := hR2
  refine sOk.imp (k179g E (by omega) H xs xn xl xv xp (gi M 78) (fun _ => rfl) (by omega) (by omega) (by omega) (by omega) (by omega)) ?_
  rintro v M' ⟨v', e, rfl, q0, q1⟩
  exact ⟨v', e, H, trivial, ⟨wa, wb, hK, hR, by omega, by omega⟩, h1, h2, h3, h4, q0, h2.od H q1⟩
theorem W181 {base : Nat} {X : Nat → Option mC} {G : Nat → Value} (E : EnvOK base X G) {d : Nat} (hd : 3 ≤ d) {M : mH} (H : HI base M) (s : Int) (n : Int) (slot : Int) (j : Int) (gs : Int) (gT : Int → Int) (gN : Int → Int) (ga : Int) (g0 : Int → Int) (gb : Int) (g1 : Int → Int) (gc : Int) (gC : Int → Int) (gl : Int) (gL : Int → Int) {ec : Int} {eC : Int → Int} {el : Int} {eL : Int → Int} {es : Int} {eT eN : Int → Int} {ea : Int} {e0 : Int → Int} {eb : Int} {e1 : Int → Int} (h0 : INVl base j M) (h1 : CSx base es eT eN ea e0 eb e1 M) (h2 : RSx gs gT gN ga g0 gb g1 M) (h3 : LXc eN e0 e1 ec eC el eL M) (h4 : LXr gN g0 g1 gc gC gl gL M) (b_s : -2147483648 ≤ s ∧ s ≤ 2147483647) (b_n : -2147483648 ≤ n ∧ n ≤ 2147483647) (b_slot : -2147483648 ≤ slot ∧ slot ≤ 2147483647) : sOk base X G d T181 [vR 77, vI s, vI n, vI slot] M (pI (fun v M' => HI base M' ∧ Ftr [(0, 0)] M M' ∧ (INVl base j M') ∧ (CSx base es eT eN ea e0 eb e1 M') ∧ (RSx gs gT gN ga g0 gb g1 M') ∧ (LXc eN e0 e1 ec eC el eL M') ∧ (LXr gN g0 g1 gc gC gl gL M'))) := by
  obtain ⟨wa, wb, hK, hR, r1, r2⟩ := h0
  have hK2 := hK
  obtain ⟨hH, hB, hN, hI, hA, hZ, hS, ⟨wn, hn, hT, hG⟩, ha, hb⟩ := hK2
  have hR2 := hR
  obtain ⟨hTB, hWD, hLN, hGK, hVT, hIM⟩ := hR2
  have hs := h2.1
  refine sOk.imp (k181 E (by omega) H s n slot (by omega) (by omega) (by omega)) ?_
  rintro v M' ⟨v', e, rfl, -⟩
  exact ⟨v', e, H, trivial, ⟨wa, wb, hK, hR, by omega, by omega⟩, h1, h2, h3, h4⟩
theorem W202 {base : Nat} {X : Nat → Option mC} {G : Nat → Value} (E : EnvOK base X G) {d : Nat} (hd : 7 ≤ d) {M : mH} (H : HI base M) (j : Int) (gs : Int) (gT : Int → Int) (gN : Int → Int) (ga : Int) (g0 : Int → Int) (gb : Int) (g1 : Int → Int) (gc : Int) (gC : Int → Int) (gl : Int) (gL : Int → Int) {ec : Int} {eC : Int → Int} {el : Int} {eL : Int → Int} {es : Int} {eT eN : Int → Int} {ea : Int} {e0 : Int → Int} {eb : Int} {e1 : Int → Int} (h0 : INVl base j M) (h1 : CSx base es eT eN ea e0 eb e1 M) (h2 : RSx gs gT gN ga g0 gb g1 M) (h3 : LXc eN e0 e1 ec eC el eL M) (h4 : LXr gN g0 g1 gc gC gl gL M) : sOk base X G d T202 [vR 77] M (pL (fun v M' => HI base M' ∧ Ftr [(0, 0)] M M' ∧ (INVl base j M') ∧ (CSx base es eT eN ea e0 eb e1 M') ∧ (RSx gs gT gN ga g0 gb g1 M') ∧ (LXc eN e0 e1 ec eC el eL M') ∧ (LXr gN g0 g1 gc gC gl gL M'))) := by
  obtain ⟨wa, wb, hK, hR, r1, r2⟩ := h0
  have hK2 := hK
  obtain ⟨hH, hB, hN, hI, hA, hZ, hS, ⟨wn, hn, hT, hG⟩, ha, hb⟩ := hK2
  have hR2 := hR
  obtain ⟨hTB, hWD, hLN, hGK, hVT, hIM⟩ := hR2
  have hs := h2.1
  refine sOk.imp (k202k E (by omega) H (gi M 78) hTB hLN (fun _ => rfl) hVT) ?_
  rintro v M' ⟨v', e, H', f, q0⟩
  have z := (f.q rfl).z
  exact ⟨v', e, H', trivial, ⟨wa, wb, hK.keep H' z rfl rfl, ⟨hTB.fr f rfl, hWD.fr f rfl, hLN.fr f rfl, hGK.fr f rfl, q0, hIM.fr f rfl⟩, by rw [f.1]; exact r1, by rw [f.2.1]; exact r2⟩, h1.fz H.m z rfl, h2.fr f rfl, h3.fz H.m z rfl h3.1, h4.fr f rfl h4.1⟩
theorem W204 {base : Nat} {X : Nat → Option mC} {G : Nat → Value} (E : EnvOK base X G) {d : Nat} (hd : 2 ≤ d) {M : mH} (H : HI base M) (s : Int) (second : Int) (said : Int) (j : Int) (gs : Int) (gT : Int → Int) (gN : Int → Int) (ga : Int) (g0 : Int → Int) (gb : Int) (g1 : Int → Int) (gc : Int) (gC : Int → Int) (gl : Int) (gL : Int → Int) {ec : Int} {eC : Int → Int} {el : Int} {eL : Int → Int} {es : Int} {eT eN : Int → Int} {ea : Int} {e0 : Int → Int} {eb : Int} {e1 : Int → Int} (h0 : INVl base j M) (h1 : CSx base es eT eN ea e0 eb e1 M) (h2 : RSx gs gT gN ga g0 gb g1 M) (h3 : LXc eN e0 e1 ec eC el eL M) (h4 : LXr gN g0 g1 gc gC gl gL M) (b_s : -2147483648 ≤ s ∧ s ≤ 2147483647) (b_second : -2147483648 ≤ second ∧ second ≤ 2147483647) (b_said : -2147483648 ≤ said ∧ said ≤ 2147483647) : sOk base X G d T204 [vR 77, vI s, vI second, vI said] M (pI (fun v M' => HI base M' ∧ Ftr [(0, 0)] M M' ∧ (INVl base j M') ∧ (CSx base es eT eN ea e0 eb e1 M') ∧ (RSx gs gT gN ga g0 gb g1 M') ∧ (LXc eN e0 e1 ec eC el eL M') ∧ (LXr gN g0 g1 gc gC gl gL M'))) := by
  obtain ⟨wa, wb, hK, hR, r1, r2⟩ := h0
  have hK2 := hK
  obtain ⟨hH, hB, hN, hI, hA, hZ, hS, ⟨wn, hn, hT, hG⟩, ha, hb⟩ := hK2
  have hR2 := hR
  obtain ⟨hTB, hWD, hLN, hGK, hVT, hIM⟩ := hR2
  have hs := h2.1
  refine sOk.imp (k204 E (by omega) H s second said (by omega) (by omega) (by omega)) ?_
  rintro v M' ⟨v', e, rfl, -⟩
  exact ⟨v', e, H, trivial, ⟨wa, wb, hK, hR, by omega, by omega⟩, h1, h2, h3, h4⟩
theorem W205 {base : Nat} {X : Nat → Option mC} {G : Nat → Value} (E : EnvOK base X G) {d : Nat} (hd : 2 ≤ d) {M : mH} (H : HI base M) (s : Int) (second : Int) (j : Int) (gs : Int) (gT : Int → Int) (gN : Int → Int) (ga : Int) (g0 : Int → Int) (gb : Int) (g1 : Int → Int) (gc : Int) (gC : Int → Int) (gl : Int) (gL : Int → Int) {ec : Int} {eC : Int → Int} {el : Int} {eL : Int → Int} {es : Int} {eT eN : Int → Int} {ea : Int} {e0 : Int → Int} {eb : Int} {e1 : Int → Int} (h0 : INVl base j M) (h1 : CSx base es eT eN ea e0 eb e1 M) (h2 : RSx gs gT gN ga g0 gb g1 M) (h3 : LXc eN e0 e1 ec eC el eL M) (h4 : LXr gN g0 g1 gc gC gl gL M) (b_s : -2147483648 ≤ s ∧ s ≤ 2147483647) (b_second : -2147483648 ≤ second ∧ second ≤ 2147483647) : sOk base X G d T205 [vR 77, vI s, vI second] M (pI (fun v M' => HI base M' ∧ Ftr [(0, 0)] M M' ∧ (INVl base j M') ∧ (CSx base es eT eN ea e0 eb e1 M') ∧ (RSx gs gT gN ga g0 gb g1 M') ∧ (LXc eN e0 e1 ec eC el eL M') ∧ (LXr gN g0 g1 gc gC gl gL M'))) := by
  obtain ⟨wa, wb, hK, hR, r1, r2⟩ := h0
  have hK2 := hK
  obtain ⟨hH, hB, hN, hI, hA, hZ, hS, ⟨wn, hn, hT, hG⟩, ha, hb⟩ := hK2
  have hR2 := hR
  obtain ⟨hTB, hWD, hLN, hGK, hVT, hIM⟩ := hR2
  have hs := h2.1
  refine sOk.imp (k205 E (by omega) H s second (by omega) (by omega)) ?_
  rintro v M' ⟨v', e, rfl, -⟩
  exact ⟨v', e, H, trivial, ⟨wa, wb, hK, hR, by omega, by omega⟩, h1, h2, h3, h4⟩
theorem W210 {base : Nat} {X : Nat → Option mC} {G : Nat → Value} (E : EnvOK base X G) {d : Nat} (hd : 0 ≤ d) {M : mH} (H : HI base M) (xa : Int) (xb : Int) (xc : Int) (xd : Int) (xe : Int) (j : Int) (gs : Int) (gT : Int → Int) (gN : Int → Int) (ga : Int) (g0 : Int → Int) (gb : Int) (g1 : Int → Int) (gc : Int) (gC : Int → Int) (gl : Int) (gL : Int → Int) {ec : Int} {eC : Int → Int} {el : Int} {eL : Int → Int} {es : Int} {eT eN : Int → Int} {ea : Int} {e0 : Int → Int} {eb : Int} {e1 : Int → Int} (h0 : INVl base j M) (h1 : CSx base es eT eN ea e0 eb e1 M) (h2 : RSx gs gT gN ga g0 gb g1 M) (h3 : LXc eN e0 e1 ec eC el eL M) (h4 : LXr gN g0 g1 gc gC gl gL M) (b_xa : -2147483648 ≤ xa ∧ xa ≤ 2147483647) (b_xb : -2147483648 ≤ xb ∧ xb ≤ 2147483647) (b_xc : -2147483648 ≤ xc ∧ xc ≤ 2147483647) (b_xd : -2147483648 ≤ xd ∧ xd ≤ 2147483647) (b_xe : -2147483648 ≤ xe ∧ xe ≤ 2147483647) : sOk base X G d T210 [vR 77, vI xa, vI xb, vI xc, vI xd, vI xe] M (pI (fun v M' => HI base M' ∧ Ftr [(0, 0)] M M' ∧ (INVl base j M') ∧ (CSx base es eT eN ea e0 eb e1 M') ∧ (RSx (fdS gs) (fdT gT gs xa xb xc xd xe) gN ga g0 gb g1 M') ∧ (LXc eN e0 e1 ec eC el eL M') ∧ (LXr gN g0 g1 gc gC gl gL M') ∧ (-2147483648 ≤ v ∧ v ≤ 2147483647) ∧ (v = fdV gs))) := by
  obtain ⟨wa, wb, hK, hR, r1, r2⟩ := h0
  have hK2 := hK
  obtain ⟨hH, hB, hN, hI, hA, hZ, hS, ⟨wn, hn, hT, hG⟩, ha, hb⟩ := hK2
  have hR2 := hR
  obtain ⟨hTB, hWD, hLN, hGK, hVT, hIM⟩ := hR2
  have hs := h2.1
  refine sOk.imp (k210n E (by omega) H xa xb xc xd xe (by omega) (by omega) (by omega) (by omega) (by omega)) ?_
  rintro v M' ⟨v', e, H', f, q0, q1, q2, q3, q4⟩
  have z := (f.q rfl).z
  have cs : RSx (fdS gs) (fdT gT gs xa xb xc xd xe) gN ga g0 gb g1 M' := by
    unfold fdS fdT
    by_cases c : gs ≤ 380
    · rw [if_pos c, if_pos c]
      refine h2.fed f rfl (by omega) (fun i p q => ?_)
      rw [q3 (by omega) i p, hs]
      exact fdN_cong (h2.2.1 i p q)
    · rw [if_neg c, if_neg c]
      exact h2.fed f rfl (by omega) (fun i p q => by rw [q4 (by omega) i]; exact h2.2.1 i p q)
  exact ⟨v', e, H', trivial, ⟨wa, wb, hK.keep H' z rfl rfl, ⟨hTB.fr f rfl, hWD.fr f rfl, hLN.fr f rfl, hGK.fr f rfl, hVT.fr f rfl, hIM.fr f rfl⟩, by rw [f.1]; exact r1, by rw [f.2.1]; exact r2⟩, h1.fz H.m z rfl, cs, h3.fz H.m z rfl h3.1, h4.fr f rfl h4.1, q0, (by unfold fdV; split <;> omega)⟩
theorem W211 {base : Nat} {X : Nat → Option mC} {G : Nat → Value} (E : EnvOK base X G) {d : Nat} (hd : 1 ≤ d) {M : mH} (H : HI base M) (n : Int) (j : Int) (gs : Int) (gT : Int → Int) (gN : Int → Int) (ga : Int) (g0 : Int → Int) (gb : Int) (g1 : Int → Int) (gc : Int) (gC : Int → Int) (gl : Int) (gL : Int → Int) {ec : Int} {eC : Int → Int} {el : Int} {eL : Int → Int} {es : Int} {eT eN : Int → Int} {ea : Int} {e0 : Int → Int} {eb : Int} {e1 : Int → Int} (h0 : INVl base j M) (h1 : CSx base es eT eN ea e0 eb e1 M) (h2 : RSx gs gT gN ga g0 gb g1 M) (h3 : LXc eN e0 e1 ec eC el eL M) (h4 : LXr gN g0 g1 gc gC gl gL M) (b_n : -2147483648 ≤ n ∧ n ≤ 2147483647) : sOk base X G d T211 [vR 77, vI n] M (pI (fun v M' => HI base M' ∧ Ftr [(0, 0)] M M' ∧ (INVl base j M') ∧ (CSx base es eT eN ea e0 eb e1 M') ∧ (RSx (enS gs n) gT gN ga g0 gb g1 M') ∧ (LXc eN e0 e1 ec eC el eL M') ∧ (LXr gN g0 g1 gc gC gl gL M') ∧ (-2147483648 ≤ v ∧ v ≤ 2147483647) ∧ (v = enV gs n))) := by
  obtain ⟨wa, wb, hK, hR, r1, r2⟩ := h0
  have hK2 := hK
  obtain ⟨hH, hB, hN, hI, hA, hZ, hS, ⟨wn, hn, hT, hG⟩, ha, hb⟩ := hK2
  have hR2 := hR
  obtain ⟨hTB, hWD, hLN, hGK, hVT, hIM⟩ := hR2
  have hs := h2.1
  refine sOk.imp (k211e E (by omega) H n (by omega)) ?_
  rintro v M' ⟨v', e, H', f, q0, q1, q2⟩
  have z := (f.q rfl).z
  exact ⟨v', e, H', trivial, ⟨wa, wb, hK.keep H' z rfl rfl, ⟨hTB.fr f rfl, hWD.fr f rfl, hLN.fr f rfl, hGK.fr f rfl, hVT.fr f rfl, hIM.fr f rfl⟩, by rw [f.1]; exact r1, by rw [f.2.1]; exact r2⟩, h1.fz H.m z rfl, h2.tape f rfl (by unfold enS; split <;> omega), h3.fz H.m z rfl h3.1, h4.fr f rfl h4.1, q0, (by unfold enV; split <;> omega)⟩
theorem W230 {base : Nat} {X : Nat → Option mC} {G : Nat → Value} (E : EnvOK base X G) {d : Nat} (hd : 60 ≤ d) {M : mH} (H : HI base M) (j : Int) (gs : Int) (gT : Int → Int) (gN : Int → Int) (ga : Int) (g0 : Int → Int) (gb : Int) (g1 : Int → Int) (gc : Int) (gC : Int → Int) (gl : Int) (gL : Int → Int) {ec : Int} {eC : Int → Int} {el : Int} {eL : Int → Int} {es : Int} {eT eN : Int → Int} {ea : Int} {e0 : Int → Int} {eb : Int} {e1 : Int → Int} (h0 : INVl base j M) (h1 : CSx base es eT eN ea e0 eb e1 M) (h2 : RSx gs gT gN ga g0 gb g1 M) (h3 : LXc eN e0 e1 ec eC el eL M) (h4 : LXr gN g0 g1 gc gC gl gL M) : sOk base X G d T230 [vR 77] M (pI (fun v M' => HI base M' ∧ Ftr [(0, 0)] M M' ∧ (INVl base j M') ∧ (CSx base es eT eN ea e0 eb e1 M') ∧ (RSx 0 gT gN ga g0 gb g1 M') ∧ (LXc eN e0 e1 ec eC el eL M') ∧ (LXr gN g0 g1 gc gC gl gL M'))) := by
  obtain ⟨wa, wb, hK, hR, r1, r2⟩ := h0
  have hK2 := hK
  obtain ⟨hH, hB, hN, hI, hA, hZ, hS, ⟨wn, hn, hT, hG⟩, ha, hb⟩ := hK2
  have hR2 := hR
  obtain ⟨hTB, hWD, hLN, hGK, hVT, hIM⟩ := hR2
  have hs := h2.1
  refine sOk.imp (k230n E (by omega) H  hWD hLN hGK) ?_
  rintro v M' ⟨v', e, H', f, q0, q1, q2, q3⟩
  have z := (f.q rfl).z
  exact ⟨v', e, H', trivial, ⟨wa, wb, hK.keep H' z rfl rfl, ⟨hTB.fr f rfl, hWD.fr f rfl, q0, q1, hVT.fr f rfl, hIM.fr f rfl⟩, by rw [f.1]; exact r1, by rw [f.2.1]; exact r2⟩, h1.fz H.m z rfl, h2.kn f rfl q2 (fun j hj => (q3 j hj).trans (h2.2.2.1 j hj)), h3.fz H.m z rfl h3.1, h4.fr f rfl h4.1⟩
theorem W231 {base : Nat} {X : Nat → Option mC} {G : Nat → Value} (E : EnvOK base X G) {d : Nat} (hd : 0 ≤ d) {M : mH} (H : HI base M) (j : Int) (gs : Int) (gT : Int → Int) (gN : Int → Int) (ga : Int) (g0 : Int → Int) (gb : Int) (g1 : Int → Int) (gc : Int) (gC : Int → Int) (gl : Int) (gL : Int → Int) {ec : Int} {eC : Int → Int} {el : Int} {eL : Int → Int} {es : Int} {eT eN : Int → Int} {ea : Int} {e0 : Int → Int} {eb : Int} {e1 : Int → Int} (h0 : INVl base j M) (h1 : CSx base es eT eN ea e0 eb e1 M) (h2 : RSx gs gT gN ga g0 gb g1 M) (h3 : LXc eN e0 e1 ec eC el eL M) (h4 : LXr gN g0 g1 gc gC gl gL M) : sOk base X G d T231 [vR 77] M (pI (fun v M' => HI base M' ∧ Ftr [(0, 0)] M M' ∧ (INVl base j M') ∧ (CSx base es eT eN ea e0 eb e1 M') ∧ (RSx gs gT gN ga g0 gb g1 M') ∧ (LXc eN e0 e1 ec eC el eL M') ∧ (LXr gN g0 g1 gc gC gl gL M'))) := by
  obtain ⟨wa, wb, hK, hR, r1, r2⟩ := h0
  have hK2 := hK
  obtain ⟨hH, hB, hN, hI, hA, hZ, hS, ⟨wn, hn, hT, hG⟩, ha, hb⟩ := hK2
  have hR2 := hR
  obtain ⟨hTB, hWD, hLN, hGK, hVT, hIM⟩ := hR2
  have hs := h2.1
  refine sOk.imp (k231 E (by omega) H  ) ?_
  rintro v M' ⟨v', e, rfl, -⟩
  exact ⟨v', e, H, trivial, ⟨wa, wb, hK, hR, by omega, by omega⟩, h1, h2, h3, h4⟩
theorem W248 {base : Nat} {X : Nat → Option mC} {G : Nat → Value} (E : EnvOK base X G) {d : Nat} (hd : 70 ≤ d) {M : mH} (H : HI base M) (text : Int) (s : Int) (j : Int) (gs : Int) (gT : Int → Int) (gN : Int → Int) (ga : Int) (g0 : Int → Int) (gb : Int) (g1 : Int → Int) (gc : Int) (gC : Int → Int) (gl : Int) (gL : Int → Int) {ec : Int} {eC : Int → Int} {el : Int} {eL : Int → Int} {es : Int} {eT eN : Int → Int} {ea : Int} {e0 : Int → Int} {eb : Int} {e1 : Int → Int} (h0 : INVl base j M) (h1 : CSx base es eT eN ea e0 eb e1 M) (h2 : RSx gs gT gN ga g0 gb g1 M) (h3 : LXc eN e0 e1 ec eC el eL M) (h4 : LXr gN g0 g1 gc gC gl gL M) (b_text : -2147483648 ≤ text ∧ text ≤ 2147483647) (b_s : -2147483648 ≤ s ∧ s ≤ 2147483647) : sOk base X G d T248 [vR 77, vI text, vI s] M (pI (fun v M' => HI base M' ∧ Ftr [(0, 0)] M M' ∧ (INVl base j M') ∧ (CSx base es eT eN ea e0 eb e1 M') ∧ (RSx gs gT gN ga g0 gb g1 M') ∧ (LXc eN e0 e1 ec eC el eL M') ∧ (LXr gN g0 g1 gc gC gl gL M'))) := by
  obtain ⟨wa, wb, hK, hR, r1, r2⟩ := h0
  have hK2 := hK
  obtain ⟨hH, hB, hN, hI, hA, hZ, hS, ⟨wn, hn, hT, hG⟩, ha, hb⟩ := hK2
  have hR2 := hR
  obtain ⟨hTB, hWD, hLN, hGK, hVT, hIM⟩ := hR2
  have hs := h2.1
  refine sOk.imp (k248k E (by omega) H text s (gi M 78) hTB (fun _ => rfl) hGK (by omega) (by omega)) ?_
  rintro v M' ⟨v', e, H', f, q0⟩
  have z := (f.q rfl).z
  exact ⟨v', e, H', trivial, ⟨wa, wb, hK.keep H' z rfl rfl, ⟨hTB.fr f rfl, hWD.fr f rfl, hLN.fr f rfl, hGK.fr f rfl, hVT.fr f rfl, hIM.fr f rfl⟩, by rw [f.1]; exact r1, by rw [f.2.1]; exact r2⟩, h1.fz H.m z rfl, h2.fr f rfl, h3.fz H.m z rfl h3.1, h4.fr f rfl h4.1⟩
theorem W249 {base : Nat} {X : Nat → Option mC} {G : Nat → Value} (E : EnvOK base X G) {d : Nat} (hd : 1 ≤ d) {M : mH} (H : HI base M) (second : Int) (j : Int) (gs : Int) (gT : Int → Int) (gN : Int → Int) (ga : Int) (g0 : Int → Int) (gb : Int) (g1 : Int → Int) (gc : Int) (gC : Int → Int) (gl : Int) (gL : Int → Int) {ec : Int} {eC : Int → Int} {el : Int} {eL : Int → Int} {es : Int} {eT eN : Int → Int} {ea : Int} {e0 : Int → Int} {eb : Int} {e1 : Int → Int} (h0 : INVl base j M) (h1 : CSx base es eT eN ea e0 eb e1 M) (h2 : RSx gs gT gN ga g0 gb g1 M) (h3 : LXc eN e0 e1 ec eC el eL M) (h4 : LXr gN g0 g1 gc gC gl gL M) (b_second : -2147483648 ≤ second ∧ second ≤ 2147483647) : sOk base X G d T249 [vR 77, vI second] M (pI (fun v M' => HI base M' ∧ Ftr [(0, 0)] M M' ∧ (INVl base j M') ∧ (CSx base es eT eN ea e0 eb e1 M') ∧ (RSx gs gT gN ga g0 gb g1 M') ∧ (LXc eN e0 e1 ec eC el eL M') ∧ (LXr gN g0 g1 gc gC gl gL M'))) := by
  obtain ⟨wa, wb, hK, hR, r1, r2⟩ := h0
  have hK2 := hK
  obtain ⟨hH, hB, hN, hI, hA, hZ, hS, ⟨wn, hn, hT, hG⟩, ha, hb⟩ := hK2
  have hR2 := hR
  obtain ⟨hTB, hWD, hLN, hGK, hVT, hIM⟩ := hR2
  have hs := h2.1
  refine sOk.imp (k249 E (by omega) H second (by omega)) ?_
  rintro v M' ⟨v', e, rfl, -⟩
  exact ⟨v', e, H, trivial, ⟨wa, wb, hK, hR, by omega, by omega⟩, h1, h2, h3, h4⟩
theorem W250 {base : Nat} {X : Nat → Option mC} {G : Nat → Value} (E : EnvOK base X G) {d : Nat} (hd : 70 ≤ d) {M : mH} (H : HI base M) (text : Int) (j : Int) (gs : Int) (gT : Int → Int) (gN : Int → Int) (ga : Int) (g0 : Int → Int) (gb : Int) (g1 : Int → Int) (gc : Int) (gC : Int → Int) (gl : Int) (gL : Int → Int) {ec : Int} {eC : Int → Int} {el : Int} {eL : Int → Int} {es : Int} {eT eN : Int → Int} {ea : Int} {e0 : Int → Int} {eb : Int} {e1 : Int → Int} (h0 : INVl base j M) (h1 : CSx base es eT eN ea e0 eb e1 M) (h2 : RSx gs gT gN ga g0 gb g1 M) (h3 : LXc eN e0 e1 ec eC el eL M) (h4 : LXr gN g0 g1 gc gC gl gL M) (b_text : -2147483648 ≤ text ∧ text ≤ 2147483647) : sOk base X G d T250 [vR 77, vI text] M (pL (fun v M' => HI base M' ∧ Ftr [(0, 0)] M M' ∧ (INVl base j M') ∧ (CSx base es eT eN ea e0 eb e1 M') ∧ (RSx gs gT gN ga g0 gb g1 M') ∧ (LXc eN e0 e1 ec eC el eL M') ∧ (LXr gN g0 g1 gc gC gl gL M'))) := by
  obtain ⟨wa, wb, hK, hR, r1, r2⟩ := h0
  have hK2 := hK
  obtain ⟨hH, hB, hN, hI, hA, hZ, hS, ⟨wn, hn, hT, hG⟩, ha, hb⟩ := hK2
  have hR2 := hR
  obtain ⟨hTB, hWD, hLN, hGK, hVT, hIM⟩ := hR2
  have hs := h2.1
  refine sOk.imp (k250k E (by omega) H text (gi M 78) hTB (fun _ => rfl) hGK (by omega)) ?_
  rintro v M' ⟨v', e, H', f⟩
  have z := (f.q rfl).z
  exact ⟨v', e, H', trivial, ⟨wa, wb, hK.keep H' z rfl rfl, ⟨hTB.fr f rfl, hWD.fr f rfl, hLN.fr f rfl, hGK.fr f rfl, hVT.fr f rfl, hIM.fr f rfl⟩, by rw [f.1]; exact r1, by rw [f.2.1]; exact r2⟩, h1.fz H.m z rfl, h2.fr f rfl, h3.fz H.m z rfl h3.1, h4.fr f rfl h4.1⟩
theorem W206 {base : Nat} {X : Nat → Option mC} {G : Nat → Value} (E : EnvOK base X G) {d : Nat} (hd : 7 ≤ d) {M : mH} (H : HI base M) (j : Int) (gs : Int) (gT : Int → Int) (gN : Int → Int) (ga : Int) (g0 : Int → Int) (gb : Int) (g1 : Int → Int) (gc : Int) (gC : Int → Int) (gl : Int) (gL : Int → Int) {ec : Int} {eC : Int → Int} {el : Int} {eL : Int → Int} {es : Int} {eT eN : Int → Int} {ea : Int} {e0 : Int → Int} {eb : Int} {e1 : Int → Int} (h0 : INVl base j M) (h1 : CSx base es eT eN ea e0 eb e1 M) (h2 : RSx gs gT gN ga g0 gb g1 M) (h3 : LXc eN e0 e1 ec eC el eL M) (h4 : LXr gN g0 g1 gc gC gl gL M) : sOk base X G d T206 [vR 77] M (pL (fun v M' => HI base M' ∧ Ftr [(0, 0)] M M' ∧ (INVl base j M') ∧ (CSx base es eT eN ea e0 eb e1 M') ∧ (RSx gs gT gN ga g0 gb g1 M') ∧ (LXc eN e0 e1 ec eC el eL M') ∧ (LXr gN g0 g1 gc gC gl gL M'))) := by
  obtain ⟨wa, wb, hK, hR, r1, r2⟩ := h0
  have hK2 := hK
  obtain ⟨hH, hB, hN, hI, hA, hZ, hS, ⟨wn, hn, hT, hG⟩, ha, hb⟩ := hK2
  have hR2 := hR
  obtain ⟨hTB, hWD, hLN, hGK, hVT, hIM⟩ := hR2
  have hs := h2.1
  refine sOk.imp (k206k E (by omega) H  hTB hLN hVT) ?_
  rintro v M' ⟨v', e, H', f, q0⟩
  have z := (f.q rfl).z
  exact ⟨v', e, H', trivial, ⟨wa, wb, hK.keep H' z rfl rfl, ⟨hTB.fr f rfl, hWD.fr f rfl, hLN.fr f rfl, hGK.fr f rfl, q0, hIM.fr f rfl⟩, by rw [f.1]; exact r1, by rw [f.2.1]; exact r2⟩, h1.fz H.m z rfl, h2.fr f rfl, h3.fz H.m z rfl h3.1, h4.fr f rfl h4.1⟩
theorem W209 {base : Nat} {X : Nat → Option mC} {G : Nat → Value} (E : EnvOK base X G) {d : Nat} (hd : 8 ≤ d) {M : mH} (H : HI base M) (w : Int) (j : Int) (gs : Int) (gT : Int → Int) (gN : Int → Int) (ga : Int) (g0 : Int → Int) (gb : Int) (g1 : Int → Int) (gc : Int) (gC : Int → Int) (gl : Int) (gL : Int → Int) {ec : Int} {eC : Int → Int} {el : Int} {eL : Int → Int} {es : Int} {eT eN : Int → Int} {ea : Int} {e0 : Int → Int} {eb : Int} {e1 : Int → Int} (h0 : INVl base j M) (h1 : CSx base es eT eN ea e0 eb e1 M) (h2 : RSx gs gT gN ga g0 gb g1 M) (h3 : LXc eN e0 e1 ec eC el eL M) (h4 : LXr gN g0 g1 gc gC gl gL M) (b_w : -2147483648 ≤ w ∧ w ≤ 2147483647) : sOk base X G d T209 [vR 77, vI w] M (pL (fun v M' => HI base M' ∧ Ftr [(0, 0)] M M' ∧ (INVl base j M') ∧ (CSx base es eT eN ea e0 eb e1 M') ∧ (RSx gs gT gN ga g0 gb g1 M') ∧ (LXc eN e0 e1 ec eC el eL M') ∧ (LXr gN g0 g1 gc gC gl gL M'))) := by
  obtain ⟨wa, wb, hK, hR, r1, r2⟩ := h0
  have hK2 := hK
  obtain ⟨hH, hB, hN, hI, hA, hZ, hS, ⟨wn, hn, hT, hG⟩, ha, hb⟩ := hK2
  have hR2 := hR
  obtain ⟨hTB, hWD, hLN, hGK, hVT, hIM⟩ := hR2
  have hs := h2.1
  refine sOk.imp (k209n E (by omega) H w hTB hLN hVT hGK (by omega)) ?_
  rintro v M' ⟨v', e, H', f, q0, q1, q2, q3⟩
  have z := (f.q rfl).z
  exact ⟨v', e, H', trivial, ⟨wa, wb, hK.keep H' z rfl rfl, ⟨hTB.fr f rfl, hWD.fr f rfl, q0, q2, q1, hIM.fr f rfl⟩, by rw [f.1]; exact r1, by rw [f.2.1]; exact r2⟩, h1.fz H.m z rfl, h2.kn f rfl ((f.g rfl).trans hs) (fun j hj => (q3 j hj).trans (h2.2.2.1 j hj)), h3.fz H.m z rfl h3.1, h4.fr f rfl h4.1⟩
theorem W251 {base : Nat} {X : Nat → Option mC} {G : Nat → Value} (E : EnvOK base X G) {d : Nat} (hd : 1 ≤ d) {M : mH} (H : HI base M) (lag : Int) (keeps : Int) (limit : Int) (j : Int) (gs : Int) (gT : Int → Int) (gN : Int → Int) (ga : Int) (g0 : Int → Int) (gb : Int) (g1 : Int → Int) (gc : Int) (gC : Int → Int) (gl : Int) (gL : Int → Int) {ec : Int} {eC : Int → Int} {el : Int} {eL : Int → Int} {es : Int} {eT eN : Int → Int} {ea : Int} {e0 : Int → Int} {eb : Int} {e1 : Int → Int} (h0 : INVl base j M) (h1 : CSx base es eT eN ea e0 eb e1 M) (h2 : RSx gs gT gN ga g0 gb g1 M) (h3 : LXc eN e0 e1 ec eC el eL M) (h4 : LXr gN g0 g1 gc gC gl gL M) (b_lag : -2147483648 ≤ lag ∧ lag ≤ 2147483647) (b_keeps : -2147483648 ≤ keeps ∧ keeps ≤ 2147483647) (b_limit : -2147483648 ≤ limit ∧ limit ≤ 2147483647) : sOk base X G d T251 [vR 77, vI lag, vI keeps, vI limit] M (pI (fun v M' => HI base M' ∧ Ftr [(0, 0)] M M' ∧ (INVl base j M') ∧ (CSx base es eT eN ea e0 eb e1 M') ∧ (RSx gs gT (ctN (BV lag keeps limit) gN 391 472 6 lag keeps limit) ga g0 gb g1 M') ∧ (LXc eN e0 e1 ec eC el eL M') ∧ (LXr (ctN (BV lag keeps limit) gN 391 472 6 lag keeps limit) g0 g1 gc gC gl gL M') ∧ (-2147483648 ≤ v ∧ v ≤ 2147483647) ∧ (v = ctV (BV lag keeps limit) gN 472 6))) := by
  obtain ⟨wa, wb, hK, hR, r1, r2⟩ := h0
  have hK2 := hK
  obtain ⟨hH, hB, hN, hI, hA, hZ, hS, ⟨wn, hn, hT, hG⟩, ha, hb⟩ := hK2
  have hR2 := hR
  obtain ⟨hTB, hWD, hLN, hGK, hVT, hIM⟩ := hR2
  have hs := h2.1
  refine sOk.imp (k251n E (by omega) H lag keeps limit hLN hGK (by omega) (by omega) (by omega)) ?_
  rintro v M' ⟨v', e, H', f, q0, q1, q2⟩
  have z := (f.q rfl).z
  have dj : dAs 472 := by unfold dAs; omega
  have cn : gi M 78 472 = gN 472 := h2.2.2.1 472 dj
  have bv := H.2 78 472 0 6 (rk_boxmany (by omega))
  have cs : RSx gs gT (ctN (BV lag keeps limit) gN 391 472 6 lag keeps limit) ga g0 gb g1 M' ∧ (-2147483648 ≤ v' ∧ v' ≤ 2147483647) ∧ v' = ctV (BV lag keeps limit) gN 472 6 := by
    unfold ctN ctV
    rcases q2 with ⟨hp, hl, hvv, M1, u, fa⟩ | ⟨hp, hl, hvv, fr⟩ | ⟨hp, hvv, fr⟩
    · have hp2 := hp
      unfold BV at hp2
      rw [if_pos hp, if_pos hp, if_pos (show gN 472 < 6 by omega), if_pos (show gN 472 < 6 by omega)]
      have w := h2.w4 (b := 391) (i := 472) (lim := 6) ⟨by omega, dj⟩ (by omega) ⟨by omega, by omega⟩ (by omega) (by unfold inR; omega) (by unfold inR; omega) (by unfold inR; omega) u
      exact ⟨w.fr fa rfl, by omega, by rw [hvv]; exact cn⟩
    · rw [if_pos hp, if_pos hp, if_neg (show ¬ gN 472 < 6 by omega), if_neg (show ¬ gN 472 < 6 by omega)]
      exact ⟨h2.fr fr rfl, by omega, hvv⟩
    · rw [if_neg hp, if_neg hp]
      exact ⟨h2.fr fr rfl, by omega, hvv⟩
  exact ⟨v', e, H', trivial, ⟨wa, wb, hK.keep H' z rfl rfl, ⟨hTB.fr f rfl, hWD.fr f rfl, q0, q1, hVT.fr f rfl, hIM.fr f rfl⟩, by rw [f.1]; exact r1, by rw [f.2.1]; exact r2⟩, h1.fz H.m z rfl, cs.1, h3.fz H.m z rfl h3.1, h4.fr f rfl (h4.1.ctB (by have q := H.2 78 472 0 6 (rk_boxmany (by omega)); rw [h2.2.2.1 472 (by unfold dAs; omega)] at q; omega) (fun hp => by unfold BV at hp; omega)), cs.2.1, cs.2.2⟩
theorem W254 {base : Nat} {X : Nat → Option mC} {G : Nat → Value} (E : EnvOK base X G) {d : Nat} (hd : 1 ≤ d) {M : mH} (H : HI base M) (j : Int) (gs : Int) (gT : Int → Int) (gN : Int → Int) (ga : Int) (g0 : Int → Int) (gb : Int) (g1 : Int → Int) (gc : Int) (gC : Int → Int) (gl : Int) (gL : Int → Int) {ec : Int} {eC : Int → Int} {el : Int} {eL : Int → Int} {es : Int} {eT eN : Int → Int} {ea : Int} {e0 : Int → Int} {eb : Int} {e1 : Int → Int} (h0 : INVl base j M) (h1 : CSx base es eT eN ea e0 eb e1 M) (h2 : RSx gs gT gN ga g0 gb g1 M) (h3 : LXc eN e0 e1 ec eC el eL M) (h4 : LXr gN g0 g1 gc gC gl gL M) : sOk base X G d T254 [vR 77] M (pI (fun v M' => HI base M' ∧ Ftr [(0, 0)] M M' ∧ (INVl base j M') ∧ (CSx base es eT eN ea e0 eb e1 M') ∧ (RSx gs gT gN ga g0 gb g1 M') ∧ (LXc eN e0 e1 ec eC el eL M') ∧ (LXr gN g0 g1 gc gC (clN gN gl) (clF gN gL) M') ∧ (-2147483648 ≤ v ∧ v ≤ 2147483647) ∧ (v = chV gN))) := by
  obtain ⟨wa, wb, hK, hR, r1, r2⟩ := h0
  have hR2 := hR
  obtain ⟨hTB, hWD, hLN, hGK, hVT, hIM⟩ := hR2
  refine sOk.imp (k254h E (by omega) H (gi M 78) (bxK gN) (fun _ => rfl) (fun i a b => h2.2.2.1 (391 + i) (by unfold dAs; omega)) h4.1.1) ?_
  rintro v M' ⟨v', e, H', f, q0, q1, q2⟩
  have z := (f.q rfl).z
  rw [h2.2.2.1 472 (by unfold dAs; omega)] at q1 q2
  have kc := h4.ch f rfl (by have q := H.2 78 472 0 6 (rk_boxmany (by omega)); rw [h2.2.2.1 472 (by unfold dAs; omega)] at q; omega) q1 q2
  exact ⟨v', e, H', trivial, ⟨wa, wb, hK.keep H' z rfl rfl, ⟨hTB.fr f rfl, hWD.fr f rfl, hLN.fr f rfl, hGK.fr f rfl, hVT.fr f rfl, hIM.fr f rfl⟩, by rw [f.1]; exact r1, by rw [f.2.1]; exact r2⟩, h1.fz H.m z rfl, h2.fr f rfl, h3.fz H.m z rfl h3.1, kc.1, q0, kc.2⟩
theorem W255 {base : Nat} {X : Nat → Option mC} {G : Nat → Value} (E : EnvOK base X G) {d : Nat} (hd : 1 ≤ d) {M : mH} (H : HI base M) (xi : Int) (j : Int) (gs : Int) (gT : Int → Int) (gN : Int → Int) (ga : Int) (g0 : Int → Int) (gb : Int) (g1 : Int → Int) (gc : Int) (gC : Int → Int) (gl : Int) (gL : Int → Int) {ec : Int} {eC : Int → Int} {el : Int} {eL : Int → Int} {es : Int} {eT eN : Int → Int} {ea : Int} {e0 : Int → Int} {eb : Int} {e1 : Int → Int} (h0 : INVl base j M) (h1 : CSx base es eT eN ea e0 eb e1 M) (h2 : RSx gs gT gN ga g0 gb g1 M) (h3 : LXc eN e0 e1 ec eC el eL M) (h4 : LXr gN g0 g1 gc gC gl gL M) (b_xi : -2147483648 ≤ xi ∧ xi ≤ 2147483647) : sOk base X G d T255 [vR 77, vI xi] M (pI (fun v M' => HI base M' ∧ Ftr [(0, 0)] M M' ∧ (INVl base j M') ∧ (CSx base es eT eN ea e0 eb e1 M') ∧ (RSx gs gT gN ga g0 gb g1 M') ∧ (LXc eN e0 e1 ec eC el eL M') ∧ (LXr gN g0 g1 gc gC gl gL M') ∧ (-2147483648 ≤ v ∧ v ≤ 2147483647) ∧ (v = lkF gl gL xi))) := by
  obtain ⟨wa, wb, hK, hR, r1, r2⟩ := h0
  have hR2 := hR
  obtain ⟨hTB, hWD, hLN, hGK, hVT, hIM⟩ := hR2
  refine sOk.imp (k255h E (by omega) H xi (by omega)) ?_
  rintro v M' ⟨v', e, rfl, q0, q1⟩
  exact ⟨v', e, H, trivial, ⟨wa, wb, hK, hR, by omega, by omega⟩, h1, h2, h3, h4, q0, h4.lk q1⟩
theorem W256 {base : Nat} {X : Nat → Option mC} {G : Nat → Value} (E : EnvOK base X G) {d : Nat} (hd : 1 ≤ d) {M : mH} (H : HI base M) (minute : Int) (cost : Int) (j : Int) (gs : Int) (gT : Int → Int) (gN : Int → Int) (ga : Int) (g0 : Int → Int) (gb : Int) (g1 : Int → Int) (gc : Int) (gC : Int → Int) (gl : Int) (gL : Int → Int) {ec : Int} {eC : Int → Int} {el : Int} {eL : Int → Int} {es : Int} {eT eN : Int → Int} {ea : Int} {e0 : Int → Int} {eb : Int} {e1 : Int → Int} (h0 : INVl base j M) (h1 : CSx base es eT eN ea e0 eb e1 M) (h2 : RSx gs gT gN ga g0 gb g1 M) (h3 : LXc eN e0 e1 ec eC el eL M) (h4 : LXr gN g0 g1 gc gC gl gL M) (b_minute : -2147483648 ≤ minute ∧ minute ≤ 2147483647) (b_cost : -2147483648 ≤ cost ∧ cost ≤ 2147483647) : sOk base X G d T256 [vR 77, vI minute, vI cost] M (pI (fun v M' => HI base M' ∧ Ftr [(0, 0)] M M' ∧ (INVl base j M') ∧ (CSx base es eT eN ea e0 eb e1 M') ∧ (RSx gs gT (stN (MV minute cost) gN (409 + minute) cost) ga g0 gb g1 M') ∧ (LXc eN e0 e1 ec eC el eL M') ∧ (LXr (stN (MV minute cost) gN (409 + minute) cost) g0 g1 gc gC gl gL M') ∧ (-2147483648 ≤ v ∧ v ≤ 2147483647) ∧ (v = stV (MV minute cost) gN (409 + minute)))) := by
  obtain ⟨wa, wb, hK, hR, r1, r2⟩ := h0
  have hK2 := hK
  obtain ⟨hH, hB, hN, hI, hA, hZ, hS, ⟨wn, hn, hT, hG⟩, ha, hb⟩ := hK2
  have hR2 := hR
  obtain ⟨hTB, hWD, hLN, hGK, hVT, hIM⟩ := hR2
  have hs := h2.1
  refine sOk.imp (k256n E (by omega) H minute cost hLN hGK (by omega) (by omega)) ?_
  rintro v M' ⟨v', e, H', f, q0, q1, q2⟩
  have z := (f.q rfl).z
  have cs : RSx gs gT (stN (MV minute cost) gN (409 + minute) cost) ga g0 gb g1 M' ∧ (-2147483648 ≤ v' ∧ v' ≤ 2147483647) ∧ v' = stV (MV minute cost) gN (409 + minute) := by
    rcases q2 with ⟨hp, hvv, M1, u, fa⟩ | ⟨hp, hvv, fr⟩
    · have hp2 := hp
      unfold MV at hp2
      have dj : dAs (409 + minute) := by unfold dAs; omega
      have bv := (H.1.int sc_78 (i := 409 + minute) (by omega) (by show _ < (6883 : Int); omega) rfl).2
      unfold inR at bv
      rw [stN_pos hp, stV_pos hp]
      have ww := (h2.wr u (by omega) rfl (by unfold inR; omega)).fr fa rfl
      exact ⟨ww, by omega, by rw [hvv]; exact h2.2.2.1 _ dj⟩
    · rw [stN_neg hp, stV_neg hp]
      have ww := h2.fr fr rfl
      exact ⟨ww, by omega, hvv⟩
  exact ⟨v', e, H', trivial, ⟨wa, wb, hK.keep H' z rfl rfl, ⟨hTB.fr f rfl, hWD.fr f rfl, q0, q1, hVT.fr f rfl, hIM.fr f rfl⟩, by rw [f.1]; exact r1, by rw [f.2.1]; exact r2⟩, h1.fz H.m z rfl, cs.1, h3.fz H.m z rfl h3.1, h4.fr f rfl (h4.1.st (fun hp => by unfold MV at hp; omega)), cs.2.1, cs.2.2⟩
theorem W257 {base : Nat} {X : Nat → Option mC} {G : Nat → Value} (E : EnvOK base X G) {d : Nat} (hd : 1 ≤ d) {M : mH} (H : HI base M) (xm : Int) (j : Int) (gs : Int) (gT : Int → Int) (gN : Int → Int) (ga : Int) (g0 : Int → Int) (gb : Int) (g1 : Int → Int) (gc : Int) (gC : Int → Int) (gl : Int) (gL : Int → Int) {ec : Int} {eC : Int → Int} {el : Int} {eL : Int → Int} {es : Int} {eT eN : Int → Int} {ea : Int} {e0 : Int → Int} {eb : Int} {e1 : Int → Int} (h0 : INVl base j M) (h1 : CSx base es eT eN ea e0 eb e1 M) (h2 : RSx gs gT gN ga g0 gb g1 M) (h3 : LXc eN e0 e1 ec eC el eL M) (h4 : LXr gN g0 g1 gc gC gl gL M) (b_xm : -2147483648 ≤ xm ∧ xm ≤ 2147483647) : sOk base X G d T257 [vR 77, vI xm] M (pI (fun v M' => HI base M' ∧ Ftr [(0, 0)] M M' ∧ (INVl base j M') ∧ (CSx base es eT eN ea e0 eb e1 M') ∧ (RSx gs gT gN ga g0 gb g1 M') ∧ (LXc eN e0 e1 ec eC el eL M') ∧ (LXr gN g0 g1 (rcN gN xm gc) (rcF gN xm gC) gl gL M') ∧ (-2147483648 ≤ v ∧ v ≤ 2147483647) ∧ (v = rlV gN xm))) := by
  obtain ⟨wa, wb, hK, hR, r1, r2⟩ := h0
  have hR2 := hR
  obtain ⟨hTB, hWD, hLN, hGK, hVT, hIM⟩ := hR2
  refine sOk.imp (k257g E (by omega) H xm (gi M 78) (fun _ => rfl) (by omega)) ?_
  rintro v M' ⟨v', e, H', f, q0, q1⟩
  have z := (f.q rfl).z
  have bv : -2147483648 ≤ v' ∧ v' ≤ 2147483647 := by
    by_cases c : 1 ≤ xm ∧ xm ≤ 120
    · have w := (q0 c).bd (uK_b (K := gi M 78) (fun _ => rfl) H) (H.2 78 98 0 1000 (rk_term (by omega))) c.1
      have w1 : 0 ≤ v' ∧ v' ≤ 2000 * xm := w
      omega
    · have w := (q1 (by omega)).1
      omega
  exact ⟨v', e, H', trivial, ⟨wa, wb, hK.keep H' z rfl rfl, ⟨hTB.fr f rfl, hWD.fr f rfl, hLN.fr f rfl, hGK.fr f rfl, hVT.fr f rfl, hIM.fr f rfl⟩, by rw [f.1]; exact r1, by rw [f.2.1]; exact r2⟩, h1.fz H.m z rfl, h2.fr f rfl, h3.fz H.m z rfl h3.1, h4.rl f rfl (fun y => h2.rlx (q0 y)) (fun y => (q1 y).2), bv, rlV.of (fun y => h2.rlx (q0 y)) (fun y => (q1 y).1)⟩
theorem W258 {base : Nat} {X : Nat → Option mC} {G : Nat → Value} (E : EnvOK base X G) {d : Nat} (hd : 1 ≤ d) {M : mH} (H : HI base M) (xi : Int) (j : Int) (gs : Int) (gT : Int → Int) (gN : Int → Int) (ga : Int) (g0 : Int → Int) (gb : Int) (g1 : Int → Int) (gc : Int) (gC : Int → Int) (gl : Int) (gL : Int → Int) {ec : Int} {eC : Int → Int} {el : Int} {eL : Int → Int} {es : Int} {eT eN : Int → Int} {ea : Int} {e0 : Int → Int} {eb : Int} {e1 : Int → Int} (h0 : INVl base j M) (h1 : CSx base es eT eN ea e0 eb e1 M) (h2 : RSx gs gT gN ga g0 gb g1 M) (h3 : LXc eN e0 e1 ec eC el eL M) (h4 : LXr gN g0 g1 gc gC gl gL M) (b_xi : -2147483648 ≤ xi ∧ xi ≤ 2147483647) : sOk base X G d T258 [vR 77, vI xi] M (pI (fun v M' => HI base M' ∧ Ftr [(0, 0)] M M' ∧ (INVl base j M') ∧ (CSx base es eT eN ea e0 eb e1 M') ∧ (RSx gs gT gN ga g0 gb g1 M') ∧ (LXc eN e0 e1 ec eC el eL M') ∧ (LXr gN g0 g1 gc gC gl gL M') ∧ (-2147483648 ≤ v ∧ v ≤ 2147483647) ∧ (v = chF gc gC xi))) := by
  obtain ⟨wa, wb, hK, hR, r1, r2⟩ := h0
  have hR2 := hR
  obtain ⟨hTB, hWD, hLN, hGK, hVT, hIM⟩ := hR2
  refine sOk.imp (k258h E (by omega) H xi (by omega)) ?_
  rintro v M' ⟨v', e, rfl, q0, q1⟩
  exact ⟨v', e, H, trivial, ⟨wa, wb, hK, hR, by omega, by omega⟩, h1, h2, h3, h4, q0, h4.cg q1⟩
theorem W260 {base : Nat} {X : Nat → Option mC} {G : Nat → Value} (E : EnvOK base X G) {d : Nat} (hd : 2 ≤ d) {M : mH} (H : HI base M) (xm : Int) (xq : Int) (j : Int) (gs : Int) (gT : Int → Int) (gN : Int → Int) (ga : Int) (g0 : Int → Int) (gb : Int) (g1 : Int → Int) (gc : Int) (gC : Int → Int) (gl : Int) (gL : Int → Int) {ec : Int} {eC : Int → Int} {el : Int} {eL : Int → Int} {es : Int} {eT eN : Int → Int} {ea : Int} {e0 : Int → Int} {eb : Int} {e1 : Int → Int} (h0 : INVl base j M) (h1 : CSx base es eT eN ea e0 eb e1 M) (h2 : RSx gs gT gN ga g0 gb g1 M) (h3 : LXc eN e0 e1 ec eC el eL M) (h4 : LXr gN g0 g1 gc gC gl gL M) (b_xm : -2147483648 ≤ xm ∧ xm ≤ 2147483647) (b_xq : -2147483648 ≤ xq ∧ xq ≤ 2147483647) : sOk base X G d T260 [vR 77, vI xm, vI xq] M (pI (fun v M' => HI base M' ∧ Ftr [(0, 0)] M M' ∧ (INVl base j M') ∧ (CSx base es eT eN ea e0 eb e1 M') ∧ (RSx gs gT gN ga g0 gb g1 M') ∧ (LXc eN e0 e1 ec eC el eL M') ∧ (LXr gN g0 g1 gc gC gl gL M') ∧ (-2147483648 ≤ v ∧ v ≤ 2147483647) ∧ (v = glV gN xm xq))) := by
  obtain ⟨wa, wb, hK, hR, r1, r2⟩ := h0
  have hR2 := hR
  obtain ⟨hTB, hWD, hLN, hGK, hVT, hIM⟩ := hR2
  refine sOk.imp (k260g E (by omega) H xm xq (gi M 78) (fun _ => rfl) (by omega) (by omega)) ?_
  rintro v M' ⟨v', e, H', f, q0, q1⟩
  have z := (f.q rfl).z
  exact ⟨v', e, H', trivial, ⟨wa, wb, hK.keep H' z rfl rfl, ⟨hTB.fr f rfl, hWD.fr f rfl, hLN.fr f rfl, hGK.fr f rfl, hVT.fr f rfl, hIM.fr f rfl⟩, by rw [f.1]; exact r1, by rw [f.2.1]; exact r2⟩, h1.fz H.m z rfl, h2.fr f rfl, h3.fz H.m z rfl h3.1, h4.fr f rfl h4.1, q0, q1.trans (glV_cong h2.2.2.1 (rK_KB H) xm xq)⟩
theorem W261 {base : Nat} {X : Nat → Option mC} {G : Nat → Value} (E : EnvOK base X G) {d : Nat} (hd : 70 ≤ d) {M : mH} (H : HI base M) (text : Int) (s : Int) (slot : Int) (meant : Int) (third : Int) (j : Int) (gs : Int) (gT : Int → Int) (gN : Int → Int) (ga : Int) (g0 : Int → Int) (gb : Int) (g1 : Int → Int) (gc : Int) (gC : Int → Int) (gl : Int) (gL : Int → Int) {ec : Int} {eC : Int → Int} {el : Int} {eL : Int → Int} {es : Int} {eT eN : Int → Int} {ea : Int} {e0 : Int → Int} {eb : Int} {e1 : Int → Int} (h0 : INVl base j M) (h1 : CSx base es eT eN ea e0 eb e1 M) (h2 : RSx gs gT gN ga g0 gb g1 M) (h3 : LXc eN e0 e1 ec eC el eL M) (h4 : LXr gN g0 g1 gc gC gl gL M) (b_text : -2147483648 ≤ text ∧ text ≤ 2147483647) (b_s : -2147483648 ≤ s ∧ s ≤ 2147483647) (b_slot : -2147483648 ≤ slot ∧ slot ≤ 2147483647) (b_meant : -2147483648 ≤ meant ∧ meant ≤ 2147483647) (b_third : -2147483648 ≤ third ∧ third ≤ 2147483647) : sOk base X G d T261 [vR 77, vI text, vI s, vI slot, vI meant, vI third] M (pI (fun v M' => HI base M' ∧ Ftr [(0, 0)] M M' ∧ (INVl base j M') ∧ (CSx base es eT eN ea e0 eb e1 M') ∧ (RSx gs gT gN ga g0 gb g1 M') ∧ (LXc eN e0 e1 ec eC el eL M') ∧ (LXr gN g0 g1 gc gC gl gL M'))) := by
  obtain ⟨wa, wb, hK, hR, r1, r2⟩ := h0
  have hK2 := hK
  obtain ⟨hH, hB, hN, hI, hA, hZ, hS, ⟨wn, hn, hT, hG⟩, ha, hb⟩ := hK2
  have hR2 := hR
  obtain ⟨hTB, hWD, hLN, hGK, hVT, hIM⟩ := hR2
  have hs := h2.1
  refine sOk.imp (k261k E (by omega) H text s slot meant third (gi M 78) hTB (fun _ => rfl) hGK (by omega) (by omega) (by omega) (by omega) (by omega)) ?_
  rintro v M' ⟨v', e, H', f⟩
  have z := (f.q rfl).z
  exact ⟨v', e, H', trivial, ⟨wa, wb, hK.keep H' z rfl rfl, ⟨hTB.fr f rfl, hWD.fr f rfl, hLN.fr f rfl, hGK.fr f rfl, hVT.fr f rfl, hIM.fr f rfl⟩, by rw [f.1]; exact r1, by rw [f.2.1]; exact r2⟩, h1.fz H.m z rfl, h2.fr f rfl, h3.fz H.m z rfl h3.1, h4.fr f rfl h4.1⟩
theorem W262 {base : Nat} {X : Nat → Option mC} {G : Nat → Value} (E : EnvOK base X G) {d : Nat} (hd : 70 ≤ d) {M : mH} (H : HI base M) (s : Int) (j : Int) (gs : Int) (gT : Int → Int) (gN : Int → Int) (ga : Int) (g0 : Int → Int) (gb : Int) (g1 : Int → Int) (gc : Int) (gC : Int → Int) (gl : Int) (gL : Int → Int) {ec : Int} {eC : Int → Int} {el : Int} {eL : Int → Int} {es : Int} {eT eN : Int → Int} {ea : Int} {e0 : Int → Int} {eb : Int} {e1 : Int → Int} (h0 : INVl base j M) (h1 : CSx base es eT eN ea e0 eb e1 M) (h2 : RSx gs gT gN ga g0 gb g1 M) (h3 : LXc eN e0 e1 ec eC el eL M) (h4 : LXr gN g0 g1 gc gC gl gL M) (b_s : -2147483648 ≤ s ∧ s ≤ 2147483647) : sOk base X G d T262 [vR 77, vI s] M (pI (fun v M' => HI base M' ∧ Ftr [(0, 0)] M M' ∧ (INVl base j M') ∧ (CSx base es eT eN ea e0 eb e1 M') ∧ (RSx 0 gT gN ga g0 gb g1 M') ∧ (LXc eN e0 e1 ec eC el eL M') ∧ (LXr gN g0 g1 gc gC gl gL M'))) := by
  obtain ⟨wa, wb, hK, hR, r1, r2⟩ := h0
  have hK2 := hK
  obtain ⟨hH, hB, hN, hI, hA, hZ, hS, ⟨wn, hn, hT, hG⟩, ha, hb⟩ := hK2
  have hR2 := hR
  obtain ⟨hTB, hWD, hLN, hGK, hVT, hIM⟩ := hR2
  have hs := h2.1
  refine sOk.imp (k262e E (by omega) H s (gi M 78) hTB (fun _ => rfl) hGK (by omega)) ?_
  rintro v M' ⟨v', e, H', f, q0, q1⟩
  have z := (f.q rfl).z
  exact ⟨v', e, H', trivial, ⟨wa, wb, hK.keep H' z rfl rfl, ⟨hTB.fr f rfl, hWD.fr f rfl, hLN.fr f rfl, hGK.fr f rfl, hVT.fr f rfl, hIM.fr f rfl⟩, by rw [f.1]; exact r1, by rw [f.2.1]; exact r2⟩, h1.fz H.m z rfl, h2.tape f rfl q1, h3.fz H.m z rfl h3.1, h4.fr f rfl h4.1⟩
theorem W264 {base : Nat} {X : Nat → Option mC} {G : Nat → Value} (E : EnvOK base X G) {d : Nat} (hd : 70 ≤ d) {M : mH} (H : HI base M) (what : Int) (j : Int) (gs : Int) (gT : Int → Int) (gN : Int → Int) (ga : Int) (g0 : Int → Int) (gb : Int) (g1 : Int → Int) (gc : Int) (gC : Int → Int) (gl : Int) (gL : Int → Int) {ec : Int} {eC : Int → Int} {el : Int} {eL : Int → Int} {es : Int} {eT eN : Int → Int} {ea : Int} {e0 : Int → Int} {eb : Int} {e1 : Int → Int} (h0 : INVl base j M) (h1 : CSx base es eT eN ea e0 eb e1 M) (h2 : RSx gs gT gN ga g0 gb g1 M) (h3 : LXc eN e0 e1 ec eC el eL M) (h4 : LXr gN g0 g1 gc gC gl gL M) (b_what : -2147483648 ≤ what ∧ what ≤ 2147483647) : sOk base X G d T264 [vR 77, vI what] M (pI (fun v M' => HI base M' ∧ Ftr [(0, 0)] M M' ∧ (INVl base j M') ∧ (CSx base es eT eN ea e0 eb e1 M') ∧ (RSx gs gT gN ga g0 gb g1 M') ∧ (LXc eN e0 e1 ec eC el eL M') ∧ (LXr gN g0 g1 gc gC gl gL M'))) := by
  obtain ⟨wa, wb, hK, hR, r1, r2⟩ := h0
  have hK2 := hK
  obtain ⟨hH, hB, hN, hI, hA, hZ, hS, ⟨wn, hn, hT, hG⟩, ha, hb⟩ := hK2
  have hR2 := hR
  obtain ⟨hTB, hWD, hLN, hGK, hVT, hIM⟩ := hR2
  have hs := h2.1
  refine sOk.imp (k264k E (by omega) H what (gi M 78) hTB (fun _ => rfl) hGK (by omega)) ?_
  rintro v M' ⟨v', e, H', f, q0⟩
  have z := (f.q rfl).z
  exact ⟨v', e, H', trivial, ⟨wa, wb, hK.keep H' z rfl rfl, ⟨hTB.fr f rfl, hWD.fr f rfl, hLN.fr f rfl, hGK.fr f rfl, hVT.fr f rfl, hIM.fr f rfl⟩, by rw [f.1]; exact r1, by rw [f.2.1]; exact r2⟩, h1.fz H.m z rfl, h2.fr f rfl, h3.fz H.m z rfl h3.1, h4.fr f rfl h4.1⟩
theorem W151 {base : Nat} {X : Nat → Option mC} {G : Nat → Value} (E : EnvOK base X G) {d : Nat} (hd : 1 ≤ d) {M : mH} (H : HI base M) (k : Int) (j : Int) (gs : Int) (gT : Int → Int) (gN : Int → Int) (ga : Int) (g0 : Int → Int) (gb : Int) (g1 : Int → Int) (gc : Int) (gC : Int → Int) (gl : Int) (gL : Int → Int) {ec : Int} {eC : Int → Int} {el : Int} {eL : Int → Int} {es : Int} {eT eN : Int → Int} {ea : Int} {e0 : Int → Int} {eb : Int} {e1 : Int → Int} (h0 : INVl base j M) (h1 : CSx base es eT eN ea e0 eb e1 M) (h2 : RSx gs gT gN ga g0 gb g1 M) (h3 : LXc eN e0 e1 ec eC el eL M) (h4 : LXr gN g0 g1 gc gC gl gL M) (b_k : -2147483648 ≤ k ∧ k ≤ 2147483647) : sOk base X G d T151 [vR 77, vI k] M (pI (fun v M' => HI base M' ∧ Ftr [(0, 0)] M M' ∧ (INVl base j M') ∧ (CSx base es eT eN ea e0 eb e1 M') ∧ (RSx gs gT gN (imA 0 k ga) (imF 0 k gN g0) (imA 1 k gb) (imF 1 k gN g1) M') ∧ (LXc eN e0 e1 ec eC el eL M') ∧ (LXr gN (imF 0 k gN g0) (imF 1 k gN g1) gc gC gl gL M') ∧ (-2147483648 ≤ v ∧ v ≤ 2147483647) ∧ (v = imV k))) := by
  obtain ⟨wa, wb, hK, hR, r1, r2⟩ := h0
  have hK2 := hK
  obtain ⟨hH, hB, hN, hI, hA, hZ, hS, ⟨wn, hn, hT, hG⟩, ha, hb⟩ := hK2
  have hR2 := hR
  obtain ⟨hTB, hWD, hLN, hGK, hVT, hIM⟩ := hR2
  have hs := h2.1
  refine sOk.imp (k151n E (by omega) H k (by omega) hLN hGK hIM) ?_
  rintro v M' ⟨v', e, H', f, q0, q1, q2, q3, q4, q5, q6, q7, q8, q9, q10⟩
  have z := (f.q rfl).z
  have vv := imV.of q3 q4
  have cs : RSx gs gT gN (imA 0 k ga) (imF 0 k gN g0) (imA 1 k gb) (imF 1 k gN g1) M' := by
    unfold imA imF
    by_cases k0 : k = 0
    · subst k0
      rw [if_pos rfl, if_pos rfl, if_neg (by decide), if_neg (by decide)]
      exact h2.img0 (f.g rfl) (fun j => f.g rfl) (fun j => f.g rfl) (q5 (by decide)) (q6 1 (by decide)) (q8 (by decide)) (q9 (by decide))
    · rw [if_neg k0, if_neg k0]
      by_cases k1 : k = 1
      · subst k1
        rw [if_pos rfl, if_pos rfl]
        exact h2.img1 (f.g rfl) (fun j => f.g rfl) (fun j => f.g rfl) (q5 (by decide)) (q6 0 (by decide)) (q8 (by decide)) (q9 (by decide))
      · rw [if_neg k1, if_neg k1]
        obtain ⟨x1, xT, x2, x3, x4, x5, x6⟩ := h2
        have z9 := q10 (by omega)
        have z0 := q7 (by omega)
        exact ⟨(f.g rfl).trans x1, fun i a b => by rw [show gi M' 95 i = gi M 95 i from f.g rfl]; exact xT i a b, fun j hj => (f.g rfl).trans (x2 j hj), (z0 0).trans x3, fun a j hj => (z9 j).trans (x4 a j hj), (z0 1).trans x5, fun a j hj => (z9 _).trans (x6 a j hj)⟩
  exact ⟨v', e, H', trivial, ⟨wa, wb, hK.keep H' z rfl rfl, ⟨hTB.fr f rfl, hWD.fr f rfl, q0, q1, hVT.fr f rfl, q2⟩, by rw [f.1]; exact r1, by rw [f.2.1]; exact r2⟩, h1.fz H.m z rfl, cs, h3.fz H.m z rfl h3.1, h4.fr f rfl h4.1.im, (by rw [vv]; unfold imV; split <;> omega), vv⟩
theorem W152 {base : Nat} {X : Nat → Option mC} {G : Nat → Value} (E : EnvOK base X G) {d : Nat} (hd : 1 ≤ d) {M : mH} (H : HI base M) (k : Int) (j : Int) (gs : Int) (gT : Int → Int) (gN : Int → Int) (ga : Int) (g0 : Int → Int) (gb : Int) (g1 : Int → Int) (gc : Int) (gC : Int → Int) (gl : Int) (gL : Int → Int) {ec : Int} {eC : Int → Int} {el : Int} {eL : Int → Int} {es : Int} {eT eN : Int → Int} {ea : Int} {e0 : Int → Int} {eb : Int} {e1 : Int → Int} (h0 : INVl base j M) (h1 : CSx base es eT eN ea e0 eb e1 M) (h2 : RSx gs gT gN ga g0 gb g1 M) (h3 : LXc eN e0 e1 ec eC el eL M) (h4 : LXr gN g0 g1 gc gC gl gL M) (b_k : -2147483648 ≤ k ∧ k ≤ 2147483647) : sOk base X G d T152 [vR 77, vI k] M (pI (fun v M' => HI base M' ∧ Ftr [(0, 0)] M M' ∧ (INVl base j M') ∧ (CSx base es eT eN ea e0 eb e1 M') ∧ (RSx gs gT (bkN k ga gb g0 g1 gN) ga g0 gb g1 M') ∧ (LXc eN e0 e1 ec eC el eL M') ∧ (LXr (bkN k ga gb g0 g1 gN) g0 g1 gc gC gl gL M') ∧ (-2147483648 ≤ v ∧ v ≤ 2147483647) ∧ (v = bkV k ga gb))) := by
  obtain ⟨wa, wb, hK, hR, r1, r2⟩ := h0
  have hK2 := hK
  obtain ⟨hH, hB, hN, hI, hA, hZ, hS, ⟨wn, hn, hT, hG⟩, ha, hb⟩ := hK2
  have hR2 := hR
  obtain ⟨hTB, hWD, hLN, hGK, hVT, hIM⟩ := hR2
  have hs := h2.1
  refine sOk.imp (k152n E (by omega) H k (by omega) hLN hGK hIM) ?_
  rintro v M' ⟨v', e, H', f, q0, q1, q2, q3, q4, q5, q6, q7⟩
  have z := (f.q rfl).z
  have bb := h2.bits2 H
  have vv := bkV.rx h2 bb.1 bb.2 q3 q4 q5
  have cs : RSx gs gT (bkN k ga gb g0 g1 gN) ga g0 gb g1 M' := h2.back H f rfl ((f.g rfl).trans hs) q6 q7
  exact ⟨v', e, H', trivial, ⟨wa, wb, hK.keep H' z rfl rfl, ⟨hTB.fr f rfl, hWD.fr f rfl, q0, q1, hVT.fr f rfl, hIM.fr f rfl⟩, by rw [f.1]; exact r1, by rw [f.2.1]; exact r2⟩, h1.fz H.m z rfl, cs, h3.fz H.m z rfl h3.1, h4.fr f rfl h4.1.bk, q2, vv⟩
theorem W265 {base : Nat} {X : Nat → Option mC} {G : Nat → Value} (E : EnvOK base X G) {d : Nat} (hd : 0 ≤ d) {M : mH} (H : HI base M) (what : Int) (j : Int) (gs : Int) (gT : Int → Int) (gN : Int → Int) (ga : Int) (g0 : Int → Int) (gb : Int) (g1 : Int → Int) (gc : Int) (gC : Int → Int) (gl : Int) (gL : Int → Int) {ec : Int} {eC : Int → Int} {el : Int} {eL : Int → Int} {es : Int} {eT eN : Int → Int} {ea : Int} {e0 : Int → Int} {eb : Int} {e1 : Int → Int} (h0 : INVl base j M) (h1 : CSx base es eT eN ea e0 eb e1 M) (h2 : RSx gs gT gN ga g0 gb g1 M) (h3 : LXc eN e0 e1 ec eC el eL M) (h4 : LXr gN g0 g1 gc gC gl gL M) (b_what : -2147483648 ≤ what ∧ what ≤ 2147483647) : sOk base X G d T265 [vR 77, vI what] M (pI (fun v M' => HI base M' ∧ Ftr [(0, 0)] M M' ∧ (INVl base j M') ∧ (CSx base es eT eN ea e0 eb e1 M') ∧ (RSx gs gT gN ga g0 gb g1 M') ∧ (LXc eN e0 e1 ec eC el eL M') ∧ (LXr gN g0 g1 gc gC gl gL M'))) := by
  obtain ⟨wa, wb, hK, hR, r1, r2⟩ := h0
  have hK2 := hK
  obtain ⟨hH, hB, hN, hI, hA, hZ, hS, ⟨wn, hn, hT, hG⟩, ha, hb⟩ := hK2
  have hR2 := hR
  obtain ⟨hTB, hWD, hLN, hGK, hVT, hIM⟩ := hR2
  have hs := h2.1
  refine sOk.imp (k265 E (by omega) H what (by omega)) ?_
  rintro v M' ⟨v', e, rfl, -⟩
  exact ⟨v', e, H, trivial, ⟨wa, wb, hK, hR, by omega, by omega⟩, h1, h2, h3, h4⟩
theorem W266 {base : Nat} {X : Nat → Option mC} {G : Nat → Value} (E : EnvOK base X G) {d : Nat} (hd : 0 ≤ d) {M : mH} (H : HI base M) (j : Int) (gs : Int) (gT : Int → Int) (gN : Int → Int) (ga : Int) (g0 : Int → Int) (gb : Int) (g1 : Int → Int) (gc : Int) (gC : Int → Int) (gl : Int) (gL : Int → Int) {ec : Int} {eC : Int → Int} {el : Int} {eL : Int → Int} {es : Int} {eT eN : Int → Int} {ea : Int} {e0 : Int → Int} {eb : Int} {e1 : Int → Int} (h0 : INVl base j M) (h1 : CSx base es eT eN ea e0 eb e1 M) (h2 : RSx gs gT gN ga g0 gb g1 M) (h3 : LXc eN e0 e1 ec eC el eL M) (h4 : LXr gN g0 g1 gc gC gl gL M) : sOk base X G d T266 [vR 77] M (pI (fun v M' => HI base M' ∧ Ftr [(0, 0)] M M' ∧ (INVl base j M') ∧ (CSx base es eT eN ea e0 eb e1 M') ∧ (RSx gs gT gN ga g0 gb g1 M') ∧ (LXc eN e0 e1 ec eC el eL M') ∧ (LXr gN g0 g1 gc gC gl gL M'))) := by
  obtain ⟨wa, wb, hK, hR, r1, r2⟩ := h0
  have hK2 := hK
  obtain ⟨hH, hB, hN, hI, hA, hZ, hS, ⟨wn, hn, hT, hG⟩, ha, hb⟩ := hK2
  have hR2 := hR
  obtain ⟨hTB, hWD, hLN, hGK, hVT, hIM⟩ := hR2
  have hs := h2.1
  refine sOk.imp (k266 E (by omega) H  ) ?_
  rintro v M' ⟨v', e, rfl, -⟩
  exact ⟨v', e, H, trivial, ⟨wa, wb, hK, hR, by omega, by omega⟩, h1, h2, h3, h4⟩
