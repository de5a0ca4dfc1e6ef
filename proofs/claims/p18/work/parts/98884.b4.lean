/-! The latest fault and how many TEXTS there are, through every call. -/
noncomputable def imI (b k : Int) (n h : Int) : Int := if k = b then n else h
noncomputable def bkI (k a0 a1 h0 h1 n : Int) : Int := if k = 0 then (if a0 = 1 then h0 else n) else if k = 1 then (if a1 = 1 then h1 else n) else n
noncomputable def cnW (N : Int → Int) (n s x : Int) : Int := if x = 0 then N 469 else if x = 1 then N 470 else if x = 2 then n else if x = 3 then N 472 else if x = 4 then s else -1
theorem cnW.of {N : Int → Int} {n s x v : Int} (q0 : x = 0 → v = N 469) (q1 : x = 1 → v = N 470) (q2 : x = 2 → v = n) (q3 : x = 3 → v = N 472) (q4 : x = 4 → v = s) (q5 : x < 0 ∨ 4 < x → v = -1) : v = cnW N n s x := by
  unfold cnW
  by_cases c0 : x = 0
  · rw [if_pos c0]; exact q0 c0
  rw [if_neg c0]
  by_cases c1 : x = 1
  · rw [if_pos c1]; exact q1 c1
  rw [if_neg c1]
  by_cases c2 : x = 2
  · rw [if_pos c2]; exact q2 c2
  rw [if_neg c2]
  by_cases c3 : x = 3
  · rw [if_pos c3]; exact q3 c3
  rw [if_neg c3]
  by_cases c4 : x = 4
  · rw [if_pos c4]; exact q4 c4
  rw [if_neg c4]
  exact q5 (by omega)
theorem sOk.andB {base : Nat} {X : Nat → Option mC} {G : Nat → Value} {d : Nat} {t : mT} {M : mH} {args : List mV} {A B P : Int → mH → Prop} (h : sOk base X G d t args M (pI A)) (h' : sOk base X G d t args M (pI B)) (hP : ∀ w v M', A w M' → B v M' → P v M') : sOk base X G d t args M (pI P) := by
  refine (m_Rn.and h h').imp ?_
  rintro r M' ⟨⟨v, e, w, rfl, a⟩, v', e', w', rfl, b⟩
  exact ⟨some (vI w'), e', w', rfl, hP _ _ _ a b⟩
section
variable {base : Nat} {s a0 a1 f n h0 h1 f' n' : Int} {T N I0 I1 I : Int → Int} {M M' : mH} {L : List (Nat × Nat)}
theorem HXc.gen (h : HXc base f n h0 h1 M) (cs : CSx base s T N a0 I0 a1 I1 M) (im : ImK base M M') (g4 : gi M' 0 4 = f') (g12 : gi M' 1 12 = n') : HXc base f' n' h0 h1 M' := ⟨g4, g12, h.2.2.1.keep cs.2.2.2.1 im, h.2.2.2.keep cs.2.2.2.2.1 im⟩
theorem HIc.sm {k : Nat} {h a : Int} (i : HIc base k h M) (x : IX base k a I M) (n0 : hv M' 12 k = hv M 12 k) (sm : ∀ r, 111 ≤ r → sameC r M M') : HIc base k h M' := by
  intro c e
  rw [n0] at e
  rcases x with ⟨-, z⟩ | ⟨-, d, z1, z2, z3, -⟩
  · rw [z] at e; cases e
  · have ed : d = c := by rw [z1] at e; exact Nat.add_left_cancel (Value.ref.inj e)
    rw [← ed]
    exact ((sm d z2).gi 12).trans (i d z1)
theorem HXc.im0 (h : HXc base f n h0 h1 M) (cs : CSx base s T N a0 I0 a1 I1 M) (q : ImM base 0 M M') (g : gi M' 0 4 = gi M 0 4) : HXc base f n n h1 M' := by
  obtain ⟨c, q1, q2, q3, q4, q5, q6, q7, -⟩ := q
  obtain ⟨e1, e2, e3, e4⟩ := h
  have g12 : gi M' 1 12 = n := ((q6 1 (by decide) (by decide) (by decide)).gi 12).trans e2
  refine ⟨g.trans e1, g12, fun c' e => ?_, fun c' e => ?_⟩
  · rw [q1] at e
    have ec : c = c' := Nat.add_left_cancel (Value.ref.inj e)
    rw [← ec]
    exact q4.i12.trans e2
  · rw [q5 1 (by decide)] at e
    rcases cs.2.2.2.2.1 with ⟨-, z⟩ | ⟨-, d, z1, z2, z3, -⟩
    · rw [z] at e; cases e
    · have ed : d = c' := by rw [z1] at e; exact Nat.add_left_cancel (Value.ref.inj e)
      have w := (q7 d z3 z2 (fun e2 => cs.2.2.2.2.2.1 d e2 z1)).2 d (Nat.le_refl _) (Nat.le_add_right _ _)
      rw [← ed]
      exact (w.gi 12).trans (e4 d z1)
theorem HXc.im1 (h : HXc base f n h0 h1 M) (cs : CSx base s T N a0 I0 a1 I1 M) (q : ImM base 1 M M') (g : gi M' 0 4 = gi M 0 4) : HXc base f n h0 n M' := by
  obtain ⟨c, q1, q2, q3, q4, q5, q6, q7, -⟩ := q
  obtain ⟨e1, e2, e3, e4⟩ := h
  have g12 : gi M' 1 12 = n := ((q6 1 (by decide) (by decide) (by decide)).gi 12).trans e2
  refine ⟨g.trans e1, g12, fun c' e => ?_, fun c' e => ?_⟩
  · rw [q5 0 (by decide)] at e
    rcases cs.2.2.2.1 with ⟨-, z⟩ | ⟨-, d, z1, z2, z3, -⟩
    · rw [z] at e; cases e
    · have ed : d = c' := by rw [z1] at e; exact Nat.add_left_cancel (Value.ref.inj e)
      have w := (q7 d z3 z2 (fun e2 => cs.2.2.2.2.2.1 d z1 e2)).2 d (Nat.le_refl _) (Nat.le_add_right _ _)
      rw [← ed]
      exact (w.gi 12).trans (e3 d z1)
  · rw [q1] at e
    have ec : c = c' := Nat.add_left_cancel (Value.ref.inj e)
    rw [← ec]
    exact q4.i12.trans e2
theorem HXc.img {k : Int} (h : HXc base f n h0 h1 M) (cs : CSx base s T N a0 I0 a1 I1 M) (hM : 111 ≤ M.1) (q : 0 ≤ k ∧ k ≤ 1 → ImM base k.toNat M M') (q' : k < 0 ∨ 1 < k → Fr [(0, 6)] M M') (g : gi M' 0 4 = gi M 0 4) : HXc base f n (imI 0 k n h0) (imI 1 k n h1) M' := by
  unfold imI
  by_cases k0 : k = 0
  · subst k0
    rw [if_pos rfl, if_neg (by decide)]
    exact h.im0 cs (q (by decide)) g
  rw [if_neg k0]
  by_cases k1 : k = 1
  · subst k1
    rw [if_pos rfl]
    exact h.im1 cs (q (by decide)) g
  rw [if_neg k1]
  exact h.fz cs hM ((q' (by omega)).q rfl).z rfl
theorem HXc.back {k v : Int} (h : HXc base f n h0 h1 M) (cs : CSx base s T N a0 I0 a1 I1 M) (n0 : ∀ i, hv M' 12 i = hv M 12 i) (g : gi M' 0 4 = gi M 0 4) (e0 : k < 0 ∨ 1 < k → v = -1 ∧ Fr [(0, 6)] M M') (e1 : 0 ≤ k ∧ k ≤ 1 → hv M 12 k.toNat = .null → v = -2 ∧ ∀ r, 0 < r → sameC r M M') (e2 : 0 ≤ k ∧ k ≤ 1 → ∀ c, hv M 12 k.toNat = .ref (base + c) → v = 0 ∧ CpF c 1 M M' ∧ ∀ r, 11 < r → sameC r M M') : HXc base f (bkI k a0 a1 h0 h1 n) h0 h1 M' := by
  have fin : ∀ n', gi M' 1 12 = n' → (∀ r, 11 < r → sameC r M M') → HXc base f n' h0 h1 M' := fun n' gn sm => ⟨g.trans h.1, gn, h.2.2.1.sm cs.2.2.2.1 (n0 0) (fun r x => sm r (by omega)), h.2.2.2.sm cs.2.2.2.2.1 (n0 1) (fun r x => sm r (by omega))⟩
  have nul : (∀ r, 0 < r → sameC r M M') → HXc base f n h0 h1 M' := fun sm => fin n (((sm 1 (by decide)).gi 12).trans h.2.1) (fun r x => sm r (by omega))
  unfold bkI
  by_cases k0 : k = 0
  · subst k0
    rw [if_pos rfl]
    rcases cs.2.2.2.1 with ⟨a, b⟩ | ⟨a, c, b, -⟩
    · rw [if_neg (by omega)]; exact nul (e1 (by decide) b).2
    · rw [if_pos a]
      have w := e2 (by decide) c b
      exact fin h0 (w.2.1.i12.trans (h.2.2.1 c b)) w.2.2
  rw [if_neg k0]
  by_cases k1 : k = 1
  · subst k1
    rw [if_pos rfl]
    rcases cs.2.2.2.2.1 with ⟨a, b⟩ | ⟨a, c, b, -⟩
    · rw [if_neg (by omega)]; exact nul (e1 (by decide) b).2
    · rw [if_pos a]
      have w := e2 (by decide) c b
      exact fin h1 (w.2.1.i12.trans (h.2.2.2 c b)) w.2.2
  rw [if_neg k1]
  have fr := (e0 (by omega)).2
  exact fin n ((fr.g rfl).trans h.2.1) (fun r x => ⟨(fr.2.2 r).1, (fr.2.2 r).2.1, fun i => (fr.2.2 r).2.2 i (by simp [s_md]; omega)⟩)
/-- what may be written where only the TEXTS' count must be said -/
noncomputable def vxW (L : List (Nat × Nat)) : Bool := s_al L (fun c => c != 79 && c != 80 && c != 94)
noncomputable def vxI (L : List (Nat × Nat)) : Bool := s_al L (fun c => c != 78 && c != 94) && !s_md L 77 32
theorem HXr.k78 (h : HXr f n h0 h1 M) (k : Fr L M M') (hc : vxW L = true) (gf : gi M' 77 32 = f') (g : gi M' 78 471 = n') : HXr f' n' h0 h1 M' := by
  unfold vxW at hc
  obtain ⟨q1, q2, q3, q4, q5⟩ := h
  have e79 : ∀ i : Int, gi M' 79 i = gi M 79 i := fun i => k.g (s_al_ok hc (by simp))
  have e80 : ∀ i : Int, gi M' 80 i = gi M 80 i := fun i => k.g (s_al_ok hc (by simp))
  have e94 : ∀ i : Int, gi M' 94 i = gi M 94 i := fun i => k.g (s_al_ok hc (by simp))
  exact ⟨gf, g, fun e => (e79 _).trans (q3 ((e80 _).symm.trans e)), fun e => (e79 _).trans (q4 ((e80 _).symm.trans e)), fun i x y => (e94 i).trans (q5 i x y)⟩
theorem HXr.w4 {b i x y z m : Int} (h : HXr f n h0 h1 M) (u : W4 78 b 78 i x y z m M M') (hb : 0 ≤ b ∧ (b + 2 < 471 ∨ 471 < b)) (hi : 0 ≤ i ∧ i ≠ 471) : HXr f n h0 h1 M' := by
  obtain ⟨A, B, C, u1, u2, u3, u4⟩ := u
  exact (((h.wr u1 ⟨by omega, by omega⟩).wr u2 ⟨by omega, by omega⟩).wr u3 ⟨by omega, by omega⟩).wr u4 hi
theorem HXr.sen {v a b c : Int} (h : HXr f n h0 h1 M) (k : Fr L M M') (hc : vxW L = true) (gf : gi M' 77 32 = gi M 77 32) (q : SnR v a b c M M') : HXr f n h0 h1 M' := by
  refine h.k78 k hc (gf.trans h.1) ?_
  rcases q with ⟨-, -, e⟩ | ⟨-, -, -, e⟩ | ⟨-, -, -, -, e⟩ | ⟨-, -, -, -, -, e⟩ | ⟨-, -, -, c4, -, e⟩
  · exact (e 471).trans h.2.1
  · exact (e 471).trans h.2.1
  · exact (e 471).trans h.2.1
  · exact (e 471).trans h.2.1
  · exact ((e 471).trans (seR_out (by omega) (by decide))).trans h.2.1
theorem HXr.img {k : Int} (h : HXr f n h0 h1 M) (fr : Fr L M M') (hc : vxI L = true) (q5 : 0 ≤ k ∧ k ≤ 1 → gi M' 80 k = 1) (q6 : ∀ i : Int, i ≠ k → gi M' 80 i = gi M 80 i) (q8 : 0 ≤ k ∧ k ≤ 1 → ∀ j : Int, 0 ≤ j → j < 6883 → gi M' 79 (6883 * k + j) = gi M 78 j) (q9 : 0 ≤ k ∧ k ≤ 1 → ∀ j : Int, 0 ≤ j → (j < 6883 * k ∨ 6883 * k + 6883 ≤ j) → gi M' 79 j = gi M 79 j) (q7 : k < 0 ∨ 1 < k → ∀ i : Int, gi M' 80 i = gi M 80 i) (q10 : k < 0 ∨ 1 < k → ∀ j : Int, gi M' 79 j = gi M 79 j) : HXr f n (imI 0 k n h0) (imI 1 k n h1) M' := by
  unfold vxI at hc
  rw [Bool.and_eq_true, Bool.not_eq_true'] at hc
  obtain ⟨g1, g2, g3, g4, g5⟩ := h
  have e78 : ∀ i : Int, gi M' 78 i = gi M 78 i := fun i => fr.g (s_al_ok hc.1 (by simp))
  have e94 : ∀ i : Int, gi M' 94 i = gi M 94 i := fun i => fr.g (s_al_ok hc.1 (by simp))
  have w1 : gi M' 77 32 = f := (fr.g (i := 32) hc.2).trans g1
  have w2 : gi M' 78 471 = n := (e78 _).trans g2
  have w5 : WX M' := fun i x y => (e94 i).trans (g5 i x y)
  unfold imI
  by_cases k0 : k = 0
  · subst k0
    rw [if_pos rfl, if_neg (by decide)]
    refine ⟨w1, w2, fun _ => ?_, fun e => ?_, w5⟩
    · have y := q8 (by decide) 471 (by decide) (by decide)
      rw [show (6883 : Int) * 0 + 471 = 471 by decide] at y
      exact y.trans g2
    · rw [q6 1 (by decide)] at e
      exact (q9 (by decide) 7354 (by decide) (by decide)).trans (g4 e)
  rw [if_neg k0]
  by_cases k1 : k = 1
  · subst k1
    rw [if_pos rfl]
    refine ⟨w1, w2, fun e => ?_, fun _ => ?_, w5⟩
    · rw [q6 0 (by decide)] at e
      exact (q9 (by decide) 471 (by decide) (by decide)).trans (g3 e)
    · have y := q8 (by decide) 471 (by decide) (by decide)
      rw [show (6883 : Int) * 1 + 471 = 7354 by decide] at y
      exact y.trans g2
  rw [if_neg k1]
  have y7 := q7 (by omega)
  have y10 := q10 (by omega)
  exact ⟨w1, w2, fun e => (y10 _).trans (g3 ((y7 0).symm.trans e)), fun e => (y10 _).trans (g4 ((y7 1).symm.trans e)), w5⟩
theorem HXr.back {k : Int} (h : HXr f n h0 h1 M) (r : RSx s T N a0 I0 a1 I1 M) (H : HI base M) (fr : Fr L M M') (hc : vxW L = true) (gf : gi M' 77 32 = gi M 77 32) (q6 : 0 ≤ k ∧ k ≤ 1 → gi M 80 k = 1 → ∀ j : Int, 0 ≤ j → j < 6883 → gi M' 78 j = gi M 79 (6883 * k + j)) (q7 : k < 0 ∨ 1 < k ∨ gi M 80 k = 0 → ∀ j : Int, gi M' 78 j = gi M 78 j) : HXr f (bkI k a0 a1 h0 h1 n) h0 h1 M' := by
  have bb := r.bits2 H
  have r0 := r.2.2.2.1
  have r1 := r.2.2.2.2.2.1
  refine h.k78 fr hc (gf.trans h.1) ?_
  unfold bkI
  by_cases k0 : k = 0
  · subst k0
    rw [if_pos rfl]
    rcases bb.1 with a | a
    · rw [if_neg (by omega)]; exact (q7 (Or.inr (Or.inr (r0.trans a))) 471).trans h.2.1
    · rw [if_pos a]
      have y := q6 (by decide) (r0.trans a) 471 (by decide) (by decide)
      rw [show (6883 : Int) * 0 + 471 = 471 by decide] at y
      exact y.trans (h.2.2.1 (r0.trans a))
  rw [if_neg k0]
  by_cases k1 : k = 1
  · subst k1
    rw [if_pos rfl]
    rcases bb.2 with a | a
    · rw [if_neg (by omega)]; exact (q7 (Or.inr (Or.inr (r1.trans a))) 471).trans h.2.1
    · rw [if_pos a]
      have y := q6 (by decide) (r1.trans a) 471 (by decide) (by decide)
      rw [show (6883 : Int) * 1 + 471 = 7354 by decide] at y
      exact y.trans (h.2.2.2.1 (r1.trans a))
  rw [if_neg k1]
  exact (q7 (by omega) 471).trans h.2.1
end

theorem V96 {base : Nat} {X : Nat → Option mC} {G : Nat → Value} (E : EnvOK base X G) {d : Nat} (hd : 1 ≤ d) {M : mH} (H : HI base M) (w : Int) (what : Int) (value : Int) (j : Int) (gs : Int) (gT : Int → Int) (gN : Int → Int) (ga : Int) (g0 : Int → Int) (gb : Int) (g1 : Int → Int) (hf : Int) (hn : Int) (hx : Int) (hy : Int) (h0 : INVl base j M) (h1 : CSx base gs gT gN ga g0 gb g1 M) (h2 : RSx gs gT gN ga g0 gb g1 M) (h3 : HXc base hf hn hx hy M) (h4 : HXr hf hn hx hy M) (b_w : -2147483648 ≤ w ∧ w ≤ 2147483647) (b_what : -2147483648 ≤ what ∧ what ≤ 2147483647) (b_value : -2147483648 ≤ value ∧ value ≤ 2147483647) : sOk base X G d T96 [vR 0, vI w, vI what, vI value] M (pI (fun v M' => HI base M' ∧ Ftr [(0, 0)] M M' ∧ (INVl base (j + 6) M') ∧ (CSx base gs gT (stN (WV w what value) gN (30 * what + w) value) ga g0 gb g1 M') ∧ (RSx gs gT gN ga g0 gb g1 M') ∧ (HXc base hf hn hx hy M') ∧ (HXr hf hn hx hy M') ∧ (-2147483648 ≤ v ∧ v ≤ 2147483647) ∧ (v = stV (WV w what value) gN (30 * what + w)))) := by
  obtain ⟨wa, wb, hK, hR, r1, r2⟩ := h0
  have hK2 := hK
  obtain ⟨hH, hB, hN, hI, hA, hZ, hS, ⟨wn, hn, hT, hG⟩, ha, hb⟩ := hK2
  have hR2 := hR
  obtain ⟨hTB, hWD, hLN, hGK, hVT, hIM⟩ := hR2
  have hs := h1.1
  refine sOk.imp (k96n E (by omega) H w what value (by omega) (by omega) (by omega)) ?_
  rintro v M' ⟨v', e, H', f, q0, q1⟩
  have z := (f.q rfl).z
  have rf := z.ref H.m rfl
  have kr := hR.of rf
  have cs : CSx base gs gT (stN (WV w what value) gN (30 * what + w) value) ga g0 gb g1 M' ∧ (-2147483648 ≤ v' ∧ v' ≤ 2147483647) ∧ v' = stV (WV w what value) gN (30 * what + w) := by
    rcases q1 with ⟨hp, hvv, M1, u, fa⟩ | ⟨hp, hvv, fr⟩
    · have hp2 := hp
      unfold WV at hp2
      have dj : dAs (30 * what + w) := by unfold dAs; omega
      have zn := h1.2.2.2.2.2.2.1
      have bv := H.2 2 (what * 30 + w) 0 60 rfl
      have es : slA (30 * what + w) = (1, 30 * what + w) := slA_w (by omega)
      rw [stN_pos hp, stV_pos hp]
      have ww := h1.wr u dj es rfl (by omega) (by unfold inR; omega) (zn.upd (by omega) (by omega))
      have ww2 := ww.fz (by rw [u.n1]; exact H.m) (fa.q rfl).z rfl
      refine ⟨ww2, by omega, ?_⟩
      have o := h1.2.2.1 _ dj
      rw [cS_at es] at o
      rw [hvv, ← o]
      show gi M 2 (what * 30 + w) = gi M 2 (30 * what + w)
      congr 1
      omega
    · rw [stN_neg hp, stV_neg hp]
      have ww := h1.fz H.m (fr.q rfl).z rfl
      exact ⟨ww, by omega, hvv⟩
  exact ⟨v', e, H', trivial, ⟨wa, wb, hK.st H' z rfl rfl q0, kr, by rw [f.1]; omega, by rw [f.2.1]; omega⟩, cs.1, h2.of rf, h3.fz h1 H.m z rfl, h4.of rf, cs.2.1, cs.2.2⟩
theorem V97 {base : Nat} {X : Nat → Option mC} {G : Nat → Value} (E : EnvOK base X G) {d : Nat} (hd : 1 ≤ d) {M : mH} (H : HI base M) (what : Int) (value : Int) (j : Int) (gs : Int) (gT : Int → Int) (gN : Int → Int) (ga : Int) (g0 : Int → Int) (gb : Int) (g1 : Int → Int) (hf : Int) (hn : Int) (hx : Int) (hy : Int) (h0 : INVl base j M) (h1 : CSx base gs gT gN ga g0 gb g1 M) (h2 : RSx gs gT gN ga g0 gb g1 M) (h3 : HXc base hf hn hx hy M) (h4 : HXr hf hn hx hy M) (b_what : -2147483648 ≤ what ∧ what ≤ 2147483647) (b_value : -2147483648 ≤ value ∧ value ≤ 2147483647) : sOk base X G d T97 [vR 0, vI what, vI value] M (pI (fun v M' => HI base M' ∧ Ftr [(0, 0)] M M' ∧ (INVl base (j + 6) M') ∧ (CSx base gs gT (stN (TV what value) gN (90 + what) value) ga g0 gb g1 M') ∧ (RSx gs gT gN ga g0 gb g1 M') ∧ (HXc base hf hn hx hy M') ∧ (HXr hf hn hx hy M') ∧ (-2147483648 ≤ v ∧ v ≤ 2147483647) ∧ (v = stV (TV what value) gN (90 + what)))) := by
  obtain ⟨wa, wb, hK, hR, r1, r2⟩ := h0
  have hK2 := hK
  obtain ⟨hH, hB, hN, hI, hA, hZ, hS, ⟨wn, hn, hT, hG⟩, ha, hb⟩ := hK2
  have hR2 := hR
  obtain ⟨hTB, hWD, hLN, hGK, hVT, hIM⟩ := hR2
  have hs := h1.1
  refine sOk.imp (k97n E (by omega) H what value (by omega) (by omega)) ?_
  rintro v M' ⟨v', e, H', f, q0, q1⟩
  have z := (f.q rfl).z
  have rf := z.ref H.m rfl
  have kr := hR.of rf
  have cs : CSx base gs gT (stN (TV what value) gN (90 + what) value) ga g0 gb g1 M' ∧ (-2147483648 ≤ v' ∧ v' ≤ 2147483647) ∧ v' = stV (TV what value) gN (90 + what) := by
    rcases q1 with ⟨hp, hvv, M1, u, fa⟩ | ⟨hp, hvv, fr⟩
    · have hp2 := hp
      unfold TV at hp2
      have dj : dAs (90 + what) := by unfold dAs; omega
      have zn := h1.2.2.2.2.2.2.1
      have bv := H.2 3 (what) 0 1000 rfl
      have es : slA (90 + what) = (2, 90 + what - 90) := slA_t (by omega)
      rw [stN_pos hp, stV_pos hp]
      have ww := h1.wr u dj es rfl (by omega) (by unfold inR; omega) (zn.upd (by omega) (by omega))
      have ww2 := ww.fz (by rw [u.n1]; exact H.m) (fa.q rfl).z rfl
      refine ⟨ww2, by omega, ?_⟩
      have o := h1.2.2.1 _ dj
      rw [cS_at es] at o
      rw [hvv, ← o]
      show gi M 3 (what) = gi M 3 (90 + what - 90)
      congr 1
      omega
    · rw [stN_neg hp, stV_neg hp]
      have ww := h1.fz H.m (fr.q rfl).z rfl
      exact ⟨ww, by omega, hvv⟩
  exact ⟨v', e, H', trivial, ⟨wa, wb, hK.st H' z rfl rfl q0, kr, by rw [f.1]; omega, by rw [f.2.1]; omega⟩, cs.1, h2.of rf, h3.fz h1 H.m z rfl, h4.of rf, cs.2.1, cs.2.2⟩
theorem V98 {base : Nat} {X : Nat → Option mC} {G : Nat → Value} (E : EnvOK base X G) {d : Nat} (hd : 1 ≤ d) {M : mH} (H : HI base M) (x : Int) (j : Int) (gs : Int) (gT : Int → Int) (gN : Int → Int) (ga : Int) (g0 : Int → Int) (gb : Int) (g1 : Int → Int) (hf : Int) (hn : Int) (hx : Int) (hy : Int) (h0 : INVl base j M) (h1 : CSx base gs gT gN ga g0 gb g1 M) (h2 : RSx gs gT gN ga g0 gb g1 M) (h3 : HXc base hf hn hx hy M) (h4 : HXr hf hn hx hy M) (b_x : -2147483648 ≤ x ∧ x ≤ 2147483647) : sOk base X G d T98 [vR 0, vI x] M (pI (fun v M' => HI base M' ∧ Ftr [(0, 0)] M M' ∧ (INVl base (j + 6) M') ∧ (CSx base gs gT (stN (OV x) gN 473 x) ga g0 gb g1 M') ∧ (RSx gs gT gN ga g0 gb g1 M') ∧ (HXc base hf hn hx hy M') ∧ (HXr hf hn hx hy M') ∧ (-2147483648 ≤ v ∧ v ≤ 2147483647) ∧ (v = stV (OV x) gN 473))) := by
  obtain ⟨wa, wb, hK, hR, r1, r2⟩ := h0
  have hK2 := hK
  obtain ⟨hH, hB, hN, hI, hA, hZ, hS, ⟨wn, hn, hT, hG⟩, ha, hb⟩ := hK2
  have hR2 := hR
  obtain ⟨hTB, hWD, hLN, hGK, hVT, hIM⟩ := hR2
  have hs := h1.1
  refine sOk.imp (k98n E (by omega) H x (by omega)) ?_
  rintro v M' ⟨v', e, H', f, q0, q1⟩
  have z := (f.q rfl).z
  have rf := z.ref H.m rfl
  have kr := hR.of rf
  have cs : CSx base gs gT (stN (OV x) gN 473 x) ga g0 gb g1 M' ∧ (-2147483648 ≤ v' ∧ v' ≤ 2147483647) ∧ v' = stV (OV x) gN 473 := by
    rcases q1 with ⟨hp, hvv, M1, u, fa⟩ | ⟨hp, hvv, fr⟩
    · have hp2 := hp
      unfold OV at hp2
      have dj : dAs (473) := by unfold dAs; omega
      have zn := h1.2.2.2.2.2.2.1
      have bv := H.2 1 ((2 : Int)) 0 5 rfl
      have es : slA (473) = (0, 2) := slA_473
      rw [stN_pos hp, stV_pos hp]
      have ww := h1.wr u dj es rfl (by omega) (by unfold inR; omega) (zn.upd (by omega) (by omega))
      have ww2 := ww.fz (by rw [u.n1]; exact H.m) (fa.q rfl).z rfl
      refine ⟨ww2, by omega, ?_⟩
      have o := h1.2.2.1 _ dj
      rw [cS_at es] at o
      rw [hvv, ← o]
    · rw [stN_neg hp, stV_neg hp]
      have ww := h1.fz H.m (fr.q rfl).z rfl
      exact ⟨ww, by omega, hvv⟩
  exact ⟨v', e, H', trivial, ⟨wa, wb, hK.st H' z rfl rfl q0, kr, by rw [f.1]; omega, by rw [f.2.1]; omega⟩, cs.1, h2.of rf, h3.fz h1 H.m z rfl, h4.of rf, cs.2.1, cs.2.2⟩
theorem V99 {base : Nat} {X : Nat → Option mC} {G : Nat → Value} (E : EnvOK base X G) {d : Nat} (hd : 2 ≤ d) {M : mH} (H : HI base M) (slot : Int) (values : Int) (length : Int) (j : Int) (gs : Int) (gT : Int → Int) (gN : Int → Int) (ga : Int) (g0 : Int → Int) (gb : Int) (g1 : Int → Int) (hf : Int) (hn : Int) (hx : Int) (hy : Int) (h0 : INVl base j M) (h1 : CSx base gs gT gN ga g0 gb g1 M) (h2 : RSx gs gT gN ga g0 gb g1 M) (h3 : HXc base hf hn hx hy M) (h4 : HXr hf hn hx hy M) (b_slot : -2147483648 ≤ slot ∧ slot ≤ 2147483647) (b_values : -2147483648 ≤ values ∧ values ≤ 2147483647) (b_length : -2147483648 ≤ length ∧ length ≤ 2147483647) : sOk base X G d T99 [vR 0, vI slot, vI values, vI length] M (pI (fun v M' => HI base M' ∧ Ftr [(0, 0)] M M' ∧ (INVl base (j + 6) M') ∧ (CSx base gs gT (ctN (NV slot values length) gN 99 470 12 slot values length) ga g0 gb g1 M') ∧ (RSx gs gT gN ga g0 gb g1 M') ∧ (HXc base hf hn hx hy M') ∧ (HXr hf hn hx hy M') ∧ (-2147483648 ≤ v ∧ v ≤ 2147483647) ∧ (v = ctV (NV slot values length) gN 470 12))) := by
  obtain ⟨wa, wb, hK, hR, r1, r2⟩ := h0
  have hK2 := hK
  obtain ⟨hH, hB, hN, hI, hA, hZ, hS, ⟨wn, hn, hT, hG⟩, ha, hb⟩ := hK2
  have hR2 := hR
  obtain ⟨hTB, hWD, hLN, hGK, hVT, hIM⟩ := hR2
  have hs := h1.1
  refine sOk.imp (k99n E (by omega) H slot values length (by omega) (by omega) (by omega)) ?_
  rintro v M' ⟨v', e, H', f, q0, q1⟩
  have z := (f.q rfl).z
  have rf := z.ref H.m rfl
  have kr := hR.of rf
  have dj : dAs 470 := by unfold dAs; omega
  have cn : gi M 1 4 = gN 470 := by
    have o := h1.2.2.1 470 dj
    rw [cS_at slA_470] at o
    exact o
  have bv := H.2 1 4 0 12 rfl
  have cs : CSx base gs gT (ctN (NV slot values length) gN 99 470 12 slot values length) ga g0 gb g1 M' ∧ (-2147483648 ≤ v' ∧ v' ≤ 2147483647) ∧ v' = ctV (NV slot values length) gN 470 12 := by
    unfold ctN ctV
    rcases q1 with ⟨hp, hl, hvv, M1, u, fa⟩ | ⟨hp, hl, hvv, fr⟩ | ⟨hp, hvv, fr⟩
    · have hp2 := hp
      unfold NV at hp2
      rw [if_pos hp, if_pos hp, if_pos (show gN 470 < 12 by omega), if_pos (show gN 470 < 12 by omega)]
      have w := h1.w4 (c := 3) (f := 4) (b := 99) (i := 470) (lim := 12) (fun k k1 k2 => by rw [slA_o ⟨by omega, by omega⟩]; exact Prod.ext rfl (by dsimp only; omega)) slA_470 dj (fun k k1 k2 => by unfold dAs; omega) (by omega) (by omega) (by omega) (by omega) (show 0 ≤ gi M 1 4 ∧ gi M 1 4 < 12 from ⟨by omega, by omega⟩) (by omega) (by unfold inR; omega) (by unfold inR; omega) (by unfold inR; omega) u
      exact ⟨w.fz (by obtain ⟨A, B, C, u1, u2, u3, u4⟩ := u; rw [u4.n1, u3.n1, u2.n1, u1.n1]; exact H.m) (fa.q rfl).z rfl, by omega, by rw [hvv]; exact cn⟩
    · rw [if_pos hp, if_pos hp, if_neg (show ¬ gN 470 < 12 by omega), if_neg (show ¬ gN 470 < 12 by omega)]
      exact ⟨h1.fz H.m (fr.q rfl).z rfl, by omega, hvv⟩
    · rw [if_neg hp, if_neg hp]
      exact ⟨h1.fz H.m (fr.q rfl).z rfl, by omega, hvv⟩
  exact ⟨v', e, H', trivial, ⟨wa, wb, hK.st H' z rfl rfl q0, kr, by rw [f.1]; omega, by rw [f.2.1]; omega⟩, cs.1, h2.of rf, h3.fz h1 H.m z rfl, h4.of rf, cs.2.1, cs.2.2⟩
theorem V100 {base : Nat} {X : Nat → Option mC} {G : Nat → Value} (E : EnvOK base X G) {d : Nat} (hd : 1 ≤ d) {M : mH} (H : HI base M) (x : Int) (j : Int) (gs : Int) (gT : Int → Int) (gN : Int → Int) (ga : Int) (g0 : Int → Int) (gb : Int) (g1 : Int → Int) (hf : Int) (hn : Int) (hx : Int) (hy : Int) (h0 : INVl base j M) (h1 : CSx base gs gT gN ga g0 gb g1 M) (h2 : RSx gs gT gN ga g0 gb g1 M) (h3 : HXc base hf hn hx hy M) (h4 : HXr hf hn hx hy M) (b_x : -2147483648 ≤ x ∧ x ≤ 2147483647) : sOk base X G d T100 [vR 0, vI x] M (pI (fun v M' => HI base M' ∧ Ftr [(0, 0)] M M' ∧ (INVl base (j + 6) M') ∧ (CSx base gs gT (stN (PV x) gN 474 x) ga g0 gb g1 M') ∧ (RSx gs gT gN ga g0 gb g1 M') ∧ (HXc base hf hn hx hy M') ∧ (HXr hf hn hx hy M') ∧ (-2147483648 ≤ v ∧ v ≤ 2147483647) ∧ (v = stV (PV x) gN 474))) := by
  obtain ⟨wa, wb, hK, hR, r1, r2⟩ := h0
  have hK2 := hK
  obtain ⟨hH, hB, hN, hI, hA, hZ, hS, ⟨wn, hn, hT, hG⟩, ha, hb⟩ := hK2
  have hR2 := hR
  obtain ⟨hTB, hWD, hLN, hGK, hVT, hIM⟩ := hR2
  have hs := h1.1
  refine sOk.imp (k100n E (by omega) H x (by omega)) ?_
  rintro v M' ⟨v', e, H', f, q0, q1⟩
  have z := (f.q rfl).z
  have rf := z.ref H.m rfl
  have kr := hR.of rf
  have cs : CSx base gs gT (stN (PV x) gN 474 x) ga g0 gb g1 M' ∧ (-2147483648 ≤ v' ∧ v' ≤ 2147483647) ∧ v' = stV (PV x) gN 474 := by
    rcases q1 with ⟨hp, hvv, M1, u, fa⟩ | ⟨hp, hvv, fr⟩
    · have hp2 := hp
      unfold PV at hp2
      have dj : dAs (474) := by unfold dAs; omega
      have zn := h1.2.2.2.2.2.2.1
      have bv := H.2 1 ((5 : Int)) 0 3 rfl
      have es : slA (474) = (0, 5) := slA_474
      rw [stN_pos hp, stV_pos hp]
      have ww := h1.wr u dj es rfl (by omega) (by unfold inR; omega) (zn.upd (by omega) (by omega))
      have ww2 := ww.fz (by rw [u.n1]; exact H.m) (fa.q rfl).z rfl
      refine ⟨ww2, by omega, ?_⟩
      have o := h1.2.2.1 _ dj
      rw [cS_at es] at o
      rw [hvv, ← o]
    · rw [stN_neg hp, stV_neg hp]
      have ww := h1.fz H.m (fr.q rfl).z rfl
      exact ⟨ww, by omega, hvv⟩
  exact ⟨v', e, H', trivial, ⟨wa, wb, hK.st H' z rfl rfl q0, kr, by rw [f.1]; omega, by rw [f.2.1]; omega⟩, cs.1, h2.of rf, h3.fz h1 H.m z rfl, h4.of rf, cs.2.1, cs.2.2⟩
theorem V101 {base : Nat} {X : Nat → Option mC} {G : Nat → Value} (E : EnvOK base X G) {d : Nat} (hd : 2 ≤ d) {M : mH} (H : HI base M) (xa : Int) (xb : Int) (xc : Int) (j : Int) (gs : Int) (gT : Int → Int) (gN : Int → Int) (ga : Int) (g0 : Int → Int) (gb : Int) (g1 : Int → Int) (hf : Int) (hn : Int) (hx : Int) (hy : Int) (h0 : INVl base j M) (h1 : CSx base gs gT gN ga g0 gb g1 M) (h2 : RSx gs gT gN ga g0 gb g1 M) (h3 : HXc base hf hn hx hy M) (h4 : HXr hf hn hx hy M) (b_xa : -2147483648 ≤ xa ∧ xa ≤ 2147483647) (b_xb : -2147483648 ≤ xb ∧ xb ≤ 2147483647) (b_xc : -2147483648 ≤ xc ∧ xc ≤ 2147483647) : sOk base X G d T101 [vR 0, vI xa, vI xb, vI xc] M (pI (fun v M' => HI base M' ∧ Ftr [(0, 0)] M M' ∧ (INVl base (j + 6) M') ∧ (CSx base 0 gT (seN gT gN gs xa xb xc) ga g0 gb g1 M') ∧ (RSx gs gT gN ga g0 gb g1 M') ∧ (HXc base hf hn hx hy M') ∧ (HXr hf hn hx hy M') ∧ (-2147483648 ≤ v ∧ v ≤ 2147483647) ∧ (v = seV gT gN gs xa xb xc))) := by
  obtain ⟨wa, wb, hK, hR, r1, r2⟩ := h0
  have hK2 := hK
  obtain ⟨hH, hB, hN, hI, hA, hZ, hS, ⟨wn, hn, hT, hG⟩, ha, hb⟩ := hK2
  have hR2 := hR
  obtain ⟨hTB, hWD, hLN, hGK, hVT, hIM⟩ := hR2
  have hs := h1.1
  refine sOk.imp (k101n E (by omega) H xa xb xc (by omega) (by omega) (by omega)) ?_
  rintro v M' ⟨v', e, H', f, q0, q1, q2, q3⟩
  have z := (f.q rfl).z
  have rf := z.ref H.m rfl
  have kr := hR.of rf
  have cs := h1.sen H f q2 q3
  exact ⟨v', e, H', trivial, ⟨wa, wb, hK.st H' z rfl rfl q1, kr, by rw [f.1]; omega, by rw [f.2.1]; omega⟩, cs.1, h2.of rf, h3.fz h1 H.m z rfl, h4.of rf, cs.2.1, cs.2.2⟩
theorem V102 {base : Nat} {X : Nat → Option mC} {G : Nat → Value} (E : EnvOK base X G) {d : Nat} (hd : 2 ≤ d) {M : mH} (H : HI base M) (xs : Int) (xp : Int) (xw : Int) (j : Int) (gs : Int) (gT : Int → Int) (gN : Int → Int) (ga : Int) (g0 : Int → Int) (gb : Int) (g1 : Int → Int) (hf : Int) (hn : Int) (hx : Int) (hy : Int) (h0 : INVl base j M) (h1 : CSx base gs gT gN ga g0 gb g1 M) (h2 : RSx gs gT gN ga g0 gb g1 M) (h3 : HXc base hf hn hx hy M) (h4 : HXr hf hn hx hy M) (b_xs : -2147483648 ≤ xs ∧ xs ≤ 2147483647) (b_xp : -2147483648 ≤ xp ∧ xp ≤ 2147483647) (b_xw : -2147483648 ≤ xw ∧ xw ≤ 2147483647) : sOk base X G d T102 [vR 0, vI xs, vI xp, vI xw] M (pI (fun v M' => HI base M' ∧ Ftr [(0, 0)] M M' ∧ (INVl base (j + 6) M') ∧ (CSx base gs gT (stN (GV (gN 469) xs xp xw) gN (147 + 16 * xs + xp) xw) ga g0 gb g1 M') ∧ (RSx gs gT gN ga g0 gb g1 M') ∧ (HXc base hf hn hx hy M') ∧ (HXr hf hn hx hy M'))) := by
  obtain ⟨wa, wb, hK, hR, r1, r2⟩ := h0
  have hK2 := hK
  obtain ⟨hH, hB, hN, hI, hA, hZ, hS, ⟨wn, hn, hT, hG⟩, ha, hb⟩ := hK2
  have hR2 := hR
  obtain ⟨hTB, hWD, hLN, hGK, hVT, hIM⟩ := hR2
  have hs := h1.1
  refine sOk.imp (k102n E (by omega) H xs xp xw (by omega) (by omega) (by omega)) ?_
  rintro v M' ⟨v', e, H', f, q0, q1⟩
  have z := (f.q rfl).z
  have rf := z.ref H.m rfl
  have kr := hR.of rf
  have cs : CSx base gs gT (stN (GV (gN 469) xs xp xw) gN (147 + 16 * xs + xp) xw) ga g0 gb g1 M' := by
    have en : gi M 1 10 = gN 469 := h1.n
    rw [en] at q1
    have bn : 0 ≤ gi M 1 10 ∧ gi M 1 10 ≤ 16 := H.2 1 10 0 16 rfl
    rw [en] at bn
    rcases q1 with ⟨hp, hvv, M1, u, fa⟩ | ⟨hp, hvv, fr⟩
    · have hp2 := hp
      unfold GV at hp2
      have dj : dAs (147 + 16 * xs + xp) := by unfold dAs; omega
      have zn := h1.2.2.2.2.2.2.1
      have bv := H.2 8 (xs * 4 + xp) 0 100 rfl
      have es : slA (147 + 16 * xs + xp) = (7, 4 * xs + xp) := slA_g (q := xs) (i := xp) ⟨by omega, by omega⟩ (by omega)
      rw [stN_pos hp]
      have ww := h1.wr u dj es rfl (by omega) (by unfold inR; omega) (zn.upd (by omega) (by omega))
      have ww2 := ww.fz (by rw [u.n1]; exact H.m) (fa.q rfl).z rfl
      exact ww2
    · rw [stN_neg hp]
      have ww := h1.fz H.m (fr.q rfl).z rfl
      exact ww
  exact ⟨v', e, H', trivial, ⟨wa, wb, hK.st H' z rfl rfl q0, kr, by rw [f.1]; omega, by rw [f.2.1]; omega⟩, cs, h2.of rf, h3.fz h1 H.m z rfl, h4.of rf⟩
theorem V103 {base : Nat} {X : Nat → Option mC} {G : Nat → Value} (E : EnvOK base X G) {d : Nat} (hd : 2 ≤ d) {M : mH} (H : HI base M) (xs : Int) (xi : Int) (j : Int) (gs : Int) (gT : Int → Int) (gN : Int → Int) (ga : Int) (g0 : Int → Int) (gb : Int) (g1 : Int → Int) (hf : Int) (hn : Int) (hx : Int) (hy : Int) (h0 : INVl base j M) (h1 : CSx base gs gT gN ga g0 gb g1 M) (h2 : RSx gs gT gN ga g0 gb g1 M) (h3 : HXc base hf hn hx hy M) (h4 : HXr hf hn hx hy M) (b_xs : -2147483648 ≤ xs ∧ xs ≤ 2147483647) (b_xi : -2147483648 ≤ xi ∧ xi ≤ 2147483647) : sOk base X G d T103 [vR 0, vI xs, vI xi] M (pI (fun v M' => HI base M' ∧ Ftr [(0, 0)] M M' ∧ (INVl base (j + 6) M') ∧ (CSx base gs gT gN ga g0 gb g1 M') ∧ (RSx gs gT gN ga g0 gb g1 M') ∧ (HXc base hf hn hx hy M') ∧ (HXr hf hn hx hy M') ∧ (-2147483648 ≤ v ∧ v ≤ 2147483647) ∧ (v = rwV gN xs xi))) := by
  obtain ⟨wa, wb, hK, hR, r1, r2⟩ := h0
  have hK2 := hK
  obtain ⟨hH, hB, hN, hI, hA, hZ, hS, ⟨wn, hn, hT, hG⟩, ha, hb⟩ := hK2
  have hR2 := hR
  obtain ⟨hTB, hWD, hLN, hGK, hVT, hIM⟩ := hR2
  have hs := h1.1
  refine sOk.imp (k103n E (by omega) H xs xi (by omega) (by omega)) ?_
  rintro v M' ⟨v', e, rfl, q0, q1, q2, q3⟩
  have vv := (⟨q0, h1.row (by have := H.2 1 10 0 16 rfl; omega) (by have := H.2 6 xs 0 8 rfl; omega) q1 q2 q3⟩ : _ ∧ v' = rwV gN xs xi)
  exact ⟨v', e, H, trivial, ⟨wa, wb, hK, hR, by omega, by omega⟩, h1, h2, h3, h4, vv⟩
theorem V104 {base : Nat} {X : Nat → Option mC} {G : Nat → Value} (E : EnvOK base X G) {d : Nat} (hd : 2 ≤ d) {M : mH} (H : HI base M) (xs : Int) (xl : Int) (j : Int) (gs : Int) (gT : Int → Int) (gN : Int → Int) (ga : Int) (g0 : Int → Int) (gb : Int) (g1 : Int → Int) (hf : Int) (hn : Int) (hx : Int) (hy : Int) (h0 : INVl base j M) (h1 : CSx base gs gT gN ga g0 gb g1 M) (h2 : RSx gs gT gN ga g0 gb g1 M) (h3 : HXc base hf hn hx hy M) (h4 : HXr hf hn hx hy M) (b_xs : -2147483648 ≤ xs ∧ xs ≤ 2147483647) (b_xl : -2147483648 ≤ xl ∧ xl ≤ 2147483647) : sOk base X G d T104 [vR 0, vI xs, vI xl] M (pI (fun v M' => HI base M' ∧ Ftr [(0, 0)] M M' ∧ (INVl base (j + 6) M') ∧ (CSx base gs gT gN ga g0 gb g1 M') ∧ (RSx gs gT gN ga g0 gb g1 M') ∧ (HXc base hf hn hx hy M') ∧ (HXr hf hn hx hy M'))) := by
  obtain ⟨wa, wb, hK, hR, r1, r2⟩ := h0
  have hK2 := hK
  obtain ⟨hH, hB, hN, hI, hA, hZ, hS, ⟨wn, hn, hT, hG⟩, ha, hb⟩ := hK2
  have hR2 := hR
  obtain ⟨hTB, hWD, hLN, hGK, hVT, hIM⟩ := hR2
  have hs := h1.1
  refine sOk.imp (k104 E (by omega) H xs xl (by omega) (by omega)) ?_
  rintro v M' ⟨v', e, rfl, -⟩
  exact ⟨v', e, H, trivial, ⟨wa, wb, hK, hR, by omega, by omega⟩, h1, h2, h3, h4⟩
theorem V105 {base : Nat} {X : Nat → Option mC} {G : Nat → Value} (E : EnvOK base X G) {d : Nat} (hd : 2 ≤ d) {M : mH} (H : HI base M) (xs : Int) (xn : Int) (xl : Int) (xv : Int) (xp : Int) (j : Int) (gs : Int) (gT : Int → Int) (gN : Int → Int) (ga : Int) (g0 : Int → Int) (gb : Int) (g1 : Int → Int) (hf : Int) (hn : Int) (hx : Int) (hy : Int) (h0 : INVl base j M) (h1 : CSx base gs gT gN ga g0 gb g1 M) (h2 : RSx gs gT gN ga g0 gb g1 M) (h3 : HXc base hf hn hx hy M) (h4 : HXr hf hn hx hy M) (b_xs : -2147483648 ≤ xs ∧ xs ≤ 2147483647) (b_xn : -2147483648 ≤ xn ∧ xn ≤ 2147483647) (b_xl : -2147483648 ≤ xl ∧ xl ≤ 2147483647) (b_xv : -2147483648 ≤ xv ∧ xv ≤ 2147483647) (b_xp : -2147483648 ≤ xp ∧ xp ≤ 2147483647) : sOk base X G d T105 [vR 0, vI xs, vI xn, vI xl, vI xv, vI xp] M (pI (fun v M' => HI base M' ∧ Ftr [(0, 0)] M M' ∧ (INVl base (j + 6) M') ∧ (CSx base gs gT gN ga g0 gb g1 M') ∧ (RSx gs gT gN ga g0 gb g1 M') ∧ (HXc base hf hn hx hy M') ∧ (HXr hf hn hx hy M'))) := by
  obtain ⟨wa, wb, hK, hR, r1, r2⟩ := h0
  have hK2 := hK
  obtain ⟨hH, hB, hN, hI, hA, hZ, hS, ⟨wn, hn, hT, hG⟩, ha, hb⟩ := hK2
  have hR2 := hR
  obtain ⟨hTB, hWD, hLN, hGK, hVT, hIM⟩ := hR2
  have hs := h1.1
  refine sOk.imp (k105 E (by omega) H xs xn xl xv xp (by omega) (by omega) (by omega) (by omega) (by omega)) ?_
  rintro v M' ⟨v', e, rfl, -⟩
  exact ⟨v', e, H, trivial, ⟨wa, wb, hK, hR, by omega, by omega⟩, h1, h2, h3, h4⟩
theorem V106 {base : Nat} {X : Nat → Option mC} {G : Nat → Value} (E : EnvOK base X G) {d : Nat} (hd : 2 ≤ d) {M : mH} (H : HI base M) (sentence : Int) (n : Int) (slot : Int) (j : Int) (gs : Int) (gT : Int → Int) (gN : Int → Int) (ga : Int) (g0 : Int → Int) (gb : Int) (g1 : Int → Int) (hf : Int) (hn : Int) (hx : Int) (hy : Int) (h0 : INVl base j M) (h1 : CSx base gs gT gN ga g0 gb g1 M) (h2 : RSx gs gT gN ga g0 gb g1 M) (h3 : HXc base hf hn hx hy M) (h4 : HXr hf hn hx hy M) (b_sentence : -2147483648 ≤ sentence ∧ sentence ≤ 2147483647) (b_n : -2147483648 ≤ n ∧ n ≤ 2147483647) (b_slot : -2147483648 ≤ slot ∧ slot ≤ 2147483647) : sOk base X G d T106 [vR 0, vI sentence, vI n, vI slot] M (pI (fun v M' => HI base M' ∧ Ftr [(0, 0)] M M' ∧ (INVl base (j + 6) M') ∧ (CSx base gs gT gN ga g0 gb g1 M') ∧ (RSx gs gT gN ga g0 gb g1 M') ∧ (HXc base hf hn hx hy M') ∧ (HXr hf hn hx hy M'))) := by
  obtain ⟨wa, wb, hK, hR, r1, r2⟩ := h0
  have hK2 := hK
  obtain ⟨hH, hB, hN, hI, hA, hZ, hS, ⟨wn, hn, hT, hG⟩, ha, hb⟩ := hK2
  have hR2 := hR
  obtain ⟨hTB, hWD, hLN, hGK, hVT, hIM⟩ := hR2
  have hs := h1.1
  refine sOk.imp (k106 E (by omega) H sentence n slot (by omega) (by omega) (by omega)) ?_
  rintro v M' ⟨v', e, rfl, -⟩
  exact ⟨v', e, H, trivial, ⟨wa, wb, hK, hR, by omega, by omega⟩, h1, h2, h3, h4⟩
theorem V107 {base : Nat} {X : Nat → Option mC} {G : Nat → Value} (E : EnvOK base X G) {d : Nat} (hd : 176 ≤ d) {M : mH} (H : HI base M) (j : Int) (gs : Int) (gT : Int → Int) (gN : Int → Int) (ga : Int) (g0 : Int → Int) (gb : Int) (g1 : Int → Int) (hf : Int) (hn : Int) (hx : Int) (hy : Int) (h0 : INVl base j M) (h1 : CSx base gs gT gN ga g0 gb g1 M) (h2 : RSx gs gT gN ga g0 gb g1 M) (h3 : HXc base hf hn hx hy M) (h4 : HXr hf hn hx hy M) : sOk base X G d T107 [vR 0] M (pL (fun v M' => HI base M' ∧ Ftr [(0, 0)] M M' ∧ (INVl base (j + 6) M') ∧ (CSx base gs gT gN ga g0 gb g1 M') ∧ (RSx gs gT gN ga g0 gb g1 M') ∧ (HXc base hf hn hx hy M') ∧ (HXr hf hn hx hy M'))) := by
  obtain ⟨wa, wb, hK, hR, r1, r2⟩ := h0
  have hK2 := hK
  obtain ⟨hH, hB, hN, hI, hA, hZ, hS, ⟨wn, hn, hT, hG⟩, ha, hb⟩ := hK2
  have hR2 := hR
  obtain ⟨hTB, hWD, hLN, hGK, hVT, hIM⟩ := hR2
  have hs := h1.1
  refine sOk.imp (k107k E (by omega) H wb hZ (by omega)) ?_
  rintro v M' ⟨v', e, H', f, q0⟩
  have z := f
  have rf := z.ref H.m rfl
  have kr := hR.of rf
  obtain ⟨w2, n2, hb2, hrn, htr, hgt, hrm⟩ := q0
  unfold RM at hrm
  exact ⟨v', e, H', trivial, ⟨wa, w2, hK.best H' z rfl hrn (by omega) (by omega) htr hgt, kr, by omega, by omega⟩, h1.fz H.m z rfl, h2.of rf, h3.fz h1 H.m z rfl, h4.of rf⟩
theorem V108 {base : Nat} {X : Nat → Option mC} {G : Nat → Value} (E : EnvOK base X G) {d : Nat} (hd : 178 ≤ d) {M : mH} (H : HI base M) (sentence : Int) (second : Int) (said : Int) (j : Int) (gs : Int) (gT : Int → Int) (gN : Int → Int) (ga : Int) (g0 : Int → Int) (gb : Int) (g1 : Int → Int) (hf : Int) (hn : Int) (hx : Int) (hy : Int) (h0 : INVl base j M) (h1 : CSx base gs gT gN ga g0 gb g1 M) (h2 : RSx gs gT gN ga g0 gb g1 M) (h3 : HXc base hf hn hx hy M) (h4 : HXr hf hn hx hy M) (b_sentence : -2147483648 ≤ sentence ∧ sentence ≤ 2147483647) (b_second : -2147483648 ≤ second ∧ second ≤ 2147483647) (b_said : -2147483648 ≤ said ∧ said ≤ 2147483647) : sOk base X G d T108 [vR 0, vI sentence, vI second, vI said] M (pI (fun v M' => HI base M' ∧ Ftr [(0, 0)] M M' ∧ (INVl base (j + 6) M') ∧ (CSx base gs gT gN ga g0 gb g1 M') ∧ (RSx gs gT gN ga g0 gb g1 M') ∧ (HXc base hf hn hx hy M') ∧ (HXr hf hn hx hy M'))) := by
  obtain ⟨wa, wb, hK, hR, r1, r2⟩ := h0
  have hK2 := hK
  obtain ⟨hH, hB, hN, hI, hA, hZ, hS, ⟨wn, hn, hT, hG⟩, ha, hb⟩ := hK2
  have hR2 := hR
  obtain ⟨hTB, hWD, hLN, hGK, hVT, hIM⟩ := hR2
  have hs := h1.1
  refine sOk.imp (k108z E (by omega) H sentence second said wn (hZ.rw hn.2) hT hG (by omega) (by omega) (by omega) (by omega)) ?_
  rintro v M' ⟨v', e, H', f, q0⟩
  have z := f.z
  have rf := z.ref H.m rfl
  have kr := hR.of rf
  exact ⟨v', e, H', trivial, ⟨wa, wb, hK.keep H' z rfl rfl, kr, by rw [f.1]; omega, by rw [f.2.1]; omega⟩, h1.fz H.m z rfl, h2.of rf, h3.fz h1 H.m z rfl, h4.of rf⟩
theorem V109 {base : Nat} {X : Nat → Option mC} {G : Nat → Value} (E : EnvOK base X G) {d : Nat} (hd : 178 ≤ d) {M : mH} (H : HI base M) (sentence : Int) (second : Int) (j : Int) (gs : Int) (gT : Int → Int) (gN : Int → Int) (ga : Int) (g0 : Int → Int) (gb : Int) (g1 : Int → Int) (hf : Int) (hn : Int) (hx : Int) (hy : Int) (h0 : INVl base j M) (h1 : CSx base gs gT gN ga g0 gb g1 M) (h2 : RSx gs gT gN ga g0 gb g1 M) (h3 : HXc base hf hn hx hy M) (h4 : HXr hf hn hx hy M) (b_sentence : -2147483648 ≤ sentence ∧ sentence ≤ 2147483647) (b_second : -2147483648 ≤ second ∧ second ≤ 2147483647) : sOk base X G d T109 [vR 0, vI sentence, vI second] M (pI (fun v M' => HI base M' ∧ Ftr [(0, 0)] M M' ∧ (INVl base (j + 6) M') ∧ (CSx base gs gT gN ga g0 gb g1 M') ∧ (RSx gs gT gN ga g0 gb g1 M') ∧ (HXc base hf hn hx hy M') ∧ (HXr hf hn hx hy M'))) := by
  obtain ⟨wa, wb, hK, hR, r1, r2⟩ := h0
  have hK2 := hK
  obtain ⟨hH, hB, hN, hI, hA, hZ, hS, ⟨wn, hn, hT, hG⟩, ha, hb⟩ := hK2
  have hR2 := hR
  obtain ⟨hTB, hWD, hLN, hGK, hVT, hIM⟩ := hR2
  have hs := h1.1
  refine sOk.imp (k109k E (by omega) H sentence second wn (hZ.rw hn.2) hT hG (by omega) (by omega) (by omega)) ?_
  rintro v M' ⟨v', e, H', f, q0⟩
  have z := f.z
  have rf := z.ref H.m rfl
  have kr := hR.of rf
  exact ⟨v', e, H', trivial, ⟨wa, wb, hK.keep H' z rfl rfl, kr, by rw [f.1]; omega, by rw [f.2.1]; omega⟩, h1.fz H.m z rfl, h2.of rf, h3.fz h1 H.m z rfl, h4.of rf⟩
theorem V110 {base : Nat} {X : Nat → Option mC} {G : Nat → Value} (E : EnvOK base X G) {d : Nat} (hd : 1 ≤ d) {M : mH} (H : HI base M) (xa : Int) (xb : Int) (xc : Int) (xd : Int) (xe : Int) (j : Int) (gs : Int) (gT : Int → Int) (gN : Int → Int) (ga : Int) (g0 : Int → Int) (gb : Int) (g1 : Int → Int) (hf : Int) (hn : Int) (hx : Int) (hy : Int) (h0 : INVl base j M) (h1 : CSx base gs gT gN ga g0 gb g1 M) (h2 : RSx gs gT gN ga g0 gb g1 M) (h3 : HXc base hf hn hx hy M) (h4 : HXr hf hn hx hy M) (b_xa : -2147483648 ≤ xa ∧ xa ≤ 2147483647) (b_xb : -2147483648 ≤ xb ∧ xb ≤ 2147483647) (b_xc : -2147483648 ≤ xc ∧ xc ≤ 2147483647) (b_xd : -2147483648 ≤ xd ∧ xd ≤ 2147483647) (b_xe : -2147483648 ≤ xe ∧ xe ≤ 2147483647) : sOk base X G d T110 [vR 0, vI xa, vI xb, vI xc, vI xd, vI xe] M (pI (fun v M' => HI base M' ∧ Ftr [(0, 0)] M M' ∧ (INVl base (j + 6) M') ∧ (CSx base (fdS gs) (fdT gT gs xa xb xc xd xe) gN ga g0 gb g1 M') ∧ (RSx gs gT gN ga g0 gb g1 M') ∧ (HXc base hf hn hx hy M') ∧ (HXr hf hn hx hy M') ∧ (-2147483648 ≤ v ∧ v ≤ 2147483647) ∧ (v = fdV gs))) := by
  obtain ⟨wa, wb, hK, hR, r1, r2⟩ := h0
  have hK2 := hK
  obtain ⟨hH, hB, hN, hI, hA, hZ, hS, ⟨wn, hn, hT, hG⟩, ha, hb⟩ := hK2
  have hR2 := hR
  obtain ⟨hTB, hWD, hLN, hGK, hVT, hIM⟩ := hR2
  have hs := h1.1
  refine sOk.imp (k110n E (by omega) H xa xb xc xd xe (by omega) (by omega) (by omega) (by omega) (by omega)) ?_
  rintro v M' ⟨v', e, H', f, q0, q1, q2, q3, q4⟩
  have z := (f.q rfl).z
  have rf := z.ref H.m rfl
  have kr := hR.of rf
  have cs : CSx base (fdS gs) (fdT gT gs xa xb xc xd xe) gN ga g0 gb g1 M' := by
    unfold fdS fdT
    by_cases c : gs ≤ 380
    · rw [if_pos c, if_pos c]
      refine h1.fed H.m z rfl (by omega) (fun i p q => ?_)
      rw [q3 (by omega) i p, hs]
      exact fdN_cong (h1.2.1 i p q)
    · rw [if_neg c, if_neg c]
      exact h1.tape H.m (((q4) (by omega)).q rfl).z rfl (by omega)
  exact ⟨v', e, H', trivial, ⟨wa, wb, hK.keep H' z rfl rfl, kr, by rw [f.1]; omega, by rw [f.2.1]; omega⟩, cs, h2.of rf, h3.fz h1 H.m z rfl, h4.of rf, q0, (by unfold fdV; split <;> omega)⟩
theorem V111 {base : Nat} {X : Nat → Option mC} {G : Nat → Value} (E : EnvOK base X G) {d : Nat} (hd : 1 ≤ d) {M : mH} (H : HI base M) (n : Int) (j : Int) (gs : Int) (gT : Int → Int) (gN : Int → Int) (ga : Int) (g0 : Int → Int) (gb : Int) (g1 : Int → Int) (hf : Int) (hn : Int) (hx : Int) (hy : Int) (h0 : INVl base j M) (h1 : CSx base gs gT gN ga g0 gb g1 M) (h2 : RSx gs gT gN ga g0 gb g1 M) (h3 : HXc base hf hn hx hy M) (h4 : HXr hf hn hx hy M) (b_n : -2147483648 ≤ n ∧ n ≤ 2147483647) : sOk base X G d T111 [vR 0, vI n] M (pI (fun v M' => HI base M' ∧ Ftr [(0, 0)] M M' ∧ (INVl base (j + 6) M') ∧ (CSx base (enS gs n) gT gN ga g0 gb g1 M') ∧ (RSx gs gT gN ga g0 gb g1 M') ∧ (HXc base hf hn hx hy M') ∧ (HXr hf hn hx hy M') ∧ (-2147483648 ≤ v ∧ v ≤ 2147483647) ∧ (v = enV gs n))) := by
  obtain ⟨wa, wb, hK, hR, r1, r2⟩ := h0
  have hK2 := hK
  obtain ⟨hH, hB, hN, hI, hA, hZ, hS, ⟨wn, hn, hT, hG⟩, ha, hb⟩ := hK2
  have hR2 := hR
  obtain ⟨hTB, hWD, hLN, hGK, hVT, hIM⟩ := hR2
  have hs := h1.1
  refine sOk.imp (k111e E (by omega) H n (by omega)) ?_
  rintro v M' ⟨v', e, H', f, q0, q1, q2⟩
  have z := (f.q rfl).z
  have rf := z.ref H.m rfl
  have kr := hR.of rf
  exact ⟨v', e, H', trivial, ⟨wa, wb, hK.keep H' z rfl rfl, kr, by rw [f.1]; omega, by rw [f.2.1]; omega⟩, h1.tape H.m z rfl (by unfold enS; split <;> omega), h2.of rf, h3.fz h1 H.m z rfl, h4.of rf, q0, (by unfold enV; split <;> omega)⟩
theorem V112 {base : Nat} {X : Nat → Option mC} {G : Nat → Value} (E : EnvOK base X G) {d : Nat} (hd : 60 ≤ d) {M : mH} (H : HI base M) (j : Int) (gs : Int) (gT : Int → Int) (gN : Int → Int) (ga : Int) (g0 : Int → Int) (gb : Int) (g1 : Int → Int) (hf : Int) (hn : Int) (hx : Int) (hy : Int) (h0 : INVl base j M) (h1 : CSx base gs gT gN ga g0 gb g1 M) (h2 : RSx gs gT gN ga g0 gb g1 M) (h3 : HXc base hf hn hx hy M) (h4 : HXr hf hn hx hy M) : sOk base X G d T112 [vR 0] M (pI (fun v M' => HI base M' ∧ Ftr [(0, 0)] M M' ∧ (INVl base (j + 6) M') ∧ (CSx base 0 gT gN ga g0 gb g1 M') ∧ (RSx gs gT gN ga g0 gb g1 M') ∧ (HXc base (hbF gT gs hf hn) (hbN gT gs hn) hx hy M') ∧ (HXr hf hn hx hy M') ∧ (-2147483648 ≤ v ∧ v ≤ 2147483647) ∧ (v = hbV gT gs hn))) := by
  obtain ⟨wa, wb, hK, hR, r1, r2⟩ := h0
  have hK2 := hK
  obtain ⟨hH, hB, hN, hI, hA, hZ, hS, ⟨wn, hn_, hT, hG⟩, ha, hb⟩ := hK2
  have hR2 := hR
  obtain ⟨hTB, hWD, hLN, hGK, hVT, hIM⟩ := hR2
  have bs := H.2 0 3 0 400 rfl
  rw [h1.1] at bs
  have bn := H.2 1 12 0 8 rfl
  rw [h3.2.1] at bn
  refine sOk.andB (k112e E (by omega) H hB hN) (k112p E (by omega) H gs gT hB hN h1.1 (fun j a b => h1.2.1 j a (by omega))) ?_
  rintro w v M' ⟨H', B', N', f, s0, g3⟩ ⟨p0, p1⟩
  have z := f.z rfl
  have f1 := f.1.2
  have f2 := f.2.1
  have rf := z.ref H.m rfl
  rw [h3.2.1] at p0 p1
  have hh : v = hbV gT gs hn ∧ gi M' 0 4 = hbF gT gs hf hn ∧ gi M' 1 12 = hbN gT gs hn := by
    by_cases c : hn < 8
    · exact (p1 c).hb c hf
    · have w := p0 (by omega)
      unfold hbV hbF hbN
      rw [if_neg c, if_neg c, if_neg c]
      exact ⟨w.1, w.2.1.trans h3.1, w.2.2⟩
  have bv : -2147483648 ≤ v ∧ v ≤ 2147483647 := by rw [hh.1]; unfold hbV; split <;> (try split) <;> omega
  exact ⟨H', trivial, ⟨wa, wb, hK.hab H' B' N' z rfl s0, hR.of rf, by omega, by omega⟩, h1.tape H.m z rfl g3, h2.of rf, h3.gen h1 (ImK.fz H.m z rfl) hh.2.1 hh.2.2, h4.of rf, bv, hh.1⟩
theorem V113 {base : Nat} {X : Nat → Option mC} {G : Nat → Value} (E : EnvOK base X G) {d : Nat} (hd : 0 ≤ d) {M : mH} (H : HI base M) (j : Int) (gs : Int) (gT : Int → Int) (gN : Int → Int) (ga : Int) (g0 : Int → Int) (gb : Int) (g1 : Int → Int) (hf : Int) (hn : Int) (hx : Int) (hy : Int) (h0 : INVl base j M) (h1 : CSx base gs gT gN ga g0 gb g1 M) (h2 : RSx gs gT gN ga g0 gb g1 M) (h3 : HXc base hf hn hx hy M) (h4 : HXr hf hn hx hy M) : sOk base X G d T113 [vR 0] M (pI (fun v M' => HI base M' ∧ Ftr [(0, 0)] M M' ∧ (INVl base (j + 6) M') ∧ (CSx base gs gT gN ga g0 gb g1 M') ∧ (RSx gs gT gN ga g0 gb g1 M') ∧ (HXc base hf hn hx hy M') ∧ (HXr hf hn hx hy M') ∧ (-2147483648 ≤ v ∧ v ≤ 2147483647) ∧ (v = hf))) := by
  obtain ⟨wa, wb, hK, hR, r1, r2⟩ := h0
  have hK2 := hK
  obtain ⟨hH, hB, hN, hI, hA, hZ, hS, ⟨wn, hn_, hT, hG⟩, ha, hb⟩ := hK2
  have hR2 := hR
  obtain ⟨hTB, hWD, hLN, hGK, hVT, hIM⟩ := hR2
  refine sOk.imp (k113v E (by omega) H ) ?_
  rintro v M' ⟨v', e, rfl, q0, q1⟩
  exact ⟨v', e, H, trivial, ⟨wa, wb, hK, hR, by omega, by omega⟩, h1, h2, h3, h4, q0, q1.trans h3.1⟩
theorem V114 {base : Nat} {X : Nat → Option mC} {G : Nat → Value} (E : EnvOK base X G) {d : Nat} (hd : 7 ≤ d) {M : mH} (H : HI base M) (text : Int) (sentence : Int) (j : Int) (gs : Int) (gT : Int → Int) (gN : Int → Int) (ga : Int) (g0 : Int → Int) (gb : Int) (g1 : Int → Int) (hf : Int) (hn : Int) (hx : Int) (hy : Int) (h0 : INVl base j M) (h1 : CSx base gs gT gN ga g0 gb g1 M) (h2 : RSx gs gT gN ga g0 gb g1 M) (h3 : HXc base hf hn hx hy M) (h4 : HXr hf hn hx hy M) (b_text : -2147483648 ≤ text ∧ text ≤ 2147483647) (b_sentence : -2147483648 ≤ sentence ∧ sentence ≤ 2147483647) : sOk base X G d T114 [vR 0, vI text, vI sentence] M (pI (fun v M' => HI base M' ∧ Ftr [(0, 0)] M M' ∧ (INVl base (j + 6) M') ∧ (CSx base gs gT gN ga g0 gb g1 M') ∧ (RSx gs gT gN ga g0 gb g1 M') ∧ (HXc base hf hn hx hy M') ∧ (HXr hf hn hx hy M'))) := by
  obtain ⟨wa, wb, hK, hR, r1, r2⟩ := h0
  have hK2 := hK
  obtain ⟨hH, hB, hN, hI, hA, hZ, hS, ⟨wn, hn, hT, hG⟩, ha, hb⟩ := hK2
  have hR2 := hR
  obtain ⟨hTB, hWD, hLN, hGK, hVT, hIM⟩ := hR2
  have hs := h1.1
  refine sOk.imp (k114s E (by omega) H text sentence hB hS (by omega) (by omega)) ?_
  rintro v M' ⟨v', e, H', f, q0, q1⟩
  have z := (f.q rfl).z
  have rf := z.ref H.m rfl
  have kr := hR.of rf
  exact ⟨v', e, H', trivial, ⟨wa, wb, hK.sf H' z rfl q1, kr, by rw [f.1]; omega, by rw [f.2.1]; omega⟩, h1.fz H.m z rfl, h2.of rf, h3.fz h1 H.m z rfl, h4.of rf⟩
theorem V115 {base : Nat} {X : Nat → Option mC} {G : Nat → Value} (E : EnvOK base X G) {d : Nat} (hd : 1 ≤ d) {M : mH} (H : HI base M) (second : Int) (j : Int) (gs : Int) (gT : Int → Int) (gN : Int → Int) (ga : Int) (g0 : Int → Int) (gb : Int) (g1 : Int → Int) (hf : Int) (hn : Int) (hx : Int) (hy : Int) (h0 : INVl base j M) (h1 : CSx base gs gT gN ga g0 gb g1 M) (h2 : RSx gs gT gN ga g0 gb g1 M) (h3 : HXc base hf hn hx hy M) (h4 : HXr hf hn hx hy M) (b_second : -2147483648 ≤ second ∧ second ≤ 2147483647) : sOk base X G d T115 [vR 0, vI second] M (pI (fun v M' => HI base M' ∧ Ftr [(0, 0)] M M' ∧ (INVl base (j + 6) M') ∧ (CSx base gs gT gN ga g0 gb g1 M') ∧ (RSx gs gT gN ga g0 gb g1 M') ∧ (HXc base hf hn hx hy M') ∧ (HXr hf hn hx hy M'))) := by
  obtain ⟨wa, wb, hK, hR, r1, r2⟩ := h0
  have hK2 := hK
  obtain ⟨hH, hB, hN, hI, hA, hZ, hS, ⟨wn, hn, hT, hG⟩, ha, hb⟩ := hK2
  have hR2 := hR
  obtain ⟨hTB, hWD, hLN, hGK, hVT, hIM⟩ := hR2
  have hs := h1.1
  refine sOk.imp (k115 E (by omega) H second (by omega)) ?_
  rintro v M' ⟨v', e, rfl, -⟩
  exact ⟨v', e, H, trivial, ⟨wa, wb, hK, hR, by omega, by omega⟩, h1, h2, h3, h4⟩
theorem V116 {base : Nat} {X : Nat → Option mC} {G : Nat → Value} (E : EnvOK base X G) {d : Nat} (hd : 7 ≤ d) {M : mH} (H : HI base M) (text : Int) (j : Int) (gs : Int) (gT : Int → Int) (gN : Int → Int) (ga : Int) (g0 : Int → Int) (gb : Int) (g1 : Int → Int) (hf : Int) (hn : Int) (hx : Int) (hy : Int) (h0 : INVl base j M) (h1 : CSx base gs gT gN ga g0 gb g1 M) (h2 : RSx gs gT gN ga g0 gb g1 M) (h3 : HXc base hf hn hx hy M) (h4 : HXr hf hn hx hy M) (b_text : -2147483648 ≤ text ∧ text ≤ 2147483647) : sOk base X G d T116 [vR 0, vI text] M (pL (fun v M' => HI base M' ∧ Ftr [(0, 0)] M M' ∧ (INVl base (j + 6) M') ∧ (CSx base gs gT gN ga g0 gb g1 M') ∧ (RSx gs gT gN ga g0 gb g1 M') ∧ (HXc base hf hn hx hy M') ∧ (HXr hf hn hx hy M'))) := by
  obtain ⟨wa, wb, hK, hR, r1, r2⟩ := h0
  have hK2 := hK
  obtain ⟨hH, hB, hN, hI, hA, hZ, hS, ⟨wn, hn, hT, hG⟩, ha, hb⟩ := hK2
  have hR2 := hR
  obtain ⟨hTB, hWD, hLN, hGK, hVT, hIM⟩ := hR2
  have hs := h1.1
  refine sOk.imp (k116s E (by omega) H text hB hS (by omega)) ?_
  rintro v M' ⟨v', e, H', f, q0⟩
  have z := (f.q rfl).z
  have rf := z.ref H.m rfl
  have kr := hR.of rf
  exact ⟨v', e, H', trivial, ⟨wa, wb, hK.sf H' z rfl q0, kr, by rw [f.1]; omega, by rw [f.2.1]; omega⟩, h1.fz H.m z rfl, h2.of rf, h3.fz h1 H.m z rfl, h4.of rf⟩
theorem V117 {base : Nat} {X : Nat → Option mC} {G : Nat → Value} (E : EnvOK base X G) {d : Nat} (hd : 176 ≤ d) {M : mH} (H : HI base M) (j : Int) (gs : Int) (gT : Int → Int) (gN : Int → Int) (ga : Int) (g0 : Int → Int) (gb : Int) (g1 : Int → Int) (hf : Int) (hn : Int) (hx : Int) (hy : Int) (h0 : INVl base j M) (h1 : CSx base gs gT gN ga g0 gb g1 M) (h2 : RSx gs gT gN ga g0 gb g1 M) (h3 : HXc base hf hn hx hy M) (h4 : HXr hf hn hx hy M) : sOk base X G d T117 [vR 0] M (pL (fun v M' => HI base M' ∧ Ftr [(0, 0)] M M' ∧ (INVl base (j + 6) M') ∧ (CSx base gs gT gN ga g0 gb g1 M') ∧ (RSx gs gT gN ga g0 gb g1 M') ∧ (HXc base hf hn hx hy M') ∧ (HXr hf hn hx hy M'))) := by
  obtain ⟨wa, wb, hK, hR, r1, r2⟩ := h0
  have hK2 := hK
  obtain ⟨hH, hB, hN, hI, hA, hZ, hS, ⟨wn, hn, hT, hG⟩, ha, hb⟩ := hK2
  have hR2 := hR
  obtain ⟨hTB, hWD, hLN, hGK, hVT, hIM⟩ := hR2
  have hs := h1.1
  refine sOk.imp (k117k E (by omega) H wa hS hA (by omega)) ?_
  rintro v M' ⟨v', e, H', f, q0, q1⟩
  have z := f
  have rf := z.ref H.m rfl
  have kr := hR.of rf
  obtain ⟨w2, hb2, hrn, hrm⟩ := q0
  unfold RM at hrm
  exact ⟨v', e, H', trivial, ⟨w2, wb, hK.solv H' z rfl hrn (by omega) (fun _ => q1), kr, by omega, by omega⟩, h1.fz H.m z rfl, h2.of rf, h3.fz h1 H.m z rfl, h4.of rf⟩
theorem V118 {base : Nat} {X : Nat → Option mC} {G : Nat → Value} (E : EnvOK base X G) {d : Nat} (hd : 177 ≤ d) {M : mH} (H : HI base M) (word : Int) (j : Int) (gs : Int) (gT : Int → Int) (gN : Int → Int) (ga : Int) (g0 : Int → Int) (gb : Int) (g1 : Int → Int) (hf : Int) (hn : Int) (hx : Int) (hy : Int) (h0 : INVl base j M) (h1 : CSx base gs gT gN ga g0 gb g1 M) (h2 : RSx gs gT gN ga g0 gb g1 M) (h3 : HXc base hf hn hx hy M) (h4 : HXr hf hn hx hy M) (b_word : -2147483648 ≤ word ∧ word ≤ 2147483647) : sOk base X G d T118 [vR 0, vI word] M (pL (fun v M' => HI base M' ∧ Ftr [(0, 0)] M M' ∧ (INVl base (j + 6) M') ∧ (CSx base gs gT gN ga g0 gb g1 M') ∧ (RSx gs gT gN ga g0 gb g1 M') ∧ (HXc base hf hn hx hy M') ∧ (HXr hf hn hx hy M'))) := by
  obtain ⟨wa, wb, hK, hR, r1, r2⟩ := h0
  have hK2 := hK
  obtain ⟨hH, hB, hN, hI, hA, hZ, hS, ⟨wn, hn, hT, hG⟩, ha, hb⟩ := hK2
  have hR2 := hR
  obtain ⟨hTB, hWD, hLN, hGK, hVT, hIM⟩ := hR2
  have hs := h1.1
  refine sOk.imp (k118k E (by omega) H word wa hS hA (by omega) (by omega)) ?_
  rintro v M' ⟨v', e, H', f, q0, q1⟩
  have z := f
  have rf := z.ref H.m rfl
  have kr := hR.of rf
  obtain ⟨w2, hb2, hrn, hrm⟩ := q0
  unfold RM at hrm
  exact ⟨v', e, H', trivial, ⟨w2, wb, hK.solv H' z rfl hrn (by omega) q1, kr, by omega, by omega⟩, h1.fz H.m z rfl, h2.of rf, h3.fz h1 H.m z rfl, h4.of rf⟩
theorem V119 {base : Nat} {X : Nat → Option mC} {G : Nat → Value} (E : EnvOK base X G) {d : Nat} (hd : 1 ≤ d) {M : mH} (H : HI base M) (lag : Int) (keeps : Int) (limit : Int) (j : Int) (gs : Int) (gT : Int → Int) (gN : Int → Int) (ga : Int) (g0 : Int → Int) (gb : Int) (g1 : Int → Int) (hf : Int) (hn : Int) (hx : Int) (hy : Int) (h0 : INVl base j M) (h1 : CSx base gs gT gN ga g0 gb g1 M) (h2 : RSx gs gT gN ga g0 gb g1 M) (h3 : HXc base hf hn hx hy M) (h4 : HXr hf hn hx hy M) (b_lag : -2147483648 ≤ lag ∧ lag ≤ 2147483647) (b_keeps : -2147483648 ≤ keeps ∧ keeps ≤ 2147483647) (b_limit : -2147483648 ≤ limit ∧ limit ≤ 2147483647) : sOk base X G d T119 [vR 0, vI lag, vI keeps, vI limit] M (pI (fun v M' => HI base M' ∧ Ftr [(0, 0)] M M' ∧ (INVl base (j + 6) M') ∧ (CSx base gs gT (ctN (BV lag keeps limit) gN 391 472 6 lag keeps limit) ga g0 gb g1 M') ∧ (RSx gs gT gN ga g0 gb g1 M') ∧ (HXc base hf hn hx hy M') ∧ (HXr hf hn hx hy M') ∧ (-2147483648 ≤ v ∧ v ≤ 2147483647) ∧ (v = ctV (BV lag keeps limit) gN 472 6))) := by
  obtain ⟨wa, wb, hK, hR, r1, r2⟩ := h0
  have hK2 := hK
  obtain ⟨hH, hB, hN, hI, hA, hZ, hS, ⟨wn, hn, hT, hG⟩, ha, hb⟩ := hK2
  have hR2 := hR
  obtain ⟨hTB, hWD, hLN, hGK, hVT, hIM⟩ := hR2
  have hs := h1.1
  refine sOk.imp (k119n E (by omega) H lag keeps limit (by omega) (by omega) (by omega)) ?_
  rintro v M' ⟨v', e, H', f, q0, q1⟩
  have z := (f.q rfl).z
  have rf := z.ref H.m rfl
  have kr := hR.of rf
  have dj : dAs 472 := by unfold dAs; omega
  have cn : gi M 1 14 = gN 472 := by
    have o := h1.2.2.1 472 dj
    rw [cS_at slA_472] at o
    exact o
  have bv := H.2 1 14 0 6 rfl
  have cs : CSx base gs gT (ctN (BV lag keeps limit) gN 391 472 6 lag keeps limit) ga g0 gb g1 M' ∧ (-2147483648 ≤ v' ∧ v' ≤ 2147483647) ∧ v' = ctV (BV lag keeps limit) gN 472 6 := by
    unfold ctN ctV
    rcases q1 with ⟨hp, hl, hvv, M1, u, fa⟩ | ⟨hp, hl, hvv, fr⟩ | ⟨hp, hvv, fr⟩
    · have hp2 := hp
      unfold BV at hp2
      rw [if_pos hp, if_pos hp, if_pos (show gN 472 < 6 by omega), if_pos (show gN 472 < 6 by omega)]
      have w := h1.w4 (c := 9) (f := 14) (b := 391) (i := 472) (lim := 6) (fun k k1 k2 => by rw [slA_b ⟨by omega, by omega⟩]; exact Prod.ext rfl (by dsimp only; omega)) slA_472 dj (fun k k1 k2 => by unfold dAs; omega) (by omega) (by omega) (by omega) (by omega) (show 0 ≤ gi M 1 14 ∧ gi M 1 14 < 6 from ⟨by omega, by omega⟩) (by omega) (by unfold inR; omega) (by unfold inR; omega) (by unfold inR; omega) u
      exact ⟨w.fz (by obtain ⟨A, B, C, u1, u2, u3, u4⟩ := u; rw [u4.n1, u3.n1, u2.n1, u1.n1]; exact H.m) (fa.q rfl).z rfl, by omega, by rw [hvv]; exact cn⟩
    · rw [if_pos hp, if_pos hp, if_neg (show ¬ gN 472 < 6 by omega), if_neg (show ¬ gN 472 < 6 by omega)]
      exact ⟨h1.fz H.m (fr.q rfl).z rfl, by omega, hvv⟩
    · rw [if_neg hp, if_neg hp]
      exact ⟨h1.fz H.m (fr.q rfl).z rfl, by omega, hvv⟩
  exact ⟨v', e, H', trivial, ⟨wa, wb, hK.st H' z rfl rfl q0, kr, by rw [f.1]; omega, by rw [f.2.1]; omega⟩, cs.1, h2.of rf, h3.fz h1 H.m z rfl, h4.of rf, cs.2.1, cs.2.2⟩
theorem V120 {base : Nat} {X : Nat → Option mC} {G : Nat → Value} (E : EnvOK base X G) {d : Nat} (hd : 9 ≤ d) {M : mH} (H : HI base M) (j : Int) (gs : Int) (gT : Int → Int) (gN : Int → Int) (ga : Int) (g0 : Int → Int) (gb : Int) (g1 : Int → Int) (hf : Int) (hn : Int) (hx : Int) (hy : Int) (h0 : INVl base j M) (h1 : CSx base gs gT gN ga g0 gb g1 M) (h2 : RSx gs gT gN ga g0 gb g1 M) (h3 : HXc base hf hn hx hy M) (h4 : HXr hf hn hx hy M) : sOk base X G d T120 [vR 0] M (pI (fun v M' => HI base M' ∧ Ftr [(0, 0)] M M' ∧ (INVl base (j + 6) M') ∧ (CSx base gs gT gN ga g0 gb g1 M') ∧ (RSx gs gT gN ga g0 gb g1 M') ∧ (HXc base hf hn hx hy M') ∧ (HXr hf hn hx hy M'))) := by
  obtain ⟨wa, wb, hK, hR, r1, r2⟩ := h0
  have hK2 := hK
  obtain ⟨hH, hB, hN, hI, hA, hZ, hS, ⟨wn, hn, hT, hG⟩, ha, hb⟩ := hK2
  have hR2 := hR
  obtain ⟨hTB, hWD, hLN, hGK, hVT, hIM⟩ := hR2
  have hs := h1.1
  refine sOk.imp (k120 E (by omega) H  ) ?_
  rintro v M' ⟨v', e, H', f⟩
  have z := (f.q rfl).z
  have rf := z.ref H.m rfl
  have kr := hR.of rf
  exact ⟨v', e, H', trivial, ⟨wa, wb, hK.keep H' z rfl rfl, kr, by rw [f.1]; omega, by rw [f.2.1]; omega⟩, h1.fz H.m z rfl, h2.of rf, h3.fz h1 H.m z rfl, h4.of rf⟩
theorem V121 {base : Nat} {X : Nat → Option mC} {G : Nat → Value} (E : EnvOK base X G) {d : Nat} (hd : 1 ≤ d) {M : mH} (H : HI base M) (xi : Int) (j : Int) (gs : Int) (gT : Int → Int) (gN : Int → Int) (ga : Int) (g0 : Int → Int) (gb : Int) (g1 : Int → Int) (hf : Int) (hn : Int) (hx : Int) (hy : Int) (h0 : INVl base j M) (h1 : CSx base gs gT gN ga g0 gb g1 M) (h2 : RSx gs gT gN ga g0 gb g1 M) (h3 : HXc base hf hn hx hy M) (h4 : HXr hf hn hx hy M) (b_xi : -2147483648 ≤ xi ∧ xi ≤ 2147483647) : sOk base X G d T121 [vR 0, vI xi] M (pI (fun v M' => HI base M' ∧ Ftr [(0, 0)] M M' ∧ (INVl base (j + 6) M') ∧ (CSx base gs gT gN ga g0 gb g1 M') ∧ (RSx gs gT gN ga g0 gb g1 M') ∧ (HXc base hf hn hx hy M') ∧ (HXr hf hn hx hy M'))) := by
  obtain ⟨wa, wb, hK, hR, r1, r2⟩ := h0
  have hK2 := hK
  obtain ⟨hH, hB, hN, hI, hA, hZ, hS, ⟨wn, hn, hT, hG⟩, ha, hb⟩ := hK2
  have hR2 := hR
  obtain ⟨hTB, hWD, hLN, hGK, hVT, hIM⟩ := hR2
  have hs := h1.1
  refine sOk.imp (k121 E (by omega) H xi (by omega)) ?_
  rintro v M' ⟨v', e, rfl, -⟩
  exact ⟨v', e, H, trivial, ⟨wa, wb, hK, hR, by omega, by omega⟩, h1, h2, h3, h4⟩
theorem V122 {base : Nat} {X : Nat → Option mC} {G : Nat → Value} (E : EnvOK base X G) {d : Nat} (hd : 1 ≤ d) {M : mH} (H : HI base M) (minute : Int) (cost : Int) (j : Int) (gs : Int) (gT : Int → Int) (gN : Int → Int) (ga : Int) (g0 : Int → Int) (gb : Int) (g1 : Int → Int) (hf : Int) (hn : Int) (hx : Int) (hy : Int) (h0 : INVl base j M) (h1 : CSx base gs gT gN ga g0 gb g1 M) (h2 : RSx gs gT gN ga g0 gb g1 M) (h3 : HXc base hf hn hx hy M) (h4 : HXr hf hn hx hy M) (b_minute : -2147483648 ≤ minute ∧ minute ≤ 2147483647) (b_cost : -2147483648 ≤ cost ∧ cost ≤ 2147483647) : sOk base X G d T122 [vR 0, vI minute, vI cost] M (pI (fun v M' => HI base M' ∧ Ftr [(0, 0)] M M' ∧ (INVl base (j + 6) M') ∧ (CSx base gs gT (stN (MV minute cost) gN (409 + minute) cost) ga g0 gb g1 M') ∧ (RSx gs gT gN ga g0 gb g1 M') ∧ (HXc base hf hn hx hy M') ∧ (HXr hf hn hx hy M') ∧ (-2147483648 ≤ v ∧ v ≤ 2147483647) ∧ (v = stV (MV minute cost) gN (409 + minute)))) := by
  obtain ⟨wa, wb, hK, hR, r1, r2⟩ := h0
  have hK2 := hK
  obtain ⟨hH, hB, hN, hI, hA, hZ, hS, ⟨wn, hn, hT, hG⟩, ha, hb⟩ := hK2
  have hR2 := hR
  obtain ⟨hTB, hWD, hLN, hGK, hVT, hIM⟩ := hR2
  have hs := h1.1
  refine sOk.imp (k122n E (by omega) H minute cost (by omega) (by omega)) ?_
  rintro v M' ⟨v', e, H', f, q0, q1⟩
  have z := (f.q rfl).z
  have rf := z.ref H.m rfl
  have kr := hR.of rf
  have cs : CSx base gs gT (stN (MV minute cost) gN (409 + minute) cost) ga g0 gb g1 M' ∧ (-2147483648 ≤ v' ∧ v' ≤ 2147483647) ∧ v' = stV (MV minute cost) gN (409 + minute) := by
    rcases q1 with ⟨hp, hvv, M1, u, fa⟩ | ⟨hp, hvv, fr⟩
    · have hp2 := hp
      unfold MV at hp2
      have dj : dAs (409 + minute) := by unfold dAs; omega
      have zn := h1.2.2.2.2.2.2.1
      have bv := H.2 11 (minute) 0 1000 rfl
      have es : slA (409 + minute) = (10, 409 + minute - 409) := slA_c (by omega)
      rw [stN_pos hp, stV_pos hp]
      have ww := h1.wr u dj es rfl (by omega) (by unfold inR; omega) (zn.upd (by omega) (by omega))
      have ww2 := ww.fz (by rw [u.n1]; exact H.m) (fa.q rfl).z rfl
      refine ⟨ww2, by omega, ?_⟩
      have o := h1.2.2.1 _ dj
      rw [cS_at es] at o
      rw [hvv, ← o]
      show gi M 11 (minute) = gi M 11 (409 + minute - 409)
      congr 1
      omega
    · rw [stN_neg hp, stV_neg hp]
      have ww := h1.fz H.m (fr.q rfl).z rfl
      exact ⟨ww, by omega, hvv⟩
  exact ⟨v', e, H', trivial, ⟨wa, wb, hK.st H' z rfl rfl q0, kr, by rw [f.1]; omega, by rw [f.2.1]; omega⟩, cs.1, h2.of rf, h3.fz h1 H.m z rfl, h4.of rf, cs.2.1, cs.2.2⟩
theorem V123 {base : Nat} {X : Nat → Option mC} {G : Nat → Value} (E : EnvOK base X G) {d : Nat} (hd : 2 ≤ d) {M : mH} (H : HI base M) (xm : Int) (j : Int) (gs : Int) (gT : Int → Int) (gN : Int → Int) (ga : Int) (g0 : Int → Int) (gb : Int) (g1 : Int → Int) (hf : Int) (hn : Int) (hx : Int) (hy : Int) (h0 : INVl base j M) (h1 : CSx base gs gT gN ga g0 gb g1 M) (h2 : RSx gs gT gN ga g0 gb g1 M) (h3 : HXc base hf hn hx hy M) (h4 : HXr hf hn hx hy M) (b_xm : -2147483648 ≤ xm ∧ xm ≤ 2147483647) : sOk base X G d T123 [vR 0, vI xm] M (pI (fun v M' => HI base M' ∧ Ftr [(0, 0)] M M' ∧ (INVl base (j + 6) M') ∧ (CSx base gs gT gN ga g0 gb g1 M') ∧ (RSx gs gT gN ga g0 gb g1 M') ∧ (HXc base hf hn hx hy M') ∧ (HXr hf hn hx hy M'))) := by
  obtain ⟨wa, wb, hK, hR, r1, r2⟩ := h0
  have hK2 := hK
  obtain ⟨hH, hB, hN, hI, hA, hZ, hS, ⟨wn, hn, hT, hG⟩, ha, hb⟩ := hK2
  have hR2 := hR
  obtain ⟨hTB, hWD, hLN, hGK, hVT, hIM⟩ := hR2
  have hs := h1.1
  refine sOk.imp (k123 E (by omega) H xm (by omega)) ?_
  rintro v M' ⟨v', e, H', f⟩
  have z := (f.q rfl).z
  have rf := z.ref H.m rfl
  have kr := hR.of rf
  exact ⟨v', e, H', trivial, ⟨wa, wb, hK.keep H' z rfl rfl, kr, by rw [f.1]; omega, by rw [f.2.1]; omega⟩, h1.fz H.m z rfl, h2.of rf, h3.fz h1 H.m z rfl, h4.of rf⟩
theorem V124 {base : Nat} {X : Nat → Option mC} {G : Nat → Value} (E : EnvOK base X G) {d : Nat} (hd : 1 ≤ d) {M : mH} (H : HI base M) (xi : Int) (j : Int) (gs : Int) (gT : Int → Int) (gN : Int → Int) (ga : Int) (g0 : Int → Int) (gb : Int) (g1 : Int → Int) (hf : Int) (hn : Int) (hx : Int) (hy : Int) (h0 : INVl base j M) (h1 : CSx base gs gT gN ga g0 gb g1 M) (h2 : RSx gs gT gN ga g0 gb g1 M) (h3 : HXc base hf hn hx hy M) (h4 : HXr hf hn hx hy M) (b_xi : -2147483648 ≤ xi ∧ xi ≤ 2147483647) : sOk base X G d T124 [vR 0, vI xi] M (pI (fun v M' => HI base M' ∧ Ftr [(0, 0)] M M' ∧ (INVl base (j + 6) M') ∧ (CSx base gs gT gN ga g0 gb g1 M') ∧ (RSx gs gT gN ga g0 gb g1 M') ∧ (HXc base hf hn hx hy M') ∧ (HXr hf hn hx hy M'))) := by
  obtain ⟨wa, wb, hK, hR, r1, r2⟩ := h0
  have hK2 := hK
  obtain ⟨hH, hB, hN, hI, hA, hZ, hS, ⟨wn, hn, hT, hG⟩, ha, hb⟩ := hK2
  have hR2 := hR
  obtain ⟨hTB, hWD, hLN, hGK, hVT, hIM⟩ := hR2
  have hs := h1.1
  refine sOk.imp (k124 E (by omega) H xi (by omega)) ?_
  rintro v M' ⟨v', e, rfl, -⟩
  exact ⟨v', e, H, trivial, ⟨wa, wb, hK, hR, by omega, by omega⟩, h1, h2, h3, h4⟩
theorem V125 {base : Nat} {X : Nat → Option mC} {G : Nat → Value} (E : EnvOK base X G) {d : Nat} (hd : 3 ≤ d) {M : mH} (H : HI base M) (xm : Int) (xq : Int) (j : Int) (gs : Int) (gT : Int → Int) (gN : Int → Int) (ga : Int) (g0 : Int → Int) (gb : Int) (g1 : Int → Int) (hf : Int) (hn : Int) (hx : Int) (hy : Int) (h0 : INVl base j M) (h1 : CSx base gs gT gN ga g0 gb g1 M) (h2 : RSx gs gT gN ga g0 gb g1 M) (h3 : HXc base hf hn hx hy M) (h4 : HXr hf hn hx hy M) (b_xm : -2147483648 ≤ xm ∧ xm ≤ 2147483647) (b_xq : -2147483648 ≤ xq ∧ xq ≤ 2147483647) : sOk base X G d T125 [vR 0, vI xm, vI xq] M (pI (fun v M' => HI base M' ∧ Ftr [(0, 0)] M M' ∧ (INVl base (j + 6) M') ∧ (CSx base gs gT gN ga g0 gb g1 M') ∧ (RSx gs gT gN ga g0 gb g1 M') ∧ (HXc base hf hn hx hy M') ∧ (HXr hf hn hx hy M'))) := by
  obtain ⟨wa, wb, hK, hR, r1, r2⟩ := h0
  have hK2 := hK
  obtain ⟨hH, hB, hN, hI, hA, hZ, hS, ⟨wn, hn, hT, hG⟩, ha, hb⟩ := hK2
  have hR2 := hR
  obtain ⟨hTB, hWD, hLN, hGK, hVT, hIM⟩ := hR2
  have hs := h1.1
  refine sOk.imp (k125 E (by omega) H xm xq (by omega) (by omega)) ?_
  rintro v M' ⟨v', e, H', f⟩
  have z := (f.q rfl).z
  have rf := z.ref H.m rfl
  have kr := hR.of rf
  exact ⟨v', e, H', trivial, ⟨wa, wb, hK.keep H' z rfl rfl, kr, by rw [f.1]; omega, by rw [f.2.1]; omega⟩, h1.fz H.m z rfl, h2.of rf, h3.fz h1 H.m z rfl, h4.of rf⟩
theorem V126 {base : Nat} {X : Nat → Option mC} {G : Nat → Value} (E : EnvOK base X G) {d : Nat} (hd : 7 ≤ d) {M : mH} (H : HI base M) (text : Int) (sentence : Int) (slot : Int) (meant : Int) (third : Int) (j : Int) (gs : Int) (gT : Int → Int) (gN : Int → Int) (ga : Int) (g0 : Int → Int) (gb : Int) (g1 : Int → Int) (hf : Int) (hn : Int) (hx : Int) (hy : Int) (h0 : INVl base j M) (h1 : CSx base gs gT gN ga g0 gb g1 M) (h2 : RSx gs gT gN ga g0 gb g1 M) (h3 : HXc base hf hn hx hy M) (h4 : HXr hf hn hx hy M) (b_text : -2147483648 ≤ text ∧ text ≤ 2147483647) (b_sentence : -2147483648 ≤ sentence ∧ sentence ≤ 2147483647) (b_slot : -2147483648 ≤ slot ∧ slot ≤ 2147483647) (b_meant : -2147483648 ≤ meant ∧ meant ≤ 2147483647) (b_third : -2147483648 ≤ third ∧ third ≤ 2147483647) : sOk base X G d T126 [vR 0, vI text, vI sentence, vI slot, vI meant, vI third] M (pI (fun v M' => HI base M' ∧ Ftr [(0, 0)] M M' ∧ (INVl base (j + 6) M') ∧ (CSx base gs gT gN ga g0 gb g1 M') ∧ (RSx gs gT gN ga g0 gb g1 M') ∧ (HXc base hf hn hx hy M') ∧ (HXr hf hn hx hy M'))) := by
  obtain ⟨wa, wb, hK, hR, r1, r2⟩ := h0
  have hK2 := hK
  obtain ⟨hH, hB, hN, hI, hA, hZ, hS, ⟨wn, hn, hT, hG⟩, ha, hb⟩ := hK2
  have hR2 := hR
  obtain ⟨hTB, hWD, hLN, hGK, hVT, hIM⟩ := hR2
  have hs := h1.1
  refine sOk.imp (k126s E (by omega) H text sentence slot meant third hB hS (by omega) (by omega) (by omega) (by omega) (by omega)) ?_
  rintro v M' ⟨v', e, H', f, q0⟩
  have z := (f.q rfl).z
  have rf := z.ref H.m rfl
  have kr := hR.of rf
  exact ⟨v', e, H', trivial, ⟨wa, wb, hK.sf H' z rfl q0, kr, by rw [f.1]; omega, by rw [f.2.1]; omega⟩, h1.fz H.m z rfl, h2.of rf, h3.fz h1 H.m z rfl, h4.of rf⟩
theorem V127 {base : Nat} {X : Nat → Option mC} {G : Nat → Value} (E : EnvOK base X G) {d : Nat} (hd : 7 ≤ d) {M : mH} (H : HI base M) (sentence : Int) (j : Int) (gs : Int) (gT : Int → Int) (gN : Int → Int) (ga : Int) (g0 : Int → Int) (gb : Int) (g1 : Int → Int) (hf : Int) (hn : Int) (hx : Int) (hy : Int) (h0 : INVl base j M) (h1 : CSx base gs gT gN ga g0 gb g1 M) (h2 : RSx gs gT gN ga g0 gb g1 M) (h3 : HXc base hf hn hx hy M) (h4 : HXr hf hn hx hy M) (b_sentence : -2147483648 ≤ sentence ∧ sentence ≤ 2147483647) : sOk base X G d T127 [vR 0, vI sentence] M (pI (fun v M' => HI base M' ∧ Ftr [(0, 0)] M M' ∧ (INVl base (j + 6) M') ∧ (CSx base 0 gT gN ga g0 gb g1 M') ∧ (RSx gs gT gN ga g0 gb g1 M') ∧ (HXc base hf hn hx hy M') ∧ (HXr hf hn hx hy M'))) := by
  obtain ⟨wa, wb, hK, hR, r1, r2⟩ := h0
  have hK2 := hK
  obtain ⟨hH, hB, hN, hI, hA, hZ, hS, ⟨wn, hn, hT, hG⟩, ha, hb⟩ := hK2
  have hR2 := hR
  obtain ⟨hTB, hWD, hLN, hGK, hVT, hIM⟩ := hR2
  have hs := h1.1
  refine sOk.imp (k127e E (by omega) H sentence hB hS (by omega)) ?_
  rintro v M' ⟨v', e, H', f, q0, q1, q2⟩
  have z := (f.q rfl).z
  have rf := z.ref H.m rfl
  have kr := hR.of rf
  exact ⟨v', e, H', trivial, ⟨wa, wb, hK.sf H' z rfl q1, kr, by rw [f.1]; omega, by rw [f.2.1]; omega⟩, h1.tape H.m z rfl q2, h2.of rf, h3.fz h1 H.m z rfl, h4.of rf⟩
theorem V128 {base : Nat} {X : Nat → Option mC} {G : Nat → Value} (E : EnvOK base X G) {d : Nat} (hd : 7 ≤ d) {M : mH} (H : HI base M) (what : Int) (j : Int) (gs : Int) (gT : Int → Int) (gN : Int → Int) (ga : Int) (g0 : Int → Int) (gb : Int) (g1 : Int → Int) (hf : Int) (hn : Int) (hx : Int) (hy : Int) (h0 : INVl base j M) (h1 : CSx base gs gT gN ga g0 gb g1 M) (h2 : RSx gs gT gN ga g0 gb g1 M) (h3 : HXc base hf hn hx hy M) (h4 : HXr hf hn hx hy M) (b_what : -2147483648 ≤ what ∧ what ≤ 2147483647) : sOk base X G d T128 [vR 0, vI what] M (pI (fun v M' => HI base M' ∧ Ftr [(0, 0)] M M' ∧ (INVl base (j + 6) M') ∧ (CSx base gs gT gN ga g0 gb g1 M') ∧ (RSx gs gT gN ga g0 gb g1 M') ∧ (HXc base hf hn hx hy M') ∧ (HXr hf hn hx hy M'))) := by
  obtain ⟨wa, wb, hK, hR, r1, r2⟩ := h0
  have hK2 := hK
  obtain ⟨hH, hB, hN, hI, hA, hZ, hS, ⟨wn, hn, hT, hG⟩, ha, hb⟩ := hK2
  have hR2 := hR
  obtain ⟨hTB, hWD, hLN, hGK, hVT, hIM⟩ := hR2
  have hs := h1.1
  refine sOk.imp (k128s E (by omega) H what hB hS (by omega)) ?_
  rintro v M' ⟨v', e, H', f, q0, q1⟩
  have z := (f.q rfl).z
  have rf := z.ref H.m rfl
  have kr := hR.of rf
  exact ⟨v', e, H', trivial, ⟨wa, wb, hK.sf H' z rfl q1, kr, by rw [f.1]; omega, by rw [f.2.1]; omega⟩, h1.fz H.m z rfl, h2.of rf, h3.fz h1 H.m z rfl, h4.of rf⟩
theorem V129 {base : Nat} {X : Nat → Option mC} {G : Nat → Value} (E : EnvOK base X G) {d : Nat} (hd : 3 ≤ d) {M : mH} (H : HI base M) (k : Int) (j : Int) (gs : Int) (gT : Int → Int) (gN : Int → Int) (ga : Int) (g0 : Int → Int) (gb : Int) (g1 : Int → Int) (hf : Int) (hn : Int) (hx : Int) (hy : Int) (h0 : INVl base j M) (h1 : CSx base gs gT gN ga g0 gb g1 M) (h2 : RSx gs gT gN ga g0 gb g1 M) (h3 : HXc base hf hn hx hy M) (h4 : HXr hf hn hx hy M) (b_k : -2147483648 ≤ k ∧ k ≤ 2147483647) : sOk base X G d T129 [vR 0, vI k] M (pI (fun v M' => HI base M' ∧ Ftr [(0, 0)] M M' ∧ (INVl base (j + 6) M') ∧ (CSx base gs gT gN (imA 0 k ga) (imF 0 k gN g0) (imA 1 k gb) (imF 1 k gN g1) M') ∧ (RSx gs gT gN ga g0 gb g1 M') ∧ (HXc base hf hn (imI 0 k hn hx) (imI 1 k hn hy) M') ∧ (HXr hf hn hx hy M') ∧ (-2147483648 ≤ v ∧ v ≤ 2147483647) ∧ (v = imV k))) := by
  obtain ⟨wa, wb, hK, hR, r1, r2⟩ := h0
  have hK2 := hK
  obtain ⟨hH, hB, hN, hI, hA, hZ, hS, ⟨wn, hn_, hT, hG⟩, ha, hb⟩ := hK2
  have hR2 := hR
  obtain ⟨hTB, hWD, hLN, hGK, hVT, hIM⟩ := hR2
  have hs := h1.1
  refine sOk.imp (k129m E (by omega) H k (by omega) hB hN hI) ?_
  rintro v M' ⟨v', e, q, e0, e1, g34, m1, n2, kd⟩
  have q1 := q.2.2.2.2.1.2
  have q2 := q.2.2.2.2.2.1
  have rf : ∀ c, 77 ≤ c → c < 111 → sameC c M M' := fun c x y => q.2.2.2.2.2.2.1 c (by omega) y
  have inv : INVl base (j + 6) M' := ⟨wa, wb, hK.img q, hR.of rf, by omega, by omega⟩
  have g3 := g34.1
  have n1 := fun h => (m1 h).n
  have hkk : ∀ r, r < M.1 → hk M r = 3 → hk M' r = 3 := fun r hr a => (kd r hr).trans a
  have vv := imV.of e0 e1
  have cs : CSx base gs gT gN (imA 0 k ga) (imF 0 k gN g0) (imA 1 k gb) (imF 1 k gN g1) M' := by
    unfold imA imF
    by_cases k0 : k = 0
    · subst k0
      rw [if_pos rfl, if_pos rfl, if_neg (by decide), if_neg (by decide)]
      exact h1.img0 (n1 (by decide)) q.2.2.2.2.1.1 hkk g3
    · rw [if_neg k0, if_neg k0]
      by_cases k1 : k = 1
      · subst k1
        rw [if_pos rfl, if_pos rfl]
        exact h1.img1 (n1 (by decide)) q.2.2.2.2.1.1 hkk g3
      · rw [if_neg k1, if_neg k1]
        exact h1.fz H.m ((n2 (by omega)).q rfl).z rfl
  exact ⟨v', e, q.1, trivial, inv, cs, h2.of rf, h3.img h1 H.m m1 n2 g34.2, h4.of rf, (by rw [vv]; unfold imV; split <;> omega), vv⟩
theorem V130 {base : Nat} {X : Nat → Option mC} {G : Nat → Value} (E : EnvOK base X G) {d : Nat} (hd : 3 ≤ d) {M : mH} (H : HI base M) (k : Int) (j : Int) (gs : Int) (gT : Int → Int) (gN : Int → Int) (ga : Int) (g0 : Int → Int) (gb : Int) (g1 : Int → Int) (hf : Int) (hn : Int) (hx : Int) (hy : Int) (h0 : INVl base j M) (h1 : CSx base gs gT gN ga g0 gb g1 M) (h2 : RSx gs gT gN ga g0 gb g1 M) (h3 : HXc base hf hn hx hy M) (h4 : HXr hf hn hx hy M) (b_k : -2147483648 ≤ k ∧ k ≤ 2147483647) : sOk base X G d T130 [vR 0, vI k] M (pI (fun v M' => HI base M' ∧ Ftr [(0, 0)] M M' ∧ (INVl base (j + 6) M') ∧ (CSx base gs gT (bkN k ga gb g0 g1 gN) ga g0 gb g1 M') ∧ (RSx gs gT gN ga g0 gb g1 M') ∧ (HXc base hf (bkI k ga gb hx hy hn) hx hy M') ∧ (HXr hf hn hx hy M') ∧ (-2147483648 ≤ v ∧ v ≤ 2147483647) ∧ (v = bkV k ga gb))) := by
  obtain ⟨wa, wb, hK, hR, r1, r2⟩ := h0
  have hK2 := hK
  obtain ⟨hH, hB, hN, hI, hA, hZ, hS, ⟨wn, hn_, hT, hG⟩, ha, hb⟩ := hK2
  have hR2 := hR
  obtain ⟨hTB, hWD, hLN, hGK, hVT, hIM⟩ := hR2
  have hs := h1.1
  refine sOk.imp (k130m E (by omega) H k (by omega) hB hN hI) ?_
  rintro v M' ⟨v', e, q, g34, n0, e0, m1, m2, kd⟩
  have q1 := q.2.2.2.2.1.2
  have q2 := q.2.2.2.2.2.1
  have rf : ∀ c, 77 ≤ c → c < 111 → sameC c M M' := fun c x y => q.2.2.2.2.2.2.1 c (by omega) y
  have inv : INVl base (j + 6) M' := ⟨wa, wb, hK.img q, hR.of rf, by omega, by omega⟩
  have g3 := g34.1
  have e1 : 0 ≤ k ∧ k ≤ 1 → hv M 12 k.toNat = .null → v' = -2 ∧ ∀ r, 0 < r → sameC r M M' := m1
  have e2 : 0 ≤ k ∧ k ≤ 1 → ∀ c, hv M 12 k.toNat = .ref (base + c) → v' = 0 ∧ (∀ j, dAs j → cS 1 M' j = cS c M j) ∧ ∀ r, 11 < r → sameC r M M' := fun h c a => ⟨(m2 h c a).1, fun j hj => (m2 h c a).2.1.st hj, (m2 h c a).2.2⟩
  have vv : v' = bkV k ga gb := by
    refine bkV.cx h1 (fun h => (e0 h).1) (fun h a => (e1 h a).1) (fun h c a => (e2 h c a).1)
  have cs : CSx base gs gT (bkN k ga gb g0 g1 gN) ga g0 gb g1 M' := by
    by_cases kb : k < 0 ∨ 1 < k
    · have e : bkN k ga gb g0 g1 gN = gN := by unfold bkN; rw [if_neg (by omega), if_neg (by omega)]
      rw [e]
      exact h1.fz H.m ((e0 kb).2.q rfl).z rfl
    · exact h1.back (by omega) n0 (g3.trans hs) q.2.2.2.2.1.1 (fun r _ a => (kd r).trans a) (fun a => (e1 (by omega) a).2) (fun c a => (e2 (by omega) c a).2)
  exact ⟨v', e, q.1, trivial, inv, cs, h2.of rf, h3.back h1 n0 g34.2 e0 m1 m2, h4.of rf, (by rw [vv]; unfold bkV; split <;> (try split) <;> (try split) <;> omega), vv⟩
theorem V131 {base : Nat} {X : Nat → Option mC} {G : Nat → Value} (E : EnvOK base X G) {d : Nat} (hd : 0 ≤ d) {M : mH} (H : HI base M) (what : Int) (j : Int) (gs : Int) (gT : Int → Int) (gN : Int → Int) (ga : Int) (g0 : Int → Int) (gb : Int) (g1 : Int → Int) (hf : Int) (hn : Int) (hx : Int) (hy : Int) (h0 : INVl base j M) (h1 : CSx base gs gT gN ga g0 gb g1 M) (h2 : RSx gs gT gN ga g0 gb g1 M) (h3 : HXc base hf hn hx hy M) (h4 : HXr hf hn hx hy M) (b_what : -2147483648 ≤ what ∧ what ≤ 2147483647) : sOk base X G d T131 [vR 0, vI what] M (pI (fun v M' => HI base M' ∧ Ftr [(0, 0)] M M' ∧ (INVl base (j + 6) M') ∧ (CSx base gs gT gN ga g0 gb g1 M') ∧ (RSx gs gT gN ga g0 gb g1 M') ∧ (HXc base hf hn hx hy M') ∧ (HXr hf hn hx hy M') ∧ (-2147483648 ≤ v ∧ v ≤ 2147483647) ∧ (v = cnW gN hn gs what))) := by
  obtain ⟨wa, wb, hK, hR, r1, r2⟩ := h0
  have hK2 := hK
  obtain ⟨hH, hB, hN, hI, hA, hZ, hS, ⟨wn, hn_, hT, hG⟩, ha, hb⟩ := hK2
  have hR2 := hR
  obtain ⟨hTB, hWD, hLN, hGK, hVT, hIM⟩ := hR2
  refine sOk.imp (k131v E (by omega) H what (by omega)) ?_
  rintro v M' ⟨v', e, rfl, q0, q1, q2, q3, q4, q5, q6⟩
  exact ⟨v', e, H, trivial, ⟨wa, wb, hK, hR, by omega, by omega⟩, h1, h2, h3, h4, q0, cnW.of (fun x => (q1 x).trans h1.n) (fun x => (q2 x).trans h1.on) (fun x => (q3 x).trans h3.2.1) (fun x => (q4 x).trans h1.bn) (fun x => (q5 x).trans h1.1) q6⟩
theorem V132 {base : Nat} {X : Nat → Option mC} {G : Nat → Value} (E : EnvOK base X G) {d : Nat} (hd : 0 ≤ d) {M : mH} (H : HI base M) (j : Int) (gs : Int) (gT : Int → Int) (gN : Int → Int) (ga : Int) (g0 : Int → Int) (gb : Int) (g1 : Int → Int) (hf : Int) (hn : Int) (hx : Int) (hy : Int) (h0 : INVl base j M) (h1 : CSx base gs gT gN ga g0 gb g1 M) (h2 : RSx gs gT gN ga g0 gb g1 M) (h3 : HXc base hf hn hx hy M) (h4 : HXr hf hn hx hy M) : sOk base X G d T132 [vR 0] M (pI (fun v M' => HI base M' ∧ Ftr [(0, 0)] M M' ∧ (INVl base (j + 6) M') ∧ (CSx base gs gT gN ga g0 gb g1 M') ∧ (RSx gs gT gN ga g0 gb g1 M') ∧ (HXc base hf hn hx hy M') ∧ (HXr hf hn hx hy M'))) := by
  obtain ⟨wa, wb, hK, hR, r1, r2⟩ := h0
  have hK2 := hK
  obtain ⟨hH, hB, hN, hI, hA, hZ, hS, ⟨wn, hn, hT, hG⟩, ha, hb⟩ := hK2
  have hR2 := hR
  obtain ⟨hTB, hWD, hLN, hGK, hVT, hIM⟩ := hR2
  have hs := h1.1
  refine sOk.imp (k132 E (by omega) H  ) ?_
  rintro v M' ⟨v', e, rfl, -⟩
  exact ⟨v', e, H, trivial, ⟨wa, wb, hK, hR, by omega, by omega⟩, h1, h2, h3, h4⟩
theorem V161 {base : Nat} {X : Nat → Option mC} {G : Nat → Value} (E : EnvOK base X G) {d : Nat} (hd : 1 ≤ d) {M : mH} (H : HI base M) (w : Int) (what : Int) (value : Int) (j : Int) (gs : Int) (gT : Int → Int) (gN : Int → Int) (ga : Int) (g0 : Int → Int) (gb : Int) (g1 : Int → Int) (hf : Int) (hn : Int) (hx : Int) (hy : Int) {ef en ex ey : Int} {es : Int} {eT eN : Int → Int} {ea : Int} {e0 : Int → Int} {eb : Int} {e1 : Int → Int} (h0 : INVl base j M) (h1 : CSx base es eT eN ea e0 eb e1 M) (h2 : RSx gs gT gN ga g0 gb g1 M) (h3 : HXc base ef en ex ey M) (h4 : HXr hf hn hx hy M) (b_w : -2147483648 ≤ w ∧ w ≤ 2147483647) (b_what : -2147483648 ≤ what ∧ what ≤ 2147483647) (b_value : -2147483648 ≤ value ∧ value ≤ 2147483647) : sOk base X G d T161 [vR 77, vI w, vI what, vI value] M (pI (fun v M' => HI base M' ∧ Ftr [(0, 0)] M M' ∧ (INVl base j M') ∧ (CSx base es eT eN ea e0 eb e1 M') ∧ (RSx gs gT (stN (WV w what value) gN (30 * what + w) value) ga g0 gb g1 M') ∧ (HXc base ef en ex ey M') ∧ (HXr hf hn hx hy M') ∧ (-2147483648 ≤ v ∧ v ≤ 2147483647) ∧ (v = stV (WV w what value) gN (30 * what + w)))) := by
  obtain ⟨wa, wb, hK, hR, r1, r2⟩ := h0
  have hK2 := hK
  obtain ⟨hH, hB, hN, hI, hA, hZ, hS, ⟨wn, hn, hT, hG⟩, ha, hb⟩ := hK2
  have hR2 := hR
  obtain ⟨hTB, hWD, hLN, hGK, hVT, hIM⟩ := hR2
  have hs := h2.1
  refine sOk.imp (k161n E (by omega) H w what value hLN hGK (by omega) (by omega) (by omega)) ?_
  rintro v M' ⟨v', e, H', f, q0, q1, q2⟩
  have z := (f.q rfl).z
  have cs : RSx gs gT (stN (WV w what value) gN (30 * what + w) value) ga g0 gb g1 M' ∧ (-2147483648 ≤ v' ∧ v' ≤ 2147483647) ∧ v' = stV (WV w what value) gN (30 * what + w) := by
    rcases q2 with ⟨hp, hvv, M1, u, fa⟩ | ⟨hp, hvv, fr⟩
    · have hp2 := hp
      unfold WV at hp2
      have dj : dAs (30 * what + w) := by unfold dAs; omega
      have bv := (H.1.int sc_78 (i := 30 * what + w) (by omega) (by show _ < (6883 : Int); omega) rfl).2
      unfold inR at bv
      rw [stN_pos hp, stV_pos hp]
      have ww := (h2.wr u (by omega) rfl (by unfold inR; omega)).fr fa rfl
      exact ⟨ww, by omega, by rw [hvv]; exact h2.2.2.1 _ dj⟩
    · rw [stN_neg hp, stV_neg hp]
      have ww := h2.fr fr rfl
      exact ⟨ww, by omega, hvv⟩
  exact ⟨v', e, H', trivial, ⟨wa, wb, hK.keep H' z rfl rfl, ⟨hTB.fr f rfl, hWD.fr f rfl, q0, q1, hVT.fr f rfl, hIM.fr f rfl⟩, by rw [f.1]; exact r1, by rw [f.2.1]; exact r2⟩, h1.fz H.m z rfl, cs.1, h3.fz h1 H.m z rfl, (by rcases q2 with ⟨hp, -, M1, u, fa⟩ | ⟨-, -, fr⟩; (unfold WV at hp; exact (h4.wr u ⟨by omega, by omega⟩).fr fa rfl); exact h4.fr fr rfl), cs.2.1, cs.2.2⟩
theorem V162 {base : Nat} {X : Nat → Option mC} {G : Nat → Value} (E : EnvOK base X G) {d : Nat} (hd : 1 ≤ d) {M : mH} (H : HI base M) (what : Int) (value : Int) (j : Int) (gs : Int) (gT : Int → Int) (gN : Int → Int) (ga : Int) (g0 : Int → Int) (gb : Int) (g1 : Int → Int) (hf : Int) (hn : Int) (hx : Int) (hy : Int) {ef en ex ey : Int} {es : Int} {eT eN : Int → Int} {ea : Int} {e0 : Int → Int} {eb : Int} {e1 : Int → Int} (h0 : INVl base j M) (h1 : CSx base es eT eN ea e0 eb e1 M) (h2 : RSx gs gT gN ga g0 gb g1 M) (h3 : HXc base ef en ex ey M) (h4 : HXr hf hn hx hy M) (b_what : -2147483648 ≤ what ∧ what ≤ 2147483647) (b_value : -2147483648 ≤ value ∧ value ≤ 2147483647) : sOk base X G d T162 [vR 77, vI what, vI value] M (pI (fun v M' => HI base M' ∧ Ftr [(0, 0)] M M' ∧ (INVl base j M') ∧ (CSx base es eT eN ea e0 eb e1 M') ∧ (RSx gs gT (stN (TV what value) gN (90 + what) value) ga g0 gb g1 M') ∧ (HXc base ef en ex ey M') ∧ (HXr hf hn hx hy M') ∧ (-2147483648 ≤ v ∧ v ≤ 2147483647) ∧ (v = stV (TV what value) gN (90 + what)))) := by
  obtain ⟨wa, wb, hK, hR, r1, r2⟩ := h0
  have hK2 := hK
  obtain ⟨hH, hB, hN, hI, hA, hZ, hS, ⟨wn, hn, hT, hG⟩, ha, hb⟩ := hK2
  have hR2 := hR
  obtain ⟨hTB, hWD, hLN, hGK, hVT, hIM⟩ := hR2
  have hs := h2.1
  refine sOk.imp (k162n E (by omega) H what value hLN hGK (by omega) (by omega)) ?_
  rintro v M' ⟨v', e, H', f, q0, q1, q2⟩
  have z := (f.q rfl).z
  have cs : RSx gs gT (stN (TV what value) gN (90 + what) value) ga g0 gb g1 M' ∧ (-2147483648 ≤ v' ∧ v' ≤ 2147483647) ∧ v' = stV (TV what value) gN (90 + what) := by
    rcases q2 with ⟨hp, hvv, M1, u, fa⟩ | ⟨hp, hvv, fr⟩
    · have hp2 := hp
      unfold TV at hp2
      have dj : dAs (90 + what) := by unfold dAs; omega
      have bv := (H.1.int sc_78 (i := 90 + what) (by omega) (by show _ < (6883 : Int); omega) rfl).2
      unfold inR at bv
      rw [stN_pos hp, stV_pos hp]
      have ww := (h2.wr u (by omega) rfl (by unfold inR; omega)).fr fa rfl
      exact ⟨ww, by omega, by rw [hvv]; exact h2.2.2.1 _ dj⟩
    · rw [stN_neg hp, stV_neg hp]
      have ww := h2.fr fr rfl
      exact ⟨ww, by omega, hvv⟩
  exact ⟨v', e, H', trivial, ⟨wa, wb, hK.keep H' z rfl rfl, ⟨hTB.fr f rfl, hWD.fr f rfl, q0, q1, hVT.fr f rfl, hIM.fr f rfl⟩, by rw [f.1]; exact r1, by rw [f.2.1]; exact r2⟩, h1.fz H.m z rfl, cs.1, h3.fz h1 H.m z rfl, (by rcases q2 with ⟨hp, -, M1, u, fa⟩ | ⟨-, -, fr⟩; (unfold TV at hp; exact (h4.wr u ⟨by omega, by omega⟩).fr fa rfl); exact h4.fr fr rfl), cs.2.1, cs.2.2⟩
theorem V163 {base : Nat} {X : Nat → Option mC} {G : Nat → Value} (E : EnvOK base X G) {d : Nat} (hd : 1 ≤ d) {M : mH} (H : HI base M) (x : Int) (j : Int) (gs : Int) (gT : Int → Int) (gN : Int → Int) (ga : Int) (g0 : Int → Int) (gb : Int) (g1 : Int → Int) (hf : Int) (hn : Int) (hx : Int) (hy : Int) {ef en ex ey : Int} {es : Int} {eT eN : Int → Int} {ea : Int} {e0 : Int → Int} {eb : Int} {e1 : Int → Int} (h0 : INVl base j M) (h1 : CSx base es eT eN ea e0 eb e1 M) (h2 : RSx gs gT gN ga g0 gb g1 M) (h3 : HXc base ef en ex ey M) (h4 : HXr hf hn hx hy M) (b_x : -2147483648 ≤ x ∧ x ≤ 2147483647) : sOk base X G d T163 [vR 77, vI x] M (pI (fun v M' => HI base M' ∧ Ftr [(0, 0)] M M' ∧ (INVl base j M') ∧ (CSx base es eT eN ea e0 eb e1 M') ∧ (RSx gs gT (stN (OV x) gN 473 x) ga g0 gb g1 M') ∧ (HXc base ef en ex ey M') ∧ (HXr hf hn hx hy M') ∧ (-2147483648 ≤ v ∧ v ≤ 2147483647) ∧ (v = stV (OV x) gN 473))) := by
  obtain ⟨wa, wb, hK, hR, r1, r2⟩ := h0
  have hK2 := hK
  obtain ⟨hH, hB, hN, hI, hA, hZ, hS, ⟨wn, hn, hT, hG⟩, ha, hb⟩ := hK2
  have hR2 := hR
  obtain ⟨hTB, hWD, hLN, hGK, hVT, hIM⟩ := hR2
  have hs := h2.1
  refine sOk.imp (k163n E (by omega) H x hLN hGK (by omega)) ?_
  rintro v M' ⟨v', e, H', f, q0, q1, q2⟩
  have z := (f.q rfl).z
  have cs : RSx gs gT (stN (OV x) gN 473 x) ga g0 gb g1 M' ∧ (-2147483648 ≤ v' ∧ v' ≤ 2147483647) ∧ v' = stV (OV x) gN 473 := by
    rcases q2 with ⟨hp, hvv, M1, u, fa⟩ | ⟨hp, hvv, fr⟩
    · have hp2 := hp
      unfold OV at hp2
      have dj : dAs (473) := by unfold dAs; omega
      have bv := (H.1.int sc_78 (i := 473) (by omega) (by show _ < (6883 : Int); omega) rfl).2
      unfold inR at bv
      rw [stN_pos hp, stV_pos hp]
      have ww := (h2.wr u (by omega) rfl (by unfold inR; omega)).fr fa rfl
      exact ⟨ww, by omega, by rw [hvv]; exact h2.2.2.1 _ dj⟩
    · rw [stN_neg hp, stV_neg hp]
      have ww := h2.fr fr rfl
      exact ⟨ww, by omega, hvv⟩
  exact ⟨v', e, H', trivial, ⟨wa, wb, hK.keep H' z rfl rfl, ⟨hTB.fr f rfl, hWD.fr f rfl, q0, q1, hVT.fr f rfl, hIM.fr f rfl⟩, by rw [f.1]; exact r1, by rw [f.2.1]; exact r2⟩, h1.fz H.m z rfl, cs.1, h3.fz h1 H.m z rfl, (by rcases q2 with ⟨hp, -, M1, u, fa⟩ | ⟨-, -, fr⟩; (unfold OV at hp; exact (h4.wr u ⟨by omega, by omega⟩).fr fa rfl); exact h4.fr fr rfl), cs.2.1, cs.2.2⟩
theorem V164 {base : Nat} {X : Nat → Option mC} {G : Nat → Value} (E : EnvOK base X G) {d : Nat} (hd : 1 ≤ d) {M : mH} (H : HI base M) (slot : Int) (values : Int) (length : Int) (j : Int) (gs : Int) (gT : Int → Int) (gN : Int → Int) (ga : Int) (g0 : Int → Int) (gb : Int) (g1 : Int → Int) (hf : Int) (hn : Int) (hx : Int) (hy : Int) {ef en ex ey : Int} {es : Int} {eT eN : Int → Int} {ea : Int} {e0 : Int → Int} {eb : Int} {e1 : Int → Int} (h0 : INVl base j M) (h1 : CSx base es eT eN ea e0 eb e1 M) (h2 : RSx gs gT gN ga g0 gb g1 M) (h3 : HXc base ef en ex ey M) (h4 : HXr hf hn hx hy M) (b_slot : -2147483648 ≤ slot ∧ slot ≤ 2147483647) (b_values : -2147483648 ≤ values ∧ values ≤ 2147483647) (b_length : -2147483648 ≤ length ∧ length ≤ 2147483647) : sOk base X G d T164 [vR 77, vI slot, vI values, vI length] M (pI (fun v M' => HI base M' ∧ Ftr [(0, 0)] M M' ∧ (INVl base j M') ∧ (CSx base es eT eN ea e0 eb e1 M') ∧ (RSx gs gT (ctN (NV slot values length) gN 99 470 12 slot values length) ga g0 gb g1 M') ∧ (HXc base ef en ex ey M') ∧ (HXr hf hn hx hy M') ∧ (-2147483648 ≤ v ∧ v ≤ 2147483647) ∧ (v = ctV (NV slot values length) gN 470 12))) := by
  obtain ⟨wa, wb, hK, hR, r1, r2⟩ := h0
  have hK2 := hK
  obtain ⟨hH, hB, hN, hI, hA, hZ, hS, ⟨wn, hn, hT, hG⟩, ha, hb⟩ := hK2
  have hR2 := hR
  obtain ⟨hTB, hWD, hLN, hGK, hVT, hIM⟩ := hR2
  have hs := h2.1
  refine sOk.imp (k164n E (by omega) H slot values length hLN hGK (by omega) (by omega) (by omega)) ?_
  rintro v M' ⟨v', e, H', f, q0, q1, q2⟩
  have z := (f.q rfl).z
  have dj : dAs 470 := by unfold dAs; omega
  have cn : gi M 78 470 = gN 470 := h2.2.2.1 470 dj
  have bv := H.2 78 470 0 12 (rk_openmany (by omega))
  have cs : RSx gs gT (ctN (NV slot values length) gN 99 470 12 slot values length) ga g0 gb g1 M' ∧ (-2147483648 ≤ v' ∧ v' ≤ 2147483647) ∧ v' = ctV (NV slot values length) gN 470 12 := by
    unfold ctN ctV
    rcases q2 with ⟨hp, hl, hvv, M1, u, fa⟩ | ⟨hp, hl, hvv, fr⟩ | ⟨hp, hvv, fr⟩
    · have hp2 := hp
      unfold NV at hp2
      rw [if_pos hp, if_pos hp, if_pos (show gN 470 < 12 by omega), if_pos (show gN 470 < 12 by omega)]
      have w := h2.w4 (b := 99) (i := 470) (lim := 12) ⟨by omega, dj⟩ (by omega) ⟨by omega, by omega⟩ (by omega) (by unfold inR; omega) (by unfold inR; omega) (by unfold inR; omega) u
      exact ⟨w.fr fa rfl, by omega, by rw [hvv]; exact cn⟩
    · rw [if_pos hp, if_pos hp, if_neg (show ¬ gN 470 < 12 by omega), if_neg (show ¬ gN 470 < 12 by omega)]
      exact ⟨h2.fr fr rfl, by omega, hvv⟩
    · rw [if_neg hp, if_neg hp]
      exact ⟨h2.fr fr rfl, by omega, hvv⟩
  exact ⟨v', e, H', trivial, ⟨wa, wb, hK.keep H' z rfl rfl, ⟨hTB.fr f rfl, hWD.fr f rfl, q0, q1, hVT.fr f rfl, hIM.fr f rfl⟩, by rw [f.1]; exact r1, by rw [f.2.1]; exact r2⟩, h1.fz H.m z rfl, cs.1, h3.fz h1 H.m z rfl, (by have bn := H.2 78 470 0 12 (rk_openmany (by omega)); rcases q2 with ⟨-, hl, -, M1, u, fa⟩ | ⟨-, -, -, fr⟩ | ⟨-, -, fr⟩; exact (h4.w4 u ⟨by omega, by omega⟩ (by decide)).fr fa rfl; exact h4.fr fr rfl; exact h4.fr fr rfl), cs.2.1, cs.2.2⟩
theorem V165 {base : Nat} {X : Nat → Option mC} {G : Nat → Value} (E : EnvOK base X G) {d : Nat} (hd : 1 ≤ d) {M : mH} (H : HI base M) (x : Int) (j : Int) (gs : Int) (gT : Int → Int) (gN : Int → Int) (ga : Int) (g0 : Int → Int) (gb : Int) (g1 : Int → Int) (hf : Int) (hn : Int) (hx : Int) (hy : Int) {ef en ex ey : Int} {es : Int} {eT eN : Int → Int} {ea : Int} {e0 : Int → Int} {eb : Int} {e1 : Int → Int} (h0 : INVl base j M) (h1 : CSx base es eT eN ea e0 eb e1 M) (h2 : RSx gs gT gN ga g0 gb g1 M) (h3 : HXc base ef en ex ey M) (h4 : HXr hf hn hx hy M) (b_x : -2147483648 ≤ x ∧ x ≤ 2147483647) : sOk base X G d T165 [vR 77, vI x] M (pI (fun v M' => HI base M' ∧ Ftr [(0, 0)] M M' ∧ (INVl base j M') ∧ (CSx base es eT eN ea e0 eb e1 M') ∧ (RSx gs gT (stN (PV x) gN 474 x) ga g0 gb g1 M') ∧ (HXc base ef en ex ey M') ∧ (HXr hf hn hx hy M') ∧ (-2147483648 ≤ v ∧ v ≤ 2147483647) ∧ (v = stV (PV x) gN 474))) := by
  obtain ⟨wa, wb, hK, hR, r1, r2⟩ := h0
  have hK2 := hK
  obtain ⟨hH, hB, hN, hI, hA, hZ, hS, ⟨wn, hn, hT, hG⟩, ha, hb⟩ := hK2
  have hR2 := hR
  obtain ⟨hTB, hWD, hLN, hGK, hVT, hIM⟩ := hR2
  have hs := h2.1
  refine sOk.imp (k165n E (by omega) H x hLN hGK (by omega)) ?_
  rintro v M' ⟨v', e, H', f, q0, q1, q2⟩
  have z := (f.q rfl).z
  have cs : RSx gs gT (stN (PV x) gN 474 x) ga g0 gb g1 M' ∧ (-2147483648 ≤ v' ∧ v' ≤ 2147483647) ∧ v' = stV (PV x) gN 474 := by
    rcases q2 with ⟨hp, hvv, M1, u, fa⟩ | ⟨hp, hvv, fr⟩
    · have hp2 := hp
      unfold PV at hp2
      have dj : dAs (474) := by unfold dAs; omega
      have bv := (H.1.int sc_78 (i := 474) (by omega) (by show _ < (6883 : Int); omega) rfl).2
      unfold inR at bv
      rw [stN_pos hp, stV_pos hp]
      have ww := (h2.wr u (by omega) rfl (by unfold inR; omega)).fr fa rfl
      exact ⟨ww, by omega, by rw [hvv]; exact h2.2.2.1 _ dj⟩
    · rw [stN_neg hp, stV_neg hp]
      have ww := h2.fr fr rfl
      exact ⟨ww, by omega, hvv⟩
  exact ⟨v', e, H', trivial, ⟨wa, wb, hK.keep H' z rfl rfl, ⟨hTB.fr f rfl, hWD.fr f rfl, q0, q1, hVT.fr f rfl, hIM.fr f rfl⟩, by rw [f.1]; exact r1, by rw [f.2.1]; exact r2⟩, h1.fz H.m z rfl, cs.1, h3.fz h1 H.m z rfl, (by rcases q2 with ⟨hp, -, M1, u, fa⟩ | ⟨-, -, fr⟩; (unfold PV at hp; exact (h4.wr u ⟨by omega, by omega⟩).fr fa rfl); exact h4.fr fr rfl), cs.2.1, cs.2.2⟩
theorem V167 {base : Nat} {X : Nat → Option mC} {G : Nat → Value} (E : EnvOK base X G) {d : Nat} (hd : 2 ≤ d) {M : mH} (H : HI base M) (xa : Int) (xb : Int) (xc : Int) (j : Int) (gs : Int) (gT : Int → Int) (gN : Int → Int) (ga : Int) (g0 : Int → Int) (gb : Int) (g1 : Int → Int) (hf : Int) (hn : Int) (hx : Int) (hy : Int) {ef en ex ey : Int} {es : Int} {eT eN : Int → Int} {ea : Int} {e0 : Int → Int} {eb : Int} {e1 : Int → Int} (h0 : INVl base j M) (h1 : CSx base es eT eN ea e0 eb e1 M) (h2 : RSx gs gT gN ga g0 gb g1 M) (h3 : HXc base ef en ex ey M) (h4 : HXr hf hn hx hy M) (b_xa : -2147483648 ≤ xa ∧ xa ≤ 2147483647) (b_xb : -2147483648 ≤ xb ∧ xb ≤ 2147483647) (b_xc : -2147483648 ≤ xc ∧ xc ≤ 2147483647) : sOk base X G d T167 [vR 77, vI xa, vI xb, vI xc] M (pI (fun v M' => HI base M' ∧ Ftr [(0, 0)] M M' ∧ (INVl base j M') ∧ (CSx base es eT eN ea e0 eb e1 M') ∧ (RSx 0 gT (seN gT gN gs xa xb xc) ga g0 gb g1 M') ∧ (HXc base ef en ex ey M') ∧ (HXr hf hn hx hy M') ∧ (-2147483648 ≤ v ∧ v ≤ 2147483647) ∧ (v = seV gT gN gs xa xb xc))) := by
  obtain ⟨wa, wb, hK, hR, r1, r2⟩ := h0
  have hK2 := hK
  obtain ⟨hH, hB, hN, hI, hA, hZ, hS, ⟨wn, hn, hT, hG⟩, ha, hb⟩ := hK2
  have hR2 := hR
  obtain ⟨hTB, hWD, hLN, hGK, hVT, hIM⟩ := hR2
  have hs := h2.1
  refine sOk.imp (k167n E (by omega) H xa xb xc hLN hGK (by omega) (by omega) (by omega)) ?_
  rintro v M' ⟨v', e, H', f, q0, q1, q2, q3⟩
  have z := (f.q rfl).z
  have cs := h2.sen H f rfl q2 q3
  exact ⟨v', e, H', trivial, ⟨wa, wb, hK.keep H' z rfl rfl, ⟨hTB.fr f rfl, hWD.fr f rfl, q0, q1, hVT.fr f rfl, hIM.fr f rfl⟩, by rw [f.1]; exact r1, by rw [f.2.1]; exact r2⟩, h1.fz H.m z rfl, cs.1, h3.fz h1 H.m z rfl, h4.sen f rfl (f.g rfl) q3, cs.2.1, cs.2.2⟩
theorem V168 {base : Nat} {X : Nat → Option mC} {G : Nat → Value} (E : EnvOK base X G) {d : Nat} (hd : 2 ≤ d) {M : mH} (H : HI base M) (xs : Int) (xp : Int) (xw : Int) (j : Int) (gs : Int) (gT : Int → Int) (gN : Int → Int) (ga : Int) (g0 : Int → Int) (gb : Int) (g1 : Int → Int) (hf : Int) (hn : Int) (hx : Int) (hy : Int) {ef en ex ey : Int} {es : Int} {eT eN : Int → Int} {ea : Int} {e0 : Int → Int} {eb : Int} {e1 : Int → Int} (h0 : INVl base j M) (h1 : CSx base es eT eN ea e0 eb e1 M) (h2 : RSx gs gT gN ga g0 gb g1 M) (h3 : HXc base ef en ex ey M) (h4 : HXr hf hn hx hy M) (b_xs : -2147483648 ≤ xs ∧ xs ≤ 2147483647) (b_xp : -2147483648 ≤ xp ∧ xp ≤ 2147483647) (b_xw : -2147483648 ≤ xw ∧ xw ≤ 2147483647) : sOk base X G d T168 [vR 77, vI xs, vI xp, vI xw] M (pI (fun v M' => HI base M' ∧ Ftr [(0, 0)] M M' ∧ (INVl base j M') ∧ (CSx base es eT eN ea e0 eb e1 M') ∧ (RSx gs gT (stN (GV (gN 469) xs xp xw) gN (147 + 16 * xs + xp) xw) ga g0 gb g1 M') ∧ (HXc base ef en ex ey M') ∧ (HXr hf hn hx hy M'))) := by
  obtain ⟨wa, wb, hK, hR, r1, r2⟩ := h0
  have hK2 := hK
  obtain ⟨hH, hB, hN, hI, hA, hZ, hS, ⟨wn, hn, hT, hG⟩, ha, hb⟩ := hK2
  have hR2 := hR
  obtain ⟨hTB, hWD, hLN, hGK, hVT, hIM⟩ := hR2
  have hs := h2.1
  refine sOk.imp (k168n E (by omega) H xs xp xw hLN hGK (by omega) (by omega) (by omega)) ?_
  rintro v M' ⟨v', e, H', f, q0, q1, q2⟩
  have z := (f.q rfl).z
  have cs : RSx gs gT (stN (GV (gN 469) xs xp xw) gN (147 + 16 * xs + xp) xw) ga g0 gb g1 M' := by
    have en : gi M 78 469 = gN 469 := h2.2.2.1 469 (by unfold dAs; omega)
    rw [en] at q2
    have bn : 0 ≤ gi M 78 469 ∧ gi M 78 469 ≤ 16 := H.2 78 469 0 16 (rk_many (by omega))
    rw [en] at bn
    rcases q2 with ⟨hp, hvv, M1, u, fa⟩ | ⟨hp, hvv, fr⟩
    · have hp2 := hp
      unfold GV at hp2
      have dj : dAs (147 + 16 * xs + xp) := by unfold dAs; omega
      have bv := (H.1.int sc_78 (i := 147 + 16 * xs + xp) (by omega) (by show _ < (6883 : Int); omega) rfl).2
      unfold inR at bv
      rw [stN_pos hp]
      have ww := (h2.wr u (by omega) rfl (by unfold inR; omega)).fr fa rfl
      exact ww
    · rw [stN_neg hp]
      have ww := h2.fr fr rfl
      exact ww
  exact ⟨v', e, H', trivial, ⟨wa, wb, hK.keep H' z rfl rfl, ⟨hTB.fr f rfl, hWD.fr f rfl, q0, q1, hVT.fr f rfl, hIM.fr f rfl⟩, by rw [f.1]; exact r1, by rw [f.2.1]; exact r2⟩, h1.fz H.m z rfl, cs, h3.fz h1 H.m z rfl, (by have bn := H.2 78 469 0 16 (rk_many (by omega)); rcases q2 with ⟨hp, -, M1, u, fa⟩ | ⟨-, -, fr⟩; (unfold GV at hp; exact (h4.wr u ⟨by omega, by omega⟩).fr fa rfl); exact h4.fr fr rfl)⟩
theorem V169 {base : Nat} {X : Nat → Option mC} {G : Nat → Value} (E : EnvOK base X G) {d : Nat} (hd : 2 ≤ d) {M : mH} (H : HI base M) (xs : Int) (xi : Int) (j : Int) (gs : Int) (gT : Int → Int) (gN : Int → Int) (ga : Int) (g0 : Int → Int) (gb : Int) (g1 : Int → Int) (hf : Int) (hn : Int) (hx : Int) (hy : Int) {ef en ex ey : Int} {es : Int} {eT eN : Int → Int} {ea : Int} {e0 : Int → Int} {eb : Int} {e1 : Int → Int} (h0 : INVl base j M) (h1 : CSx base es eT eN ea e0 eb e1 M) (h2 : RSx gs gT gN ga g0 gb g1 M) (h3 : HXc base ef en ex ey M) (h4 : HXr hf hn hx hy M) (b_xs : -2147483648 ≤ xs ∧ xs ≤ 2147483647) (b_xi : -2147483648 ≤ xi ∧ xi ≤ 2147483647) : sOk base X G d T169 [vR 77, vI xs, vI xi] M (pI (fun v M' => HI base M' ∧ Ftr [(0, 0)] M M' ∧ (INVl base j M') ∧ (CSx base es eT eN ea e0 eb e1 M') ∧ (RSx gs gT gN ga g0 gb g1 M') ∧ (HXc base ef en ex ey M') ∧ (HXr hf hn hx hy M') ∧ (-2147483648 ≤ v ∧ v ≤ 2147483647) ∧ (v = rwV gN xs xi))) := by
  obtain ⟨wa, wb, hK, hR, r1, r2⟩ := h0
  have hK2 := hK
  obtain ⟨hH, hB, hN, hI, hA, hZ, hS, ⟨wn, hn, hT, hG⟩, ha, hb⟩ := hK2
  have hR2 := hR
  obtain ⟨hTB, hWD, hLN, hGK, hVT, hIM⟩ := hR2
  have hs := h2.1
  refine sOk.imp (k169n E (by omega) H xs xi (gi M 78) (fun _ => rfl) (by omega) (by omega)) ?_
  rintro v M' ⟨v', e, rfl, q0, q1, q2, q3⟩
  have vv := (⟨q0, h2.row (by have := H.2 78 469 0 16 (rk_many (by omega)); omega) (fun a b => (H.2 78 (135 + 16 * xs) 0 8 (rk_len (by omega))).2) q1 q2 q3⟩ : _ ∧ v' = rwV gN xs xi)
  exact ⟨v', e, H, trivial, ⟨wa, wb, hK, hR, by omega, by omega⟩, h1, h2, h3, h4, vv⟩
theorem V177 {base : Nat} {X : Nat → Option mC} {G : Nat → Value} (E : EnvOK base X G) {d : Nat} (hd : 3 ≤ d) {M : mH} (H : HI base M) (xs : Int) (xl : Int) (j : Int) (gs : Int) (gT : Int → Int) (gN : Int → Int) (ga : Int) (g0 : Int → Int) (gb : Int) (g1 : Int → Int) (hf : Int) (hn : Int) (hx : Int) (hy : Int) {ef en ex ey : Int} {es : Int} {eT eN : Int → Int} {ea : Int} {e0 : Int → Int} {eb : Int} {e1 : Int → Int} (h0 : INVl base j M) (h1 : CSx base es eT eN ea e0 eb e1 M) (h2 : RSx gs gT gN ga g0 gb g1 M) (h3 : HXc base ef en ex ey M) (h4 : HXr hf hn hx hy M) (b_xs : -2147483648 ≤ xs ∧ xs ≤ 2147483647) (b_xl : -2147483648 ≤ xl ∧ xl ≤ 2147483647) : sOk base X G d T177 [vR 77, vI xs, vI xl] M (pI (fun v M' => HI base M' ∧ Ftr [(0, 0)] M M' ∧ (INVl base j M') ∧ (CSx base es eT eN ea e0 eb e1 M') ∧ (RSx gs gT gN ga g0 gb g1 M') ∧ (HXc base ef en ex ey M') ∧ (HXr hf hn hx hy M'))) := by
  obtain ⟨wa, wb, hK, hR, r1, r2⟩ := h0
  have hK2 := hK
  obtain ⟨hH, hB, hN, hI, hA, hZ, hS, ⟨wn, hn, hT, hG⟩, ha, hb⟩ := hK2
  have hR2 := hR
  obtain ⟨hTB, hWD, hLN, hGK, hVT, hIM⟩ := hR2
  have hs := h2.1
  refine sOk.imp (k177 E (by omega) H xs xl (by omega) (by omega)) ?_
  rintro v M' ⟨v', e, rfl, -⟩
  exact ⟨v', e, H, trivial, ⟨wa, wb, hK, hR, by omega, by omega⟩, h1, h2, h3, h4⟩
theorem V179 {base : Nat} {X : Nat → Option mC} {G : Nat → Value} (E : EnvOK base X G) {d : Nat} (hd : 3 ≤ d) {M : mH} (H : HI base M) (xs : Int) (xn : Int) (xl : Int) (xv : Int) (xp : Int) (j : Int) (gs : Int) (gT : Int → Int) (gN : Int → Int) (ga : Int) (g0 : Int → Int) (gb : Int) (g1 : Int → Int) (hf : Int) (hn : Int) (hx : Int) (hy : Int) {ef en ex ey : Int} {es : Int} {eT eN : Int → Int} {ea : Int} {e0 : Int → Int} {eb : Int} {e1 : Int → Int} (h0 : INVl base j M) (h1 : CSx base es eT eN ea e0 eb e1 M) (h2 : RSx gs gT gN ga g0 gb g1 M) (h3 : HXc base ef en ex ey M) (h4 : HXr hf hn hx hy M) (b_xs : -2147483648 ≤ xs ∧ xs ≤ 2147483647) (b_xn : -2147483648 ≤ xn ∧ xn ≤ 2147483647) (b_xl : -2147483648 ≤ xl ∧ xl ≤ 2147483647) (b_xv : -2147483648 ≤ xv ∧ xv ≤ 2147483647) (b_xp : -2147483648 ≤ xp ∧ xp ≤ 2147483647) : sOk base X G d T179 [vR 77, vI xs, vI xn, vI xl, vI xv, vI xp] M (pI (fun v M' => HI base M' ∧ Ftr [(0, 0)] M M' ∧ (INVl base j M') ∧ (CSx base es eT eN ea e0 eb e1 M') ∧ (RSx gs gT gN ga g0 gb g1 M') ∧ (HXc base ef en ex ey M') ∧ (HXr hf hn hx hy M'))) := by
  obtain ⟨wa, wb, hK, hR, r1, r2⟩ := h0
  have hK2 := hK
  obtain ⟨hH, hB, hN, hI, hA, hZ, hS, ⟨wn, hn, hT, hG⟩, ha, hb⟩ := hK2
  have hR2 := hR
  obtain ⟨hTB, hWD, hLN, hGK, hVT, hIM⟩ := hR2
  have hs := h2.1
  refine sOk.imp (k179x E (by omega) H xs xn xl xv xp (by omega) (by omega) (by omega) (by omega) (by omega)) ?_
  rintro v M' ⟨v', e, rfl, -⟩
  exact ⟨v', e, H, trivial, ⟨wa, wb, hK, hR, by omega, by omega⟩, h1, h2, h3, h4⟩
theorem V181 {base : Nat} {X : Nat → Option mC} {G : Nat → Value} (E : EnvOK base X G) {d : Nat} (hd : 3 ≤ d) {M : mH} (H : HI base M) (s : Int) (n : Int) (slot : Int) (j : Int) (gs : Int) (gT : Int → Int) (gN : Int → Int) (ga : Int) (g0 : Int → Int) (gb : Int) (g1 : Int → Int) (hf : Int) (hn : Int) (hx : Int) (hy : Int) {ef en ex ey : Int} {es : Int} {eT eN : Int → Int} {ea : Int} {e0 : Int → Int} {eb : Int} {e1 : Int → Int} (h0 : INVl base j M) (h1 : CSx base es eT eN ea e0 eb e1 M) (h2 : RSx gs gT gN ga g0 gb g1 M) (h3 : HXc base ef en ex ey M) (h4 : HXr hf hn hx hy M) (b_s : -2147483648 ≤ s ∧ s ≤ 2147483647) (b_n : -2147483648 ≤ n ∧ n ≤ 2147483647) (b_slot : -2147483648 ≤ slot ∧ slot ≤ 2147483647) : sOk base X G d T181 [vR 77, vI s, vI n, vI slot] M (pI (fun v M' => HI base M' ∧ Ftr [(0, 0)] M M' ∧ (INVl base j M') ∧ (CSx base es eT eN ea e0 eb e1 M') ∧ (RSx gs gT gN ga g0 gb g1 M') ∧ (HXc base ef en ex ey M') ∧ (HXr hf hn hx hy M'))) := by
  obtain ⟨wa, wb, hK, hR, r1, r2⟩ := h0
  have hK2 := hK
  obtain ⟨hH, hB, hN, hI, hA, hZ, hS, ⟨wn, hn, hT, hG⟩, ha, hb⟩ := hK2
  have hR2 := hR
  obtain ⟨hTB, hWD, hLN, hGK, hVT, hIM⟩ := hR2
  have hs := h2.1
  refine sOk.imp (k181 E (by omega) H s n slot (by omega) (by omega) (by omega)) ?_
  rintro v M' ⟨v', e, rfl, -⟩
  exact ⟨v', e, H, trivial, ⟨wa, wb, hK, hR, by omega, by omega⟩, h1, h2, h3, h4⟩
theorem V202 {base : Nat} {X : Nat → Option mC} {G : Nat → Value} (E : EnvOK base X G) {d : Nat} (hd : 7 ≤ d) {M : mH} (H : HI base M) (j : Int) (gs : Int) (gT : Int → Int) (gN : Int → Int) (ga : Int) (g0 : Int → Int) (gb : Int) (g1 : Int → Int) (hf : Int) (hn : Int) (hx : Int) (hy : Int) {ef en ex ey : Int} {es : Int} {eT eN : Int → Int} {ea : Int} {e0 : Int → Int} {eb : Int} {e1 : Int → Int} (h0 : INVl base j M) (h1 : CSx base es eT eN ea e0 eb e1 M) (h2 : RSx gs gT gN ga g0 gb g1 M) (h3 : HXc base ef en ex ey M) (h4 : HXr hf hn hx hy M) : sOk base X G d T202 [vR 77] M (pL (fun v M' => HI base M' ∧ Ftr [(0, 0)] M M' ∧ (INVl base j M') ∧ (CSx base es eT eN ea e0 eb e1 M') ∧ (RSx gs gT gN ga g0 gb g1 M') ∧ (HXc base ef en ex ey M') ∧ (HXr hf hn hx hy M'))) := by
  obtain ⟨wa, wb, hK, hR, r1, r2⟩ := h0
  have hK2 := hK
  obtain ⟨hH, hB, hN, hI, hA, hZ, hS, ⟨wn, hn, hT, hG⟩, ha, hb⟩ := hK2
  have hR2 := hR
  obtain ⟨hTB, hWD, hLN, hGK, hVT, hIM⟩ := hR2
  have hs := h2.1
  refine sOk.imp (k202k E (by omega) H (gi M 78) hTB hLN (fun _ => rfl) hVT) ?_
  rintro v M' ⟨v', e, H', f, q0⟩
  have z := (f.q rfl).z
  exact ⟨v', e, H', trivial, ⟨wa, wb, hK.keep H' z rfl rfl, ⟨hTB.fr f rfl, hWD.fr f rfl, hLN.fr f rfl, hGK.fr f rfl, q0, hIM.fr f rfl⟩, by rw [f.1]; exact r1, by rw [f.2.1]; exact r2⟩, h1.fz H.m z rfl, h2.fr f rfl, h3.fz h1 H.m z rfl, h4.fr f rfl⟩
theorem V204 {base : Nat} {X : Nat → Option mC} {G : Nat → Value} (E : EnvOK base X G) {d : Nat} (hd : 2 ≤ d) {M : mH} (H : HI base M) (s : Int) (second : Int) (said : Int) (j : Int) (gs : Int) (gT : Int → Int) (gN : Int → Int) (ga : Int) (g0 : Int → Int) (gb : Int) (g1 : Int → Int) (hf : Int) (hn : Int) (hx : Int) (hy : Int) {ef en ex ey : Int} {es : Int} {eT eN : Int → Int} {ea : Int} {e0 : Int → Int} {eb : Int} {e1 : Int → Int} (h0 : INVl base j M) (h1 : CSx base es eT eN ea e0 eb e1 M) (h2 : RSx gs gT gN ga g0 gb g1 M) (h3 : HXc base ef en ex ey M) (h4 : HXr hf hn hx hy M) (b_s : -2147483648 ≤ s ∧ s ≤ 2147483647) (b_second : -2147483648 ≤ second ∧ second ≤ 2147483647) (b_said : -2147483648 ≤ said ∧ said ≤ 2147483647) : sOk base X G d T204 [vR 77, vI s, vI second, vI said] M (pI (fun v M' => HI base M' ∧ Ftr [(0, 0)] M M' ∧ (INVl base j M') ∧ (CSx base es eT eN ea e0 eb e1 M') ∧ (RSx gs gT gN ga g0 gb g1 M') ∧ (HXc base ef en ex ey M') ∧ (HXr hf hn hx hy M'))) := by
  obtain ⟨wa, wb, hK, hR, r1, r2⟩ := h0
  have hK2 := hK
  obtain ⟨hH, hB, hN, hI, hA, hZ, hS, ⟨wn, hn, hT, hG⟩, ha, hb⟩ := hK2
  have hR2 := hR
  obtain ⟨hTB, hWD, hLN, hGK, hVT, hIM⟩ := hR2
  have hs := h2.1
  refine sOk.imp (k204 E (by omega) H s second said (by omega) (by omega) (by omega)) ?_
  rintro v M' ⟨v', e, rfl, -⟩
  exact ⟨v', e, H, trivial, ⟨wa, wb, hK, hR, by omega, by omega⟩, h1, h2, h3, h4⟩
theorem V205 {base : Nat} {X : Nat → Option mC} {G : Nat → Value} (E : EnvOK base X G) {d : Nat} (hd : 2 ≤ d) {M : mH} (H : HI base M) (s : Int) (second : Int) (j : Int) (gs : Int) (gT : Int → Int) (gN : Int → Int) (ga : Int) (g0 : Int → Int) (gb : Int) (g1 : Int → Int) (hf : Int) (hn : Int) (hx : Int) (hy : Int) {ef en ex ey : Int} {es : Int} {eT eN : Int → Int} {ea : Int} {e0 : Int → Int} {eb : Int} {e1 : Int → Int} (h0 : INVl base j M) (h1 : CSx base es eT eN ea e0 eb e1 M) (h2 : RSx gs gT gN ga g0 gb g1 M) (h3 : HXc base ef en ex ey M) (h4 : HXr hf hn hx hy M) (b_s : -2147483648 ≤ s ∧ s ≤ 2147483647) (b_second : -2147483648 ≤ second ∧ second ≤ 2147483647) : sOk base X G d T205 [vR 77, vI s, vI second] M (pI (fun v M' => HI base M' ∧ Ftr [(0, 0)] M M' ∧ (INVl base j M') ∧ (CSx base es eT eN ea e0 eb e1 M') ∧ (RSx gs gT gN ga g0 gb g1 M') ∧ (HXc base ef en ex ey M') ∧ (HXr hf hn hx hy M'))) := by
  obtain ⟨wa, wb, hK, hR, r1, r2⟩ := h0
  have hK2 := hK
  obtain ⟨hH, hB, hN, hI, hA, hZ, hS, ⟨wn, hn, hT, hG⟩, ha, hb⟩ := hK2
  have hR2 := hR
  obtain ⟨hTB, hWD, hLN, hGK, hVT, hIM⟩ := hR2
  have hs := h2.1
  refine sOk.imp (k205 E (by omega) H s second (by omega) (by omega)) ?_
  rintro v M' ⟨v', e, rfl, -⟩
  exact ⟨v', e, H, trivial, ⟨wa, wb, hK, hR, by omega, by omega⟩, h1, h2, h3, h4⟩
theorem V210 {base : Nat} {X : Nat → Option mC} {G : Nat → Value} (E : EnvOK base X G) {d : Nat} (hd : 0 ≤ d) {M : mH} (H : HI base M) (xa : Int) (xb : Int) (xc : Int) (xd : Int) (xe : Int) (j : Int) (gs : Int) (gT : Int → Int) (gN : Int → Int) (ga : Int) (g0 : Int → Int) (gb : Int) (g1 : Int → Int) (hf : Int) (hn : Int) (hx : Int) (hy : Int) {ef en ex ey : Int} {es : Int} {eT eN : Int → Int} {ea : Int} {e0 : Int → Int} {eb : Int} {e1 : Int → Int} (h0 : INVl base j M) (h1 : CSx base es eT eN ea e0 eb e1 M) (h2 : RSx gs gT gN ga g0 gb g1 M) (h3 : HXc base ef en ex ey M) (h4 : HXr hf hn hx hy M) (b_xa : -2147483648 ≤ xa ∧ xa ≤ 2147483647) (b_xb : -2147483648 ≤ xb ∧ xb ≤ 2147483647) (b_xc : -2147483648 ≤ xc ∧ xc ≤ 2147483647) (b_xd : -2147483648 ≤ xd ∧ xd ≤ 2147483647) (b_xe : -2147483648 ≤ xe ∧ xe ≤ 2147483647) : sOk base X G d T210 [vR 77, vI xa, vI xb, vI xc, vI xd, vI xe] M (pI (fun v M' => HI base M' ∧ Ftr [(0, 0)] M M' ∧ (INVl base j M') ∧ (CSx base es eT eN ea e0 eb e1 M') ∧ (RSx (fdS gs) (fdT gT gs xa xb xc xd xe) gN ga g0 gb g1 M') ∧ (HXc base ef en ex ey M') ∧ (HXr hf hn hx hy M') ∧ (-2147483648 ≤ v ∧ v ≤ 2147483647) ∧ (v = fdV gs))) := by
  obtain ⟨wa, wb, hK, hR, r1, r2⟩ := h0
  have hK2 := hK
  obtain ⟨hH, hB, hN, hI, hA, hZ, hS, ⟨wn, hn, hT, hG⟩, ha, hb⟩ := hK2
  have hR2 := hR
  obtain ⟨hTB, hWD, hLN, hGK, hVT, hIM⟩ := hR2
  have hs := h2.1
  refine sOk.imp (k210n E (by omega) H xa xb xc xd xe (by omega) (by omega) (by omega) (by omega) (by omega)) ?_
  rintro v M' ⟨v', e, H', f, q0, q1, q2, q3, q4⟩
  have z := (f.q rfl).z
  have cs : RSx (fdS gs) (fdT gT gs xa xb xc xd xe) gN ga g0 gb g1 M' := by
    unfold fdS fdT
    by_cases c : gs ≤ 380
    · rw [if_pos c, if_pos c]
      refine h2.fed f rfl (by omega) (fun i p q => ?_)
      rw [q3 (by omega) i p, hs]
      exact fdN_cong (h2.2.1 i p q)
    · rw [if_neg c, if_neg c]
      exact h2.fed f rfl (by omega) (fun i p q => by rw [q4 (by omega) i]; exact h2.2.1 i p q)
  exact ⟨v', e, H', trivial, ⟨wa, wb, hK.keep H' z rfl rfl, ⟨hTB.fr f rfl, hWD.fr f rfl, hLN.fr f rfl, hGK.fr f rfl, hVT.fr f rfl, hIM.fr f rfl⟩, by rw [f.1]; exact r1, by rw [f.2.1]; exact r2⟩, h1.fz H.m z rfl, cs, h3.fz h1 H.m z rfl, h4.fr f rfl, q0, (by unfold fdV; split <;> omega)⟩
theorem V211 {base : Nat} {X : Nat → Option mC} {G : Nat → Value} (E : EnvOK base X G) {d : Nat} (hd : 1 ≤ d) {M : mH} (H : HI base M) (n : Int) (j : Int) (gs : Int) (gT : Int → Int) (gN : Int → Int) (ga : Int) (g0 : Int → Int) (gb : Int) (g1 : Int → Int) (hf : Int) (hn : Int) (hx : Int) (hy : Int) {ef en ex ey : Int} {es : Int} {eT eN : Int → Int} {ea : Int} {e0 : Int → Int} {eb : Int} {e1 : Int → Int} (h0 : INVl base j M) (h1 : CSx base es eT eN ea e0 eb e1 M) (h2 : RSx gs gT gN ga g0 gb g1 M) (h3 : HXc base ef en ex ey M) (h4 : HXr hf hn hx hy M) (b_n : -2147483648 ≤ n ∧ n ≤ 2147483647) : sOk base X G d T211 [vR 77, vI n] M (pI (fun v M' => HI base M' ∧ Ftr [(0, 0)] M M' ∧ (INVl base j M') ∧ (CSx base es eT eN ea e0 eb e1 M') ∧ (RSx (enS gs n) gT gN ga g0 gb g1 M') ∧ (HXc base ef en ex ey M') ∧ (HXr hf hn hx hy M') ∧ (-2147483648 ≤ v ∧ v ≤ 2147483647) ∧ (v = enV gs n))) := by
  obtain ⟨wa, wb, hK, hR, r1, r2⟩ := h0
  have hK2 := hK
  obtain ⟨hH, hB, hN, hI, hA, hZ, hS, ⟨wn, hn, hT, hG⟩, ha, hb⟩ := hK2
  have hR2 := hR
  obtain ⟨hTB, hWD, hLN, hGK, hVT, hIM⟩ := hR2
  have hs := h2.1
  refine sOk.imp (k211e E (by omega) H n (by omega)) ?_
  rintro v M' ⟨v', e, H', f, q0, q1, q2⟩
  have z := (f.q rfl).z
  exact ⟨v', e, H', trivial, ⟨wa, wb, hK.keep H' z rfl rfl, ⟨hTB.fr f rfl, hWD.fr f rfl, hLN.fr f rfl, hGK.fr f rfl, hVT.fr f rfl, hIM.fr f rfl⟩, by rw [f.1]; exact r1, by rw [f.2.1]; exact r2⟩, h1.fz H.m z rfl, h2.tape f rfl (by unfold enS; split <;> omega), h3.fz h1 H.m z rfl, h4.fr f rfl, q0, (by unfold enV; split <;> omega)⟩
theorem V230 {base : Nat} {X : Nat → Option mC} {G : Nat → Value} (E : EnvOK base X G) {d : Nat} (hd : 60 ≤ d) {M : mH} (H : HI base M) (j : Int) (gs : Int) (gT : Int → Int) (gN : Int → Int) (ga : Int) (g0 : Int → Int) (gb : Int) (g1 : Int → Int) (hf : Int) (hn : Int) (hx : Int) (hy : Int) {ef en ex ey : Int} {es : Int} {eT eN : Int → Int} {ea : Int} {e0 : Int → Int} {eb : Int} {e1 : Int → Int} (h0 : INVl base j M) (h1 : CSx base es eT eN ea e0 eb e1 M) (h2 : RSx gs gT gN ga g0 gb g1 M) (h3 : HXc base ef en ex ey M) (h4 : HXr hf hn hx hy M) : sOk base X G d T230 [vR 77] M (pI (fun v M' => HI base M' ∧ Ftr [(0, 0)] M M' ∧ (INVl base j M') ∧ (CSx base es eT eN ea e0 eb e1 M') ∧ (RSx 0 gT gN ga g0 gb g1 M') ∧ (HXc base ef en ex ey M') ∧ (HXr (hbF gT gs hf hn) (hbN gT gs hn) hx hy M') ∧ (-2147483648 ≤ v ∧ v ≤ 2147483647) ∧ (v = hbV gT gs hn))) := by
  obtain ⟨wa, wb, hK, hR, r1, r2⟩ := h0
  have hK2 := hK
  obtain ⟨hH, hB, hN, hI, hA, hZ, hS, ⟨wn, hn_, hT, hG⟩, ha, hb⟩ := hK2
  have hR2 := hR
  obtain ⟨hTB, hWD, hLN, hGK, hVT, hIM⟩ := hR2
  have bs := H.2 77 31 0 400 rfl
  rw [h2.1] at bs
  have bn := H.2 78 471 0 8 (rk_told (by omega))
  rw [h4.2.1] at bn
  refine sOk.andB (k230n E (by omega) H hWD hLN hGK) (k230p E (by omega) H gs gT hn h4.2.2.2.2 h2.1 (by omega) (fun i a b => h2.2.1 i a (by omega)) h4.2.1 (by omega)) ?_
  rintro w v M' ⟨H', f, q0, q1, q2, q3⟩ ⟨-, -, -, p0, p1⟩
  have z := (f.q rfl).z
  have p0 : 8 ≤ hn → v = -5 ∧ gi M' 77 32 = gi M 77 32 ∧ gi M' 78 471 = hn := p0
  have hh : v = hbV gT gs hn ∧ gi M' 77 32 = hbF gT gs hf hn ∧ gi M' 78 471 = hbN gT gs hn := by
    by_cases c : hn < 8
    · exact (p1 c).hb c hf
    · have w := p0 (by omega)
      unfold hbV hbF hbN
      rw [if_neg c, if_neg c, if_neg c]
      exact ⟨w.1, w.2.1.trans h4.1, w.2.2⟩
  have bv : -2147483648 ≤ v ∧ v ≤ 2147483647 := by rw [hh.1]; unfold hbV; split <;> (try split) <;> omega
  exact ⟨H', trivial, ⟨wa, wb, hK.keep H' z rfl rfl, ⟨hTB.fr f rfl, hWD.fr f rfl, q0, q1, hVT.fr f rfl, hIM.fr f rfl⟩, by rw [f.1]; exact r1, by rw [f.2.1]; exact r2⟩, h1.fz H.m z rfl, h2.kn f rfl q2 (fun j hj => (q3 j hj).trans (h2.2.2.1 j hj)), h3.fz h1 H.m z rfl, h4.k78 f rfl hh.2.1 hh.2.2, bv, hh.1⟩
theorem V231 {base : Nat} {X : Nat → Option mC} {G : Nat → Value} (E : EnvOK base X G) {d : Nat} (hd : 0 ≤ d) {M : mH} (H : HI base M) (j : Int) (gs : Int) (gT : Int → Int) (gN : Int → Int) (ga : Int) (g0 : Int → Int) (gb : Int) (g1 : Int → Int) (hf : Int) (hn : Int) (hx : Int) (hy : Int) {ef en ex ey : Int} {es : Int} {eT eN : Int → Int} {ea : Int} {e0 : Int → Int} {eb : Int} {e1 : Int → Int} (h0 : INVl base j M) (h1 : CSx base es eT eN ea e0 eb e1 M) (h2 : RSx gs gT gN ga g0 gb g1 M) (h3 : HXc base ef en ex ey M) (h4 : HXr hf hn hx hy M) : sOk base X G d T231 [vR 77] M (pI (fun v M' => HI base M' ∧ Ftr [(0, 0)] M M' ∧ (INVl base j M') ∧ (CSx base es eT eN ea e0 eb e1 M') ∧ (RSx gs gT gN ga g0 gb g1 M') ∧ (HXc base ef en ex ey M') ∧ (HXr hf hn hx hy M') ∧ (-2147483648 ≤ v ∧ v ≤ 2147483647) ∧ (v = hf))) := by
  obtain ⟨wa, wb, hK, hR, r1, r2⟩ := h0
  have hK2 := hK
  obtain ⟨hH, hB, hN, hI, hA, hZ, hS, ⟨wn, hn_, hT, hG⟩, ha, hb⟩ := hK2
  have hR2 := hR
  obtain ⟨hTB, hWD, hLN, hGK, hVT, hIM⟩ := hR2
  refine sOk.imp (k231v E (by omega) H ) ?_
  rintro v M' ⟨v', e, rfl, q0, q1⟩
  exact ⟨v', e, H, trivial, ⟨wa, wb, hK, hR, by omega, by omega⟩, h1, h2, h3, h4, q0, q1.trans h4.1⟩
theorem V248 {base : Nat} {X : Nat → Option mC} {G : Nat → Value} (E : EnvOK base X G) {d : Nat} (hd : 70 ≤ d) {M : mH} (H : HI base M) (text : Int) (s : Int) (j : Int) (gs : Int) (gT : Int → Int) (gN : Int → Int) (ga : Int) (g0 : Int → Int) (gb : Int) (g1 : Int → Int) (hf : Int) (hn : Int) (hx : Int) (hy : Int) {ef en ex ey : Int} {es : Int} {eT eN : Int → Int} {ea : Int} {e0 : Int → Int} {eb : Int} {e1 : Int → Int} (h0 : INVl base j M) (h1 : CSx base es eT eN ea e0 eb e1 M) (h2 : RSx gs gT gN ga g0 gb g1 M) (h3 : HXc base ef en ex ey M) (h4 : HXr hf hn hx hy M) (b_text : -2147483648 ≤ text ∧ text ≤ 2147483647) (b_s : -2147483648 ≤ s ∧ s ≤ 2147483647) : sOk base X G d T248 [vR 77, vI text, vI s] M (pI (fun v M' => HI base M' ∧ Ftr [(0, 0)] M M' ∧ (INVl base j M') ∧ (CSx base es eT eN ea e0 eb e1 M') ∧ (RSx gs gT gN ga g0 gb g1 M') ∧ (HXc base ef en ex ey M') ∧ (HXr hf hn hx hy M'))) := by
  obtain ⟨wa, wb, hK, hR, r1, r2⟩ := h0
  have hK2 := hK
  obtain ⟨hH, hB, hN, hI, hA, hZ, hS, ⟨wn, hn, hT, hG⟩, ha, hb⟩ := hK2
  have hR2 := hR
  obtain ⟨hTB, hWD, hLN, hGK, hVT, hIM⟩ := hR2
  have hs := h2.1
  refine sOk.imp (k248k E (by omega) H text s (gi M 78) hTB (fun _ => rfl) hGK (by omega) (by omega)) ?_
  rintro v M' ⟨v', e, H', f, q0⟩
  have z := (f.q rfl).z
  exact ⟨v', e, H', trivial, ⟨wa, wb, hK.keep H' z rfl rfl, ⟨hTB.fr f rfl, hWD.fr f rfl, hLN.fr f rfl, hGK.fr f rfl, hVT.fr f rfl, hIM.fr f rfl⟩, by rw [f.1]; exact r1, by rw [f.2.1]; exact r2⟩, h1.fz H.m z rfl, h2.fr f rfl, h3.fz h1 H.m z rfl, h4.fr f rfl⟩
theorem V249 {base : Nat} {X : Nat → Option mC} {G : Nat → Value} (E : EnvOK base X G) {d : Nat} (hd : 1 ≤ d) {M : mH} (H : HI base M) (second : Int) (j : Int) (gs : Int) (gT : Int → Int) (gN : Int → Int) (ga : Int) (g0 : Int → Int) (gb : Int) (g1 : Int → Int) (hf : Int) (hn : Int) (hx : Int) (hy : Int) {ef en ex ey : Int} {es : Int} {eT eN : Int → Int} {ea : Int} {e0 : Int → Int} {eb : Int} {e1 : Int → Int} (h0 : INVl base j M) (h1 : CSx base es eT eN ea e0 eb e1 M) (h2 : RSx gs gT gN ga g0 gb g1 M) (h3 : HXc base ef en ex ey M) (h4 : HXr hf hn hx hy M) (b_second : -2147483648 ≤ second ∧ second ≤ 2147483647) : sOk base X G d T249 [vR 77, vI second] M (pI (fun v M' => HI base M' ∧ Ftr [(0, 0)] M M' ∧ (INVl base j M') ∧ (CSx base es eT eN ea e0 eb e1 M') ∧ (RSx gs gT gN ga g0 gb g1 M') ∧ (HXc base ef en ex ey M') ∧ (HXr hf hn hx hy M'))) := by
  obtain ⟨wa, wb, hK, hR, r1, r2⟩ := h0
  have hK2 := hK
  obtain ⟨hH, hB, hN, hI, hA, hZ, hS, ⟨wn, hn, hT, hG⟩, ha, hb⟩ := hK2
  have hR2 := hR
  obtain ⟨hTB, hWD, hLN, hGK, hVT, hIM⟩ := hR2
  have hs := h2.1
  refine sOk.imp (k249 E (by omega) H second (by omega)) ?_
  rintro v M' ⟨v', e, rfl, -⟩
  exact ⟨v', e, H, trivial, ⟨wa, wb, hK, hR, by omega, by omega⟩, h1, h2, h3, h4⟩
theorem V250 {base : Nat} {X : Nat → Option mC} {G : Nat → Value} (E : EnvOK base X G) {d : Nat} (hd : 70 ≤ d) {M : mH} (H : HI base M) (text : Int) (j : Int) (gs : Int) (gT : Int → Int) (gN : Int → Int) (ga : Int) (g0 : Int → Int) (gb : Int) (g1 : Int → Int) (hf : Int) (hn : Int) (hx : Int) (hy : Int) {ef en ex ey : Int} {es : Int} {eT eN : Int → Int} {ea : Int} {e0 : Int → Int} {eb : Int} {e1 : Int → Int} (h0 : INVl base j M) (h1 : CSx base es eT eN ea e0 eb e1 M) (h2 : RSx gs gT gN ga g0 gb g1 M) (h3 : HXc base ef en ex ey M) (h4 : HXr hf hn hx hy M) (b_text : -2147483648 ≤ text ∧ text ≤ 2147483647) : sOk base X G d T250 [vR 77, vI text] M (pL (fun v M' => HI base M' ∧ Ftr [(0, 0)] M M' ∧ (INVl base j M') ∧ (CSx base es eT eN ea e0 eb e1 M') ∧ (RSx gs gT gN ga g0 gb g1 M') ∧ (HXc base ef en ex ey M') ∧ (HXr hf hn hx hy M'))) := by
  obtain ⟨wa, wb, hK, hR, r1, r2⟩ := h0
  have hK2 := hK
  obtain ⟨hH, hB, hN, hI, hA, hZ, hS, ⟨wn, hn, hT, hG⟩, ha, hb⟩ := hK2
  have hR2 := hR
  obtain ⟨hTB, hWD, hLN, hGK, hVT, hIM⟩ := hR2
  have hs := h2.1
  refine sOk.imp (k250k E (by omega) H text (gi M 78) hTB (fun _ => rfl) hGK (by omega)) ?_
  rintro v M' ⟨v', e, H', f⟩
  have z := (f.q rfl).z
  exact ⟨v', e, H', trivial, ⟨wa, wb, hK.keep H' z rfl rfl, ⟨hTB.fr f rfl, hWD.fr f rfl, hLN.fr f rfl, hGK.fr f rfl, hVT.fr f rfl, hIM.fr f rfl⟩, by rw [f.1]; exact r1, by rw [f.2.1]; exact r2⟩, h1.fz H.m z rfl, h2.fr f rfl, h3.fz h1 H.m z rfl, h4.fr f rfl⟩
theorem V206 {base : Nat} {X : Nat → Option mC} {G : Nat → Value} (E : EnvOK base X G) {d : Nat} (hd : 7 ≤ d) {M : mH} (H : HI base M) (j : Int) (gs : Int) (gT : Int → Int) (gN : Int → Int) (ga : Int) (g0 : Int → Int) (gb : Int) (g1 : Int → Int) (hf : Int) (hn : Int) (hx : Int) (hy : Int) {ef en ex ey : Int} {es : Int} {eT eN : Int → Int} {ea : Int} {e0 : Int → Int} {eb : Int} {e1 : Int → Int} (h0 : INVl base j M) (h1 : CSx base es eT eN ea e0 eb e1 M) (h2 : RSx gs gT gN ga g0 gb g1 M) (h3 : HXc base ef en ex ey M) (h4 : HXr hf hn hx hy M) : sOk base X G d T206 [vR 77] M (pL (fun v M' => HI base M' ∧ Ftr [(0, 0)] M M' ∧ (INVl base j M') ∧ (CSx base es eT eN ea e0 eb e1 M') ∧ (RSx gs gT gN ga g0 gb g1 M') ∧ (HXc base ef en ex ey M') ∧ (HXr hf hn hx hy M'))) := by
  obtain ⟨wa, wb, hK, hR, r1, r2⟩ := h0
  have hK2 := hK
  obtain ⟨hH, hB, hN, hI, hA, hZ, hS, ⟨wn, hn, hT, hG⟩, ha, hb⟩ := hK2
  have hR2 := hR
  obtain ⟨hTB, hWD, hLN, hGK, hVT, hIM⟩ := hR2
  have hs := h2.1
  refine sOk.imp (k206k E (by omega) H  hTB hLN hVT) ?_
  rintro v M' ⟨v', e, H', f, q0⟩
  have z := (f.q rfl).z
  exact ⟨v', e, H', trivial, ⟨wa, wb, hK.keep H' z rfl rfl, ⟨hTB.fr f rfl, hWD.fr f rfl, hLN.fr f rfl, hGK.fr f rfl, q0, hIM.fr f rfl⟩, by rw [f.1]; exact r1, by rw [f.2.1]; exact r2⟩, h1.fz H.m z rfl, h2.fr f rfl, h3.fz h1 H.m z rfl, h4.fr f rfl⟩
theorem V209 {base : Nat} {X : Nat → Option mC} {G : Nat → Value} (E : EnvOK base X G) {d : Nat} (hd : 8 ≤ d) {M : mH} (H : HI base M) (w : Int) (j : Int) (gs : Int) (gT : Int → Int) (gN : Int → Int) (ga : Int) (g0 : Int → Int) (gb : Int) (g1 : Int → Int) (hf : Int) (hn : Int) (hx : Int) (hy : Int) {ef en ex ey : Int} {es : Int} {eT eN : Int → Int} {ea : Int} {e0 : Int → Int} {eb : Int} {e1 : Int → Int} (h0 : INVl base j M) (h1 : CSx base es eT eN ea e0 eb e1 M) (h2 : RSx gs gT gN ga g0 gb g1 M) (h3 : HXc base ef en ex ey M) (h4 : HXr hf hn hx hy M) (b_w : -2147483648 ≤ w ∧ w ≤ 2147483647) : sOk base X G d T209 [vR 77, vI w] M (pL (fun v M' => HI base M' ∧ Ftr [(0, 0)] M M' ∧ (INVl base j M') ∧ (CSx base es eT eN ea e0 eb e1 M') ∧ (RSx gs gT gN ga g0 gb g1 M') ∧ (HXc base ef en ex ey M') ∧ (HXr hf hn hx hy M'))) := by
  obtain ⟨wa, wb, hK, hR, r1, r2⟩ := h0
  have hK2 := hK
  obtain ⟨hH, hB, hN, hI, hA, hZ, hS, ⟨wn, hn, hT, hG⟩, ha, hb⟩ := hK2
  have hR2 := hR
  obtain ⟨hTB, hWD, hLN, hGK, hVT, hIM⟩ := hR2
  have hs := h2.1
  refine sOk.imp (k209v E (by omega) H w (gi M 78 471) hTB hLN hVT hGK (by omega) K1.rf) ?_
  rintro v M' ⟨v', e, H', f, q0, q1, q2, q3, q4⟩
  have z := (f.q rfl).z
  exact ⟨v', e, H', trivial, ⟨wa, wb, hK.keep H' z rfl rfl, ⟨hTB.fr f rfl, hWD.fr f rfl, q0, q2, q1, hIM.fr f rfl⟩, by rw [f.1]; exact r1, by rw [f.2.1]; exact r2⟩, h1.fz H.m z rfl, h2.kn f rfl ((f.g rfl).trans hs) (fun j hj => (q3 j hj).trans (h2.2.2.1 j hj)), h3.fz h1 H.m z rfl, h4.k78 f rfl ((f.g rfl).trans h4.1) (q4.trans h4.2.1)⟩
theorem V251 {base : Nat} {X : Nat → Option mC} {G : Nat → Value} (E : EnvOK base X G) {d : Nat} (hd : 1 ≤ d) {M : mH} (H : HI base M) (lag : Int) (keeps : Int) (limit : Int) (j : Int) (gs : Int) (gT : Int → Int) (gN : Int → Int) (ga : Int) (g0 : Int → Int) (gb : Int) (g1 : Int → Int) (hf : Int) (hn : Int) (hx : Int) (hy : Int) {ef en ex ey : Int} {es : Int} {eT eN : Int → Int} {ea : Int} {e0 : Int → Int} {eb : Int} {e1 : Int → Int} (h0 : INVl base j M) (h1 : CSx base es eT eN ea e0 eb e1 M) (h2 : RSx gs gT gN ga g0 gb g1 M) (h3 : HXc base ef en ex ey M) (h4 : HXr hf hn hx hy M) (b_lag : -2147483648 ≤ lag ∧ lag ≤ 2147483647) (b_keeps : -2147483648 ≤ keeps ∧ keeps ≤ 2147483647) (b_limit : -2147483648 ≤ limit ∧ limit ≤ 2147483647) : sOk base X G d T251 [vR 77, vI lag, vI keeps, vI limit] M (pI (fun v M' => HI base M' ∧ Ftr [(0, 0)] M M' ∧ (INVl base j M') ∧ (CSx base es eT eN ea e0 eb e1 M') ∧ (RSx gs gT (ctN (BV lag keeps limit) gN 391 472 6 lag keeps limit) ga g0 gb g1 M') ∧ (HXc base ef en ex ey M') ∧ (HXr hf hn hx hy M') ∧ (-2147483648 ≤ v ∧ v ≤ 2147483647) ∧ (v = ctV (BV lag keeps limit) gN 472 6))) := by
  obtain ⟨wa, wb, hK, hR, r1, r2⟩ := h0
  have hK2 := hK
  obtain ⟨hH, hB, hN, hI, hA, hZ, hS, ⟨wn, hn, hT, hG⟩, ha, hb⟩ := hK2
  have hR2 := hR
  obtain ⟨hTB, hWD, hLN, hGK, hVT, hIM⟩ := hR2
  have hs := h2.1
  refine sOk.imp (k251n E (by omega) H lag keeps limit hLN hGK (by omega) (by omega) (by omega)) ?_
  rintro v M' ⟨v', e, H', f, q0, q1, q2⟩
  have z := (f.q rfl).z
  have dj : dAs 472 := by unfold dAs; omega
  have cn : gi M 78 472 = gN 472 := h2.2.2.1 472 dj
  have bv := H.2 78 472 0 6 (rk_boxmany (by omega))
  have cs : RSx gs gT (ctN (BV lag keeps limit) gN 391 472 6 lag keeps limit) ga g0 gb g1 M' ∧ (-2147483648 ≤ v' ∧ v' ≤ 2147483647) ∧ v' = ctV (BV lag keeps limit) gN 472 6 := by
    unfold ctN ctV
    rcases q2 with ⟨hp, hl, hvv, M1, u, fa⟩ | ⟨hp, hl, hvv, fr⟩ | ⟨hp, hvv, fr⟩
    · have hp2 := hp
      unfold BV at hp2
      rw [if_pos hp, if_pos hp, if_pos (show gN 472 < 6 by omega), if_pos (show gN 472 < 6 by omega)]
      have w := h2.w4 (b := 391) (i := 472) (lim := 6) ⟨by omega, dj⟩ (by omega) ⟨by omega, by omega⟩ (by omega) (by unfold inR; omega) (by unfold inR; omega) (by unfold inR; omega) u
      exact ⟨w.fr fa rfl, by omega, by rw [hvv]; exact cn⟩
    · rw [if_pos hp, if_pos hp, if_neg (show ¬ gN 472 < 6 by omega), if_neg (show ¬ gN 472 < 6 by omega)]
      exact ⟨h2.fr fr rfl, by omega, hvv⟩
    · rw [if_neg hp, if_neg hp]
      exact ⟨h2.fr fr rfl, by omega, hvv⟩
  exact ⟨v', e, H', trivial, ⟨wa, wb, hK.keep H' z rfl rfl, ⟨hTB.fr f rfl, hWD.fr f rfl, q0, q1, hVT.fr f rfl, hIM.fr f rfl⟩, by rw [f.1]; exact r1, by rw [f.2.1]; exact r2⟩, h1.fz H.m z rfl, cs.1, h3.fz h1 H.m z rfl, (by have bn := H.2 78 472 0 6 (rk_boxmany (by omega)); rcases q2 with ⟨-, hl, -, M1, u, fa⟩ | ⟨-, -, -, fr⟩ | ⟨-, -, fr⟩; exact (h4.w4 u ⟨by omega, by omega⟩ (by decide)).fr fa rfl; exact h4.fr fr rfl; exact h4.fr fr rfl), cs.2.1, cs.2.2⟩
theorem V254 {base : Nat} {X : Nat → Option mC} {G : Nat → Value} (E : EnvOK base X G) {d : Nat} (hd : 1 ≤ d) {M : mH} (H : HI base M) (j : Int) (gs : Int) (gT : Int → Int) (gN : Int → Int) (ga : Int) (g0 : Int → Int) (gb : Int) (g1 : Int → Int) (hf : Int) (hn : Int) (hx : Int) (hy : Int) {ef en ex ey : Int} {es : Int} {eT eN : Int → Int} {ea : Int} {e0 : Int → Int} {eb : Int} {e1 : Int → Int} (h0 : INVl base j M) (h1 : CSx base es eT eN ea e0 eb e1 M) (h2 : RSx gs gT gN ga g0 gb g1 M) (h3 : HXc base ef en ex ey M) (h4 : HXr hf hn hx hy M) : sOk base X G d T254 [vR 77] M (pI (fun v M' => HI base M' ∧ Ftr [(0, 0)] M M' ∧ (INVl base j M') ∧ (CSx base es eT eN ea e0 eb e1 M') ∧ (RSx gs gT gN ga g0 gb g1 M') ∧ (HXc base ef en ex ey M') ∧ (HXr hf hn hx hy M'))) := by
  obtain ⟨wa, wb, hK, hR, r1, r2⟩ := h0
  have hK2 := hK
  obtain ⟨hH, hB, hN, hI, hA, hZ, hS, ⟨wn, hn, hT, hG⟩, ha, hb⟩ := hK2
  have hR2 := hR
  obtain ⟨hTB, hWD, hLN, hGK, hVT, hIM⟩ := hR2
  have hs := h2.1
  refine sOk.imp (k254x E (by omega) H  ) ?_
  rintro v M' ⟨v', e, H', f⟩
  have z := (f.q rfl).z
  exact ⟨v', e, H', trivial, ⟨wa, wb, hK.keep H' z rfl rfl, ⟨hTB.fr f rfl, hWD.fr f rfl, hLN.fr f rfl, hGK.fr f rfl, hVT.fr f rfl, hIM.fr f rfl⟩, by rw [f.1]; exact r1, by rw [f.2.1]; exact r2⟩, h1.fz H.m z rfl, h2.fr f rfl, h3.fz h1 H.m z rfl, h4.fr f rfl⟩
theorem V255 {base : Nat} {X : Nat → Option mC} {G : Nat → Value} (E : EnvOK base X G) {d : Nat} (hd : 1 ≤ d) {M : mH} (H : HI base M) (xi : Int) (j : Int) (gs : Int) (gT : Int → Int) (gN : Int → Int) (ga : Int) (g0 : Int → Int) (gb : Int) (g1 : Int → Int) (hf : Int) (hn : Int) (hx : Int) (hy : Int) {ef en ex ey : Int} {es : Int} {eT eN : Int → Int} {ea : Int} {e0 : Int → Int} {eb : Int} {e1 : Int → Int} (h0 : INVl base j M) (h1 : CSx base es eT eN ea e0 eb e1 M) (h2 : RSx gs gT gN ga g0 gb g1 M) (h3 : HXc base ef en ex ey M) (h4 : HXr hf hn hx hy M) (b_xi : -2147483648 ≤ xi ∧ xi ≤ 2147483647) : sOk base X G d T255 [vR 77, vI xi] M (pI (fun v M' => HI base M' ∧ Ftr [(0, 0)] M M' ∧ (INVl base j M') ∧ (CSx base es eT eN ea e0 eb e1 M') ∧ (RSx gs gT gN ga g0 gb g1 M') ∧ (HXc base ef en ex ey M') ∧ (HXr hf hn hx hy M'))) := by
  obtain ⟨wa, wb, hK, hR, r1, r2⟩ := h0
  have hK2 := hK
  obtain ⟨hH, hB, hN, hI, hA, hZ, hS, ⟨wn, hn, hT, hG⟩, ha, hb⟩ := hK2
  have hR2 := hR
  obtain ⟨hTB, hWD, hLN, hGK, hVT, hIM⟩ := hR2
  have hs := h2.1
  refine sOk.imp (k255 E (by omega) H xi (by omega)) ?_
  rintro v M' ⟨v', e, rfl, -⟩
  exact ⟨v', e, H, trivial, ⟨wa, wb, hK, hR, by omega, by omega⟩, h1, h2, h3, h4⟩
theorem V256 {base : Nat} {X : Nat → Option mC} {G : Nat → Value} (E : EnvOK base X G) {d : Nat} (hd : 1 ≤ d) {M : mH} (H : HI base M) (minute : Int) (cost : Int) (j : Int) (gs : Int) (gT : Int → Int) (gN : Int → Int) (ga : Int) (g0 : Int → Int) (gb : Int) (g1 : Int → Int) (hf : Int) (hn : Int) (hx : Int) (hy : Int) {ef en ex ey : Int} {es : Int} {eT eN : Int → Int} {ea : Int} {e0 : Int → Int} {eb : Int} {e1 : Int → Int} (h0 : INVl base j M) (h1 : CSx base es eT eN ea e0 eb e1 M) (h2 : RSx gs gT gN ga g0 gb g1 M) (h3 : HXc base ef en ex ey M) (h4 : HXr hf hn hx hy M) (b_minute : -2147483648 ≤ minute ∧ minute ≤ 2147483647) (b_cost : -2147483648 ≤ cost ∧ cost ≤ 2147483647) : sOk base X G d T256 [vR 77, vI minute, vI cost] M (pI (fun v M' => HI base M' ∧ Ftr [(0, 0)] M M' ∧ (INVl base j M') ∧ (CSx base es eT eN ea e0 eb e1 M') ∧ (RSx gs gT (stN (MV minute cost) gN (409 + minute) cost) ga g0 gb g1 M') ∧ (HXc base ef en ex ey M') ∧ (HXr hf hn hx hy M') ∧ (-2147483648 ≤ v ∧ v ≤ 2147483647) ∧ (v = stV (MV minute cost) gN (409 + minute)))) := by
  obtain ⟨wa, wb, hK, hR, r1, r2⟩ := h0
  have hK2 := hK
  obtain ⟨hH, hB, hN, hI, hA, hZ, hS, ⟨wn, hn, hT, hG⟩, ha, hb⟩ := hK2
  have hR2 := hR
  obtain ⟨hTB, hWD, hLN, hGK, hVT, hIM⟩ := hR2
  have hs := h2.1
  refine sOk.imp (k256n E (by omega) H minute cost hLN hGK (by omega) (by omega)) ?_
  rintro v M' ⟨v', e, H', f, q0, q1, q2⟩
  have z := (f.q rfl).z
  have cs : RSx gs gT (stN (MV minute cost) gN (409 + minute) cost) ga g0 gb g1 M' ∧ (-2147483648 ≤ v' ∧ v' ≤ 2147483647) ∧ v' = stV (MV minute cost) gN (409 + minute) := by
    rcases q2 with ⟨hp, hvv, M1, u, fa⟩ | ⟨hp, hvv, fr⟩
    · have hp2 := hp
      unfold MV at hp2
      have dj : dAs (409 + minute) := by unfold dAs; omega
      have bv := (H.1.int sc_78 (i := 409 + minute) (by omega) (by show _ < (6883 : Int); omega) rfl).2
      unfold inR at bv
      rw [stN_pos hp, stV_pos hp]
      have ww := (h2.wr u (by omega) rfl (by unfold inR; omega)).fr fa rfl
      exact ⟨ww, by omega, by rw [hvv]; exact h2.2.2.1 _ dj⟩
    · rw [stN_neg hp, stV_neg hp]
      have ww := h2.fr fr rfl
      exact ⟨ww, by omega, hvv⟩
  exact ⟨v', e, H', trivial, ⟨wa, wb, hK.keep H' z rfl rfl, ⟨hTB.fr f rfl, hWD.fr f rfl, q0, q1, hVT.fr f rfl, hIM.fr f rfl⟩, by rw [f.1]; exact r1, by rw [f.2.1]; exact r2⟩, h1.fz H.m z rfl, cs.1, h3.fz h1 H.m z rfl, (by rcases q2 with ⟨hp, -, M1, u, fa⟩ | ⟨-, -, fr⟩; (unfold MV at hp; exact (h4.wr u ⟨by omega, by omega⟩).fr fa rfl); exact h4.fr fr rfl), cs.2.1, cs.2.2⟩
theorem V257 {base : Nat} {X : Nat → Option mC} {G : Nat → Value} (E : EnvOK base X G) {d : Nat} (hd : 1 ≤ d) {M : mH} (H : HI base M) (xm : Int) (j : Int) (gs : Int) (gT : Int → Int) (gN : Int → Int) (ga : Int) (g0 : Int → Int) (gb : Int) (g1 : Int → Int) (hf : Int) (hn : Int) (hx : Int) (hy : Int) {ef en ex ey : Int} {es : Int} {eT eN : Int → Int} {ea : Int} {e0 : Int → Int} {eb : Int} {e1 : Int → Int} (h0 : INVl base j M) (h1 : CSx base es eT eN ea e0 eb e1 M) (h2 : RSx gs gT gN ga g0 gb g1 M) (h3 : HXc base ef en ex ey M) (h4 : HXr hf hn hx hy M) (b_xm : -2147483648 ≤ xm ∧ xm ≤ 2147483647) : sOk base X G d T257 [vR 77, vI xm] M (pI (fun v M' => HI base M' ∧ Ftr [(0, 0)] M M' ∧ (INVl base j M') ∧ (CSx base es eT eN ea e0 eb e1 M') ∧ (RSx gs gT gN ga g0 gb g1 M') ∧ (HXc base ef en ex ey M') ∧ (HXr hf hn hx hy M'))) := by
  obtain ⟨wa, wb, hK, hR, r1, r2⟩ := h0
  have hK2 := hK
  obtain ⟨hH, hB, hN, hI, hA, hZ, hS, ⟨wn, hn, hT, hG⟩, ha, hb⟩ := hK2
  have hR2 := hR
  obtain ⟨hTB, hWD, hLN, hGK, hVT, hIM⟩ := hR2
  have hs := h2.1
  refine sOk.imp (k257x E (by omega) H xm (by omega)) ?_
  rintro v M' ⟨v', e, H', f⟩
  have z := (f.q rfl).z
  exact ⟨v', e, H', trivial, ⟨wa, wb, hK.keep H' z rfl rfl, ⟨hTB.fr f rfl, hWD.fr f rfl, hLN.fr f rfl, hGK.fr f rfl, hVT.fr f rfl, hIM.fr f rfl⟩, by rw [f.1]; exact r1, by rw [f.2.1]; exact r2⟩, h1.fz H.m z rfl, h2.fr f rfl, h3.fz h1 H.m z rfl, h4.fr f rfl⟩
theorem V258 {base : Nat} {X : Nat → Option mC} {G : Nat → Value} (E : EnvOK base X G) {d : Nat} (hd : 1 ≤ d) {M : mH} (H : HI base M) (xi : Int) (j : Int) (gs : Int) (gT : Int → Int) (gN : Int → Int) (ga : Int) (g0 : Int → Int) (gb : Int) (g1 : Int → Int) (hf : Int) (hn : Int) (hx : Int) (hy : Int) {ef en ex ey : Int} {es : Int} {eT eN : Int → Int} {ea : Int} {e0 : Int → Int} {eb : Int} {e1 : Int → Int} (h0 : INVl base j M) (h1 : CSx base es eT eN ea e0 eb e1 M) (h2 : RSx gs gT gN ga g0 gb g1 M) (h3 : HXc base ef en ex ey M) (h4 : HXr hf hn hx hy M) (b_xi : -2147483648 ≤ xi ∧ xi ≤ 2147483647) : sOk base X G d T258 [vR 77, vI xi] M (pI (fun v M' => HI base M' ∧ Ftr [(0, 0)] M M' ∧ (INVl base j M') ∧ (CSx base es eT eN ea e0 eb e1 M') ∧ (RSx gs gT gN ga g0 gb g1 M') ∧ (HXc base ef en ex ey M') ∧ (HXr hf hn hx hy M'))) := by
  obtain ⟨wa, wb, hK, hR, r1, r2⟩ := h0
  have hK2 := hK
  obtain ⟨hH, hB, hN, hI, hA, hZ, hS, ⟨wn, hn, hT, hG⟩, ha, hb⟩ := hK2
  have hR2 := hR
  obtain ⟨hTB, hWD, hLN, hGK, hVT, hIM⟩ := hR2
  have hs := h2.1
  refine sOk.imp (k258 E (by omega) H xi (by omega)) ?_
  rintro v M' ⟨v', e, rfl, -⟩
  exact ⟨v', e, H, trivial, ⟨wa, wb, hK, hR, by omega, by omega⟩, h1, h2, h3, h4⟩
theorem V260 {base : Nat} {X : Nat → Option mC} {G : Nat → Value} (E : EnvOK base X G) {d : Nat} (hd : 2 ≤ d) {M : mH} (H : HI base M) (xm : Int) (xq : Int) (j : Int) (gs : Int) (gT : Int → Int) (gN : Int → Int) (ga : Int) (g0 : Int → Int) (gb : Int) (g1 : Int → Int) (hf : Int) (hn : Int) (hx : Int) (hy : Int) {ef en ex ey : Int} {es : Int} {eT eN : Int → Int} {ea : Int} {e0 : Int → Int} {eb : Int} {e1 : Int → Int} (h0 : INVl base j M) (h1 : CSx base es eT eN ea e0 eb e1 M) (h2 : RSx gs gT gN ga g0 gb g1 M) (h3 : HXc base ef en ex ey M) (h4 : HXr hf hn hx hy M) (b_xm : -2147483648 ≤ xm ∧ xm ≤ 2147483647) (b_xq : -2147483648 ≤ xq ∧ xq ≤ 2147483647) : sOk base X G d T260 [vR 77, vI xm, vI xq] M (pI (fun v M' => HI base M' ∧ Ftr [(0, 0)] M M' ∧ (INVl base j M') ∧ (CSx base es eT eN ea e0 eb e1 M') ∧ (RSx gs gT gN ga g0 gb g1 M') ∧ (HXc base ef en ex ey M') ∧ (HXr hf hn hx hy M'))) := by
  obtain ⟨wa, wb, hK, hR, r1, r2⟩ := h0
  have hK2 := hK
  obtain ⟨hH, hB, hN, hI, hA, hZ, hS, ⟨wn, hn, hT, hG⟩, ha, hb⟩ := hK2
  have hR2 := hR
  obtain ⟨hTB, hWD, hLN, hGK, hVT, hIM⟩ := hR2
  have hs := h2.1
  refine sOk.imp (k260 E (by omega) H xm xq (by omega) (by omega)) ?_
  rintro v M' ⟨v', e, H', f⟩
  have z := (f.q rfl).z
  exact ⟨v', e, H', trivial, ⟨wa, wb, hK.keep H' z rfl rfl, ⟨hTB.fr f rfl, hWD.fr f rfl, hLN.fr f rfl, hGK.fr f rfl, hVT.fr f rfl, hIM.fr f rfl⟩, by rw [f.1]; exact r1, by rw [f.2.1]; exact r2⟩, h1.fz H.m z rfl, h2.fr f rfl, h3.fz h1 H.m z rfl, h4.fr f rfl⟩
theorem V261 {base : Nat} {X : Nat → Option mC} {G : Nat → Value} (E : EnvOK base X G) {d : Nat} (hd : 70 ≤ d) {M : mH} (H : HI base M) (text : Int) (s : Int) (slot : Int) (meant : Int) (third : Int) (j : Int) (gs : Int) (gT : Int → Int) (gN : Int → Int) (ga : Int) (g0 : Int → Int) (gb : Int) (g1 : Int → Int) (hf : Int) (hn : Int) (hx : Int) (hy : Int) {ef en ex ey : Int} {es : Int} {eT eN : Int → Int} {ea : Int} {e0 : Int → Int} {eb : Int} {e1 : Int → Int} (h0 : INVl base j M) (h1 : CSx base es eT eN ea e0 eb e1 M) (h2 : RSx gs gT gN ga g0 gb g1 M) (h3 : HXc base ef en ex ey M) (h4 : HXr hf hn hx hy M) (b_text : -2147483648 ≤ text ∧ text ≤ 2147483647) (b_s : -2147483648 ≤ s ∧ s ≤ 2147483647) (b_slot : -2147483648 ≤ slot ∧ slot ≤ 2147483647) (b_meant : -2147483648 ≤ meant ∧ meant ≤ 2147483647) (b_third : -2147483648 ≤ third ∧ third ≤ 2147483647) : sOk base X G d T261 [vR 77, vI text, vI s, vI slot, vI meant, vI third] M (pI (fun v M' => HI base M' ∧ Ftr [(0, 0)] M M' ∧ (INVl base j M') ∧ (CSx base es eT eN ea e0 eb e1 M') ∧ (RSx gs gT gN ga g0 gb g1 M') ∧ (HXc base ef en ex ey M') ∧ (HXr hf hn hx hy M'))) := by
  obtain ⟨wa, wb, hK, hR, r1, r2⟩ := h0
  have hK2 := hK
  obtain ⟨hH, hB, hN, hI, hA, hZ, hS, ⟨wn, hn, hT, hG⟩, ha, hb⟩ := hK2
  have hR2 := hR
  obtain ⟨hTB, hWD, hLN, hGK, hVT, hIM⟩ := hR2
  have hs := h2.1
  refine sOk.imp (k261k E (by omega) H text s slot meant third (gi M 78) hTB (fun _ => rfl) hGK (by omega) (by omega) (by omega) (by omega) (by omega)) ?_
  rintro v M' ⟨v', e, H', f⟩
  have z := (f.q rfl).z
  exact ⟨v', e, H', trivial, ⟨wa, wb, hK.keep H' z rfl rfl, ⟨hTB.fr f rfl, hWD.fr f rfl, hLN.fr f rfl, hGK.fr f rfl, hVT.fr f rfl, hIM.fr f rfl⟩, by rw [f.1]; exact r1, by rw [f.2.1]; exact r2⟩, h1.fz H.m z rfl, h2.fr f rfl, h3.fz h1 H.m z rfl, h4.fr f rfl⟩
theorem V262 {base : Nat} {X : Nat → Option mC} {G : Nat → Value} (E : EnvOK base X G) {d : Nat} (hd : 70 ≤ d) {M : mH} (H : HI base M) (s : Int) (j : Int) (gs : Int) (gT : Int → Int) (gN : Int → Int) (ga : Int) (g0 : Int → Int) (gb : Int) (g1 : Int → Int) (hf : Int) (hn : Int) (hx : Int) (hy : Int) {ef en ex ey : Int} {es : Int} {eT eN : Int → Int} {ea : Int} {e0 : Int → Int} {eb : Int} {e1 : Int → Int} (h0 : INVl base j M) (h1 : CSx base es eT eN ea e0 eb e1 M) (h2 : RSx gs gT gN ga g0 gb g1 M) (h3 : HXc base ef en ex ey M) (h4 : HXr hf hn hx hy M) (b_s : -2147483648 ≤ s ∧ s ≤ 2147483647) : sOk base X G d T262 [vR 77, vI s] M (pI (fun v M' => HI base M' ∧ Ftr [(0, 0)] M M' ∧ (INVl base j M') ∧ (CSx base es eT eN ea e0 eb e1 M') ∧ (RSx 0 gT gN ga g0 gb g1 M') ∧ (HXc base ef en ex ey M') ∧ (HXr hf hn hx hy M'))) := by
  obtain ⟨wa, wb, hK, hR, r1, r2⟩ := h0
  have hK2 := hK
  obtain ⟨hH, hB, hN, hI, hA, hZ, hS, ⟨wn, hn, hT, hG⟩, ha, hb⟩ := hK2
  have hR2 := hR
  obtain ⟨hTB, hWD, hLN, hGK, hVT, hIM⟩ := hR2
  have hs := h2.1
  refine sOk.imp (k262e E (by omega) H s (gi M 78) hTB (fun _ => rfl) hGK (by omega)) ?_
  rintro v M' ⟨v', e, H', f, q0, q1⟩
  have z := (f.q rfl).z
  exact ⟨v', e, H', trivial, ⟨wa, wb, hK.keep H' z rfl rfl, ⟨hTB.fr f rfl, hWD.fr f rfl, hLN.fr f rfl, hGK.fr f rfl, hVT.fr f rfl, hIM.fr f rfl⟩, by rw [f.1]; exact r1, by rw [f.2.1]; exact r2⟩, h1.fz H.m z rfl, h2.tape f rfl q1, h3.fz h1 H.m z rfl, h4.fr f rfl⟩
theorem V264 {base : Nat} {X : Nat → Option mC} {G : Nat → Value} (E : EnvOK base X G) {d : Nat} (hd : 70 ≤ d) {M : mH} (H : HI base M) (what : Int) (j : Int) (gs : Int) (gT : Int → Int) (gN : Int → Int) (ga : Int) (g0 : Int → Int) (gb : Int) (g1 : Int → Int) (hf : Int) (hn : Int) (hx : Int) (hy : Int) {ef en ex ey : Int} {es : Int} {eT eN : Int → Int} {ea : Int} {e0 : Int → Int} {eb : Int} {e1 : Int → Int} (h0 : INVl base j M) (h1 : CSx base es eT eN ea e0 eb e1 M) (h2 : RSx gs gT gN ga g0 gb g1 M) (h3 : HXc base ef en ex ey M) (h4 : HXr hf hn hx hy M) (b_what : -2147483648 ≤ what ∧ what ≤ 2147483647) : sOk base X G d T264 [vR 77, vI what] M (pI (fun v M' => HI base M' ∧ Ftr [(0, 0)] M M' ∧ (INVl base j M') ∧ (CSx base es eT eN ea e0 eb e1 M') ∧ (RSx gs gT gN ga g0 gb g1 M') ∧ (HXc base ef en ex ey M') ∧ (HXr hf hn hx hy M'))) := by
  obtain ⟨wa, wb, hK, hR, r1, r2⟩ := h0
  have hK2 := hK
  obtain ⟨hH, hB, hN, hI, hA, hZ, hS, ⟨wn, hn, hT, hG⟩, ha, hb⟩ := hK2
  have hR2 := hR
  obtain ⟨hTB, hWD, hLN, hGK, hVT, hIM⟩ := hR2
  have hs := h2.1
  refine sOk.imp (k264k E (by omega) H what (gi M 78) hTB (fun _ => rfl) hGK (by omega)) ?_
  rintro v M' ⟨v', e, H', f, q0⟩
  have z := (f.q rfl).z
  exact ⟨v', e, H', trivial, ⟨wa, wb, hK.keep H' z rfl rfl, ⟨hTB.fr f rfl, hWD.fr f rfl, hLN.fr f rfl, hGK.fr f rfl, hVT.fr f rfl, hIM.fr f rfl⟩, by rw [f.1]; exact r1, by rw [f.2.1]; exact r2⟩, h1.fz H.m z rfl, h2.fr f rfl, h3.fz h1 H.m z rfl, h4.fr f rfl⟩
theorem V151 {base : Nat} {X : Nat → Option mC} {G : Nat → Value} (E : EnvOK base X G) {d : Nat} (hd : 1 ≤ d) {M : mH} (H : HI base M) (k : Int) (j : Int) (gs : Int) (gT : Int → Int) (gN : Int → Int) (ga : Int) (g0 : Int → Int) (gb : Int) (g1 : Int → Int) (hf : Int) (hn : Int) (hx : Int) (hy : Int) {ef en ex ey : Int} {es : Int} {eT eN : Int → Int} {ea : Int} {e0 : Int → Int} {eb : Int} {e1 : Int → Int} (h0 : INVl base j M) (h1 : CSx base es eT eN ea e0 eb e1 M) (h2 : RSx gs gT gN ga g0 gb g1 M) (h3 : HXc base ef en ex ey M) (h4 : HXr hf hn hx hy M) (b_k : -2147483648 ≤ k ∧ k ≤ 2147483647) : sOk base X G d T151 [vR 77, vI k] M (pI (fun v M' => HI base M' ∧ Ftr [(0, 0)] M M' ∧ (INVl base j M') ∧ (CSx base es eT eN ea e0 eb e1 M') ∧ (RSx gs gT gN (imA 0 k ga) (imF 0 k gN g0) (imA 1 k gb) (imF 1 k gN g1) M') ∧ (HXc base ef en ex ey M') ∧ (HXr hf hn (imI 0 k hn hx) (imI 1 k hn hy) M') ∧ (-2147483648 ≤ v ∧ v ≤ 2147483647) ∧ (v = imV k))) := by
  obtain ⟨wa, wb, hK, hR, r1, r2⟩ := h0
  have hK2 := hK
  obtain ⟨hH, hB, hN, hI, hA, hZ, hS, ⟨wn, hn, hT, hG⟩, ha, hb⟩ := hK2
  have hR2 := hR
  obtain ⟨hTB, hWD, hLN, hGK, hVT, hIM⟩ := hR2
  have hs := h2.1
  refine sOk.imp (k151n E (by omega) H k (by omega) hLN hGK hIM) ?_
  rintro v M' ⟨v', e, H', f, q0, q1, q2, q3, q4, q5, q6, q7, q8, q9, q10⟩
  have z := (f.q rfl).z
  have vv := imV.of q3 q4
  have cs : RSx gs gT gN (imA 0 k ga) (imF 0 k gN g0) (imA 1 k gb) (imF 1 k gN g1) M' := by
    unfold imA imF
    by_cases k0 : k = 0
    · subst k0
      rw [if_pos rfl, if_pos rfl, if_neg (by decide), if_neg (by decide)]
      exact h2.img0 (f.g rfl) (fun j => f.g rfl) (fun j => f.g rfl) (q5 (by decide)) (q6 1 (by decide)) (q8 (by decide)) (q9 (by decide))
    · rw [if_neg k0, if_neg k0]
      by_cases k1 : k = 1
      · subst k1
        rw [if_pos rfl, if_pos rfl]
        exact h2.img1 (f.g rfl) (fun j => f.g rfl) (fun j => f.g rfl) (q5 (by decide)) (q6 0 (by decide)) (q8 (by decide)) (q9 (by decide))
      · rw [if_neg k1, if_neg k1]
        obtain ⟨x1, xT, x2, x3, x4, x5, x6⟩ := h2
        have z9 := q10 (by omega)
        have z0 := q7 (by omega)
        exact ⟨(f.g rfl).trans x1, fun i a b => by rw [show gi M' 95 i = gi M 95 i from f.g rfl]; exact xT i a b, fun j hj => (f.g rfl).trans (x2 j hj), (z0 0).trans x3, fun a j hj => (z9 j).trans (x4 a j hj), (z0 1).trans x5, fun a j hj => (z9 _).trans (x6 a j hj)⟩
  exact ⟨v', e, H', trivial, ⟨wa, wb, hK.keep H' z rfl rfl, ⟨hTB.fr f rfl, hWD.fr f rfl, q0, q1, hVT.fr f rfl, q2⟩, by rw [f.1]; exact r1, by rw [f.2.1]; exact r2⟩, h1.fz H.m z rfl, cs, h3.fz h1 H.m z rfl, h4.img f rfl q5 q6 q8 q9 q7 q10, (by rw [vv]; unfold imV; split <;> omega), vv⟩
theorem V152 {base : Nat} {X : Nat → Option mC} {G : Nat → Value} (E : EnvOK base X G) {d : Nat} (hd : 1 ≤ d) {M : mH} (H : HI base M) (k : Int) (j : Int) (gs : Int) (gT : Int → Int) (gN : Int → Int) (ga : Int) (g0 : Int → Int) (gb : Int) (g1 : Int → Int) (hf : Int) (hn : Int) (hx : Int) (hy : Int) {ef en ex ey : Int} {es : Int} {eT eN : Int → Int} {ea : Int} {e0 : Int → Int} {eb : Int} {e1 : Int → Int} (h0 : INVl base j M) (h1 : CSx base es eT eN ea e0 eb e1 M) (h2 : RSx gs gT gN ga g0 gb g1 M) (h3 : HXc base ef en ex ey M) (h4 : HXr hf hn hx hy M) (b_k : -2147483648 ≤ k ∧ k ≤ 2147483647) : sOk base X G d T152 [vR 77, vI k] M (pI (fun v M' => HI base M' ∧ Ftr [(0, 0)] M M' ∧ (INVl base j M') ∧ (CSx base es eT eN ea e0 eb e1 M') ∧ (RSx gs gT (bkN k ga gb g0 g1 gN) ga g0 gb g1 M') ∧ (HXc base ef en ex ey M') ∧ (HXr hf (bkI k ga gb hx hy hn) hx hy M') ∧ (-2147483648 ≤ v ∧ v ≤ 2147483647) ∧ (v = bkV k ga gb))) := by
  obtain ⟨wa, wb, hK, hR, r1, r2⟩ := h0
  have hK2 := hK
  obtain ⟨hH, hB, hN, hI, hA, hZ, hS, ⟨wn, hn, hT, hG⟩, ha, hb⟩ := hK2
  have hR2 := hR
  obtain ⟨hTB, hWD, hLN, hGK, hVT, hIM⟩ := hR2
  have hs := h2.1
  refine sOk.imp (k152n E (by omega) H k (by omega) hLN hGK hIM) ?_
  rintro v M' ⟨v', e, H', f, q0, q1, q2, q3, q4, q5, q6, q7⟩
  have z := (f.q rfl).z
  have bb := h2.bits2 H
  have vv := bkV.rx h2 bb.1 bb.2 q3 q4 q5
  have cs : RSx gs gT (bkN k ga gb g0 g1 gN) ga g0 gb g1 M' := h2.back H f rfl ((f.g rfl).trans hs) q6 q7
  exact ⟨v', e, H', trivial, ⟨wa, wb, hK.keep H' z rfl rfl, ⟨hTB.fr f rfl, hWD.fr f rfl, q0, q1, hVT.fr f rfl, hIM.fr f rfl⟩, by rw [f.1]; exact r1, by rw [f.2.1]; exact r2⟩, h1.fz H.m z rfl, cs, h3.fz h1 H.m z rfl, h4.back h2 H f rfl (f.g rfl) q6 q7, q2, vv⟩
theorem V265 {base : Nat} {X : Nat → Option mC} {G : Nat → Value} (E : EnvOK base X G) {d : Nat} (hd : 0 ≤ d) {M : mH} (H : HI base M) (what : Int) (j : Int) (gs : Int) (gT : Int → Int) (gN : Int → Int) (ga : Int) (g0 : Int → Int) (gb : Int) (g1 : Int → Int) (hf : Int) (hn : Int) (hx : Int) (hy : Int) {ef en ex ey : Int} {es : Int} {eT eN : Int → Int} {ea : Int} {e0 : Int → Int} {eb : Int} {e1 : Int → Int} (h0 : INVl base j M) (h1 : CSx base es eT eN ea e0 eb e1 M) (h2 : RSx gs gT gN ga g0 gb g1 M) (h3 : HXc base ef en ex ey M) (h4 : HXr hf hn hx hy M) (b_what : -2147483648 ≤ what ∧ what ≤ 2147483647) : sOk base X G d T265 [vR 77, vI what] M (pI (fun v M' => HI base M' ∧ Ftr [(0, 0)] M M' ∧ (INVl base j M') ∧ (CSx base es eT eN ea e0 eb e1 M') ∧ (RSx gs gT gN ga g0 gb g1 M') ∧ (HXc base ef en ex ey M') ∧ (HXr hf hn hx hy M') ∧ (-2147483648 ≤ v ∧ v ≤ 2147483647) ∧ (v = cnW gN hn gs what))) := by
  obtain ⟨wa, wb, hK, hR, r1, r2⟩ := h0
  have hK2 := hK
  obtain ⟨hH, hB, hN, hI, hA, hZ, hS, ⟨wn, hn_, hT, hG⟩, ha, hb⟩ := hK2
  have hR2 := hR
  obtain ⟨hTB, hWD, hLN, hGK, hVT, hIM⟩ := hR2
  refine sOk.imp (k265v E (by omega) H what (by omega)) ?_
  rintro v M' ⟨v', e, rfl, q0, q1, q2, q3, q4, q5, q6⟩
  exact ⟨v', e, H, trivial, ⟨wa, wb, hK, hR, by omega, by omega⟩, h1, h2, h3, h4, q0, cnW.of (fun x => (q1 x).trans (h2.2.2.1 469 (by unfold dAs; omega))) (fun x => (q2 x).trans (h2.2.2.1 470 (by unfold dAs; omega))) (fun x => (q3 x).trans h4.2.1) (fun x => (q4 x).trans (h2.2.2.1 472 (by unfold dAs; omega))) (fun x => (q5 x).trans h2.1) q6⟩
theorem V266 {base : Nat} {X : Nat → Option mC} {G : Nat → Value} (E : EnvOK base X G) {d : Nat} (hd : 0 ≤ d) {M : mH} (H : HI base M) (j : Int) (gs : Int) (gT : Int → Int) (gN : Int → Int) (ga : Int) (g0 : Int → Int) (gb : Int) (g1 : Int → Int) (hf : Int) (hn : Int) (hx : Int) (hy : Int) {ef en ex ey : Int} {es : Int} {eT eN : Int → Int} {ea : Int} {e0 : Int → Int} {eb : Int} {e1 : Int → Int} (h0 : INVl base j M) (h1 : CSx base es eT eN ea e0 eb e1 M) (h2 : RSx gs gT gN ga g0 gb g1 M) (h3 : HXc base ef en ex ey M) (h4 : HXr hf hn hx hy M) : sOk base X G d T266 [vR 77] M (pI (fun v M' => HI base M' ∧ Ftr [(0, 0)] M M' ∧ (INVl base j M') ∧ (CSx base es eT eN ea e0 eb e1 M') ∧ (RSx gs gT gN ga g0 gb g1 M') ∧ (HXc base ef en ex ey M') ∧ (HXr hf hn hx hy M'))) := by
  obtain ⟨wa, wb, hK, hR, r1, r2⟩ := h0
  have hK2 := hK
  obtain ⟨hH, hB, hN, hI, hA, hZ, hS, ⟨wn, hn, hT, hG⟩, ha, hb⟩ := hK2
  have hR2 := hR
  obtain ⟨hTB, hWD, hLN, hGK, hVT, hIM⟩ := hR2
  have hs := h2.1
  refine sOk.imp (k266 E (by omega) H  ) ?_
  rintro v M' ⟨v', e, rfl, -⟩
  exact ⟨v', e, H, trivial, ⟨wa, wb, hK, hR, by omega, by omega⟩, h1, h2, h3, h4⟩
