/-! RELIEVED, of both sides: what is least from a minute on, how long one sits, the row of change-overs. -/
noncomputable def puF (u : Int → Int) : Nat → Int
  | 0 => 0
  | k + 1 => puF u k + u k
theorem puF_step {u : Int → Int} {k : Int} (hk : 0 ≤ k) : puF u (k + 1).toNat = puF u k.toNat + u k := by
  rw [show (k + 1).toNat = k.toNat + 1 by omega]
  show puF u k.toNat + u ((k.toNat : Nat) : Int) = _
  rw [show ((k.toNat : Nat) : Int) = k by omega]
noncomputable def csR (u G : Int → Int) (ch n m k : Int) : Int := puF u k.toNat + (if m + k < n then ch + G (m + k) else 0)
noncomputable def BA (u G : Int → Int) (ch n m t l s : Int) : Prop := (1 ≤ s ∧ s ≤ t) ∧ l = csR u G ch n m s ∧ (∀ k : Int, 1 ≤ k → k ≤ t → l ≤ csR u G ch n m k) ∧ ∀ k : Int, s < k → k ≤ t → l < csR u G ch n m k
theorem BA.uniq {u G : Int → Int} {ch n m t l s l' s' : Int} (h : BA u G ch n m t l s) (h' : BA u G ch n m t l' s') : l = l' ∧ s = s' := by
  obtain ⟨a, b, c, d⟩ := h
  obtain ⟨a', b', c', d'⟩ := h'
  have q1 := c s' a'.1 a'.2
  have q2 := c' s a.1 a.2
  have e : l = l' := by omega
  refine ⟨e, ?_⟩
  by_cases x : s < s'
  · have := d s' x a'.2; omega
  by_cases y : s' < s
  · have := d' s y a.2; omega
  omega
theorem BA.take {u G : Int → Int} {ch n m k l s c : Int} (h : 2 ≤ k → BA u G ch n m (k - 1) l s) (hk : 1 ≤ k) (hc : c = csR u G ch n m k) (hl : 2 ≤ k → c ≤ l) : BA u G ch n m k c k := by
  refine ⟨⟨hk, Int.le_refl _⟩, hc, fun j a b => ?_, fun j a b => by omega⟩
  by_cases e : j = k
  · subst e; omega
  · have q := (h (by omega)).2.2.1 j a (by omega)
    have := hl (by omega)
    omega
theorem BA.pass {u G : Int → Int} {ch n m k l s c : Int} (h : BA u G ch n m (k - 1) l s) (hc : c = csR u G ch n m k) (hl : l < c) : BA u G ch n m k l s := by
  obtain ⟨a, b, d, e⟩ := h
  refine ⟨⟨a.1, by omega⟩, b, fun j x y => ?_, fun j x y => ?_⟩
  · by_cases q : j = k
    · subst q; omega
    · exact d j x (by omega)
  · by_cases q : j = k
    · subst q; omega
    · exact e j x (by omega)
theorem csR_cong {u G G' : Int → Int} {ch n m k : Int} (e : m + k < n → G (m + k) = G' (m + k)) : csR u G ch n m k = csR u G' ch n m k := by
  unfold csR
  by_cases c : m + k < n
  · rw [if_pos c, if_pos c, e c]
  · rw [if_neg c, if_neg c]
theorem BA.of {u G G' : Int → Int} {ch n m t l s l' s' : Int} (h : BA u G ch n m t l s) (e : ∀ j : Int, m < j → j < n → G j = G' j) (el : l' = l) (es : s' = s) : BA u G' ch n m t l' s' := by
  subst el es
  obtain ⟨a, b, c, d⟩ := h
  have q : ∀ k : Int, 1 ≤ k → csR u G ch n m k = csR u G' ch n m k := fun k hk => csR_cong (fun y => e _ (by omega) y)
  exact ⟨a, by rw [← q _ a.1]; exact b, fun k x y => by rw [← q k x]; exact c k x y, fun k x y => by rw [← q k (by omega)]; exact d k x y⟩
noncomputable def tmx (n m : Int) : Int := if n - m ≤ 60 then n - m else 60
theorem tmx_b {n m : Int} (h : m < n) : 1 ≤ tmx n m ∧ tmx n m ≤ n - m ∧ tmx n m ≤ 60 := by unfold tmx; split <;> omega
/-- from a minute on all is found -/
noncomputable def RBX (u G S : Int → Int) (ch n lo : Int) : Prop := ∀ j : Int, lo ≤ j → j < n → BA u G ch n j (tmx n j) (G j) (S j)
theorem RBX.uniq {u G S G' S' : Int → Int} {ch n lo : Int} (h : RBX u G S ch n lo) (h' : RBX u G' S' ch n lo) : ∀ r : Nat, ∀ j : Int, lo ≤ j → j < n → n - j ≤ r → G j = G' j ∧ S j = S' j := by
  intro r
  induction r with
  | zero => intro j a b c; omega
  | succ r ih =>
    intro j a b c
    have q := h j a b
    have q' := h' j a b
    exact (q.of (G' := G') (fun i x y => (ih i (by omega) y (by omega)).1) rfl rfl).uniq q'
/-- what a row of change-overs is -/
noncomputable def CHs (S : Int → Int) (n c p : Int) (C : Int → Int) : Prop := (0 ≤ c) ∧ (c = 0 → p = S 0) ∧ (1 ≤ c → p = C (c - 1) + S (C (c - 1))) ∧ ∀ i : Int, 0 ≤ i → i < c → (0 ≤ C i ∧ C i < n) ∧ (i = 0 → C i = S 0) ∧ (1 ≤ i → C i = C (i - 1) + S (C (i - 1)))
theorem CHs.first {S C : Int → Int} {n : Int} : CHs S n 0 (S 0) C := ⟨by decide, fun _ => rfl, fun h => absurd h (by decide), fun i a b => by omega⟩
theorem CHs.next {S C C' : Int → Int} {n c p p' : Int} (h : CHs S n c p C) (e : ∀ i : Int, 0 ≤ i → i < c → C' i = C i) (e2 : C' c = p) (hp : 0 ≤ p ∧ p < n) (hp' : p' = p + S p) : CHs S n (c + 1) p' C' := by
  obtain ⟨a, b, d, f⟩ := h
  refine ⟨by omega, fun x => by omega, fun _ => by rw [show c + 1 - 1 = c by omega, e2]; exact hp', fun i x y => ?_⟩
  by_cases q : i = c
  · subst q
    rw [e2]
    refine ⟨hp, fun z => b z, fun z => ?_⟩
    rw [e (i - 1) (by omega) (by omega)]
    exact d z
  · obtain ⟨f1, f2, f3⟩ := f i x (by omega)
    refine ⟨by rw [e i x (by omega)]; exact f1, fun z => by rw [e i x (by omega)]; exact f2 z, fun z => ?_⟩
    rw [e i x (by omega), e (i - 1) (by omega) (by omega)]
    exact f3 z
theorem CHs.uniq {S C S' C' : Int → Int} {n c p c' p' : Int} (h : CHs S n c p C) (h' : CHs S' n c' p' C') (hn : n ≤ p) (hn' : n ≤ p') (e : ∀ j : Int, 0 ≤ j → j < n → S j = S' j) (h0 : 1 ≤ n) : c = c' ∧ ∀ i : Int, 0 ≤ i → i < c → C i = C' i := by
  obtain ⟨a, b, d, f⟩ := h
  obtain ⟨a', b', d', f'⟩ := h'
  have key : ∀ r : Nat, ∀ i : Int, 0 ≤ i → i < c → i < c' → i < r → C i = C' i := by
    intro r
    induction r with
    | zero => intro i x y z w; omega
    | succ r ih =>
      intro i x y z w
      obtain ⟨f1, f2, f3⟩ := f i x y
      obtain ⟨g1, g2, g3⟩ := f' i x z
      by_cases q : i = 0
      · rw [f2 q, g2 q]; exact e 0 (by decide) (by omega)
      · have o := ih (i - 1) (by omega) (by omega) (by omega) (by omega)
        have o2 := (f (i - 1) (by omega) (by omega)).1
        rw [f3 (by omega), g3 (by omega), ← o, e _ o2.1 o2.2]
  have same : ∀ i : Int, 0 ≤ i → i < c → i < c' → C i = C' i := fun i x y z => key (i.toNat + 1) i x y z (by omega)
  have ec : c = c' := by
    by_cases x : c < c'
    · exfalso
      have g := (f' c a x)
      by_cases q : c = 0
      · have := b q
        have := g.2.1 q
        have := e 0 (by decide) (by omega)
        omega
      · have o := same (c - 1) (by omega) (by omega) (by omega)
        have o2 := (f (c - 1) (by omega) (by omega)).1
        have d1 := d (by omega)
        have g3 := g.2.2 (by omega)
        have q2 := e _ o2.1 o2.2
        rw [← o] at g3
        omega
    by_cases y : c' < c
    · exfalso
      have g := (f c' a' y)
      by_cases q : c' = 0
      · have := b' q
        have := g.2.1 q
        have := e 0 (by decide) (by omega)
        omega
      · have o := same (c' - 1) (by omega) (by omega) (by omega)
        have o2 := (f (c' - 1) (by omega) (by omega)).1
        have d1 := d' (by omega)
        have g3 := g.2.2 (by omega)
        have q2 := e _ o2.1 o2.2
        rw [← o] at d1
        omega
    omega
  exact ⟨ec, fun i x y => same i x y (by omega)⟩
/-- all that relieve finds -/
noncomputable def RLX (u : Int → Int) (ch n : Int) (q : Int × Int × (Int → Int)) : Prop := ∃ (G S : Int → Int) (p : Int), RBX u G S ch n 0 ∧ q.1 = G 0 ∧ CHs S n q.2.1 p q.2.2 ∧ n ≤ p
theorem RLX.uniq {u : Int → Int} {ch n : Int} {q q' : Int × Int × (Int → Int)} (h : RLX u ch n q) (h' : RLX u ch n q') (hn : 1 ≤ n) : q.1 = q'.1 ∧ q.2.1 = q'.2.1 ∧ ∀ i : Int, 0 ≤ i → i < q.2.1 → q.2.2 i = q'.2.2 i := by
  obtain ⟨G, S, p, a, b, c, d⟩ := h
  obtain ⟨G', S', p', a', b', c', d'⟩ := h'
  have k := a.uniq a'
  have g : ∀ j : Int, 0 ≤ j → j < n → G j = G' j ∧ S j = S' j := fun j x y => k (n - j).toNat j x y (by omega)
  exact ⟨by rw [b, b', (g 0 (by decide) (by omega)).1], c.uniq c' d d' (fun j x y => (g j x y).2) hn⟩
theorem cs_mk {u G : Int → Int} {ch n m k a w c : Int} (hk : 1 ≤ k) (h0 : a = puF u (k - 1).toNat) (hw : w = u (k - 1)) (h1 : m + k < n → c = a + w + (ch + G (m + k))) (h2 : ¬ (m + k < n) → c = a + w) : c = csR u G ch n m k := by
  unfold csR
  have e : puF u k.toNat = a + w := by
    have q := puF_step (u := u) (k := k - 1) (by omega)
    rw [show k - 1 + 1 = k by omega] at q
    rw [q, ← h0, ← hw]
  rw [e]
  by_cases c : m + k < n
  · rw [if_pos c]; exact h1 c
  · rw [if_neg c, h2 c]; omega
theorem puF_b {u : Int → Int} (hu : ∀ k : Int, 0 ≤ k → k < 60 → 0 ≤ u k) : ∀ k : Nat, k ≤ 60 → 0 ≤ puF u k := by
  intro k
  induction k with
  | zero => intro _; exact Int.le_refl _
  | succ k ih => intro hk; have := hu k (by omega) (by omega); have := ih (by omega); show 0 ≤ puF u k + u k; omega
theorem BA.bd {u G : Int → Int} {ch n m t l s : Int} (h : BA u G ch n m t l s) (hu : ∀ k : Int, 0 ≤ k → k < 60 → 0 ≤ u k ∧ u k ≤ 1000) (hc : 0 ≤ ch ∧ ch ≤ 1000) (hG : ∀ j : Int, m < j → j < n → 0 ≤ G j ∧ G j ≤ 2000 * (n - j)) (hm : m < n) (ht : 1 ≤ t) (ht2 : t ≤ 60) : 0 ≤ l ∧ l ≤ 2000 * (n - m) := by
  obtain ⟨a, b, c, -⟩ := h
  have q := c 1 (by decide) ht
  have u0 := hu 0 (by decide) (by decide)
  have e1 : puF u (1 : Int).toNat = u 0 := by show 0 + u 0 = u 0; omega
  unfold csR at q b
  rw [e1] at q
  have p := puF_b (u := u) (fun k hk hk2 => (hu k hk hk2).1) s.toNat (by omega)
  constructor
  · rw [b]
    by_cases x : m + s < n
    · rw [if_pos x]; have := hG (m + s) (by omega) x; omega
    · rw [if_neg x]; omega
  · by_cases x : m + 1 < n
    · rw [if_pos x] at q; have := hG (m + 1) (by omega) x; omega
    · rw [if_neg x] at q; omega
noncomputable def uK (K : Int → Int) : Int → Int := fun k => K (409 + k)
theorem uK_b {base : Nat} {K : Int → Int} {M : mH} (h : KK K M) (H : HI base M) : ∀ k : Int, 0 ≤ k → k < 60 → 0 ≤ uK K k ∧ uK K k ≤ 1000 := fun k a b => by
  have q := H.2 78 (409 + k) 0 1000 (rk_tired (by omega))
  rw [h] at q
  exact q

set_option maxRecDepth 4000 in
theorem L_k41_69_11g {base : Nat} {X : Nat → Option mC} {G : Nat → Value} (E : EnvOK base X G) {d : Nat} (hd : 0 ≤ d) {M : mH} (H : HI base M) (minute : Int) (changeCost : Int) (minutes : Int) (h0 : 0 ≤ minute ∧ minute ≤ 119) (h1 : 0 ≤ changeCost ∧ changeCost ≤ 1000) (h2 : 1 ≤ minutes ∧ minutes ≤ 120) (h3 : minute < minutes) (h4 : ∀ j : Int, minute < j → j < minutes → 0 ≤ gi M 71 j ∧ gi M 71 j ≤ 2000 * (minutes - j)) : ∀ mz : Nat, (∀ (x5 x6 : Int) (N : mH), HI base N → Fr [(71, 0), (72, 0)] M N → (x5 = puF (gi M 11) (x6 - 1).toNat) → (0 ≤ x5 ∧ x5 ≤ 1000 * (x6 - 1)) → (1 ≤ x6 ∧ x6 ≤ 61) → (x6 - 1 ≤ minutes - minute) → (x6 = 1 → gi N 71 minute = 1073741824) → (2 ≤ x6 → BA (gi M 11) (gi M 71) changeCost minutes minute (x6 - 1) (gi N 71 minute) (gi N 72 minute)) → (∀ j : Int, 0 ≤ j → j ≠ minute → gi N 71 j = gi M 71 j ∧ gi N 72 j = gi M 72 j) → (0 ≤ x5) → (x5 ≤ 61000) → (1 ≤ x6) → (x6 ≤ 61) → (61 - x6) * 1 + 0 < (mz : Int) → sRn base X G d T41 21 [(0, vR 69), (1, vI minute), (2, vR 11), (3, vI changeCost), (4, vI minutes), (5, vI x5), (6, vI x6)] [] N (s_Q base (pV (fun M' => HI base M' ∧ Fr [(71, 0), (72, 0)] M M' ∧ (BA (gi M 11) (gi M 71) changeCost minutes minute (tmx minutes minute) (gi M' 71 minute) (gi M' 72 minute)) ∧ (0 ≤ gi M' 71 minute ∧ gi M' 71 minute ≤ 2000 * (minutes - minute)) ∧ (∀ j : Int, 0 ≤ j → j ≠ minute → gi M' 71 j = gi M 71 j ∧ gi M' 72 j = gi M 72 j))))) := by
  have f0 : Fr [(71, 0), (72, 0)] M M := Fr.rf
  intro mz
  induction mz with
  | zero => exact fun x5 x6 N _ _ z0 z1 z2 z3 z4 z5 z6 z7 z8 z9 z10 z11 => by omega
  | succ mz ih =>
    intro x5 x6 N HN fN i0 i1 i2 i3 i4 i5 i6 i7 i8 i9 i10 hmu
    refine s_blx (lv' := [(0, vR 69), (1, vI minute), (2, vR 11), (3, vI changeCost), (4, vI minutes), (5, vI x5), (6, vI x6)]) (st' := [vI 60, vI x6]) B41_21_25 rfl ?_
    refine r_icmp (tgt := 112) (pc' := 28) D41_25 rfl rfl (by unfold inR; omega) (fun (c13 : 60 < x6) => ?_) (fun (c13 : ¬ (60 < x6)) => ?_)
    · exact r_retV D41_112 rfl (⟨HN, fN, (by have e : tmx minutes minute = x6 - 1 := (by unfold tmx; split <;> omega); rw [e]; exact i5 (by omega)), (i5 (by omega)).bd (fun k _ _ => ⟨(H.2 11 k 0 1000 rfl).1, (H.2 11 k 0 1000 rfl).2⟩) (by omega) h4 (by omega) (by omega) (by omega), i6⟩)
    · refine s_blx (lv' := [(0, vR 69), (1, vI minute), (2, vR 11), (3, vI changeCost), (4, vI minutes), (5, vI x5), (6, vI x6)]) (st' := [vI minutes, vI (minute + x6)]) B41_28_34 rfl ?_
      refine r_icmp (tgt := 112) (pc' := 37) D41_34 rfl rfl (by unfold inR; omega) (fun (c14 : minutes < (minute + x6)) => ?_) (fun (c14 : ¬ (minutes < (minute + x6))) => ?_)
      · exact r_retV D41_112 rfl (⟨HN, fN, (by have e : tmx minutes minute = x6 - 1 := (by unfold tmx; split <;> omega); rw [e]; exact i5 (by omega)), (i5 (by omega)).bd (fun k _ _ => ⟨(H.2 11 k 0 1000 rfl).1, (H.2 11 k 0 1000 rfl).2⟩) (by omega) h4 (by omega) (by omega) (by omega), i6⟩)
      · refine s_blx (lv' := [(0, vR 69), (1, vI minute), (2, vR 11), (3, vI changeCost), (4, vI minutes), (5, vI x5), (6, vI x6)]) (st' := [vI (x6 - 1), vR 11, vI x5]) B41_37_44 rfl ?_
        refine r_iald (pc' := 45) D41_44 rfl sc_11 HN.1 (by omega) ?_
        intro w15 e16 r17
        have b_w15 := HN.2 11 (x6 - 1) 0 1000 rfl
        rw [← e16] at b_w15; clear r17
        have kw : w15 = gi M 11 (x6 - 1) := e16.trans (fN.g rfl)
        refine s_blx (lv' := [(7, vI (minute + x6)), (5, vI (x5 + w15)), (0, vR 69), (1, vI minute), (2, vR 11), (3, vI changeCost), (4, vI minutes), (6, vI x6)]) (st' := [vI minutes, vI (minute + x6), vI (x5 + w15)]) B41_45_60 rfl ?_
        refine r_icmp (tgt := 75) (pc' := 63) D41_60 rfl rfl (by unfold inR; omega) (fun (c18 : minutes ≤ (minute + x6)) => ?_) (fun (c18 : ¬ (minutes ≤ (minute + x6))) => ?_)
        · refine s_blx (lv' := [(8, vI ((x5 + w15) + 0)), (7, vI (minute + x6)), (5, vI (x5 + w15)), (0, vR 69), (1, vI minute), (2, vR 11), (3, vI changeCost), (4, vI minutes), (6, vI x6)]) (st' := [vR 69, vI ((x5 + w15) + 0)]) B41_75_82 rfl ?_
          refine r_gfix (r := 71) (pc' := 85) D41_82 rfl gf_5_19_69 HN.1 ?_
          refine s_blx (lv' := [(8, vI ((x5 + w15) + 0)), (7, vI (minute + x6)), (5, vI (x5 + w15)), (0, vR 69), (1, vI minute), (2, vR 11), (3, vI changeCost), (4, vI minutes), (6, vI x6)]) (st' := [vI minute, vR 71, vI ((x5 + w15) + 0)]) B41_85_86 rfl ?_
          refine r_iald (pc' := 87) D41_86 rfl sc_71 HN.1 (by omega) ?_
          intro w19 e20 r21
          unfold inR at r21
          have ke := e20
          have kc : ((x5 + w15) + 0) = csR (gi M 11) (gi M 71) changeCost minutes minute x6 := cs_mk (by omega) i0 kw (fun h => by omega) (fun h => by omega)
          refine r_icmp (tgt := 106) (pc' := 90) D41_87 rfl rfl (by unfold inR; omega) (fun (c22 : w19 < ((x5 + w15) + 0)) => ?_) (fun (c22 : ¬ (w19 < ((x5 + w15) + 0))) => ?_)
          · refine s_blx (lv' := [(6, vI (x6 + 1)), (8, vI ((x5 + w15) + 0)), (7, vI (minute + x6)), (5, vI (x5 + w15)), (0, vR 69), (1, vI minute), (2, vR 11), (3, vI changeCost), (4, vI minutes)]) (st' := []) B41_106_109 rfl ?_
            refine r_goto (tgt := 21) D41_109 rfl ?_
            refine r_loc (lv' := [(0, vR 69), (1, vI minute), (2, vR 11), (3, vI changeCost), (4, vI minutes), (5, vI (x5 + w15)), (6, vI (x6 + 1))]) ⟨rfl, rfl, rfl, rfl, rfl, rfl, rfl, trivial⟩ rfl rfl ?_
            exact ih (x5 + w15) (x6 + 1) N HN fN (by rw [show x6 + 1 - 1 = (x6 - 1) + 1 by omega, puF_step (by omega), ← i0, ← kw]) (by omega) (by omega) (by omega) (fun h => by omega) (by first | exact fun _ => by rw [show x6 + 1 - 1 = x6 by omega, ku2.gi_ne (by omega) (Or.inl (by decide)), kp1, kp2]; exact BA.take i5 (by omega) kc (fun h => by omega) | exact fun _ => by rw [show x6 + 1 - 1 = x6 by omega]; exact BA.pass (i5 (by omega)) kc (by omega)) (by first | exact fun j a b => ⟨by rw [ku2.gi_ne (by omega) (Or.inl (by decide)), ku1.gi_ne (by omega) (Or.inr b)]; exact (i6 j a b).1, by rw [ku2.gi_ne (by omega) (Or.inr b), ku1.gi_ne (by omega) (Or.inl (by decide))]; exact (i6 j a b).2⟩ | exact i6) (by omega) (by omega) (by omega) (by omega) (by omega)
          · refine s_blx (lv' := [(8, vI ((x5 + w15) + 0)), (7, vI (minute + x6)), (5, vI (x5 + w15)), (0, vR 69), (1, vI minute), (2, vR 11), (3, vI changeCost), (4, vI minutes), (6, vI x6)]) (st' := [vR 69]) B41_90_91 rfl ?_
            refine r_gfix (r := 71) (pc' := 94) D41_91 rfl gf_5_19_69 HN.1 ?_
            refine s_blx (lv' := [(8, vI ((x5 + w15) + 0)), (7, vI (minute + x6)), (5, vI (x5 + w15)), (0, vR 69), (1, vI minute), (2, vR 11), (3, vI changeCost), (4, vI minutes), (6, vI x6)]) (st' := [vI ((x5 + w15) + 0), vI minute, vR 71]) B41_94_97 rfl ?_
            refine r_iast (pc' := 98) D41_97 rfl sc_71 HN (by omega) (by unfold inR; omega) trivial ?_
            intro M23 u24 H25 p26
            have f27 := fN.wr u24 rfl
            have ku1 := u24
            have kp1 := p26
            refine s_blx (lv' := [(8, vI ((x5 + w15) + 0)), (7, vI (minute + x6)), (5, vI (x5 + w15)), (0, vR 69), (1, vI minute), (2, vR 11), (3, vI changeCost), (4, vI minutes), (6, vI x6)]) (st' := [vR 69]) B41_98_99 rfl ?_
            refine r_gfix (r := 72) (pc' := 102) D41_99 rfl gf_5_22_69 H25.1 ?_
            refine s_blx (lv' := [(8, vI ((x5 + w15) + 0)), (7, vI (minute + x6)), (5, vI (x5 + w15)), (0, vR 69), (1, vI minute), (2, vR 11), (3, vI changeCost), (4, vI minutes), (6, vI x6)]) (st' := [vI x6, vI minute, vR 72]) B41_102_105 rfl ?_
            refine r_iast (pc' := 106) D41_105 rfl sc_72 H25 (by omega) (by unfold inR; omega) (show 0 ≤ x6 ∧ x6 ≤ 60 by omega) ?_
            intro M28 u29 H30 p31
            have f32 := f27.wr u29 rfl
            have ku2 := u29
            have kp2 := p31
            refine s_blx (lv' := [(6, vI (x6 + 1)), (8, vI ((x5 + w15) + 0)), (7, vI (minute + x6)), (5, vI (x5 + w15)), (0, vR 69), (1, vI minute), (2, vR 11), (3, vI changeCost), (4, vI minutes)]) (st' := []) B41_106_109 rfl ?_
            refine r_goto (tgt := 21) D41_109 rfl ?_
            refine r_loc (lv' := [(0, vR 69), (1, vI minute), (2, vR 11), (3, vI changeCost), (4, vI minutes), (5, vI (x5 + w15)), (6, vI (x6 + 1))]) ⟨rfl, rfl, rfl, rfl, rfl, rfl, rfl, trivial⟩ rfl rfl ?_
            have g33 : gi M28 71 minute = (x5 + w15) + 0 := (u29.gi_ne (by omega) (Or.inl (by decide))).trans (p26)
            have g34 : gi M28 72 minute = x6 := p31
            exact ih (x5 + w15) (x6 + 1) M28 H30 f32 (by rw [show x6 + 1 - 1 = (x6 - 1) + 1 by omega, puF_step (by omega), ← i0, ← kw]) (by omega) (by omega) (by omega) (fun h => by omega) (by first | exact fun _ => by rw [show x6 + 1 - 1 = x6 by omega, ku2.gi_ne (by omega) (Or.inl (by decide)), kp1, kp2]; exact BA.take i5 (by omega) kc (fun h => by omega) | exact fun _ => by rw [show x6 + 1 - 1 = x6 by omega]; exact BA.pass (i5 (by omega)) kc (by omega)) (by first | exact fun j a b => ⟨by rw [ku2.gi_ne (by omega) (Or.inl (by decide)), ku1.gi_ne (by omega) (Or.inr b)]; exact (i6 j a b).1, by rw [ku2.gi_ne (by omega) (Or.inr b), ku1.gi_ne (by omega) (Or.inl (by decide))]; exact (i6 j a b).2⟩ | exact i6) (by omega) (by omega) (by omega) (by omega) (by omega)
        · refine s_blx (lv' := [(7, vI (minute + x6)), (5, vI (x5 + w15)), (0, vR 69), (1, vI minute), (2, vR 11), (3, vI changeCost), (4, vI minutes), (6, vI x6)]) (st' := [vR 69, vI changeCost, vI (x5 + w15)]) B41_63_65 rfl ?_
          refine r_gfix (r := 71) (pc' := 68) D41_65 rfl gf_5_19_69 HN.1 ?_
          refine s_blx (lv' := [(7, vI (minute + x6)), (5, vI (x5 + w15)), (0, vR 69), (1, vI minute), (2, vR 11), (3, vI changeCost), (4, vI minutes), (6, vI x6)]) (st' := [vI (minute + x6), vR 71, vI changeCost, vI (x5 + w15)]) B41_68_70 rfl ?_
          refine r_iald (pc' := 71) D41_70 rfl sc_71 HN.1 (by omega) ?_
          intro w35 e36 r37
          unfold inR at r37
          have kg : w35 = gi M 71 (minute + x6) := e36.trans (i6 (minute + x6) (by omega) (by omega)).1
          have kh := h4 (minute + x6) (by omega) (by omega)
          refine s_blx (lv' := [(7, vI (minute + x6)), (5, vI (x5 + w15)), (0, vR 69), (1, vI minute), (2, vR 11), (3, vI changeCost), (4, vI minutes), (6, vI x6)]) (st' := [vI (changeCost + w35), vI (x5 + w15)]) B41_71_72 rfl ?_
          refine r_goto (tgt := 76) D41_72 rfl ?_
          refine s_blx (lv' := [(8, vI ((x5 + w15) + (changeCost + w35))), (7, vI (minute + x6)), (5, vI (x5 + w15)), (0, vR 69), (1, vI minute), (2, vR 11), (3, vI changeCost), (4, vI minutes), (6, vI x6)]) (st' := [vR 69, vI ((x5 + w15) + (changeCost + w35))]) B41_76_82 rfl ?_
          refine r_gfix (r := 71) (pc' := 85) D41_82 rfl gf_5_19_69 HN.1 ?_
          refine s_blx (lv' := [(8, vI ((x5 + w15) + (changeCost + w35))), (7, vI (minute + x6)), (5, vI (x5 + w15)), (0, vR 69), (1, vI minute), (2, vR 11), (3, vI changeCost), (4, vI minutes), (6, vI x6)]) (st' := [vI minute, vR 71, vI ((x5 + w15) + (changeCost + w35))]) B41_85_86 rfl ?_
          refine r_iald (pc' := 87) D41_86 rfl sc_71 HN.1 (by omega) ?_
          intro w38 e39 r40
          unfold inR at r40
          have ke := e39
          have kc : ((x5 + w15) + (changeCost + w35)) = csR (gi M 11) (gi M 71) changeCost minutes minute x6 := cs_mk (by omega) i0 kw (fun h => by omega) (fun h => by omega)
          refine r_icmp (tgt := 106) (pc' := 90) D41_87 rfl rfl (by unfold inR; omega) (fun (c41 : w38 < ((x5 + w15) + (changeCost + w35))) => ?_) (fun (c41 : ¬ (w38 < ((x5 + w15) + (changeCost + w35)))) => ?_)
          · refine s_blx (lv' := [(6, vI (x6 + 1)), (8, vI ((x5 + w15) + (changeCost + w35))), (7, vI (minute + x6)), (5, vI (x5 + w15)), (0, vR 69), (1, vI minute), (2, vR 11), (3, vI changeCost), (4, vI minutes)]) (st' := []) B41_106_109 rfl ?_
            refine r_goto (tgt := 21) D41_109 rfl ?_
            refine r_loc (lv' := [(0, vR 69), (1, vI minute), (2, vR 11), (3, vI changeCost), (4, vI minutes), (5, vI (x5 + w15)), (6, vI (x6 + 1))]) ⟨rfl, rfl, rfl, rfl, rfl, rfl, rfl, trivial⟩ rfl rfl ?_
            exact ih (x5 + w15) (x6 + 1) N HN fN (by rw [show x6 + 1 - 1 = (x6 - 1) + 1 by omega, puF_step (by omega), ← i0, ← kw]) (by omega) (by omega) (by omega) (fun h => by omega) (by first | exact fun _ => by rw [show x6 + 1 - 1 = x6 by omega, ku2.gi_ne (by omega) (Or.inl (by decide)), kp1, kp2]; exact BA.take i5 (by omega) kc (fun h => by omega) | exact fun _ => by rw [show x6 + 1 - 1 = x6 by omega]; exact BA.pass (i5 (by omega)) kc (by omega)) (by first | exact fun j a b => ⟨by rw [ku2.gi_ne (by omega) (Or.inl (by decide)), ku1.gi_ne (by omega) (Or.inr b)]; exact (i6 j a b).1, by rw [ku2.gi_ne (by omega) (Or.inr b), ku1.gi_ne (by omega) (Or.inl (by decide))]; exact (i6 j a b).2⟩ | exact i6) (by omega) (by omega) (by omega) (by omega) (by omega)
          · refine s_blx (lv' := [(8, vI ((x5 + w15) + (changeCost + w35))), (7, vI (minute + x6)), (5, vI (x5 + w15)), (0, vR 69), (1, vI minute), (2, vR 11), (3, vI changeCost), (4, vI minutes), (6, vI x6)]) (st' := [vR 69]) B41_90_91 rfl ?_
            refine r_gfix (r := 71) (pc' := 94) D41_91 rfl gf_5_19_69 HN.1 ?_
            refine s_blx (lv' := [(8, vI ((x5 + w15) + (changeCost + w35))), (7, vI (minute + x6)), (5, vI (x5 + w15)), (0, vR 69), (1, vI minute), (2, vR 11), (3, vI changeCost), (4, vI minutes), (6, vI x6)]) (st' := [vI ((x5 + w15) + (changeCost + w35)), vI minute, vR 71]) B41_94_97 rfl ?_
            refine r_iast (pc' := 98) D41_97 rfl sc_71 HN (by omega) (by unfold inR; omega) trivial ?_
            intro M42 u43 H44 p45
            have f46 := fN.wr u43 rfl
            have ku1 := u43
            have kp1 := p45
            refine s_blx (lv' := [(8, vI ((x5 + w15) + (changeCost + w35))), (7, vI (minute + x6)), (5, vI (x5 + w15)), (0, vR 69), (1, vI minute), (2, vR 11), (3, vI changeCost), (4, vI minutes), (6, vI x6)]) (st' := [vR 69]) B41_98_99 rfl ?_
            refine r_gfix (r := 72) (pc' := 102) D41_99 rfl gf_5_22_69 H44.1 ?_
            refine s_blx (lv' := [(8, vI ((x5 + w15) + (changeCost + w35))), (7, vI (minute + x6)), (5, vI (x5 + w15)), (0, vR 69), (1, vI minute), (2, vR 11), (3, vI changeCost), (4, vI minutes), (6, vI x6)]) (st' := [vI x6, vI minute, vR 72]) B41_102_105 rfl ?_
            refine r_iast (pc' := 106) D41_105 rfl sc_72 H44 (by omega) (by unfold inR; omega) (show 0 ≤ x6 ∧ x6 ≤ 60 by omega) ?_
            intro M47 u48 H49 p50
            have f51 := f46.wr u48 rfl
            have ku2 := u48
            have kp2 := p50
            refine s_blx (lv' := [(6, vI (x6 + 1)), (8, vI ((x5 + w15) + (changeCost + w35))), (7, vI (minute + x6)), (5, vI (x5 + w15)), (0, vR 69), (1, vI minute), (2, vR 11), (3, vI changeCost), (4, vI minutes)]) (st' := []) B41_106_109 rfl ?_
            refine r_goto (tgt := 21) D41_109 rfl ?_
            refine r_loc (lv' := [(0, vR 69), (1, vI minute), (2, vR 11), (3, vI changeCost), (4, vI minutes), (5, vI (x5 + w15)), (6, vI (x6 + 1))]) ⟨rfl, rfl, rfl, rfl, rfl, rfl, rfl, trivial⟩ rfl rfl ?_
            have g52 : gi M47 71 minute = (x5 + w15) + (changeCost + w35) := (u48.gi_ne (by omega) (Or.inl (by decide))).trans (p45)
            have g53 : gi M47 72 minute = x6 := p50
            exact ih (x5 + w15) (x6 + 1) M47 H49 f51 (by rw [show x6 + 1 - 1 = (x6 - 1) + 1 by omega, puF_step (by omega), ← i0, ← kw]) (by omega) (by omega) (by omega) (fun h => by omega) (by first | exact fun _ => by rw [show x6 + 1 - 1 = x6 by omega, ku2.gi_ne (by omega) (Or.inl (by decide)), kp1, kp2]; exact BA.take i5 (by omega) kc (fun h => by omega) | exact fun _ => by rw [show x6 + 1 - 1 = x6 by omega]; exact BA.pass (i5 (by omega)) kc (by omega)) (by first | exact fun j a b => ⟨by rw [ku2.gi_ne (by omega) (Or.inl (by decide)), ku1.gi_ne (by omega) (Or.inr b)]; exact (i6 j a b).1, by rw [ku2.gi_ne (by omega) (Or.inr b), ku1.gi_ne (by omega) (Or.inl (by decide))]; exact (i6 j a b).2⟩ | exact i6) (by omega) (by omega) (by omega) (by omega) (by omega)
set_option maxRecDepth 4000 in
theorem k41_69_11g {base : Nat} {X : Nat → Option mC} {G : Nat → Value} (E : EnvOK base X G) {d : Nat} (hd : 0 ≤ d) {M : mH} (H : HI base M) (minute : Int) (changeCost : Int) (minutes : Int) (h0 : 0 ≤ minute ∧ minute ≤ 119) (h1 : 0 ≤ changeCost ∧ changeCost ≤ 1000) (h2 : 1 ≤ minutes ∧ minutes ≤ 120) (h3 : minute < minutes) (h4 : ∀ j : Int, minute < j → j < minutes → 0 ≤ gi M 71 j ∧ gi M 71 j ≤ 2000 * (minutes - j)) : sOk base X G d T41 [vR 69, vI minute, vR 11, vI changeCost, vI minutes] M (pV (fun M' => HI base M' ∧ Fr [(71, 0), (72, 0)] M M' ∧ (BA (gi M 11) (gi M 71) changeCost minutes minute (tmx minutes minute) (gi M' 71 minute) (gi M' 72 minute)) ∧ (0 ≤ gi M' 71 minute ∧ gi M' 71 minute ≤ 2000 * (minutes - minute)) ∧ (∀ j : Int, 0 ≤ j → j ≠ minute → gi M' 71 j = gi M 71 j ∧ gi M' 72 j = gi M 72 j))) := by
  have f0 : Fr [(71, 0), (72, 0)] M M := Fr.rf
  refine sOk.of (show sRn base X G d T41 0 [(0, vR 69), (1, vI minute), (2, vR 11), (3, vI changeCost), (4, vI minutes)] [] M _ from ?_)
  refine s_blx (lv' := [(5, vI 0), (0, vR 69), (1, vI minute), (2, vR 11), (3, vI changeCost), (4, vI minutes)]) (st' := [vR 69]) B41_0_4 rfl ?_
  refine r_gfix (r := 71) (pc' := 7) D41_4 rfl gf_5_19_69 H.1 ?_
  refine s_blx (lv' := [(5, vI 0), (0, vR 69), (1, vI minute), (2, vR 11), (3, vI changeCost), (4, vI minutes)]) (st' := [vI minute, vR 71]) B41_7_8 rfl ?_
  refine r_ldc (e := 1073741824) (pc' := 10) D41_8 rfl ci_5_29 (by decide) ?_
  refine r_iast (pc' := 11) D41_10 rfl sc_71 H (by omega) (by unfold inR; omega) trivial ?_
  intro M1 u2 H3 p4
  have f5 := f0.wr u2 rfl
  have k10 := u2
  have kp0 := p4
  refine s_blx (lv' := [(5, vI 0), (0, vR 69), (1, vI minute), (2, vR 11), (3, vI changeCost), (4, vI minutes)]) (st' := [vR 69]) B41_11_12 rfl ?_
  refine r_gfix (r := 72) (pc' := 15) D41_12 rfl gf_5_22_69 H3.1 ?_
  refine s_blx (lv' := [(5, vI 0), (0, vR 69), (1, vI minute), (2, vR 11), (3, vI changeCost), (4, vI minutes)]) (st' := [vI 1, vI minute, vR 72]) B41_15_17 rfl ?_
  refine r_iast (pc' := 18) D41_17 rfl sc_72 H3 (by omega) (by unfold inR; omega) (show 0 ≤ 1 ∧ 1 ≤ 60 by omega) ?_
  intro M6 u7 H8 p9
  have f10 := f5.wr u7 rfl
  have k15 := u7
  refine s_blx (lv' := [(6, vI 1), (5, vI 0), (0, vR 69), (1, vI minute), (2, vR 11), (3, vI changeCost), (4, vI minutes)]) (st' := []) B41_18_21 rfl ?_
  refine r_loc (lv' := [(0, vR 69), (1, vI minute), (2, vR 11), (3, vI changeCost), (4, vI minutes), (5, vI 0), (6, vI 1)]) ⟨rfl, rfl, rfl, rfl, rfl, rfl, rfl, trivial⟩ rfl rfl ?_
  have g11 : gi M6 71 minute = 1073741824 := (u7.gi_ne (by omega) (Or.inl (by decide))).trans (p4)
  have g12 : gi M6 72 minute = 1 := p9
  exact (L_k41_69_11g E hd H minute changeCost minutes h0 h1 h2 h3 h4 (((61 - 1) * 1 + 0 : Int) + 1).toNat) 0 1 M6 H8 f10 (rfl) (by omega) (by omega) (by omega) (fun _ => by rw [k15.gi_ne (by omega) (Or.inl (by decide))]; exact kp0) (fun h => absurd h (by decide)) (fun j a b => ⟨by rw [k15.gi_ne (by omega) (Or.inl (by decide)), k10.gi_ne (by omega) (Or.inr b)], by rw [k15.gi_ne (by omega) (Or.inr b), k10.gi_ne (by omega) (Or.inl (by decide))]⟩) (by omega) (by omega) (by omega) (by omega) (by omega)
set_option maxRecDepth 4000 in
theorem L_k40_69_11g {base : Nat} {X : Nat → Option mC} {G : Nat → Value} (E : EnvOK base X G) {d : Nat} (hd : 1 ≤ d) {M : mH} (H : HI base M) (changeCost : Int) (minutes : Int) (h0 : 0 ≤ changeCost ∧ changeCost ≤ 1000) (h1 : 1 ≤ minutes ∧ minutes ≤ 120) : ∀ mz : Nat, (∀ (x4 : Int) (N : mH), HI base N → Fr [(69, 2), (70, 0), (71, 0), (72, 0)] M N → (∀ j : Int, x4 < j → j < minutes → 0 ≤ gi N 71 j ∧ gi N 71 j ≤ 2000 * (minutes - j)) → (RBX (gi M 11) (gi N 71) (gi N 72) changeCost minutes (x4 + 1)) → (-1 ≤ x4 ∧ x4 < minutes) → ((-1) ≤ x4) → (x4 ≤ 119) → (x4 + 1) * 1 + 121 < (mz : Int) → sRn base X G d T40 12 [(0, vR 69), (1, vR 11), (2, vI changeCost), (3, vI minutes), (4, vI x4)] [] N (s_Q base (pI (fun v M' => HI base M' ∧ Fr [(69, 2), (70, 0), (71, 0), (72, 0)] M M' ∧ (-2147483648 ≤ v ∧ v ≤ 2147483647) ∧ (RLX (gi M 11) changeCost minutes (v, gi M' 69 1, gi M' 70)) ∧ (0 ≤ gi M' 69 1 ∧ gi M' 69 1 ≤ 119))))) ∧ (∀ (x4 x5 : Int) (N : mH), HI base N → Fr [(69, 2), (70, 0), (71, 0), (72, 0)] M N → (RBX (gi M 11) (gi N 71) (gi N 72) changeCost minutes 0) → (gi N 69 1 = x5) → (CHs (gi N 72) minutes x5 x4 (gi N 70)) → (x5 + 1 ≤ x4) → (0 ≤ x5 ∧ x5 ≤ 119) → (1 ≤ x4 ∧ x4 ≤ 180) → (0 ≤ x4) → (x4 ≤ 179) → (0 ≤ x5) → (x5 ≤ 120) → (120 - x5) * 1 + 0 < (mz : Int) → sRn base X G d T40 48 [(0, vR 69), (3, vI minutes), (4, vI x4), (5, vI x5)] [] N (s_Q base (pI (fun v M' => HI base M' ∧ Fr [(69, 2), (70, 0), (71, 0), (72, 0)] M M' ∧ (-2147483648 ≤ v ∧ v ≤ 2147483647) ∧ (RLX (gi M 11) changeCost minutes (v, gi M' 69 1, gi M' 70)) ∧ (0 ≤ gi M' 69 1 ∧ gi M' 69 1 ≤ 119))))) := by
  have f0 : Fr [(69, 2), (70, 0), (71, 0), (72, 0)] M M := Fr.rf
  intro mz
  induction mz with
  | zero => exact ⟨fun x4 N _ _ z0 z1 z2 z3 z4 z5 => by omega, fun x4 x5 N _ _ z0 z1 z2 z3 z4 z5 z6 z7 z8 z9 z10 => by omega⟩
  | succ mz ih =>
    refine ⟨?_, ?_⟩
    · intro x4 N HN fN i0 i1 i2 i3 i4 hmu
      refine s_blx (lv' := [(0, vR 69), (1, vR 11), (2, vI changeCost), (3, vI minutes), (4, vI x4)]) (st' := [vI x4]) B40_12_14 rfl ?_
      refine r_ifc (tgt := 32) (pc' := 17) D40_14 rfl rfl (by unfold inR; omega) (fun (c6 : x4 < 0) => ?_) (fun (c6 : ¬ (x4 < 0)) => ?_)
      · refine s_blx (lv' := [(0, vR 69), (1, vR 11), (2, vI changeCost), (3, vI minutes), (4, vI x4)]) (st' := [vI 0, vR 69]) B40_32_34 rfl ?_
        refine r_pint (ki := 1) (pc' := 37) D40_34 rfl pf_5_15_69 rfl HN (by unfold inR; omega) (show (-1) ≤ 0 ∧ 0 ≤ 120 by omega) ?_
        intro M7 u8 H9 p10
        have f11 := fN.wr u8 rfl
        have kz := u8
        refine s_blx (lv' := [(0, vR 69), (1, vR 11), (2, vI changeCost), (3, vI minutes), (4, vI x4)]) (st' := [vR 69]) B40_37_38 rfl ?_
        refine r_gfix (r := 72) (pc' := 41) D40_38 rfl gf_5_22_69 H9.1 ?_
        refine s_blx (lv' := [(0, vR 69), (1, vR 11), (2, vI changeCost), (3, vI minutes), (4, vI x4)]) (st' := [vI 0, vR 72]) B40_41_42 rfl ?_
        refine r_iald (pc' := 43) D40_42 rfl sc_72 H9.1 (by omega) ?_
        intro w12 e13 r14
        have b_w12 := H9.2 72 (0) 0 60 rfl
        rw [← e13] at b_w12; clear r14
        have kw0 := e13
        have kz0 : gi M7 72 0 = gi N 72 0 := kz.gi_ne (by decide) (Or.inl (by decide))
        have kS0 := (i1 0 (by omega) (by omega)).1
        have kt0 := tmx_b (n := minutes) (m := 0) (by omega)
        refine s_blx (lv' := [(5, vI 0), (4, vI w12), (0, vR 69), (1, vR 11), (2, vI changeCost), (3, vI minutes)]) (st' := []) B40_43_48 rfl ?_
        refine r_loc (lv' := [(0, vR 69), (3, vI minutes), (4, vI w12), (5, vI 0)]) ⟨rfl, rfl, rfl, rfl, trivial⟩ rfl rfl ?_
        have g15 : gi M7 69 1 = 0 := p10
        exact ih.2 w12 0 M7 H9 f11 (fun j a b => (i1 j (by omega) b).of (fun i x y => (kz.gi_ne (by decide) (Or.inl (by decide))).symm) (kz.gi_ne (by decide) (Or.inl (by decide))) (kz.gi_ne (by decide) (Or.inl (by decide)))) (by omega) (by rw [kw0]; exact CHs.first) (by omega) (by omega) (by omega) (by omega) (by omega) (by omega) (by omega) (by omega)
      · refine s_blx (lv' := [(0, vR 69), (1, vR 11), (2, vI changeCost), (3, vI minutes), (4, vI x4)]) (st' := [vI minutes, vI changeCost, vR 11, vI x4, vR 69]) B40_17_23 rfl ?_
        refine r_vV (c := 69) (args := [vI x4, vR 11, vI changeCost, vI minutes]) (rest := []) (pc' := 26) D40_23 rfl ck_5_virtual_25 TE41 rfl (Nat.le_of_ble_eq_true rfl) ⟨Nat.le_of_ble_eq_true rfl, Nat.le_of_ble_eq_true rfl⟩ sc_69 ⟨rfl, by decide⟩ HN.1 (dp_0 hd rfl) (k41_69_11g E (dp_n hd rfl) HN x4 changeCost minutes (by omega) (by omega) (by omega) (by omega) (i0)) ?_
        intro M17 q23
        obtain ⟨H18, f19, q20, q21, q22⟩ := q23
        have f24 := fN.tr (f19.up rfl)
        have kba := q20
        have kbd := q21; clear q21
        have kfr := q22; clear q22
        rw [show gi N 11 = gi M 11 from funext fun i => fN.g rfl] at kba
        refine s_blx (lv' := [(4, vI (x4 + (-1))), (0, vR 69), (1, vR 11), (2, vI changeCost), (3, vI minutes)]) (st' := []) B40_26_29 rfl ?_
        refine r_goto (tgt := 12) D40_29 rfl ?_
        refine r_loc (lv' := [(0, vR 69), (1, vR 11), (2, vI changeCost), (3, vI minutes), (4, vI (x4 + (-1)))]) ⟨rfl, rfl, rfl, rfl, rfl, trivial⟩ rfl rfl ?_
        exact ih.1 (x4 + (-1)) M17 H18 f24 (fun j a b => if e : j = x4 then (by rw [e]; exact kbd) else (by rw [(kfr j (by omega) e).1]; exact i0 j (by omega) b)) (fun j a b => if e : j = x4 then (by rw [e]; exact kba.of (fun i x y => (kfr i (by omega) (by omega)).1.symm) rfl rfl) else ((i1 j (by omega) b).of (fun i x y => (kfr i (by omega) (by omega)).1.symm) (kfr j (by omega) e).1 (kfr j (by omega) e).2)) (by omega) (by omega) (by omega) (by omega)
    · intro x4 x5 N HN fN i0 i1 i2 i3 i4 i5 i6 i7 i8 i9 hmu
      refine s_blx (lv' := [(0, vR 69), (3, vI minutes), (4, vI x4), (5, vI x5)]) (st' := [vI 120, vI x5]) B40_48_52 rfl ?_
      refine r_icmp (tgt := 100) (pc' := 55) D40_52 rfl rfl (by unfold inR; omega) (fun (c25 : 120 ≤ x5) => ?_) (fun (c25 : ¬ (120 ≤ x5)) => ?_)
      · exfalso; omega
      · refine s_blx (lv' := [(0, vR 69), (3, vI minutes), (4, vI x4), (5, vI x5)]) (st' := [vI minutes, vI x4]) B40_55_58 rfl ?_
        refine r_icmp (tgt := 100) (pc' := 61) D40_58 rfl rfl (by unfold inR; omega) (fun (c26 : minutes ≤ x4) => ?_) (fun (c26 : ¬ (minutes ≤ x4)) => ?_)
        · refine s_blx (lv' := [(0, vR 69), (3, vI minutes), (4, vI x4), (5, vI x5)]) (st' := [vR 69]) B40_100_101 rfl ?_
          refine r_gfix (r := 71) (pc' := 104) D40_101 rfl gf_5_19_69 HN.1 ?_
          refine s_blx (lv' := [(0, vR 69), (3, vI minutes), (4, vI x4), (5, vI x5)]) (st' := [vI 0, vR 71]) B40_104_105 rfl ?_
          refine r_iald (pc' := 106) D40_105 rfl sc_71 HN.1 (by omega) ?_
          intro w27 e28 r29
          unfold inR at r29
          have kv := e28
          exact r_iretI D40_106 rfl (⟨HN, fN, by omega, ⟨gi N 71, gi N 72, x4, i0, kv, (show CHs (gi N 72) minutes (gi N 69 1) x4 (gi N 70) by rw [i1]; exact i2), by omega⟩, by omega⟩)
        · refine s_blx (lv' := [(0, vR 69), (3, vI minutes), (4, vI x4), (5, vI x5)]) (st' := [vR 69]) B40_61_62 rfl ?_
          refine r_gfix (r := 70) (pc' := 65) D40_62 rfl gf_5_9_69 HN.1 ?_
          refine s_blx (lv' := [(0, vR 69), (3, vI minutes), (4, vI x4), (5, vI x5)]) (st' := [vR 69, vR 70]) B40_65_66 rfl ?_
          refine r_gint (ki := 1) (pc' := 69) D40_66 rfl gf_5_15_69 rfl HN.1 ?_
          intro w30 e31 r32
          have b_w30 := HN.2 69 (1) (-1) 120 rfl
          rw [← e31] at b_w30; clear r32
          refine s_blx (lv' := [(0, vR 69), (3, vI minutes), (4, vI x4), (5, vI x5)]) (st' := [vI x4, vI w30, vR 70]) B40_69_71 rfl ?_
          refine r_iast (pc' := 72) D40_71 rfl sc_70 HN (by omega) (by unfold inR; omega) trivial ?_
          intro M33 u34 H35 p36
          have f37 := fN.wr u34 rfl
          have ku1 := kuw (j := x5) u34 (by omega)
          have kp1 : gi M33 70 x5 = x4 := (congrArg (gi M33 70) (by omega : x5 = _)).trans p36
          refine s_blx (lv' := [(0, vR 69), (3, vI minutes), (4, vI x4), (5, vI x5)]) (st' := [vR 69, vR 69]) B40_72_74 rfl ?_
          refine r_gint (ki := 1) (pc' := 77) D40_74 rfl gf_5_15_69 rfl H35.1 ?_
          intro w38 e39 r40
          have e41 : w30 = w38 := (e39.trans ((u34.gi_ne (by omega) (Or.inl (by decide))).trans (e31.symm))).symm
          subst e41
          refine s_blx (lv' := [(0, vR 69), (3, vI minutes), (4, vI x4), (5, vI x5)]) (st' := [vI (w30 + 1), vR 69]) B40_77_79 rfl ?_
          refine r_pint (ki := 1) (pc' := 82) D40_79 rfl pf_5_15_69 rfl H35 (by unfold inR; omega) (show (-1) ≤ (w30 + 1) ∧ (w30 + 1) ≤ 120 by omega) ?_
          intro M42 u43 H44 p45
          have f46 := f37.wr u43 rfl
          have ku2 := u43
          have kfr : ∀ i : Int, gi M42 71 i = gi N 71 i ∧ gi M42 72 i = gi N 72 i := fun i => ⟨by rw [ku2.gi_ne (by decide) (Or.inl (by decide)), ku1.gi_ne (by omega) (Or.inl (by decide))], by rw [ku2.gi_ne (by decide) (Or.inl (by decide)), ku1.gi_ne (by omega) (Or.inl (by decide))]⟩
          refine s_blx (lv' := [(0, vR 69), (3, vI minutes), (4, vI x4), (5, vI x5)]) (st' := [vR 69, vI x4]) B40_82_85 rfl ?_
          refine r_gfix (r := 72) (pc' := 88) D40_85 rfl gf_5_22_69 H44.1 ?_
          refine s_blx (lv' := [(0, vR 69), (3, vI minutes), (4, vI x4), (5, vI x5)]) (st' := [vI x4, vR 72, vI x4]) B40_88_90 rfl ?_
          refine r_iald (pc' := 91) D40_90 rfl sc_72 H44.1 (by omega) ?_
          intro w47 e48 r49
          have b_w47 := H44.2 72 (x4) 0 60 rfl
          rw [← e48] at b_w47; clear r49
          have kw := e48.trans (kfr x4).2
          have kS := (i0 x4 (by omega) (by omega)).1
          have kt := tmx_b (n := minutes) (m := x4) (by omega)
          have kCH : CHs (gi M42 72) minutes (x5 + 1) (x4 + w47) (gi M42 70) := by rw [show gi M42 72 = gi N 72 from funext fun i => (kfr i).2]; exact i2.next (fun i a b => by rw [ku2.gi_ne (by decide) (Or.inl (by decide)), ku1.gi_ne (by omega) (Or.inr (by omega))]) (by rw [ku2.gi_ne (by decide) (Or.inl (by decide))]; exact kp1) ⟨by omega, by omega⟩ (by rw [kw])
          refine s_blx (lv' := [(5, vI (x5 + 1)), (4, vI (x4 + w47)), (0, vR 69), (3, vI minutes)]) (st' := []) B40_91_97 rfl ?_
          refine r_goto (tgt := 48) D40_97 rfl ?_
          refine r_loc (lv' := [(0, vR 69), (3, vI minutes), (4, vI (x4 + w47)), (5, vI (x5 + 1))]) ⟨rfl, rfl, rfl, rfl, trivial⟩ rfl rfl ?_
          have g50 : gi M42 69 1 = w30 + 1 := p45
          exact ih.2 (x4 + w47) (x5 + 1) M42 H44 f46 (fun j a b => (i0 j a b).of (fun i x y => (kfr i).1.symm) (kfr j).1 (kfr j).2) (by omega) (kCH) (by omega) (by omega) (by omega) (by omega) (by omega) (by omega) (by omega) (by omega)
set_option maxRecDepth 4000 in
theorem k40_69_11g {base : Nat} {X : Nat → Option mC} {G : Nat → Value} (E : EnvOK base X G) {d : Nat} (hd : 1 ≤ d) {M : mH} (H : HI base M) (changeCost : Int) (minutes : Int) (h0 : 0 ≤ changeCost ∧ changeCost ≤ 1000) (h1 : 1 ≤ minutes ∧ minutes ≤ 120) : sOk base X G d T40 [vR 69, vR 11, vI changeCost, vI minutes] M (pI (fun v M' => HI base M' ∧ Fr [(69, 2), (70, 0), (71, 0), (72, 0)] M M' ∧ (-2147483648 ≤ v ∧ v ≤ 2147483647) ∧ (RLX (gi M 11) changeCost minutes (v, gi M' 69 1, gi M' 70)) ∧ (0 ≤ gi M' 69 1 ∧ gi M' 69 1 ≤ 119))) := by
  have f0 : Fr [(69, 2), (70, 0), (71, 0), (72, 0)] M M := Fr.rf
  refine sOk.of (show sRn base X G d T40 0 [(0, vR 69), (1, vR 11), (2, vI changeCost), (3, vI minutes)] [] M _ from ?_)
  refine s_blx (lv' := [(0, vR 69), (1, vR 11), (2, vI changeCost), (3, vI minutes)]) (st' := [vR 69]) B40_0_1 rfl ?_
  refine r_gfix (r := 71) (pc' := 4) D40_1 rfl gf_5_19_69 H.1 ?_
  refine s_blx (lv' := [(0, vR 69), (1, vR 11), (2, vI changeCost), (3, vI minutes)]) (st' := [vI 0, vI minutes, vR 71]) B40_4_6 rfl ?_
  refine r_iast (pc' := 7) D40_6 rfl sc_71 H (by omega) (by unfold inR; omega) trivial ?_
  intro M1 u2 H3 p4
  have f5 := f0.wr u2 rfl
  refine s_blx (lv' := [(4, vI (minutes - 1)), (0, vR 69), (1, vR 11), (2, vI changeCost), (3, vI minutes)]) (st' := []) B40_7_12 rfl ?_
  refine r_loc (lv' := [(0, vR 69), (1, vR 11), (2, vI changeCost), (3, vI minutes), (4, vI (minutes - 1))]) ⟨rfl, rfl, rfl, rfl, rfl, trivial⟩ rfl rfl ?_
  exact (L_k40_69_11g E hd H changeCost minutes h0 h1 ((((minutes - 1) + 1) * 1 + 121 : Int) + 1).toNat).1 (minutes - 1) M1 H3 f5 (fun j a b => by omega) (fun j a b => by omega) (by omega) (by omega) (by omega) (by omega)
set_option maxRecDepth 4000 in
theorem k123g {base : Nat} {X : Nat → Option mC} {G : Nat → Value} (E : EnvOK base X G) {d : Nat} (hd : 2 ≤ d) {M : mH} (H : HI base M) (minutes : Int) (h0 : -2147483648 ≤ minutes ∧ minutes ≤ 2147483647) : sOk base X G d T123 [vR 0, vI minutes] M (pI (fun v M' => HI base M' ∧ Fr [(69, 2), (70, 0), (71, 0), (72, 0)] M M' ∧ (-2147483648 ≤ v ∧ v ≤ 2147483647) ∧ (1 ≤ minutes ∧ minutes ≤ 120 → RLX (gi M 11) (gi M 3 8) minutes (v, gi M' 69 1, gi M' 70)) ∧ (minutes < 1 ∨ 120 < minutes → v = -1 ∧ gi M' 69 1 = gi M 69 1 ∧ ∀ i : Int, gi M' 70 i = gi M 70 i) ∧ (gi M 69 1 ≤ 119 → -1 ≤ gi M 69 1 → gi M' 69 1 ≤ 119 ∧ -1 ≤ gi M' 69 1))) := by
  have f0 : Fr [(69, 2), (70, 0), (71, 0), (72, 0)] M M := Fr.rf
  refine sOk.of (show sRn base X G d T123 0 [(0, vR 0), (1, vI minutes)] [] M _ from ?_)
  refine s_blx (lv' := [(0, vR 0), (1, vI minutes)]) (st' := [vI 120, vI 1, vI minutes]) B123_0_4 rfl ?_
  refine r_sIp (args := [vI minutes, vI 1, vI 120]) (rest := []) (pc' := 7) D123_4 rfl ck_10_static_102 TE142 rfl (Nat.le_of_ble_eq_true rfl) ⟨Nat.le_of_ble_eq_true rfl, Nat.le_of_ble_eq_true rfl⟩ (by decide) (dp_0 hd rfl) (k142 E (dp_n hd rfl) H minutes 1 120 (by omega) (by omega) (by omega)) ?_
  intro v1 q6
  obtain ⟨q3, q4, q5⟩ := q6
  refine r_ifc (tgt := 38) (pc' := 10) D123_7 rfl rfl (by unfold inR; omega) (fun (c7 : v1 = 0) => ?_) (fun (c7 : ¬ (v1 = 0)) => ?_)
  · refine s_blx (lv' := [(0, vR 0), (1, vI minutes)]) (st' := [vI (-1)]) B123_38_39 rfl ?_
    exact r_iretI D123_39 rfl (⟨H, f0, by omega, by first | exact fun _ => krl | exact fun h => by exfalso; omega, by first | exact fun h => ⟨by omega, rfl, fun _ => rfl⟩ | exact fun h => by exfalso; omega, by first | exact fun _ _ => ⟨kbn.2, by omega⟩ | exact fun a b => ⟨a, b⟩⟩)
  · refine s_blx (lv' := [(0, vR 0), (1, vI minutes)]) (st' := [vR 0]) B123_10_11 rfl ?_
    refine r_gfix (r := 69) (pc' := 14) D123_11 rfl gf_10_87_0 H.1 ?_
    refine s_blx (lv' := [(0, vR 0), (1, vI minutes)]) (st' := [vR 0, vR 69]) B123_14_15 rfl ?_
    refine r_gfix (r := 1) (pc' := 18) D123_15 rfl gf_10_10_0 H.1 ?_
    refine r_gfix (r := 11) (pc' := 21) D123_18 rfl gf_10_297_1 H.1 ?_
    refine s_blx (lv' := [(0, vR 0), (1, vI minutes)]) (st' := [vR 0, vR 11, vR 69]) B123_21_22 rfl ?_
    refine r_gfix (r := 1) (pc' := 25) D123_22 rfl gf_10_10_0 H.1 ?_
    refine r_gfix (r := 3) (pc' := 28) D123_25 rfl gf_10_129_1 H.1 ?_
    refine s_blx (lv' := [(0, vR 0), (1, vI minutes)]) (st' := [vI 8, vR 3, vR 11, vR 69]) B123_28_30 rfl ?_
    refine r_iald (pc' := 31) D123_30 rfl sc_3 H.1 (by omega) ?_
    intro w8 e9 r10
    have b_w8 := H.2 3 (8) 0 1000 rfl
    rw [← e9] at b_w8; clear r10
    have kch := e9
    refine s_blx (lv' := [(0, vR 0), (1, vI minutes)]) (st' := [vI minutes, vI w8, vR 11, vR 69]) B123_31_32 rfl ?_
    refine r_vI (c := 69) (args := [vR 11, vI w8, vI minutes]) (rest := []) (pc' := 35) D123_32 rfl ck_10_virtual_300 TE40 rfl (Nat.le_of_ble_eq_true rfl) ⟨Nat.le_of_ble_eq_true rfl, Nat.le_of_ble_eq_true rfl⟩ sc_69 ⟨rfl, by decide⟩ H.1 (dp_0 hd rfl) (k40_69_11g E (dp_n hd rfl) H w8 minutes (by omega) (by omega)) ?_
    intro v11 M12 q18
    obtain ⟨H13, f14, q15, q16, q17⟩ := q18
    have f19 := f0.tr (f14.up rfl)
    have krl := q16
    rw [kch] at krl
    have kbn := q17; clear q17
    refine r_goto (tgt := 39) D123_35 rfl ?_
    exact r_iretI D123_39 rfl (⟨H13, f19, by omega, by first | exact fun _ => krl | exact fun h => by exfalso; omega, by first | exact fun h => ⟨by omega, rfl, fun _ => rfl⟩ | exact fun h => by exfalso; omega, by first | exact fun _ _ => ⟨kbn.2, by omega⟩ | exact fun a b => ⟨a, b⟩⟩)
set_option maxRecDepth 4000 in
theorem L_k257g {base : Nat} {X : Nat → Option mC} {G : Nat → Value} (E : EnvOK base X G) {d : Nat} (hd : 1 ≤ d) {M : mH} (H : HI base M) (minutes : Int) (K : Int → Int) (h0 : KK K M) (h1 : -2147483648 ≤ minutes ∧ minutes ≤ 2147483647) : ∀ mz : Nat, (∀ (x2 : Int) (N : mH), HI base N → Fr [(77, 56), (105, 0), (106, 0), (107, 0)] M N → (∀ j : Int, x2 < j → j < minutes → 0 ≤ gi N 105 j ∧ gi N 105 j ≤ 2000 * (minutes - j)) → (RBX (uK K) (gi N 105) (gi N 106) (K 98) minutes (x2 + 1)) → (-1 ≤ x2 ∧ x2 ≤ 119) → (x2 < minutes) → ((-1) ≤ x2) → (x2 ≤ 119) → (1 ≤ minutes) → (minutes ≤ 120) → (x2 + 1) * 62 + 242 < (mz : Int) → sRn base X G d T257 23 [(0, vR 77), (1, vI minutes), (2, vI x2)] [] N (s_Q base (pI (fun v M' => HI base M' ∧ Fr [(77, 56), (105, 0), (106, 0), (107, 0)] M M' ∧ (1 ≤ minutes ∧ minutes ≤ 120 → RLX (uK K) (K 98) minutes (v, gi M' 77 55, gi M' 107)) ∧ (minutes < 1 ∨ 120 < minutes → v = -1 ∧ gi M' 77 55 = gi M 77 55 ∧ ∀ i : Int, gi M' 107 i = gi M 107 i))))) ∧ (∀ (x2 x3 x4 : Int) (N : mH), HI base N → Fr [(77, 56), (105, 0), (106, 0), (107, 0)] M N → (0 ≤ x2 ∧ x2 ≤ 119) → (x2 < minutes) → (1 ≤ x4 ∧ x4 ≤ 61) → (x4 - 1 ≤ minutes - x2) → (x3 = puF (uK K) (x4 - 1).toNat) → (0 ≤ x3 ∧ x3 ≤ 1000 * (x4 - 1)) → (x4 = 1 → gi N 106 x2 = 0) → (2 ≤ x4 → BA (uK K) (gi N 105) (K 98) minutes x2 (x4 - 1) (gi N 105 x2) (gi N 106 x2)) → (∀ j : Int, x2 < j → j < minutes → 0 ≤ gi N 105 j ∧ gi N 105 j ≤ 2000 * (minutes - j)) → (RBX (uK K) (gi N 105) (gi N 106) (K 98) minutes (x2 + 1)) → (0 ≤ x2) → (x2 ≤ 119) → (0 ≤ x3) → (x3 ≤ 61000) → (1 ≤ x4) → (x4 ≤ 61) → (1 ≤ minutes) → (minutes ≤ 120) → (x2 + 1) * 62 + 181 + (61 - x4) * 1 + 0 < (mz : Int) → sRn base X G d T257 39 [(0, vR 77), (1, vI minutes), (2, vI x2), (3, vI x3), (4, vI x4)] [] N (s_Q base (pI (fun v M' => HI base M' ∧ Fr [(77, 56), (105, 0), (106, 0), (107, 0)] M M' ∧ (1 ≤ minutes ∧ minutes ≤ 120 → RLX (uK K) (K 98) minutes (v, gi M' 77 55, gi M' 107)) ∧ (minutes < 1 ∨ 120 < minutes → v = -1 ∧ gi M' 77 55 = gi M 77 55 ∧ ∀ i : Int, gi M' 107 i = gi M 107 i))))) ∧ (∀ (x2 : Int) (N : mH), HI base N → Fr [(77, 56), (105, 0), (106, 0), (107, 0)] M N → (RBX (uK K) (gi N 105) (gi N 106) (K 98) minutes 0) → (CHs (gi N 106) minutes (gi N 77 55) x2 (gi N 107)) → (gi N 77 55 + 1 ≤ x2 ∧ 0 ≤ gi N 77 55) → (1 ≤ x2 ∧ x2 ≤ 180) → (0 ≤ x2) → (x2 ≤ 179) → (1 ≤ minutes) → (minutes ≤ 120) → (180 - x2) * 1 + 0 < (mz : Int) → sRn base X G d T257 165 [(0, vR 77), (1, vI minutes), (2, vI x2)] [] N (s_Q base (pI (fun v M' => HI base M' ∧ Fr [(77, 56), (105, 0), (106, 0), (107, 0)] M M' ∧ (1 ≤ minutes ∧ minutes ≤ 120 → RLX (uK K) (K 98) minutes (v, gi M' 77 55, gi M' 107)) ∧ (minutes < 1 ∨ 120 < minutes → v = -1 ∧ gi M' 77 55 = gi M 77 55 ∧ ∀ i : Int, gi M' 107 i = gi M 107 i))))) := by
  have f0 : Fr [(77, 56), (105, 0), (106, 0), (107, 0)] M M := Fr.rf
  intro mz
  induction mz with
  | zero => exact ⟨fun x2 N _ _ z0 z1 z2 z3 z4 z5 z6 z7 z8 => by omega, fun x2 x3 x4 N _ _ z0 z1 z2 z3 z4 z5 z6 z7 z8 z9 z10 z11 z12 z13 z14 z15 z16 z17 z18 => by omega, fun x2 N _ _ z0 z1 z2 z3 z4 z5 z6 z7 z8 => by omega⟩
  | succ mz ih =>
    refine ⟨?_, ?_, ?_⟩
    · intro x2 N HN fN i0 i1 i2 i3 i4 i5 i6 i7 hmu
      refine s_blx (lv' := [(0, vR 77), (1, vI minutes), (2, vI x2)]) (st' := [vI x2]) B257_23_24 rfl ?_
      refine r_ifc (tgt := 153) (pc' := 27) D257_24 rfl rfl (by unfold inR; omega) (fun (c13 : x2 < 0) => ?_) (fun (c13 : ¬ (x2 < 0)) => ?_)
      · refine s_blx (lv' := [(0, vR 77), (1, vI minutes), (2, vI x2)]) (st' := [vI 0, vR 77]) B257_153_155 rfl ?_
        refine r_pint (ki := 55) (pc' := 158) D257_155 rfl pf_11_111_77 rfl HN (by unfold inR; omega) (show (-1) ≤ 0 ∧ 0 ≤ 120 by omega) ?_
        intro M14 u15 H16 p17
        have f18 := fN.wr u15 rfl
        have kz := u15
        have kzp := p17
        refine s_blx (lv' := [(0, vR 77), (1, vI minutes), (2, vI x2)]) (st' := [vR 77]) B257_158_159 rfl ?_
        refine r_gfix (r := 106) (pc' := 162) D257_159 rfl gf_11_105_77 H16.1 ?_
        refine s_blx (lv' := [(0, vR 77), (1, vI minutes), (2, vI x2)]) (st' := [vI 0, vR 106]) B257_162_163 rfl ?_
        refine r_iald (pc' := 164) D257_163 rfl sc_106 H16.1 (by omega) ?_
        intro w19 e20 r21
        have b_w19 := H16.2 106 (0) 0 60 rfl
        rw [← e20] at b_w19; clear r21
        have kw0 := e20
        have kz0 : gi M14 106 0 = gi N 106 0 := kz.gi_ne (by decide) (Or.inl (by decide))
        have kS0 := (i1 0 (by omega) (by omega)).1
        have kt0 := tmx_b (n := minutes) (m := 0) (by omega)
        refine s_blx (lv' := [(2, vI w19), (0, vR 77), (1, vI minutes)]) (st' := []) B257_164_165 rfl ?_
        refine r_loc (lv' := [(0, vR 77), (1, vI minutes), (2, vI w19)]) ⟨rfl, rfl, rfl, trivial⟩ rfl rfl ?_
        have g22 : gi M14 77 55 = 0 := p17
        exact ih.2.2 w19 M14 H16 f18 (fun j a b => (i1 j (by omega) b).of (fun i x y => (kz.gi_ne (by decide) (Or.inl (by decide))).symm) (kz.gi_ne (by decide) (Or.inl (by decide))) (kz.gi_ne (by decide) (Or.inl (by decide)))) (by rw [kw0, kzp]; exact CHs.first) (by omega) (by omega) (by omega) (by omega) (by omega) (by omega) (by omega)
      · refine s_blx (lv' := [(3, vI 0), (0, vR 77), (1, vI minutes), (2, vI x2)]) (st' := [vR 77]) B257_27_30 rfl ?_
        refine r_gfix (r := 106) (pc' := 33) D257_30 rfl gf_11_105_77 HN.1 ?_
        refine s_blx (lv' := [(3, vI 0), (0, vR 77), (1, vI minutes), (2, vI x2)]) (st' := [vI 0, vI x2, vR 106]) B257_33_35 rfl ?_
        refine r_iast (pc' := 36) D257_35 rfl sc_106 HN (by omega) (by unfold inR; omega) (show 0 ≤ 0 ∧ 0 ≤ 60 by omega) ?_
        intro M23 u24 H25 p26
        have f27 := fN.wr u24 rfl
        have k35 := u24
        have kp0 := p26
        refine s_blx (lv' := [(4, vI 1), (3, vI 0), (0, vR 77), (1, vI minutes), (2, vI x2)]) (st' := []) B257_36_39 rfl ?_
        refine r_loc (lv' := [(0, vR 77), (1, vI minutes), (2, vI x2), (3, vI 0), (4, vI 1)]) ⟨rfl, rfl, rfl, rfl, rfl, trivial⟩ rfl rfl ?_
        have g28 : gi M23 106 x2 = 0 := p26
        have g29 : gi M23 105 x2 = gi N 105 x2 := (u24.gi_ne (by omega) (Or.inl (by decide))).trans (rfl)
        exact ih.2.1 x2 0 1 M23 H25 f27 (by omega) (by omega) (by omega) (by omega) (rfl) (by omega) (fun _ => kp0) (fun h => absurd h (by decide)) (fun j a b => by rw [k35.gi_ne (by omega) (Or.inl (by decide))]; exact i0 j a b) (fun j a b => (i1 j a b).of (fun i x y => (k35.gi_ne (by omega) (Or.inl (by decide))).symm) (k35.gi_ne (by omega) (Or.inl (by decide))) (k35.gi_ne (by omega) (Or.inr (by omega)))) (by omega) (by omega) (by omega) (by omega) (by omega) (by omega) (by omega) (by omega) (by omega)
    · intro x2 x3 x4 N HN fN i0 i1 i2 i3 i4 i5 i6 i7 i8 i9 i10 i11 i12 i13 i14 i15 i16 i17 hmu
      refine s_blx (lv' := [(0, vR 77), (1, vI minutes), (2, vI x2), (3, vI x3), (4, vI x4)]) (st' := [vI 60, vI x4]) B257_39_43 rfl ?_
      refine r_icmp (tgt := 147) (pc' := 46) D257_43 rfl rfl (by unfold inR; omega) (fun (c55 : 60 < x4) => ?_) (fun (c55 : ¬ (60 < x4)) => ?_)
      · refine s_blx (lv' := [(2, vI (x2 + (-1))), (0, vR 77), (1, vI minutes), (3, vI x3), (4, vI x4)]) (st' := []) B257_147_150 rfl ?_
        have kuk := uK_b h0 H
        have kba : BA (uK K) (gi N 105) (K 98) minutes x2 (tmx minutes x2) (gi N 105 x2) (gi N 106 x2) := by have e : tmx minutes x2 = x4 - 1 := (by unfold tmx; split <;> omega); rw [e]; exact i7 (by omega)
        have kbd := kba.bd kuk (by have q := H.2 78 98 0 1000 (rk_term (by omega)); rw [h0 98] at q; exact q) i8 (by omega) (tmx_b (by omega)).1 (tmx_b (by omega)).2.2
        refine r_goto (tgt := 23) D257_150 rfl ?_
        refine r_loc (lv' := [(0, vR 77), (1, vI minutes), (2, vI (x2 + (-1)))]) ⟨rfl, rfl, rfl, trivial⟩ rfl rfl ?_
        exact ih.1 (x2 + (-1)) N HN fN (fun j a b => if e : j = x2 then (by rw [e]; exact kbd) else i8 j (by omega) b) (fun j a b => if e : j = x2 then (by rw [e]; exact kba) else i9 j (by omega) b) (by omega) (by omega) (by omega) (by omega) (by omega) (by omega) (by omega)
      · refine s_blx (lv' := [(0, vR 77), (1, vI minutes), (2, vI x2), (3, vI x3), (4, vI x4)]) (st' := [vI minutes, vI (x2 + x4)]) B257_46_51 rfl ?_
        refine r_icmp (tgt := 147) (pc' := 54) D257_51 rfl rfl (by unfold inR; omega) (fun (c56 : minutes < (x2 + x4)) => ?_) (fun (c56 : ¬ (minutes < (x2 + x4))) => ?_)
        · refine s_blx (lv' := [(2, vI (x2 + (-1))), (0, vR 77), (1, vI minutes), (3, vI x3), (4, vI x4)]) (st' := []) B257_147_150 rfl ?_
          have kuk := uK_b h0 H
          have kba : BA (uK K) (gi N 105) (K 98) minutes x2 (tmx minutes x2) (gi N 105 x2) (gi N 106 x2) := by have e : tmx minutes x2 = x4 - 1 := (by unfold tmx; split <;> omega); rw [e]; exact i7 (by omega)
          have kbd := kba.bd kuk (by have q := H.2 78 98 0 1000 (rk_term (by omega)); rw [h0 98] at q; exact q) i8 (by omega) (tmx_b (by omega)).1 (tmx_b (by omega)).2.2
          refine r_goto (tgt := 23) D257_150 rfl ?_
          refine r_loc (lv' := [(0, vR 77), (1, vI minutes), (2, vI (x2 + (-1)))]) ⟨rfl, rfl, rfl, trivial⟩ rfl rfl ?_
          exact ih.1 (x2 + (-1)) N HN fN (fun j a b => if e : j = x2 then (by rw [e]; exact kbd) else i8 j (by omega) b) (fun j a b => if e : j = x2 then (by rw [e]; exact kba) else i9 j (by omega) b) (by omega) (by omega) (by omega) (by omega) (by omega) (by omega) (by omega)
        · refine s_blx (lv' := [(0, vR 77), (1, vI minutes), (2, vI x2), (3, vI x3), (4, vI x4)]) (st' := [vR 77, vI x3]) B257_54_56 rfl ?_
          refine r_gfix (r := 78) (pc' := 59) D257_56 rfl gf_11_13_77 HN.1 ?_
          refine s_blx (lv' := [(0, vR 77), (1, vI minutes), (2, vI x2), (3, vI x3), (4, vI x4)]) (st' := [vI ((409 + x4) - 1), vR 78, vI x3]) B257_59_67 rfl ?_
          refine r_iald (pc' := 68) D257_67 rfl sc_78 HN.1 (by omega) ?_
          intro w57 e58 r59
          have kk_w57 := ((h0.fr fN rfl)) ((409 + x4) - 1)
          have b_w57 := HN.2 78 ((409 + x4) - 1) 0 1000 (rk_tired (by omega))
          rw [← e58] at b_w57; clear r59
          have kw : w57 = uK K (x4 - 1) := by have q := e58.trans (((h0.fr fN rfl)) _); rw [q]; unfold uK; congr 1; omega
          refine s_blx (lv' := [(3, vI (x3 + w57)), (0, vR 77), (1, vI minutes), (2, vI x2), (4, vI x4)]) (st' := [vI minutes, vI (x2 + x4), vI (x3 + w57)]) B257_68_76 rfl ?_
          refine r_icmp (tgt := 98) (pc' := 79) D257_76 rfl rfl (by unfold inR; omega) (fun (c60 : minutes ≤ (x2 + x4)) => ?_) (fun (c60 : ¬ (minutes ≤ (x2 + x4))) => ?_)
          · refine s_blx (lv' := [(5, vI ((x3 + w57) + 0)), (3, vI (x3 + w57)), (0, vR 77), (1, vI minutes), (2, vI x2), (4, vI x4)]) (st' := [vR 77]) B257_98_103 rfl ?_
            refine r_gfix (r := 106) (pc' := 106) D257_103 rfl gf_11_105_77 HN.1 ?_
            refine s_blx (lv' := [(5, vI ((x3 + w57) + 0)), (3, vI (x3 + w57)), (0, vR 77), (1, vI minutes), (2, vI x2), (4, vI x4)]) (st' := [vI x2, vR 106]) B257_106_107 rfl ?_
            refine r_iald (pc' := 108) D257_107 rfl sc_106 HN.1 (by omega) ?_
            intro w61 e62 r63
            have b_w61 := HN.2 106 (x2) 0 60 rfl
            rw [← e62] at b_w61; clear r63
            have kc : ((x3 + w57) + 0) = csR (uK K) (gi N 105) (K 98) minutes x2 x4 := cs_mk (by omega) i4 kw (fun h => by omega) (fun h => by omega)
            refine r_ifc (tgt := 125) (pc' := 111) D257_108 rfl rfl (by unfold inR; omega) (fun (c64 : w61 ≤ 0) => ?_) (fun (c64 : ¬ (w61 ≤ 0)) => ?_)
            · refine s_blx (lv' := [(5, vI ((x3 + w57) + 0)), (3, vI (x3 + w57)), (0, vR 77), (1, vI minutes), (2, vI x2), (4, vI x4)]) (st' := [vR 77]) B257_125_126 rfl ?_
              refine r_gfix (r := 105) (pc' := 129) D257_126 rfl gf_11_102_77 HN.1 ?_
              refine s_blx (lv' := [(5, vI ((x3 + w57) + 0)), (3, vI (x3 + w57)), (0, vR 77), (1, vI minutes), (2, vI x2), (4, vI x4)]) (st' := [vI ((x3 + w57) + 0), vI x2, vR 105]) B257_129_132 rfl ?_
              refine r_iast (pc' := 133) D257_132 rfl sc_105 HN (by omega) (by unfold inR; omega) trivial ?_
              intro M65 u66 H67 p68
              have f69 := fN.wr u66 rfl
              have ku1 := u66
              have kp1 := p68
              refine s_blx (lv' := [(5, vI ((x3 + w57) + 0)), (3, vI (x3 + w57)), (0, vR 77), (1, vI minutes), (2, vI x2), (4, vI x4)]) (st' := [vR 77]) B257_133_134 rfl ?_
              refine r_gfix (r := 106) (pc' := 137) D257_134 rfl gf_11_105_77 H67.1 ?_
              refine s_blx (lv' := [(5, vI ((x3 + w57) + 0)), (3, vI (x3 + w57)), (0, vR 77), (1, vI minutes), (2, vI x2), (4, vI x4)]) (st' := [vI x4, vI x2, vR 106]) B257_137_140 rfl ?_
              refine r_iast (pc' := 141) D257_140 rfl sc_106 H67 (by omega) (by unfold inR; omega) (show 0 ≤ x4 ∧ x4 ≤ 60 by omega) ?_
              intro M70 u71 H72 p73
              have f74 := f69.wr u71 rfl
              have ku2 := u71
              have kp2 := p73
              refine s_blx (lv' := [(4, vI (x4 + 1)), (5, vI ((x3 + w57) + 0)), (3, vI (x3 + w57)), (0, vR 77), (1, vI minutes), (2, vI x2)]) (st' := []) B257_141_144 rfl ?_
              refine r_goto (tgt := 39) D257_144 rfl ?_
              refine r_loc (lv' := [(0, vR 77), (1, vI minutes), (2, vI x2), (3, vI (x3 + w57)), (4, vI (x4 + 1))]) ⟨rfl, rfl, rfl, rfl, rfl, trivial⟩ rfl rfl ?_
              have g75 : gi M70 106 x2 = x4 := p73
              have g76 : gi M70 105 x2 = (x3 + w57) + 0 := (u71.gi_ne (by omega) (Or.inl (by decide))).trans (p68)
              exact ih.2.1 x2 (x3 + w57) (x4 + 1) M70 H72 f74 (by omega) (by omega) (by omega) (by omega) (by rw [show x4 + 1 - 1 = (x4 - 1) + 1 by omega, puF_step (by omega), ← i4, ← kw]) (by omega) (fun h => by omega) (by first | exact fun _ => by rw [show x4 + 1 - 1 = x4 by omega]; exact (BA.take (G := gi N 105) i7 (by omega) kc (fun h => by have q := (i7 h).1; omega)).of (fun i x y => (by rw [ku2.gi_ne (by omega) (Or.inl (by decide)), ku1.gi_ne (by omega) (Or.inr (by omega))])) (by rw [ku2.gi_ne (by omega) (Or.inl (by decide))]; exact kp1) kp2 | exact fun _ => by rw [show x4 + 1 - 1 = x4 by omega]; exact BA.pass (i7 (by omega)) kc (by omega)) (by first | exact fun j a b => by rw [ku2.gi_ne (by omega) (Or.inl (by decide)), ku1.gi_ne (by omega) (Or.inr (by omega))]; exact i8 j a b | exact i8) (by first | exact fun j a b => (i9 j a b).of (fun i x y => (by rw [ku2.gi_ne (by omega) (Or.inl (by decide)), ku1.gi_ne (by omega) (Or.inr (by omega))])) (by rw [ku2.gi_ne (by omega) (Or.inl (by decide)), ku1.gi_ne (by omega) (Or.inr (by omega))]) (by rw [ku2.gi_ne (by omega) (Or.inr (by omega)), ku1.gi_ne (by omega) (Or.inl (by decide))]) | exact i9) (by omega) (by omega) (by omega) (by omega) (by omega) (by omega) (by omega) (by omega) (by omega)
            · refine s_blx (lv' := [(5, vI ((x3 + w57) + 0)), (3, vI (x3 + w57)), (0, vR 77), (1, vI minutes), (2, vI x2), (4, vI x4)]) (st' := [vR 77, vI ((x3 + w57) + 0)]) B257_111_114 rfl ?_
              refine r_gfix (r := 105) (pc' := 117) D257_114 rfl gf_11_102_77 HN.1 ?_
              refine s_blx (lv' := [(5, vI ((x3 + w57) + 0)), (3, vI (x3 + w57)), (0, vR 77), (1, vI minutes), (2, vI x2), (4, vI x4)]) (st' := [vI x2, vR 105, vI ((x3 + w57) + 0)]) B257_117_118 rfl ?_
              refine r_iald (pc' := 119) D257_118 rfl sc_105 HN.1 (by omega) ?_
              intro w77 e78 r79
              unfold inR at r79
              refine r_icmp (tgt := 125) (pc' := 122) D257_119 rfl rfl (by unfold inR; omega) (fun (c80 : ((x3 + w57) + 0) ≤ w77) => ?_) (fun (c80 : ¬ (((x3 + w57) + 0) ≤ w77)) => ?_)
              · refine s_blx (lv' := [(5, vI ((x3 + w57) + 0)), (3, vI (x3 + w57)), (0, vR 77), (1, vI minutes), (2, vI x2), (4, vI x4)]) (st' := [vR 77]) B257_125_126 rfl ?_
                refine r_gfix (r := 105) (pc' := 129) D257_126 rfl gf_11_102_77 HN.1 ?_
                refine s_blx (lv' := [(5, vI ((x3 + w57) + 0)), (3, vI (x3 + w57)), (0, vR 77), (1, vI minutes), (2, vI x2), (4, vI x4)]) (st' := [vI ((x3 + w57) + 0), vI x2, vR 105]) B257_129_132 rfl ?_
                refine r_iast (pc' := 133) D257_132 rfl sc_105 HN (by omega) (by unfold inR; omega) trivial ?_
                intro M81 u82 H83 p84
                have f85 := fN.wr u82 rfl
                have ku1 := u82
                have kp1 := p84
                refine s_blx (lv' := [(5, vI ((x3 + w57) + 0)), (3, vI (x3 + w57)), (0, vR 77), (1, vI minutes), (2, vI x2), (4, vI x4)]) (st' := [vR 77]) B257_133_134 rfl ?_
                refine r_gfix (r := 106) (pc' := 137) D257_134 rfl gf_11_105_77 H83.1 ?_
                refine s_blx (lv' := [(5, vI ((x3 + w57) + 0)), (3, vI (x3 + w57)), (0, vR 77), (1, vI minutes), (2, vI x2), (4, vI x4)]) (st' := [vI x4, vI x2, vR 106]) B257_137_140 rfl ?_
                refine r_iast (pc' := 141) D257_140 rfl sc_106 H83 (by omega) (by unfold inR; omega) (show 0 ≤ x4 ∧ x4 ≤ 60 by omega) ?_
                intro M86 u87 H88 p89
                have f90 := f85.wr u87 rfl
                have ku2 := u87
                have kp2 := p89
                refine s_blx (lv' := [(4, vI (x4 + 1)), (5, vI ((x3 + w57) + 0)), (3, vI (x3 + w57)), (0, vR 77), (1, vI minutes), (2, vI x2)]) (st' := []) B257_141_144 rfl ?_
                refine r_goto (tgt := 39) D257_144 rfl ?_
                refine r_loc (lv' := [(0, vR 77), (1, vI minutes), (2, vI x2), (3, vI (x3 + w57)), (4, vI (x4 + 1))]) ⟨rfl, rfl, rfl, rfl, rfl, trivial⟩ rfl rfl ?_
                have g91 : gi M86 106 x2 = x4 := p89
                have g92 : gi M86 105 x2 = (x3 + w57) + 0 := (u87.gi_ne (by omega) (Or.inl (by decide))).trans (p84)
                exact ih.2.1 x2 (x3 + w57) (x4 + 1) M86 H88 f90 (by omega) (by omega) (by omega) (by omega) (by rw [show x4 + 1 - 1 = (x4 - 1) + 1 by omega, puF_step (by omega), ← i4, ← kw]) (by omega) (fun h => by omega) (by first | exact fun _ => by rw [show x4 + 1 - 1 = x4 by omega]; exact (BA.take (G := gi N 105) i7 (by omega) kc (fun h => by have q := (i7 h).1; omega)).of (fun i x y => (by rw [ku2.gi_ne (by omega) (Or.inl (by decide)), ku1.gi_ne (by omega) (Or.inr (by omega))])) (by rw [ku2.gi_ne (by omega) (Or.inl (by decide))]; exact kp1) kp2 | exact fun _ => by rw [show x4 + 1 - 1 = x4 by omega]; exact BA.pass (i7 (by omega)) kc (by omega)) (by first | exact fun j a b => by rw [ku2.gi_ne (by omega) (Or.inl (by decide)), ku1.gi_ne (by omega) (Or.inr (by omega))]; exact i8 j a b | exact i8) (by first | exact fun j a b => (i9 j a b).of (fun i x y => (by rw [ku2.gi_ne (by omega) (Or.inl (by decide)), ku1.gi_ne (by omega) (Or.inr (by omega))])) (by rw [ku2.gi_ne (by omega) (Or.inl (by decide)), ku1.gi_ne (by omega) (Or.inr (by omega))]) (by rw [ku2.gi_ne (by omega) (Or.inr (by omega)), ku1.gi_ne (by omega) (Or.inl (by decide))]) | exact i9) (by omega) (by omega) (by omega) (by omega) (by omega) (by omega) (by omega) (by omega) (by omega)
              · refine r_goto (tgt := 141) D257_122 rfl ?_
                refine s_blx (lv' := [(4, vI (x4 + 1)), (5, vI ((x3 + w57) + 0)), (3, vI (x3 + w57)), (0, vR 77), (1, vI minutes), (2, vI x2)]) (st' := []) B257_141_144 rfl ?_
                refine r_goto (tgt := 39) D257_144 rfl ?_
                refine r_loc (lv' := [(0, vR 77), (1, vI minutes), (2, vI x2), (3, vI (x3 + w57)), (4, vI (x4 + 1))]) ⟨rfl, rfl, rfl, rfl, rfl, trivial⟩ rfl rfl ?_
                exact ih.2.1 x2 (x3 + w57) (x4 + 1) N HN fN (by omega) (by omega) (by omega) (by omega) (by rw [show x4 + 1 - 1 = (x4 - 1) + 1 by omega, puF_step (by omega), ← i4, ← kw]) (by omega) (fun h => by omega) (by first | exact fun _ => by rw [show x4 + 1 - 1 = x4 by omega]; exact (BA.take (G := gi N 105) i7 (by omega) kc (fun h => by have q := (i7 h).1; omega)).of (fun i x y => (by rw [ku2.gi_ne (by omega) (Or.inl (by decide)), ku1.gi_ne (by omega) (Or.inr (by omega))])) (by rw [ku2.gi_ne (by omega) (Or.inl (by decide))]; exact kp1) kp2 | exact fun _ => by rw [show x4 + 1 - 1 = x4 by omega]; exact BA.pass (i7 (by omega)) kc (by omega)) (by first | exact fun j a b => by rw [ku2.gi_ne (by omega) (Or.inl (by decide)), ku1.gi_ne (by omega) (Or.inr (by omega))]; exact i8 j a b | exact i8) (by first | exact fun j a b => (i9 j a b).of (fun i x y => (by rw [ku2.gi_ne (by omega) (Or.inl (by decide)), ku1.gi_ne (by omega) (Or.inr (by omega))])) (by rw [ku2.gi_ne (by omega) (Or.inl (by decide)), ku1.gi_ne (by omega) (Or.inr (by omega))]) (by rw [ku2.gi_ne (by omega) (Or.inr (by omega)), ku1.gi_ne (by omega) (Or.inl (by decide))]) | exact i9) (by omega) (by omega) (by omega) (by omega) (by omega) (by omega) (by omega) (by omega) (by omega)
          · refine s_blx (lv' := [(3, vI (x3 + w57)), (0, vR 77), (1, vI minutes), (2, vI x2), (4, vI x4)]) (st' := [vI 8, vR 77, vI (x3 + w57)]) B257_79_82 rfl ?_
            refine r_vIp (c := 77) (args := [vI 8]) (rest := [vI (x3 + w57)]) (pc' := 85) D257_82 rfl ck_11_virtual_141 TE153 rfl (Nat.le_of_ble_eq_true rfl) ⟨Nat.le_of_ble_eq_true rfl, Nat.le_of_ble_eq_true rfl⟩ sc_77 ⟨rfl, by decide⟩ HN.1 (dp_0 hd rfl) (k153n E (dp_n hd rfl) HN 8 (by omega)) ?_
            intro v93 q97
            obtain ⟨q95, q96⟩ := q97
            have kt8 : v93 = K 98 := by have q := ((h0.fr fN rfl)) 98; rw [q96]; exact q
            refine s_blx (lv' := [(3, vI (x3 + w57)), (0, vR 77), (1, vI minutes), (2, vI x2), (4, vI x4)]) (st' := [vR 77, vI v93, vI (x3 + w57)]) B257_85_86 rfl ?_
            refine r_gfix (r := 105) (pc' := 89) D257_86 rfl gf_11_102_77 HN.1 ?_
            refine s_blx (lv' := [(3, vI (x3 + w57)), (0, vR 77), (1, vI minutes), (2, vI x2), (4, vI x4)]) (st' := [vI (x2 + x4), vR 105, vI v93, vI (x3 + w57)]) B257_89_93 rfl ?_
            refine r_iald (pc' := 94) D257_93 rfl sc_105 HN.1 (by omega) ?_
            intro w98 e99 r100
            unfold inR at r100
            have kh := i8 (x2 + x4) (by omega) (by omega)
            refine s_blx (lv' := [(3, vI (x3 + w57)), (0, vR 77), (1, vI minutes), (2, vI x2), (4, vI x4)]) (st' := [vI (v93 + w98), vI (x3 + w57)]) B257_94_95 rfl ?_
            refine r_goto (tgt := 99) D257_95 rfl ?_
            refine s_blx (lv' := [(5, vI ((x3 + w57) + (v93 + w98))), (3, vI (x3 + w57)), (0, vR 77), (1, vI minutes), (2, vI x2), (4, vI x4)]) (st' := [vR 77]) B257_99_103 rfl ?_
            refine r_gfix (r := 106) (pc' := 106) D257_103 rfl gf_11_105_77 HN.1 ?_
            refine s_blx (lv' := [(5, vI ((x3 + w57) + (v93 + w98))), (3, vI (x3 + w57)), (0, vR 77), (1, vI minutes), (2, vI x2), (4, vI x4)]) (st' := [vI x2, vR 106]) B257_106_107 rfl ?_
            refine r_iald (pc' := 108) D257_107 rfl sc_106 HN.1 (by omega) ?_
            intro w101 e102 r103
            have b_w101 := HN.2 106 (x2) 0 60 rfl
            rw [← e102] at b_w101; clear r103
            have kc : ((x3 + w57) + (v93 + w98)) = csR (uK K) (gi N 105) (K 98) minutes x2 x4 := cs_mk (by omega) i4 kw (fun h => by omega) (fun h => by omega)
            refine r_ifc (tgt := 125) (pc' := 111) D257_108 rfl rfl (by unfold inR; omega) (fun (c104 : w101 ≤ 0) => ?_) (fun (c104 : ¬ (w101 ≤ 0)) => ?_)
            · refine s_blx (lv' := [(5, vI ((x3 + w57) + (v93 + w98))), (3, vI (x3 + w57)), (0, vR 77), (1, vI minutes), (2, vI x2), (4, vI x4)]) (st' := [vR 77]) B257_125_126 rfl ?_
              refine r_gfix (r := 105) (pc' := 129) D257_126 rfl gf_11_102_77 HN.1 ?_
              refine s_blx (lv' := [(5, vI ((x3 + w57) + (v93 + w98))), (3, vI (x3 + w57)), (0, vR 77), (1, vI minutes), (2, vI x2), (4, vI x4)]) (st' := [vI ((x3 + w57) + (v93 + w98)), vI x2, vR 105]) B257_129_132 rfl ?_
              refine r_iast (pc' := 133) D257_132 rfl sc_105 HN (by omega) (by unfold inR; omega) trivial ?_
              intro M105 u106 H107 p108
              have f109 := fN.wr u106 rfl
              have ku1 := u106
              have kp1 := p108
              refine s_blx (lv' := [(5, vI ((x3 + w57) + (v93 + w98))), (3, vI (x3 + w57)), (0, vR 77), (1, vI minutes), (2, vI x2), (4, vI x4)]) (st' := [vR 77]) B257_133_134 rfl ?_
              refine r_gfix (r := 106) (pc' := 137) D257_134 rfl gf_11_105_77 H107.1 ?_
              refine s_blx (lv' := [(5, vI ((x3 + w57) + (v93 + w98))), (3, vI (x3 + w57)), (0, vR 77), (1, vI minutes), (2, vI x2), (4, vI x4)]) (st' := [vI x4, vI x2, vR 106]) B257_137_140 rfl ?_
              refine r_iast (pc' := 141) D257_140 rfl sc_106 H107 (by omega) (by unfold inR; omega) (show 0 ≤ x4 ∧ x4 ≤ 60 by omega) ?_
              intro M110 u111 H112 p113
              have f114 := f109.wr u111 rfl
              have ku2 := u111
              have kp2 := p113
              refine s_blx (lv' := [(4, vI (x4 + 1)), (5, vI ((x3 + w57) + (v93 + w98))), (3, vI (x3 + w57)), (0, vR 77), (1, vI minutes), (2, vI x2)]) (st' := []) B257_141_144 rfl ?_
              refine r_goto (tgt := 39) D257_144 rfl ?_
              refine r_loc (lv' := [(0, vR 77), (1, vI minutes), (2, vI x2), (3, vI (x3 + w57)), (4, vI (x4 + 1))]) ⟨rfl, rfl, rfl, rfl, rfl, trivial⟩ rfl rfl ?_
              have g115 : gi M110 106 x2 = x4 := p113
              have g116 : gi M110 105 x2 = (x3 + w57) + (v93 + w98) := (u111.gi_ne (by omega) (Or.inl (by decide))).trans (p108)
              exact ih.2.1 x2 (x3 + w57) (x4 + 1) M110 H112 f114 (by omega) (by omega) (by omega) (by omega) (by rw [show x4 + 1 - 1 = (x4 - 1) + 1 by omega, puF_step (by omega), ← i4, ← kw]) (by omega) (fun h => by omega) (by first | exact fun _ => by rw [show x4 + 1 - 1 = x4 by omega]; exact (BA.take (G := gi N 105) i7 (by omega) kc (fun h => by have q := (i7 h).1; omega)).of (fun i x y => (by rw [ku2.gi_ne (by omega) (Or.inl (by decide)), ku1.gi_ne (by omega) (Or.inr (by omega))])) (by rw [ku2.gi_ne (by omega) (Or.inl (by decide))]; exact kp1) kp2 | exact fun _ => by rw [show x4 + 1 - 1 = x4 by omega]; exact BA.pass (i7 (by omega)) kc (by omega)) (by first | exact fun j a b => by rw [ku2.gi_ne (by omega) (Or.inl (by decide)), ku1.gi_ne (by omega) (Or.inr (by omega))]; exact i8 j a b | exact i8) (by first | exact fun j a b => (i9 j a b).of (fun i x y => (by rw [ku2.gi_ne (by omega) (Or.inl (by decide)), ku1.gi_ne (by omega) (Or.inr (by omega))])) (by rw [ku2.gi_ne (by omega) (Or.inl (by decide)), ku1.gi_ne (by omega) (Or.inr (by omega))]) (by rw [ku2.gi_ne (by omega) (Or.inr (by omega)), ku1.gi_ne (by omega) (Or.inl (by decide))]) | exact i9) (by omega) (by omega) (by omega) (by omega) (by omega) (by omega) (by omega) (by omega) (by omega)
            · refine s_blx (lv' := [(5, vI ((x3 + w57) + (v93 + w98))), (3, vI (x3 + w57)), (0, vR 77), (1, vI minutes), (2, vI x2), (4, vI x4)]) (st' := [vR 77, vI ((x3 + w57) + (v93 + w98))]) B257_111_114 rfl ?_
              refine r_gfix (r := 105) (pc' := 117) D257_114 rfl gf_11_102_77 HN.1 ?_
              refine s_blx (lv' := [(5, vI ((x3 + w57) + (v93 + w98))), (3, vI (x3 + w57)), (0, vR 77), (1, vI minutes), (2, vI x2), (4, vI x4)]) (st' := [vI x2, vR 105, vI ((x3 + w57) + (v93 + w98))]) B257_117_118 rfl ?_
              refine r_iald (pc' := 119) D257_118 rfl sc_105 HN.1 (by omega) ?_
              intro w117 e118 r119
              unfold inR at r119
              refine r_icmp (tgt := 125) (pc' := 122) D257_119 rfl rfl (by unfold inR; omega) (fun (c120 : ((x3 + w57) + (v93 + w98)) ≤ w117) => ?_) (fun (c120 : ¬ (((x3 + w57) + (v93 + w98)) ≤ w117)) => ?_)
              · refine s_blx (lv' := [(5, vI ((x3 + w57) + (v93 + w98))), (3, vI (x3 + w57)), (0, vR 77), (1, vI minutes), (2, vI x2), (4, vI x4)]) (st' := [vR 77]) B257_125_126 rfl ?_
                refine r_gfix (r := 105) (pc' := 129) D257_126 rfl gf_11_102_77 HN.1 ?_
                refine s_blx (lv' := [(5, vI ((x3 + w57) + (v93 + w98))), (3, vI (x3 + w57)), (0, vR 77), (1, vI minutes), (2, vI x2), (4, vI x4)]) (st' := [vI ((x3 + w57) + (v93 + w98)), vI x2, vR 105]) B257_129_132 rfl ?_
                refine r_iast (pc' := 133) D257_132 rfl sc_105 HN (by omega) (by unfold inR; omega) trivial ?_
                intro M121 u122 H123 p124
                have f125 := fN.wr u122 rfl
                have ku1 := u122
                have kp1 := p124
                refine s_blx (lv' := [(5, vI ((x3 + w57) + (v93 + w98))), (3, vI (x3 + w57)), (0, vR 77), (1, vI minutes), (2, vI x2), (4, vI x4)]) (st' := [vR 77]) B257_133_134 rfl ?_
                refine r_gfix (r := 106) (pc' := 137) D257_134 rfl gf_11_105_77 H123.1 ?_
                refine s_blx (lv' := [(5, vI ((x3 + w57) + (v93 + w98))), (3, vI (x3 + w57)), (0, vR 77), (1, vI minutes), (2, vI x2), (4, vI x4)]) (st' := [vI x4, vI x2, vR 106]) B257_137_140 rfl ?_
                refine r_iast (pc' := 141) D257_140 rfl sc_106 H123 (by omega) (by unfold inR; omega) (show 0 ≤ x4 ∧ x4 ≤ 60 by omega) ?_
                intro M126 u127 H128 p129
                have f130 := f125.wr u127 rfl
                have ku2 := u127
                have kp2 := p129
                refine s_blx (lv' := [(4, vI (x4 + 1)), (5, vI ((x3 + w57) + (v93 + w98))), (3, vI (x3 + w57)), (0, vR 77), (1, vI minutes), (2, vI x2)]) (st' := []) B257_141_144 rfl ?_
                refine r_goto (tgt := 39) D257_144 rfl ?_
                refine r_loc (lv' := [(0, vR 77), (1, vI minutes), (2, vI x2), (3, vI (x3 + w57)), (4, vI (x4 + 1))]) ⟨rfl, rfl, rfl, rfl, rfl, trivial⟩ rfl rfl ?_
                have g131 : gi M126 106 x2 = x4 := p129
                have g132 : gi M126 105 x2 = (x3 + w57) + (v93 + w98) := (u127.gi_ne (by omega) (Or.inl (by decide))).trans (p124)
                exact ih.2.1 x2 (x3 + w57) (x4 + 1) M126 H128 f130 (by omega) (by omega) (by omega) (by omega) (by rw [show x4 + 1 - 1 = (x4 - 1) + 1 by omega, puF_step (by omega), ← i4, ← kw]) (by omega) (fun h => by omega) (by first | exact fun _ => by rw [show x4 + 1 - 1 = x4 by omega]; exact (BA.take (G := gi N 105) i7 (by omega) kc (fun h => by have q := (i7 h).1; omega)).of (fun i x y => (by rw [ku2.gi_ne (by omega) (Or.inl (by decide)), ku1.gi_ne (by omega) (Or.inr (by omega))])) (by rw [ku2.gi_ne (by omega) (Or.inl (by decide))]; exact kp1) kp2 | exact fun _ => by rw [show x4 + 1 - 1 = x4 by omega]; exact BA.pass (i7 (by omega)) kc (by omega)) (by first | exact fun j a b => by rw [ku2.gi_ne (by omega) (Or.inl (by decide)), ku1.gi_ne (by omega) (Or.inr (by omega))]; exact i8 j a b | exact i8) (by first | exact fun j a b => (i9 j a b).of (fun i x y => (by rw [ku2.gi_ne (by omega) (Or.inl (by decide)), ku1.gi_ne (by omega) (Or.inr (by omega))])) (by rw [ku2.gi_ne (by omega) (Or.inl (by decide)), ku1.gi_ne (by omega) (Or.inr (by omega))]) (by rw [ku2.gi_ne (by omega) (Or.inr (by omega)), ku1.gi_ne (by omega) (Or.inl (by decide))]) | exact i9) (by omega) (by omega) (by omega) (by omega) (by omega) (by omega) (by omega) (by omega) (by omega)
              · refine r_goto (tgt := 141) D257_122 rfl ?_
                refine s_blx (lv' := [(4, vI (x4 + 1)), (5, vI ((x3 + w57) + (v93 + w98))), (3, vI (x3 + w57)), (0, vR 77), (1, vI minutes), (2, vI x2)]) (st' := []) B257_141_144 rfl ?_
                refine r_goto (tgt := 39) D257_144 rfl ?_
                refine r_loc (lv' := [(0, vR 77), (1, vI minutes), (2, vI x2), (3, vI (x3 + w57)), (4, vI (x4 + 1))]) ⟨rfl, rfl, rfl, rfl, rfl, trivial⟩ rfl rfl ?_
                exact ih.2.1 x2 (x3 + w57) (x4 + 1) N HN fN (by omega) (by omega) (by omega) (by omega) (by rw [show x4 + 1 - 1 = (x4 - 1) + 1 by omega, puF_step (by omega), ← i4, ← kw]) (by omega) (fun h => by omega) (by first | exact fun _ => by rw [show x4 + 1 - 1 = x4 by omega]; exact (BA.take (G := gi N 105) i7 (by omega) kc (fun h => by have q := (i7 h).1; omega)).of (fun i x y => (by rw [ku2.gi_ne (by omega) (Or.inl (by decide)), ku1.gi_ne (by omega) (Or.inr (by omega))])) (by rw [ku2.gi_ne (by omega) (Or.inl (by decide))]; exact kp1) kp2 | exact fun _ => by rw [show x4 + 1 - 1 = x4 by omega]; exact BA.pass (i7 (by omega)) kc (by omega)) (by first | exact fun j a b => by rw [ku2.gi_ne (by omega) (Or.inl (by decide)), ku1.gi_ne (by omega) (Or.inr (by omega))]; exact i8 j a b | exact i8) (by first | exact fun j a b => (i9 j a b).of (fun i x y => (by rw [ku2.gi_ne (by omega) (Or.inl (by decide)), ku1.gi_ne (by omega) (Or.inr (by omega))])) (by rw [ku2.gi_ne (by omega) (Or.inl (by decide)), ku1.gi_ne (by omega) (Or.inr (by omega))]) (by rw [ku2.gi_ne (by omega) (Or.inr (by omega)), ku1.gi_ne (by omega) (Or.inl (by decide))]) | exact i9) (by omega) (by omega) (by omega) (by omega) (by omega) (by omega) (by omega) (by omega) (by omega)
    · intro x2 N HN fN i0 i1 i2 i3 i4 i5 i6 i7 hmu
      refine s_blx (lv' := [(0, vR 77), (1, vI minutes), (2, vI x2)]) (st' := [vI minutes, vI x2]) B257_165_167 rfl ?_
      refine r_icmp (tgt := 202) (pc' := 170) D257_167 rfl rfl (by unfold inR; omega) (fun (c30 : minutes ≤ x2) => ?_) (fun (c30 : ¬ (minutes ≤ x2)) => ?_)
      · refine s_blx (lv' := [(0, vR 77), (1, vI minutes), (2, vI x2)]) (st' := [vR 77]) B257_202_203 rfl ?_
        refine r_gfix (r := 105) (pc' := 206) D257_203 rfl gf_11_102_77 HN.1 ?_
        refine s_blx (lv' := [(0, vR 77), (1, vI minutes), (2, vI x2)]) (st' := [vI 0, vR 105]) B257_206_207 rfl ?_
        refine r_iald (pc' := 208) D257_207 rfl sc_105 HN.1 (by omega) ?_
        intro w31 e32 r33
        unfold inR at r33
        have kv := e32
        exact r_iretI D257_208 rfl (⟨HN, fN, fun _ => ⟨gi N 105, gi N 106, x2, i0, kv, i1, by omega⟩, fun h => by exfalso; omega⟩)
      · refine s_blx (lv' := [(0, vR 77), (1, vI minutes), (2, vI x2)]) (st' := [vR 77]) B257_170_171 rfl ?_
        refine r_gfix (r := 107) (pc' := 174) D257_171 rfl gf_11_108_77 HN.1 ?_
        refine s_blx (lv' := [(0, vR 77), (1, vI minutes), (2, vI x2)]) (st' := [vR 77, vR 107]) B257_174_175 rfl ?_
        refine r_gint (ki := 55) (pc' := 178) D257_175 rfl gf_11_111_77 rfl HN.1 ?_
        intro w34 e35 r36
        have b_w34 := HN.2 77 (55) (-1) 120 rfl
        rw [← e35] at b_w34; clear r36
        refine s_blx (lv' := [(0, vR 77), (1, vI minutes), (2, vI x2)]) (st' := [vI x2, vI w34, vR 107]) B257_178_179 rfl ?_
        refine r_iast (pc' := 180) D257_179 rfl sc_107 HN (by omega) (by unfold inR; omega) trivial ?_
        intro M37 u38 H39 p40
        have f41 := fN.wr u38 rfl
        have ku1 := kuw (j := gi N 77 55) u38 (by omega)
        have kp1 : gi M37 107 (gi N 77 55) = x2 := (congrArg (gi M37 107) (by omega : gi N 77 55 = _)).trans p40
        refine s_blx (lv' := [(0, vR 77), (1, vI minutes), (2, vI x2)]) (st' := [vR 77, vR 77]) B257_180_182 rfl ?_
        refine r_gint (ki := 55) (pc' := 185) D257_182 rfl gf_11_111_77 rfl H39.1 ?_
        intro w42 e43 r44
        have e45 : w34 = w42 := (e43.trans ((u38.gi_ne (by omega) (Or.inl (by decide))).trans (e35.symm))).symm
        subst e45
        refine s_blx (lv' := [(0, vR 77), (1, vI minutes), (2, vI x2)]) (st' := [vI (w34 + 1), vR 77]) B257_185_187 rfl ?_
        refine r_pint (ki := 55) (pc' := 190) D257_187 rfl pf_11_111_77 rfl H39 (by unfold inR; omega) (show (-1) ≤ (w34 + 1) ∧ (w34 + 1) ≤ 120 by omega) ?_
        intro M46 u47 H48 p49
        have f50 := f41.wr u47 rfl
        have ku2 := u47
        have kp2 := p49
        have kfr : ∀ i : Int, gi M46 105 i = gi N 105 i ∧ gi M46 106 i = gi N 106 i := fun i => ⟨by rw [ku2.gi_ne (by decide) (Or.inl (by decide)), ku1.gi_ne (by omega) (Or.inl (by decide))], by rw [ku2.gi_ne (by decide) (Or.inl (by decide)), ku1.gi_ne (by omega) (Or.inl (by decide))]⟩
        refine s_blx (lv' := [(0, vR 77), (1, vI minutes), (2, vI x2)]) (st' := [vR 77, vI x2]) B257_190_192 rfl ?_
        refine r_gfix (r := 106) (pc' := 195) D257_192 rfl gf_11_105_77 H48.1 ?_
        refine s_blx (lv' := [(0, vR 77), (1, vI minutes), (2, vI x2)]) (st' := [vI x2, vR 106, vI x2]) B257_195_196 rfl ?_
        refine r_iald (pc' := 197) D257_196 rfl sc_106 H48.1 (by omega) ?_
        intro w51 e52 r53
        have b_w51 := H48.2 106 (x2) 0 60 rfl
        rw [← e52] at b_w51; clear r53
        have kw := e52.trans (kfr x2).2
        have kS := (i0 x2 (by omega) (by omega)).1
        have kt := tmx_b (n := minutes) (m := x2) (by omega)
        have kCH : CHs (gi M46 106) minutes (gi M46 77 55) (x2 + w51) (gi M46 107) := by rw [show gi M46 106 = gi N 106 from funext fun i => (kfr i).2, show gi M46 77 55 = gi N 77 55 + 1 by omega]; exact i1.next (fun i a b => by rw [ku2.gi_ne (by decide) (Or.inl (by decide)), ku1.gi_ne (by omega) (Or.inr (by omega))]) (by rw [ku2.gi_ne (by decide) (Or.inl (by decide))]; exact kp1) ⟨by omega, by omega⟩ (by rw [kw])
        refine s_blx (lv' := [(2, vI (x2 + w51)), (0, vR 77), (1, vI minutes)]) (st' := []) B257_197_199 rfl ?_
        refine r_goto (tgt := 165) D257_199 rfl ?_
        refine r_loc (lv' := [(0, vR 77), (1, vI minutes), (2, vI (x2 + w51))]) ⟨rfl, rfl, rfl, trivial⟩ rfl rfl ?_
        have g54 : gi M46 77 55 = w34 + 1 := p49
        exact ih.2.2 (x2 + w51) M46 H48 f50 (fun j a b => (i0 j a b).of (fun i x y => (kfr i).1.symm) (kfr j).1 (kfr j).2) (kCH) (by omega) (by omega) (by omega) (by omega) (by omega) (by omega) (by omega)
set_option maxRecDepth 4000 in
theorem k257g {base : Nat} {X : Nat → Option mC} {G : Nat → Value} (E : EnvOK base X G) {d : Nat} (hd : 1 ≤ d) {M : mH} (H : HI base M) (minutes : Int) (K : Int → Int) (h0 : KK K M) (h1 : -2147483648 ≤ minutes ∧ minutes ≤ 2147483647) : sOk base X G d T257 [vR 77, vI minutes] M (pI (fun v M' => HI base M' ∧ Fr [(77, 56), (105, 0), (106, 0), (107, 0)] M M' ∧ (1 ≤ minutes ∧ minutes ≤ 120 → RLX (uK K) (K 98) minutes (v, gi M' 77 55, gi M' 107)) ∧ (minutes < 1 ∨ 120 < minutes → v = -1 ∧ gi M' 77 55 = gi M 77 55 ∧ ∀ i : Int, gi M' 107 i = gi M 107 i))) := by
  have f0 : Fr [(77, 56), (105, 0), (106, 0), (107, 0)] M M := Fr.rf
  refine sOk.of (show sRn base X G d T257 0 [(0, vR 77), (1, vI minutes)] [] M _ from ?_)
  refine s_blx (lv' := [(0, vR 77), (1, vI minutes)]) (st' := [vI 120, vI 1, vI minutes]) B257_0_4 rfl ?_
  refine r_sIp (args := [vI minutes, vI 1, vI 120]) (rest := []) (pc' := 7) D257_4 rfl ck_11_static_123 TE147 rfl (Nat.le_of_ble_eq_true rfl) ⟨Nat.le_of_ble_eq_true rfl, Nat.le_of_ble_eq_true rfl⟩ (by decide) (dp_0 hd rfl) (k147 E (dp_n hd rfl) H minutes 1 120 (by omega) (by omega) (by omega)) ?_
  intro v1 q6
  obtain ⟨q3, q4, q5⟩ := q6
  refine r_ifc (tgt := 12) (pc' := 10) D257_7 rfl rfl (by unfold inR; omega) (fun (c7 : v1 ≠ 0) => ?_) (fun (c7 : ¬ (v1 ≠ 0)) => ?_)
  · refine s_blx (lv' := [(0, vR 77), (1, vI minutes)]) (st' := [vR 77]) B257_12_13 rfl ?_
    refine r_gfix (r := 105) (pc' := 16) D257_13 rfl gf_11_102_77 H.1 ?_
    refine s_blx (lv' := [(0, vR 77), (1, vI minutes)]) (st' := [vI 0, vI minutes, vR 105]) B257_16_18 rfl ?_
    refine r_iast (pc' := 19) D257_18 rfl sc_105 H (by omega) (by unfold inR; omega) trivial ?_
    intro M8 u9 H10 p11
    have f12 := f0.wr u9 rfl
    refine s_blx (lv' := [(2, vI (minutes - 1)), (0, vR 77), (1, vI minutes)]) (st' := []) B257_19_23 rfl ?_
    refine r_loc (lv' := [(0, vR 77), (1, vI minutes), (2, vI (minutes - 1))]) ⟨rfl, rfl, rfl, trivial⟩ rfl rfl ?_
    exact (L_k257g E hd H minutes K h0 h1 ((((minutes - 1) + 1) * 62 + 242 : Int) + 1).toNat).1 (minutes - 1) M8 H10 f12 (fun j a b => by omega) (fun j a b => by omega) (by omega) (by omega) (by omega) (by omega) (by omega) (by omega) (by omega)
  · refine s_blx (lv' := [(0, vR 77), (1, vI minutes)]) (st' := [vI (-1)]) B257_10_11 rfl ?_
    exact r_iretI D257_11 rfl (⟨H, f0, fun h => by exfalso; omega, fun h => ⟨rfl, rfl, fun _ => rfl⟩⟩)
