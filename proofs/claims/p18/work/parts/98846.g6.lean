/-! fixed, odds, glossary, relieve by what is kept. -/
noncomputable def KB (K : Int → Int) : Prop := (0 ≤ K 474 ∧ K 474 ≤ 3) ∧ (0 ≤ K 469 ∧ K 469 ≤ 16) ∧ (∀ s : Int, 0 ≤ s → s < 16 → 0 ≤ K (135 + 16 * s) ∧ K (135 + 16 * s) ≤ 8)
theorem cS_KB {base : Nat} {M : mH} (H : HI base M) : KB (cS 1 M) := ⟨by rw [← cS_who]; exact H.2 1 5 0 3 rfl, by rw [← cS_many]; exact H.2 1 10 0 16 rfl, fun s a b => by rw [← cS_len ⟨a, b⟩]; exact H.2 6 s 0 8 rfl⟩
theorem rK_KB {base : Nat} {M : mH} (H : HI base M) : KB (gi M 78) := ⟨H.2 78 474 0 3 (rk_who (by omega)), H.2 78 469 0 16 (rk_many (by omega)), fun s _ _ => H.2 78 (135 + 16 * s) 0 8 (rk_len (by omega))⟩
section
variable {K K' : Int → Int}
theorem tmF_cong (e : ∀ j, dAs j → K j = K' j) {s w : Int} (hs : 0 ≤ s ∧ s < 16) : ∀ m : Nat, m ≤ 8 → tmF K s w m = tmF K' s w m := by
  intro m
  induction m with
  | zero => intro _; rfl
  | succ m ih =>
    intro hm
    show tmF K s w m + (if K (135 + 16 * s + 1 + (m : Int)) = w then 1 else 0) = tmF K' s w m + (if K' (135 + 16 * s + 1 + (m : Int)) = w then 1 else 0)
    rw [ih (by omega), e (135 + 16 * s + 1 + (m : Int)) (by unfold dAs; omega)]
theorem gsF_cong (e : ∀ j, dAs j → K j = K' j) (b : KB K) {w : Int} : ∀ m : Nat, m ≤ 16 → gsF K w m = gsF K' w m := by
  have e1 : K' 474 = K 474 := (e 474 (by unfold dAs; omega)).symm
  have b1 := b.1
  intro m
  induction m with
  | zero => intro _; rfl
  | succ m ih =>
    intro hm
    have l := b.2.2 (m : Int) (by omega) (by omega)
    have a1 : wgK K (m : Int) = wgK K' (m : Int) := by
      unfold wgK
      rw [e1]
      exact e _ (by unfold dAs; omega)
    show gsF K w m + wgK K (m : Int) * tmF K (m : Int) w (K (135 + 16 * (m : Int))).toNat = gsF K' w m + wgK K' (m : Int) * tmF K' (m : Int) w (K' (135 + 16 * (m : Int))).toNat
    rw [ih (by omega), a1, ← e (135 + 16 * (m : Int)) (by unfold dAs; omega), tmF_cong e ⟨by omega, by omega⟩ (K (135 + 16 * (m : Int))).toNat (by omega)]
theorem svF_cong (e : ∀ j, dAs j → K j = K' j) (b : KB K) {w : Int} (hw : 0 ≤ w ∧ w ≤ 29) : svF K w = svF K' w := by
  have b2 := b.2.1
  unfold svF
  rw [← e 469 (by unfold dAs; omega), ← e (60 + w) (by unfold dAs; omega), gsF_cong e b (K 469).toNat (by omega)]
theorem gF_cong (e : ∀ j, dAs j → K j = K' j) (b : KB K) : ∀ r : Nat, r ≤ 30 → ∀ t : Int, gF K r t = gF K' r t := by
  intro r
  induction r with
  | zero => intro _ t; rfl
  | succ r ih =>
    intro hr t
    have q := ih (by omega)
    have s := svF_cong e b (w := 29 - (r : Int)) (by omega)
    have l := e (30 + (29 - (r : Int))) (by unfold dAs; omega)
    show (if K (30 + (29 - (r : Int))) ≤ t ∧ (gF K r t).1 ≤ (gF K r (t - K (30 + (29 - (r : Int))))).1 + svF K (29 - (r : Int)) then ((gF K r (t - K (30 + (29 - (r : Int))))).1 + svF K (29 - (r : Int)), orI (gF K r (t - K (30 + (29 - (r : Int))))).2 (shI 1 (29 - (r : Int)))) else gF K r t) = (if K' (30 + (29 - (r : Int))) ≤ t ∧ (gF K' r t).1 ≤ (gF K' r (t - K' (30 + (29 - (r : Int))))).1 + svF K' (29 - (r : Int)) then ((gF K' r (t - K' (30 + (29 - (r : Int))))).1 + svF K' (29 - (r : Int)), orI (gF K' r (t - K' (30 + (29 - (r : Int))))).2 (shI 1 (29 - (r : Int)))) else gF K' r t)
    rw [q t, q (t - K (30 + (29 - (r : Int)))), s, l]
theorem glV_cong (e : ∀ j, dAs j → K j = K' j) (b : KB K) (minutes what : Int) : glV K minutes what = glV K' minutes what := by
  unfold glV
  rw [gF_cong e b 30 (Nat.le_refl _) minutes]
end
section
variable {u u' G : Int → Int} {ch n m t l s : Int}
theorem puF_cong (e : ∀ k : Int, 0 ≤ k → k < 60 → u k = u' k) : ∀ k : Nat, k ≤ 60 → puF u k = puF u' k := by
  intro k
  induction k with
  | zero => intro _; rfl
  | succ k ih =>
    intro h
    show puF u k + u (k : Int) = puF u' k + u' (k : Int)
    rw [ih (by omega), e (k : Int) (by omega) (by omega)]
theorem csR_cu (e : ∀ k : Int, 0 ≤ k → k < 60 → u k = u' k) {k : Int} (hk : k ≤ 60) : csR u G ch n m k = csR u' G ch n m k := by
  unfold csR
  rw [puF_cong e k.toNat (by omega)]
theorem BA.cu (e : ∀ k : Int, 0 ≤ k → k < 60 → u k = u' k) (h : BA u G ch n m t l s) (ht : t ≤ 60) : BA u' G ch n m t l s := by
  obtain ⟨a, b, c, d⟩ := h
  exact ⟨a, by rw [← csR_cu e (k := s) (by omega)]; exact b, fun k x y => by rw [← csR_cu e (k := k) (by omega)]; exact c k x y, fun k x y => by rw [← csR_cu e (k := k) (by omega)]; exact d k x y⟩
theorem RLX.cu {q : Int × Int × (Int → Int)} (h : RLX u ch n q) (e : ∀ k : Int, 0 ≤ k → k < 60 → u k = u' k) : RLX u' ch n q := by
  obtain ⟨G, S, p, a, b, c, d⟩ := h
  exact ⟨G, S, p, fun j x y => (a j x y).cu e (tmx_b y).2.2, b, c, d⟩
theorem RLX.bd {q : Int × Int × (Int → Int)} (h : RLX u ch n q) (hu : ∀ k : Int, 0 ≤ k → k < 60 → 0 ≤ u k ∧ u k ≤ 1000) (hc : 0 ≤ ch ∧ ch ≤ 1000) (hn : 1 ≤ n) : 0 ≤ q.1 ∧ q.1 ≤ 2000 * n := by
  obtain ⟨G, S, p, a, b, -, -⟩ := h
  have key : ∀ r : Nat, ∀ j : Int, 0 ≤ j → j < n → n - j ≤ r → 0 ≤ G j ∧ G j ≤ 2000 * (n - j) := by
    intro r
    induction r with
    | zero => intro j x y z; omega
    | succ r ih =>
      intro j x y z
      exact (a j x y).bd hu hc (fun i v w => ih i (by omega) w (by omega)) y (tmx_b y).1 (tmx_b y).2.2
  have k := key n.toNat 0 (by decide) (by omega) (by omega)
  rw [b]
  omega
end
noncomputable def rlQ (N : Int → Int) (n : Int) : Int × Int × (Int → Int) := Classical.epsilon (RLX (uK N) (N 98) n)
noncomputable def rlV (N : Int → Int) (n : Int) : Int := if 1 ≤ n ∧ n ≤ 120 then (rlQ N n).1 else -1
theorem rlQ.of {N : Int → Int} {n : Int} {q : Int × Int × (Int → Int)} (hn : 1 ≤ n) (h : RLX (uK N) (N 98) n q) : q.1 = (rlQ N n).1 ∧ q.2.1 = (rlQ N n).2.1 ∧ ∀ i : Int, 0 ≤ i → i < q.2.1 → q.2.2 i = (rlQ N n).2.2 i := h.uniq (Classical.epsilon_spec (p := RLX (uK N) (N 98) n) ⟨q, h⟩) hn
theorem rlV.of {N C : Int → Int} {n v c : Int} (h1 : 1 ≤ n ∧ n ≤ 120 → RLX (uK N) (N 98) n (v, c, C)) (h2 : n < 1 ∨ 120 < n → v = -1) : v = rlV N n := by
  unfold rlV
  by_cases c0 : 1 ≤ n ∧ n ≤ 120
  · rw [if_pos c0]; exact (rlQ.of c0.1 (h1 c0)).1
  · rw [if_neg c0]; exact h2 (by omega)
section
variable {base : Nat} {s a0 a1 : Int} {T N I0 I1 : Int → Int} {M : mH}
theorem CSx.ti (h : CSx base s T N a0 I0 a1 I1 M) {k : Int} (a : 0 ≤ k) (b : k < 60) : gi M 11 k = uK N k := by
  have q := h.2.2.1 (409 + k) (by unfold dAs; omega)
  rw [cS_at (slA_c (by omega)), show 409 + k - 409 = k by omega] at q
  exact q
theorem CSx.chg (h : CSx base s T N a0 I0 a1 I1 M) : gi M 3 8 = N 98 := by
  have q := h.2.2.1 98 (by unfold dAs; omega)
  rw [cS_at (slA_t (by omega)), show (98 : Int) - 90 = 8 from rfl] at q
  exact q
theorem CSx.rlx {n : Int} {q : Int × Int × (Int → Int)} (h : CSx base s T N a0 I0 a1 I1 M) (y : RLX (gi M 11) (gi M 3 8) n q) : RLX (uK N) (N 98) n q := by
  have w := y.cu (fun k a b => h.ti a b)
  rw [h.chg] at w
  exact w
theorem RSx.rlx {n : Int} {q : Int × Int × (Int → Int)} (h : RSx s T N a0 I0 a1 I1 M) (y : RLX (uK (gi M 78)) (gi M 78 98) n q) : RLX (uK N) (N 98) n q := by
  have w := y.cu (u' := uK N) (fun k a b => h.2.2.1 (409 + k) (by unfold dAs; omega))
  rw [h.2.2.1 98 (by unfold dAs; omega)] at w
  exact w
theorem CSx.fx {v sn slot : Int} (h : CSx base s T N a0 I0 a1 I1 M) (H : HI base M) (q1 : ¬ ((0 ≤ slot ∧ slot ≤ 2) ∧ SPK sn M) → v = -1) (q2 : (0 ≤ slot ∧ slot ≤ 2) ∧ SPK sn M → FX (cS 1 M) (gi M 1 10).toNat sn slot v) : v = fxV N sn slot := by
  obtain ⟨b1, b2, b3⟩ := cS_KB H
  have e : SPK sn M ↔ SPN (cS 1 M) sn := by
    unfold SPK SPN
    rw [cS_many]
    constructor
    · rintro ⟨a, b, c⟩
      refine ⟨⟨a, b⟩, ?_⟩
      rw [← cS_wgt (s := sn) (p := gi M 1 5) ⟨a, by omega⟩ rfl (H.2 1 5 0 3 rfl)]
      exact c
    · rintro ⟨⟨a, b⟩, c⟩
      refine ⟨a, b, ?_⟩
      rw [cS_wgt (s := sn) (p := gi M 1 5) ⟨a, by omega⟩ rfl (H.2 1 5 0 3 rfl)]
      exact c
  rw [cS_many] at q2
  have w : v = fxV (cS 1 M) sn slot := fxV.of (fun c => q1 (fun y => c ⟨y.1, e.mp y.2⟩)) (fun c => q2 ⟨c.1, e.mpr c.2⟩)
  exact w.trans (fxV_cong h.2.2.1 b1 b2 b3 sn slot)
theorem CSx.od {v sn n slot val part : Int} (h : CSx base s T N a0 I0 a1 I1 M) (H : HI base M) (q : v = odV (cS 1 M) sn n slot val part) : v = odV N sn n slot val part := by
  obtain ⟨b1, b2, b3⟩ := cS_KB H
  exact q.trans (odV_cong h.2.2.1 b1 b2 b3 sn n slot val part)
theorem RSx.fx {v sn slot : Int} (h : RSx s T N a0 I0 a1 I1 M) (H : HI base M) (q : v = fxV (gi M 78) sn slot) : v = fxV N sn slot := by
  obtain ⟨b1, b2, b3⟩ := rK_KB H
  exact q.trans (fxV_cong h.2.2.1 b1 b2 b3 sn slot)
theorem RSx.od {v sn n slot val part : Int} (h : RSx s T N a0 I0 a1 I1 M) (H : HI base M) (q : v = odV (gi M 78) sn n slot val part) : v = odV N sn n slot val part := by
  obtain ⟨b1, b2, b3⟩ := rK_KB H
  exact q.trans (odV_cong h.2.2.1 b1 b2 b3 sn n slot val part)
end

theorem Z104 {base : Nat} {X : Nat → Option mC} {G : Nat → Value} (E : EnvOK base X G) {d : Nat} (hd : 2 ≤ d) {M : mH} (H : HI base M) (xs : Int) (xl : Int) (j : Int) (gs : Int) (gT : Int → Int) (gN : Int → Int) (ga : Int) (g0 : Int → Int) (gb : Int) (g1 : Int → Int) (h0 : INVl base j M) (h1 : CSx base gs gT gN ga g0 gb g1 M) (h2 : RSx gs gT gN ga g0 gb g1 M) (b_xs : -2147483648 ≤ xs ∧ xs ≤ 2147483647) (b_xl : -2147483648 ≤ xl ∧ xl ≤ 2147483647) : sOk base X G d T104 [vR 0, vI xs, vI xl] M (pI (fun v M' => HI base M' ∧ Ftr [(0, 0)] M M' ∧ (INVl base (j + 6) M') ∧ (CSx base gs gT gN ga g0 gb g1 M') ∧ (RSx gs gT gN ga g0 gb g1 M') ∧ (-2147483648 ≤ v ∧ v ≤ 2147483647) ∧ (v = fxV gN xs xl))) := by
  obtain ⟨wa, wb, hK, hR, r1, r2⟩ := h0
  have hR2 := hR
  obtain ⟨hTB, hWD, hLN, hGK, hVT, hIM⟩ := hR2
  refine sOk.imp (k104g E (by omega) H xs xl (by omega) (by omega)) ?_
  rintro v M' ⟨v', e, rfl, q0, q1, q2⟩
  exact ⟨v', e, H, trivial, ⟨wa, wb, hK, hR, by omega, by omega⟩, h1, h2, q0, h1.fx H q1 q2⟩
theorem Z105 {base : Nat} {X : Nat → Option mC} {G : Nat → Value} (E : EnvOK base X G) {d : Nat} (hd : 2 ≤ d) {M : mH} (H : HI base M) (xs : Int) (xn : Int) (xl : Int) (xv : Int) (xp : Int) (j : Int) (gs : Int) (gT : Int → Int) (gN : Int → Int) (ga : Int) (g0 : Int → Int) (gb : Int) (g1 : Int → Int) (h0 : INVl base j M) (h1 : CSx base gs gT gN ga g0 gb g1 M) (h2 : RSx gs gT gN ga g0 gb g1 M) (b_xs : -2147483648 ≤ xs ∧ xs ≤ 2147483647) (b_xn : -2147483648 ≤ xn ∧ xn ≤ 2147483647) (b_xl : -2147483648 ≤ xl ∧ xl ≤ 2147483647) (b_xv : -2147483648 ≤ xv ∧ xv ≤ 2147483647) (b_xp : -2147483648 ≤ xp ∧ xp ≤ 2147483647) : sOk base X G d T105 [vR 0, vI xs, vI xn, vI xl, vI xv, vI xp] M (pI (fun v M' => HI base M' ∧ Ftr [(0, 0)] M M' ∧ (INVl base (j + 6) M') ∧ (CSx base gs gT gN ga g0 gb g1 M') ∧ (RSx gs gT gN ga g0 gb g1 M') ∧ (-2147483648 ≤ v ∧ v ≤ 2147483647) ∧ (v = odV gN xs xn xl xv xp))) := by
  obtain ⟨wa, wb, hK, hR, r1, r2⟩ := h0
  have hR2 := hR
  obtain ⟨hTB, hWD, hLN, hGK, hVT, hIM⟩ := hR2
  refine sOk.imp (k105g E (by omega) H xs xn xl xv xp (by omega) (by omega) (by omega) (by omega) (by omega)) ?_
  rintro v M' ⟨v', e, rfl, q0, q1⟩
  exact ⟨v', e, H, trivial, ⟨wa, wb, hK, hR, by omega, by omega⟩, h1, h2, q0, h1.od H q1⟩
theorem Z123 {base : Nat} {X : Nat → Option mC} {G : Nat → Value} (E : EnvOK base X G) {d : Nat} (hd : 2 ≤ d) {M : mH} (H : HI base M) (xm : Int) (j : Int) (gs : Int) (gT : Int → Int) (gN : Int → Int) (ga : Int) (g0 : Int → Int) (gb : Int) (g1 : Int → Int) (h0 : INVl base j M) (h1 : CSx base gs gT gN ga g0 gb g1 M) (h2 : RSx gs gT gN ga g0 gb g1 M) (b_xm : -2147483648 ≤ xm ∧ xm ≤ 2147483647) : sOk base X G d T123 [vR 0, vI xm] M (pI (fun v M' => HI base M' ∧ Ftr [(0, 0)] M M' ∧ (INVl base (j + 6) M') ∧ (CSx base gs gT gN ga g0 gb g1 M') ∧ (RSx gs gT gN ga g0 gb g1 M') ∧ (-2147483648 ≤ v ∧ v ≤ 2147483647) ∧ (v = rlV gN xm))) := by
  obtain ⟨wa, wb, hK, hR, r1, r2⟩ := h0
  have hR2 := hR
  obtain ⟨hTB, hWD, hLN, hGK, hVT, hIM⟩ := hR2
  refine sOk.imp (k123g E (by omega) H xm (by omega)) ?_
  rintro v M' ⟨v', e, H', f, q0, q1, q2, q3⟩
  have z := (f.q rfl).z
  have rf := z.ref H.m rfl
  have kr := hR.of rf
  exact ⟨v', e, H', trivial, ⟨wa, wb, hK.keep H' z rfl rfl, kr, by rw [f.1]; omega, by rw [f.2.1]; omega⟩, h1.fz H.m z rfl, h2.of rf, q0, rlV.of (fun y => h1.rlx (q1 y)) (fun y => (q2 y).1)⟩
theorem Z125 {base : Nat} {X : Nat → Option mC} {G : Nat → Value} (E : EnvOK base X G) {d : Nat} (hd : 3 ≤ d) {M : mH} (H : HI base M) (xm : Int) (xq : Int) (j : Int) (gs : Int) (gT : Int → Int) (gN : Int → Int) (ga : Int) (g0 : Int → Int) (gb : Int) (g1 : Int → Int) (h0 : INVl base j M) (h1 : CSx base gs gT gN ga g0 gb g1 M) (h2 : RSx gs gT gN ga g0 gb g1 M) (b_xm : -2147483648 ≤ xm ∧ xm ≤ 2147483647) (b_xq : -2147483648 ≤ xq ∧ xq ≤ 2147483647) : sOk base X G d T125 [vR 0, vI xm, vI xq] M (pI (fun v M' => HI base M' ∧ Ftr [(0, 0)] M M' ∧ (INVl base (j + 6) M') ∧ (CSx base gs gT gN ga g0 gb g1 M') ∧ (RSx gs gT gN ga g0 gb g1 M') ∧ (-2147483648 ≤ v ∧ v ≤ 2147483647) ∧ (v = glV gN xm xq))) := by
  obtain ⟨wa, wb, hK, hR, r1, r2⟩ := h0
  have hR2 := hR
  obtain ⟨hTB, hWD, hLN, hGK, hVT, hIM⟩ := hR2
  refine sOk.imp (k125g E (by omega) H xm xq (by omega) (by omega)) ?_
  rintro v M' ⟨v', e, H', f, q0, q1⟩
  have z := (f.q rfl).z
  have rf := z.ref H.m rfl
  have kr := hR.of rf
  exact ⟨v', e, H', trivial, ⟨wa, wb, hK.keep H' z rfl rfl, kr, by rw [f.1]; omega, by rw [f.2.1]; omega⟩, h1.fz H.m z rfl, h2.of rf, q0, q1.trans (glV_cong h1.2.2.1 (cS_KB H) xm xq)⟩
theorem Z177 {base : Nat} {X : Nat → Option mC} {G : Nat → Value} (E : EnvOK base X G) {d : Nat} (hd : 3 ≤ d) {M : mH} (H : HI base M) (xs : Int) (xl : Int) (j : Int) (gs : Int) (gT : Int → Int) (gN : Int → Int) (ga : Int) (g0 : Int → Int) (gb : Int) (g1 : Int → Int) {es : Int} {eT eN : Int → Int} {ea : Int} {e0 : Int → Int} {eb : Int} {e1 : Int → Int} (h0 : INVl base j M) (h1 : CSx base es eT eN ea e0 eb e1 M) (h2 : RSx gs gT gN ga g0 gb g1 M) (b_xs : -2147483648 ≤ xs ∧ xs ≤ 2147483647) (b_xl : -2147483648 ≤ xl ∧ xl ≤ 2147483647) : sOk base X G d T177 [vR 77, vI xs, vI xl] M (pI (fun v M' => HI base M' ∧ Ftr [(0, 0)] M M' ∧ (INVl base j M') ∧ (CSx base es eT eN ea e0 eb e1 M') ∧ (RSx gs gT gN ga g0 gb g1 M') ∧ (-2147483648 ≤ v ∧ v ≤ 2147483647) ∧ (v = fxV gN xs xl))) := by
  obtain ⟨wa, wb, hK, hR, r1, r2⟩ := h0
  have hR2 := hR
  obtain ⟨hTB, hWD, hLN, hGK, hVT, hIM⟩ := hR2
  refine sOk.imp (k177g E (by omega) H xs xl (gi M 78) (fun _ => rfl) (by omega) (by omega)) ?_
  rintro v M' ⟨v', e, rfl, q0, q1⟩
  exact ⟨v', e, H, trivial, ⟨wa, wb, hK, hR, by omega, by omega⟩, h1, h2, q0, h2.fx H q1⟩
theorem Z179 {base : Nat} {X : Nat → Option mC} {G : Nat → Value} (E : EnvOK base X G) {d : Nat} (hd : 3 ≤ d) {M : mH} (H : HI base M) (xs : Int) (xn : Int) (xl : Int) (xv : Int) (xp : Int) (j : Int) (gs : Int) (gT : Int → Int) (gN : Int → Int) (ga : Int) (g0 : Int → Int) (gb : Int) (g1 : Int → Int) {es : Int} {eT eN : Int → Int} {ea : Int} {e0 : Int → Int} {eb : Int} {e1 : Int → Int} (h0 : INVl base j M) (h1 : CSx base es eT eN ea e0 eb e1 M) (h2 : RSx gs gT gN ga g0 gb g1 M) (b_xs : -2147483648 ≤ xs ∧ xs ≤ 2147483647) (b_xn : -2147483648 ≤ xn ∧ xn ≤ 2147483647) (b_xl : -2147483648 ≤ xl ∧ xl ≤ 2147483647) (b_xv : -2147483648 ≤ xv ∧ xv ≤ 2147483647) (b_xp : -2147483648 ≤ xp ∧ xp ≤ 2147483647) : sOk base X G d T179 [vR 77, vI xs, vI xn, vI xl, vI xv, vI xp] M (pI (fun v M' => HI base M' ∧ Ftr [(0, 0)] M M' ∧ (INVl base j M') ∧ (CSx base es eT eN ea e0 eb e1 M') ∧ (RSx gs gT gN ga g0 gb g1 M') ∧ (-2147483648 ≤ v ∧ v ≤ 2147483647) ∧ (v = odV gN xs xn xl xv xp))) := by
  obtain ⟨wa, wb, hK, hR, r1, r2⟩ := h0
  have hR2 := hR
  obtain ⟨hTB, hWD, hLN, hGK, hVT, hIM⟩ := hR2
  refine sOk.imp (k179g E (by omega) H xs xn xl xv xp (gi M 78) (fun _ => rfl) (by omega) (by omega) (by omega) (by omega) (by omega)) ?_
  rintro v M' ⟨v', e, rfl, q0, q1⟩
  exact ⟨v', e, H, trivial, ⟨wa, wb, hK, hR, by omega, by omega⟩, h1, h2, q0, h2.od H q1⟩
theorem Z257 {base : Nat} {X : Nat → Option mC} {G : Nat → Value} (E : EnvOK base X G) {d : Nat} (hd : 1 ≤ d) {M : mH} (H : HI base M) (xm : Int) (j : Int) (gs : Int) (gT : Int → Int) (gN : Int → Int) (ga : Int) (g0 : Int → Int) (gb : Int) (g1 : Int → Int) {es : Int} {eT eN : Int → Int} {ea : Int} {e0 : Int → Int} {eb : Int} {e1 : Int → Int} (h0 : INVl base j M) (h1 : CSx base es eT eN ea e0 eb e1 M) (h2 : RSx gs gT gN ga g0 gb g1 M) (b_xm : -2147483648 ≤ xm ∧ xm ≤ 2147483647) : sOk base X G d T257 [vR 77, vI xm] M (pI (fun v M' => HI base M' ∧ Ftr [(0, 0)] M M' ∧ (INVl base j M') ∧ (CSx base es eT eN ea e0 eb e1 M') ∧ (RSx gs gT gN ga g0 gb g1 M') ∧ (-2147483648 ≤ v ∧ v ≤ 2147483647) ∧ (v = rlV gN xm))) := by
  obtain ⟨wa, wb, hK, hR, r1, r2⟩ := h0
  have hR2 := hR
  obtain ⟨hTB, hWD, hLN, hGK, hVT, hIM⟩ := hR2
  refine sOk.imp (k257g E (by omega) H xm (gi M 78) (fun _ => rfl) (by omega)) ?_
  rintro v M' ⟨v', e, H', f, q0, q1⟩
  have z := (f.q rfl).z
  have bv : -2147483648 ≤ v' ∧ v' ≤ 2147483647 := by
    by_cases c : 1 ≤ xm ∧ xm ≤ 120
    · have w := (q0 c).bd (uK_b (K := gi M 78) (fun _ => rfl) H) (H.2 78 98 0 1000 (rk_term (by omega))) c.1
      have w1 : 0 ≤ v' ∧ v' ≤ 2000 * xm := w
      omega
    · have w := (q1 (by omega)).1
      omega
  exact ⟨v', e, H', trivial, ⟨wa, wb, hK.keep H' z rfl rfl, ⟨hTB.fr f rfl, hWD.fr f rfl, hLN.fr f rfl, hGK.fr f rfl, hVT.fr f rfl, hIM.fr f rfl⟩, by rw [f.1]; exact r1, by rw [f.2.1]; exact r2⟩, h1.fz H.m z rfl, h2.fr f rfl, bv, rlV.of (fun y => h2.rlx (q0 y)) (fun y => (q1 y).1)⟩
theorem Z260 {base : Nat} {X : Nat → Option mC} {G : Nat → Value} (E : EnvOK base X G) {d : Nat} (hd : 2 ≤ d) {M : mH} (H : HI base M) (xm : Int) (xq : Int) (j : Int) (gs : Int) (gT : Int → Int) (gN : Int → Int) (ga : Int) (g0 : Int → Int) (gb : Int) (g1 : Int → Int) {es : Int} {eT eN : Int → Int} {ea : Int} {e0 : Int → Int} {eb : Int} {e1 : Int → Int} (h0 : INVl base j M) (h1 : CSx base es eT eN ea e0 eb e1 M) (h2 : RSx gs gT gN ga g0 gb g1 M) (b_xm : -2147483648 ≤ xm ∧ xm ≤ 2147483647) (b_xq : -2147483648 ≤ xq ∧ xq ≤ 2147483647) : sOk base X G d T260 [vR 77, vI xm, vI xq] M (pI (fun v M' => HI base M' ∧ Ftr [(0, 0)] M M' ∧ (INVl base j M') ∧ (CSx base es eT eN ea e0 eb e1 M') ∧ (RSx gs gT gN ga g0 gb g1 M') ∧ (-2147483648 ≤ v ∧ v ≤ 2147483647) ∧ (v = glV gN xm xq))) := by
  obtain ⟨wa, wb, hK, hR, r1, r2⟩ := h0
  have hR2 := hR
  obtain ⟨hTB, hWD, hLN, hGK, hVT, hIM⟩ := hR2
  refine sOk.imp (k260g E (by omega) H xm xq (gi M 78) (fun _ => rfl) (by omega) (by omega)) ?_
  rintro v M' ⟨v', e, H', f, q0, q1⟩
  have z := (f.q rfl).z
  exact ⟨v', e, H', trivial, ⟨wa, wb, hK.keep H' z rfl rfl, ⟨hTB.fr f rfl, hWD.fr f rfl, hLN.fr f rfl, hGK.fr f rfl, hVT.fr f rfl, hIM.fr f rfl⟩, by rw [f.1]; exact r1, by rw [f.2.1]; exact r2⟩, h1.fz H.m z rfl, h2.fr f rfl, q0, q1.trans (glV_cong h2.2.2.1 (rK_KB H) xm xq)⟩
