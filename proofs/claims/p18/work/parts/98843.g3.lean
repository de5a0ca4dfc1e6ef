/-! GLOSSARY, of both sides: how often a WORD stands, what it saves, what is best for so many minutes. -/
noncomputable def tmF (K : Int → Int) (s w : Int) : Nat → Int
  | 0 => 0
  | k + 1 => tmF K s w k + (if K (135 + 16 * s + 1 + k) = w then 1 else 0)
theorem tmF_step {K : Int → Int} {s w k : Int} (hk : 0 ≤ k) : tmF K s w (k + 1).toNat = tmF K s w k.toNat + (if K (135 + 16 * s + 1 + k) = w then 1 else 0) := by
  rw [show (k + 1).toNat = k.toNat + 1 by omega]
  show tmF K s w k.toNat + (if K (135 + 16 * s + 1 + ((k.toNat : Nat) : Int)) = w then 1 else 0) = _
  rw [show ((k.toNat : Nat) : Int) = k by omega]
noncomputable def wgK (K : Int → Int) (s : Int) : Int := K (135 + 16 * s + 12 + K 474)
noncomputable def gsF (K : Int → Int) (w : Int) : Nat → Int
  | 0 => 0
  | s + 1 => gsF K w s + wgK K s * tmF K s w (K (135 + 16 * s)).toNat
theorem gsF_step {K : Int → Int} {w s : Int} (hs : 0 ≤ s) : gsF K w (s + 1).toNat = gsF K w s.toNat + wgK K s * tmF K s w (K (135 + 16 * s)).toNat := by
  rw [show (s + 1).toNat = s.toNat + 1 by omega]
  show gsF K w s.toNat + wgK K ((s.toNat : Nat) : Int) * tmF K ((s.toNat : Nat) : Int) w (K (135 + 16 * ((s.toNat : Nat) : Int))).toNat = _
  rw [show ((s.toNat : Nat) : Int) = s by omega]
noncomputable def svF (K : Int → Int) (w : Int) : Int := gsF K w (K 469).toNat * K (60 + w)
theorem mulb {a b A B : Int} (ha : 0 ≤ a ∧ a ≤ A) (hb : 0 ≤ b ∧ b ≤ B) : 0 ≤ a * b ∧ a * b ≤ A * B := ⟨Int.mul_nonneg ha.1 hb.1, Int.mul_le_mul ha.2 hb.2 hb.1 (by omega)⟩
theorem wtF_one {K : Int → Int} {s : Int} (hs : 0 ≤ s ∧ s ≤ 15) : ∀ m : Nat, m ≤ 16 → wtF K (shI 1 s) m = if s < (m : Int) then wgK K s else 0 := by
  intro m
  induction m with
  | zero => intro _; rw [if_neg (by omega)]; rfl
  | succ m ih =>
    intro hm
    have e : wtF K (shI 1 s) (m + 1) = if srI (shI 1 s) (m : Int) % 2 = 1 then wtF K (shI 1 s) m + K (135 + 16 * (m : Int) + 12 + K 474) else wtF K (shI 1 s) m := rfl
    have b : srI (shI 1 s) (m : Int) % 2 = 1 ↔ (m : Int) = s := (sr_bt ⟨by omega, by omega⟩).trans (bt_shI ⟨hs.1, by omega⟩ ⟨by omega, by omega⟩)
    rw [e, ih (by omega)]
    by_cases c : (m : Int) = s
    · rw [if_pos (b.mpr c), if_neg (show ¬ s < (m : Int) by omega), if_pos (show s < ((m + 1 : Nat) : Int) by omega), c]
      unfold wgK
      omega
    · rw [if_neg (fun h => c (b.mp h))]
      by_cases d : s < (m : Int)
      · rw [if_pos d, if_pos (show s < ((m + 1 : Nat) : Int) by omega)]
      · rw [if_neg d, if_neg (show ¬ s < ((m + 1 : Nat) : Int) by omega)]
/-- what is saved at most and by which WORDS, the highest r of them asked -/
noncomputable def gF (K : Int → Int) : Nat → Int → Int × Int
  | 0, _ => (0, 0)
  | r + 1, t => if K (30 + (29 - (r : Int))) ≤ t ∧ (gF K r t).1 ≤ (gF K r (t - K (30 + (29 - (r : Int))))).1 + svF K (29 - (r : Int)) then ((gF K r (t - K (30 + (29 - (r : Int))))).1 + svF K (29 - (r : Int)), orI (gF K r (t - K (30 + (29 - (r : Int))))).2 (shI 1 (29 - (r : Int)))) else gF K r t
theorem gF_in {K : Int → Int} {w look t : Int} (hw : 0 ≤ w ∧ w ≤ 29) (hl : look = K (30 + w)) (h1 : look ≤ t) (h2 : (gF K (29 - w).toNat t).1 ≤ (gF K (29 - w).toNat (t - look)).1 + svF K w) : gF K (30 - w).toNat t = ((gF K (29 - w).toNat (t - look)).1 + svF K w, orI (gF K (29 - w).toNat (t - look)).2 (shI 1 w)) := by
  subst hl
  have e : 29 - ((29 - w).toNat : Int) = w := by omega
  rw [show (30 - w).toNat = (29 - w).toNat + 1 by omega]
  show (if K (30 + (29 - ((29 - w).toNat : Int))) ≤ t ∧ _ then _ else _) = _
  rw [e, if_pos ⟨h1, h2⟩]
theorem gF_out {K : Int → Int} {w look t : Int} (hw : 0 ≤ w ∧ w ≤ 29) (hl : look = K (30 + w)) (h : ¬ (look ≤ t ∧ (gF K (29 - w).toNat t).1 ≤ (gF K (29 - w).toNat (t - look)).1 + svF K w)) : gF K (30 - w).toNat t = gF K (29 - w).toNat t := by
  subst hl
  have e : 29 - ((29 - w).toNat : Int) = w := by omega
  rw [show (30 - w).toNat = (29 - w).toNat + 1 by omega]
  show (if K (30 + (29 - ((29 - w).toNat : Int))) ≤ t ∧ _ then _ else _) = _
  rw [e, if_neg h]
theorem gF_b {K : Int → Int} (hs : ∀ w : Int, 0 ≤ w → w ≤ 29 → 0 ≤ svF K w ∧ svF K w ≤ 768000) : ∀ r : Nat, r ≤ 30 → ∀ t : Int, 0 ≤ (gF K r t).1 ∧ (gF K r t).1 ≤ 768000 * r := by
  intro r
  induction r with
  | zero => intro _ t; exact ⟨Int.le_refl _, Int.le_refl _⟩
  | succ r ih =>
    intro hr t
    have q := ih (by omega)
    have s := hs (29 - (r : Int)) (by omega) (by omega)
    show 0 ≤ (if K (30 + (29 - (r : Int))) ≤ t ∧ (gF K r t).1 ≤ (gF K r (t - K (30 + (29 - (r : Int))))).1 + svF K (29 - (r : Int)) then ((gF K r (t - K (30 + (29 - (r : Int))))).1 + svF K (29 - (r : Int)), orI (gF K r (t - K (30 + (29 - (r : Int))))).2 (shI 1 (29 - (r : Int)))) else gF K r t).1 ∧ (if K (30 + (29 - (r : Int))) ≤ t ∧ (gF K r t).1 ≤ (gF K r (t - K (30 + (29 - (r : Int))))).1 + svF K (29 - (r : Int)) then ((gF K r (t - K (30 + (29 - (r : Int))))).1 + svF K (29 - (r : Int)), orI (gF K r (t - K (30 + (29 - (r : Int))))).2 (shI 1 (29 - (r : Int)))) else gF K r t).1 ≤ 768000 * ((r + 1 : Nat) : Int)
    split
    · have := q (t - K (30 + (29 - (r : Int))))
      dsimp only
      omega
    · have := q t
      omega
theorem orI_swap {a b c : Int} : orI (orI a c) b = orI a (orI b c) := by
  unfold orI
  rw [Int32.ofInt_toInt, Int32.ofInt_toInt, Int32.or_assoc, Int32.or_comm (Int32.ofInt c)]
theorem orI_z {a : Int} (h : inR a) : orI a 0 = a := by
  unfold orI
  rw [show Int32.ofInt 0 = 0 from rfl, Int32.or_zero, s_i32 h]
theorem cS_fN {L : List (Nat × Nat)} {M N : mH} (f : Fr L M N) (hc : s_al L (fun c => !(decide (1 ≤ c) && decide (c ≤ 11))) = true) (j : Int) : cS 1 N j = cS 1 M j := by
  unfold cS
  by_cases h : (slA j).1 ≤ 10
  · refine f.g (s_al_ok hc ?_)
    have e1 : decide (1 ≤ 1 + (slA j).1) = true := decide_eq_true (by omega)
    have e2 : decide (1 + (slA j).1 ≤ 11) = true := decide_eq_true (by omega)
    rw [e1, e2]
    rfl
  · exfalso
    apply h
    unfold slA
    repeat' split
    all_goals exact Nat.le_of_ble_eq_true rfl
theorem tmF_b {K : Int → Int} {s w : Int} : ∀ k : Nat, 0 ≤ tmF K s w k ∧ tmF K s w k ≤ k := by
  intro k
  induction k with
  | zero => exact ⟨Int.le_refl _, Int.le_refl _⟩
  | succ k ih =>
    show 0 ≤ tmF K s w k + (if K (135 + 16 * s + 1 + k) = w then 1 else 0) ∧ tmF K s w k + (if K (135 + 16 * s + 1 + k) = w then 1 else 0) ≤ ((k + 1 : Nat) : Int)
    split <;> omega
theorem svF_bd {K : Int → Int} (hm : 0 ≤ K 469 ∧ K 469 ≤ 16) (hw : ∀ s : Int, 0 ≤ s → s < 16 → 0 ≤ wgK K s ∧ wgK K s ≤ 100) (hl : ∀ s : Int, 0 ≤ s → s < 16 → 0 ≤ K (135 + 16 * s) ∧ K (135 + 16 * s) ≤ 8) (hk : ∀ w : Int, 0 ≤ w → w ≤ 29 → 0 ≤ K (60 + w) ∧ K (60 + w) ≤ 60) : ∀ w : Int, 0 ≤ w → w ≤ 29 → 0 ≤ svF K w ∧ svF K w ≤ 768000 := by
  intro w a b
  have g : ∀ m : Nat, m ≤ 16 → 0 ≤ gsF K w m ∧ gsF K w m ≤ 800 * m := by
    intro m
    induction m with
    | zero => intro _; exact ⟨Int.le_refl _, Int.le_refl _⟩
    | succ m ih =>
      intro h
      have q := ih (by omega)
      have l := hl m (by omega) (by omega)
      have t := tmF_b (K := K) (s := (m : Int)) (w := w) (K (135 + 16 * (m : Int))).toNat
      have p := mulb (B := 8) (hw m (by omega) (by omega)) ⟨t.1, by omega⟩
      show 0 ≤ gsF K w m + wgK K m * tmF K m w (K (135 + 16 * (m : Int))).toNat ∧ gsF K w m + wgK K m * tmF K m w (K (135 + 16 * (m : Int))).toNat ≤ 800 * ((m + 1 : Nat) : Int)
      omega
  have q := g (K 469).toNat (by omega)
  have p := mulb (A := 12800) (B := 60) ⟨q.1, by omega⟩ (hk w a b)
  unfold svF
  omega
theorem svF_cl {base : Nat} {M : mH} (H : HI base M) : ∀ w : Int, 0 ≤ w → w ≤ 29 → 0 ≤ svF (cS 1 M) w ∧ svF (cS 1 M) w ≤ 768000 := by
  have bw := H.2 1 5 0 3 rfl
  refine svF_bd (by rw [← cS_many]; exact H.2 1 10 0 16 rfl) (fun s a b => ?_) (fun s a b => by rw [← cS_len ⟨a, b⟩]; exact H.2 6 s 0 8 rfl) (fun w a b => by rw [show cS 1 M (60 + w) = gi M 2 (60 + w) from cS_at (slA_w (by omega))]; exact H.2 2 (60 + w) 0 60 rfl)
  have q := H.2 8 (s * 4 + gi M 1 5) 0 100 rfl
  rw [cS_wgt ⟨a, b⟩ rfl bw] at q
  exact q
theorem svF_rf {base : Nat} {K : Int → Int} {M : mH} (h : KK K M) (H : HI base M) : ∀ w : Int, 0 ≤ w → w ≤ 29 → 0 ≤ svF K w ∧ svF K w ≤ 768000 := by
  have b4 := H.2 78 474 0 3 (rk_who (by omega))
  rw [h] at b4
  refine svF_bd (by have q := H.2 78 469 0 16 (rk_many (by omega)); rw [h] at q; exact q) (fun s a b => ?_) (fun s a b => ?_) (fun w a b => ?_)
  · have q := H.2 78 (135 + 16 * s + 12 + K 474) 0 100 (rk_wgt (by omega))
    rw [h] at q; exact q
  · have q := H.2 78 (135 + 16 * s) 0 8 (rk_len (by omega))
    rw [h] at q; exact q
  · have q := H.2 78 (60 + w) 0 9 (rk_spare (by omega))
    rw [h] at q; omega
noncomputable def glV (K : Int → Int) (minutes what : Int) : Int := if (0 ≤ minutes ∧ minutes ≤ 240) ∧ (0 ≤ what ∧ what ≤ 1) then (if what = 0 then (gF K 30 minutes).1 else (gF K 30 minutes).2) else -1
theorem glV_no {K : Int → Int} {minutes what : Int} (h : ¬ ((0 ≤ minutes ∧ minutes ≤ 240) ∧ (0 ≤ what ∧ what ≤ 1))) : -1 = glV K minutes what := by unfold glV; rw [if_neg h]
theorem glV_0 {K : Int → Int} {minutes what : Int} (h : 0 ≤ minutes ∧ minutes ≤ 240) (h0 : what = 0) : (gF K 30 minutes).1 = glV K minutes what := by
  unfold glV; rw [if_pos (show (0 ≤ minutes ∧ minutes ≤ 240) ∧ (0 ≤ what ∧ what ≤ 1) by omega), if_pos h0]
theorem glV_1 {K : Int → Int} {minutes what : Int} (h : 0 ≤ minutes ∧ minutes ≤ 240) (h0 : what = 1) : (gF K 30 minutes).2 = glV K minutes what := by
  unfold glV; rw [if_pos (show (0 ≤ minutes ∧ minutes ≤ 240) ∧ (0 ≤ what ∧ what ≤ 1) by omega), if_neg (show ¬ what = 0 by omega)]
theorem gF_mx {K : Int → Int} {w look t : Int} (hw : 0 ≤ w ∧ w ≤ 29) (hl : look = K (30 + w)) : (look ≤ t → (gF K (29 - w).toNat t).1 ≤ (gF K (29 - w).toNat (t - look)).1 + svF K w → (gF K (30 - w).toNat t).1 = (gF K (29 - w).toNat (t - look)).1 + svF K w) ∧ ((look ≤ t → (gF K (29 - w).toNat (t - look)).1 + svF K w ≤ (gF K (29 - w).toNat t).1) → (gF K (30 - w).toNat t).1 = (gF K (29 - w).toNat t).1) := by
  constructor
  · intro h1 h2; rw [gF_in hw hl h1 h2]
  · intro h
    by_cases c : look ≤ t ∧ (gF K (29 - w).toNat t).1 ≤ (gF K (29 - w).toNat (t - look)).1 + svF K w
    · rw [gF_in hw hl c.1 c.2]
      have := h c.1
      have := c.2
      show (gF K (29 - w).toNat (t - look)).1 + svF K w = _
      omega
    · rw [gF_out hw hl c]
theorem gF_R {K : Int → Int} : ∀ (r : Nat) (t : Int), inR (gF K r t).2 := by
  intro r
  induction r with
  | zero => intro t; show inR 0; unfold inR; omega
  | succ r ih =>
    intro t
    show inR (if K (30 + (29 - (r : Int))) ≤ t ∧ (gF K r t).1 ≤ (gF K r (t - K (30 + (29 - (r : Int))))).1 + svF K (29 - (r : Int)) then ((gF K r (t - K (30 + (29 - (r : Int))))).1 + svF K (29 - (r : Int)), orI (gF K r (t - K (30 + (29 - (r : Int))))).2 (shI 1 (29 - (r : Int)))) else gF K r t).2
    split
    · exact orI_R _ _
    · exact ih t
theorem orI_zl {a : Int} (h : inR a) : orI 0 a = a := by
  unfold orI
  rw [show Int32.ofInt 0 = 0 from rfl, Int32.zero_or, s_i32 h]

set_option maxRecDepth 4000 in
theorem L_k69_1g {base : Nat} {X : Nat → Option mC} {G : Nat → Value} (E : EnvOK base X G) {d : Nat} (hd : 0 ≤ d) {M : mH} (H : HI base M) (sentence : Int) (word : Int) (h0 : 0 ≤ sentence ∧ sentence ≤ 15) (h1 : -2147483648 ≤ word ∧ word ≤ 2147483647) : ∀ mz : Nat, (∀ (x3 x4 : Int), (x3 = tmF (cS 1 M) sentence word x4.toNat) → (0 ≤ x3 ∧ x3 ≤ x4) → (x4 ≤ gi M 6 sentence) → (0 ≤ x4 ∧ x4 ≤ 8) → (0 ≤ x3) → (x3 ≤ 9) → (0 ≤ x4) → (x4 ≤ 8) → (8 - x4) * 1 + 0 < (mz : Int) → sRn base X G d T69 5 [(0, vR 1), (1, vI sentence), (2, vI word), (3, vI x3), (4, vI x4)] [] M (s_Q base (pI (fun v M' => M' = M ∧ (0 ≤ v ∧ v ≤ 8) ∧ v = tmF (cS 1 M) sentence word (gi M 6 sentence).toNat)))) := by
  intro mz
  induction mz with
  | zero => exact fun x3 x4 z0 z1 z2 z3 z4 z5 z6 z7 z8 => by omega
  | succ mz ih =>
    intro x3 x4 i0 i1 i2 i3 i4 i5 i6 i7 hmu
    have kl := H.2 6 sentence 0 8 rfl
    refine s_blx (lv' := [(0, vR 1), (1, vI sentence), (2, vI word), (3, vI x3), (4, vI x4)]) (st' := [vR 1, vI x4]) B69_5_8 rfl ?_
    refine r_gfix (r := 6) (pc' := 11) D69_8 rfl gf_8_34_1 H.1 ?_
    refine s_blx (lv' := [(0, vR 1), (1, vI sentence), (2, vI word), (3, vI x3), (4, vI x4)]) (st' := [vI sentence, vR 6, vI x4]) B69_11_12 rfl ?_
    refine r_iald (pc' := 13) D69_12 rfl sc_6 H.1 (by omega) ?_
    intro w1 e2 r3
    have b_w1 := H.2 6 (sentence) 0 8 rfl
    rw [← e2] at b_w1; clear r3
    refine r_icmp (tgt := 46) (pc' := 16) D69_13 rfl rfl (by unfold inR; omega) (fun (c4 : w1 ≤ x4) => ?_) (fun (c4 : ¬ (w1 ≤ x4)) => ?_)
    · refine s_blx (lv' := [(0, vR 1), (1, vI sentence), (2, vI word), (3, vI x3), (4, vI x4)]) (st' := [vI x3]) B69_46_47 rfl ?_
      exact r_iretI D69_47 rfl (⟨rfl, by omega, by rw [show gi M 6 sentence = x4 by omega]; exact i0⟩)
    · refine s_blx (lv' := [(0, vR 1), (1, vI sentence), (2, vI word), (3, vI x3), (4, vI x4)]) (st' := [vR 1, vI x3]) B69_16_18 rfl ?_
      refine r_gfix (r := 5) (pc' := 21) D69_18 rfl gf_8_31_1 H.1 ?_
      refine s_blx (lv' := [(0, vR 1), (1, vI sentence), (2, vI word), (3, vI x3), (4, vI x4)]) (st' := [vI ((sentence * 8) + x4), vR 5, vI x3]) B69_21_28 rfl ?_
      refine r_iald (pc' := 29) D69_28 rfl sc_5 H.1 (by omega) ?_
      intro w5 e6 r7
      have b_w5 := H.2 5 ((sentence * 8) + x4) 0 29 rfl
      rw [← e6] at b_w5; clear r7
      have kv := e6.trans (cS_row (s := sentence) (i := x4) ⟨by omega, by omega⟩ ⟨by omega, by omega⟩)
      refine s_blx (lv' := [(0, vR 1), (1, vI sentence), (2, vI word), (3, vI x3), (4, vI x4)]) (st' := [vI word, vI w5, vI x3]) B69_29_30 rfl ?_
      refine r_icmp (tgt := 37) (pc' := 33) D69_30 rfl rfl (by unfold inR; omega) (fun (c8 : w5 ≠ word) => ?_) (fun (c8 : ¬ (w5 ≠ word)) => ?_)
      · refine s_blx (lv' := [(4, vI (x4 + 1)), (3, vI (x3 + 0)), (0, vR 1), (1, vI sentence), (2, vI word)]) (st' := []) B69_37_43 rfl ?_
        refine r_goto (tgt := 5) D69_43 rfl ?_
        refine r_loc (lv' := [(0, vR 1), (1, vI sentence), (2, vI word), (3, vI (x3 + 0)), (4, vI (x4 + 1))]) ⟨rfl, rfl, rfl, rfl, rfl, trivial⟩ rfl rfl ?_
        exact ih (x3 + 0) (x4 + 1) (by first | (rw [tmF_step (by omega), ← i0, if_pos (by rw [← kv]; omega)]) | (rw [tmF_step (by omega), ← i0, if_neg (by rw [← kv]; omega)])) (by omega) (by omega) (by omega) (by omega) (by omega) (by omega) (by omega) (by omega)
      · refine s_blx (lv' := [(0, vR 1), (1, vI sentence), (2, vI word), (3, vI x3), (4, vI x4)]) (st' := [vI 1, vI x3]) B69_33_34 rfl ?_
        refine r_goto (tgt := 38) D69_34 rfl ?_
        refine s_blx (lv' := [(4, vI (x4 + 1)), (3, vI (x3 + 1)), (0, vR 1), (1, vI sentence), (2, vI word)]) (st' := []) B69_38_43 rfl ?_
        refine r_goto (tgt := 5) D69_43 rfl ?_
        refine r_loc (lv' := [(0, vR 1), (1, vI sentence), (2, vI word), (3, vI (x3 + 1)), (4, vI (x4 + 1))]) ⟨rfl, rfl, rfl, rfl, rfl, trivial⟩ rfl rfl ?_
        exact ih (x3 + 1) (x4 + 1) (by first | (rw [tmF_step (by omega), ← i0, if_pos (by rw [← kv]; omega)]) | (rw [tmF_step (by omega), ← i0, if_neg (by rw [← kv]; omega)])) (by omega) (by omega) (by omega) (by omega) (by omega) (by omega) (by omega) (by omega)
set_option maxRecDepth 4000 in
theorem k69_1g {base : Nat} {X : Nat → Option mC} {G : Nat → Value} (E : EnvOK base X G) {d : Nat} (hd : 0 ≤ d) {M : mH} (H : HI base M) (sentence : Int) (word : Int) (h0 : 0 ≤ sentence ∧ sentence ≤ 15) (h1 : -2147483648 ≤ word ∧ word ≤ 2147483647) : sOk base X G d T69 [vR 1, vI sentence, vI word] M (pI (fun v M' => M' = M ∧ (0 ≤ v ∧ v ≤ 8) ∧ v = tmF (cS 1 M) sentence word (gi M 6 sentence).toNat)) := by
  refine sOk.of (show sRn base X G d T69 0 [(0, vR 1), (1, vI sentence), (2, vI word)] [] M _ from ?_)
  have kl := H.2 6 sentence 0 8 rfl
  refine s_blx (lv' := [(4, vI 0), (3, vI 0), (0, vR 1), (1, vI sentence), (2, vI word)]) (st' := []) B69_0_5 rfl ?_
  refine r_loc (lv' := [(0, vR 1), (1, vI sentence), (2, vI word), (3, vI 0), (4, vI 0)]) ⟨rfl, rfl, rfl, rfl, rfl, trivial⟩ rfl rfl ?_
  exact (L_k69_1g E hd H sentence word h0 h1 (((8 - 0) * 1 + 0 : Int) + 1).toNat) 0 0 (rfl) (by omega) (by omega) (by omega) (by omega) (by omega) (by omega) (by omega) (by omega)
set_option maxRecDepth 4000 in
theorem L_k14g {base : Nat} {X : Nat → Option mC} {G : Nat → Value} (E : EnvOK base X G) {d : Nat} (hd : 1 ≤ d) {M : mH} (H : HI base M) (word : Int) (h0 : 0 ≤ word ∧ word ≤ 29) : ∀ mz : Nat, (∀ (x2 x3 : Int), (x2 = gsF (cS 1 M) word x3.toNat) → (0 ≤ x2 ∧ x2 ≤ 800 * x3) → (x3 ≤ gi M 1 10) → (0 ≤ x3 ∧ x3 ≤ 16) → (0 ≤ x2) → (x2 ≤ 25600) → (0 ≤ x3) → (x3 ≤ 16) → (16 - x3) * 1 + 0 < (mz : Int) → sRn base X G d T14 4 [(0, vR 1), (1, vI word), (2, vI x2), (3, vI x3)] [] M (s_Q base (pI (fun v M' => M' = M ∧ (0 ≤ v ∧ v ≤ 768000) ∧ v = svF (cS 1 M) word)))) := by
  intro mz
  induction mz with
  | zero => exact fun x2 x3 z0 z1 z2 z3 z4 z5 z6 z7 z8 => by omega
  | succ mz ih =>
    intro x2 x3 i0 i1 i2 i3 i4 i5 i6 i7 hmu
    have km := H.2 1 10 0 16 rfl
    refine s_blx (lv' := [(0, vR 1), (1, vI word), (2, vI x2), (3, vI x3)]) (st' := [vR 1, vI x3]) B14_4_6 rfl ?_
    refine r_gint (ki := 10) (pc' := 9) D14_6 rfl gf_2_33_1 rfl H.1 ?_
    intro w1 e2 r3
    have b_w1 := H.2 1 (10) 0 16 rfl
    rw [← e2] at b_w1; clear r3
    refine r_icmp (tgt := 35) (pc' := 12) D14_9 rfl rfl (by unfold inR; omega) (fun (c4 : w1 ≤ x3) => ?_) (fun (c4 : ¬ (w1 ≤ x3)) => ?_)
    · refine s_blx (lv' := [(0, vR 1), (1, vI word), (2, vI x2), (3, vI x3)]) (st' := [vR 1, vI x2]) B14_35_37 rfl ?_
      refine r_gfix (r := 2) (pc' := 40) D14_37 rfl gf_2_24_1 H.1 ?_
      refine s_blx (lv' := [(0, vR 1), (1, vI word), (2, vI x2), (3, vI x3)]) (st' := [vI (60 + word), vR 2, vI x2]) B14_40_44 rfl ?_
      refine r_iald (pc' := 45) D14_44 rfl sc_2 H.1 (by omega) ?_
      intro w5 e6 r7
      have b_w5 := H.2 2 (60 + word) 0 60 rfl
      rw [← e6] at b_w5; clear r7
      have ksp : w5 = cS 1 M (60 + word) := e6.trans (cS_at (slA_w (by omega))).symm
      have kmc := mulb (a := x2) (b := w5) (A := 12800) (B := 60) (by omega) (by omega)
      refine s_blx (lv' := [(0, vR 1), (1, vI word), (2, vI x2), (3, vI x3)]) (st' := [vI (x2 * w5)]) B14_45_46 rfl ?_
      exact r_iretI D14_46 rfl (⟨rfl, by omega, by unfold svF; rw [← cS_many, show gi M 1 10 = x3 by omega, ← i0, ← ksp]⟩)
    · refine s_blx (lv' := [(0, vR 1), (1, vI word), (2, vI x2), (3, vI x3)]) (st' := [vI x3, vI 1, vR 1, vI x2]) B14_12_16 rfl ?_
      refine r_bin (pc' := 17) D14_16 rfl rfl ?_
      intro z8 r9 kq1; unfold inR at r9
      refine r_vIp (c := 1) (args := [vI z8]) (rest := [vI x2]) (pc' := 20) D14_17 rfl ck_2_virtual_37 TE76 rfl (Nat.le_of_ble_eq_true rfl) ⟨Nat.le_of_ble_eq_true rfl, Nat.le_of_ble_eq_true rfl⟩ sc_1 ⟨rfl, by decide⟩ H.1 (dp_0 hd rfl) (k76_1g E (dp_n hd rfl) H z8 (by omega)) ?_
      intro v10 q14
      obtain ⟨q12, q13⟩ := q14
      have kw0 := q13; clear q13
      have kw : v10 = wgK (cS 1 M) x3 := by rw [kw0, shI_of (by unfold inR; omega) kq1, wtF_one ⟨by omega, by omega⟩ _ (by omega), if_pos (by omega)]
      have kwb : 0 ≤ v10 ∧ v10 ≤ 100 := by have q1_ := H.2 1 5 0 3 rfl; have q := H.2 8 (x3 * 4 + gi M 1 5) 0 100 rfl; rw [cS_wgt ⟨by omega, by omega⟩ rfl q1_] at q; rw [kw]; exact q
      refine s_blx (lv' := [(0, vR 1), (1, vI word), (2, vI x2), (3, vI x3)]) (st' := [vI word, vI x3, vR 1, vI v10, vI x2]) B14_20_23 rfl ?_
      refine r_vIp (c := 1) (args := [vI x3, vI word]) (rest := [vI v10, vI x2]) (pc' := 26) D14_23 rfl ck_2_virtual_41 TE69 rfl (Nat.le_of_ble_eq_true rfl) ⟨Nat.le_of_ble_eq_true rfl, Nat.le_of_ble_eq_true rfl⟩ sc_1 ⟨rfl, by decide⟩ H.1 (dp_0 hd rfl) (k69_1g E (dp_n hd rfl) H x3 word (by omega) (by omega)) ?_
      intro v15 q19
      obtain ⟨q17, q18⟩ := q19
      have kt : v15 = tmF (cS 1 M) x3 word (cS 1 M (135 + 16 * x3)).toNat := by rw [← cS_len ⟨by omega, by omega⟩]; exact q18
      have kmb := mulb kwb (show 0 ≤ v15 ∧ v15 ≤ 8 by omega)
      refine s_blx (lv' := [(3, vI (x3 + 1)), (2, vI (x2 + (v10 * v15))), (0, vR 1), (1, vI word)]) (st' := []) B14_26_32 rfl ?_
      refine r_goto (tgt := 4) D14_32 rfl ?_
      refine r_loc (lv' := [(0, vR 1), (1, vI word), (2, vI (x2 + (v10 * v15))), (3, vI (x3 + 1))]) ⟨rfl, rfl, rfl, rfl, trivial⟩ rfl rfl ?_
      exact ih (x2 + (v10 * v15)) (x3 + 1) (by rw [gsF_step (by omega), ← i0, ← kw, ← kt]) (by omega) (by omega) (by omega) (by omega) (by omega) (by omega) (by omega) (by omega)
set_option maxRecDepth 4000 in
theorem k14g {base : Nat} {X : Nat → Option mC} {G : Nat → Value} (E : EnvOK base X G) {d : Nat} (hd : 1 ≤ d) {M : mH} (H : HI base M) (word : Int) (h0 : 0 ≤ word ∧ word ≤ 29) : sOk base X G d T14 [vR 1, vI word] M (pI (fun v M' => M' = M ∧ (0 ≤ v ∧ v ≤ 768000) ∧ v = svF (cS 1 M) word)) := by
  refine sOk.of (show sRn base X G d T14 0 [(0, vR 1), (1, vI word)] [] M _ from ?_)
  have km := H.2 1 10 0 16 rfl
  refine s_blx (lv' := [(3, vI 0), (2, vI 0), (0, vR 1), (1, vI word)]) (st' := []) B14_0_4 rfl ?_
  refine r_loc (lv' := [(0, vR 1), (1, vI word), (2, vI 0), (3, vI 0)]) ⟨rfl, rfl, rfl, rfl, trivial⟩ rfl rfl ?_
  exact (L_k14g E hd H word h0 (((16 - 0) * 1 + 0 : Int) + 1).toNat) 0 0 (rfl) (by omega) (by omega) (by omega) (by omega) (by omega) (by omega) (by omega) (by omega)
set_option maxRecDepth 4000 in
theorem L_k278_74g {base : Nat} {X : Nat → Option mC} {G : Nat → Value} (E : EnvOK base X G) {d : Nat} (hd : 0 ≤ d) {M : mH} (H : HI base M) (val : Int) (h0 : 0 ≤ val ∧ val ≤ 0) : ∀ mz : Nat, (∀ (x2 x3 : Int) (N : mH), HI base N → Fr [(74, 0)] M N → (∀ i : Int, 0 ≤ i → i < x2 → gi N 74 i = 0) → (0 ≤ x2) → (x2 ≤ 241) → (241 ≤ x3) → (x3 ≤ 241) → (241 - x2) * 1 + 0 < (mz : Int) → sRn base X G d T278 5 [(0, vR 74), (1, vI val), (2, vI x2), (3, vI x3)] [] N (s_Q base (pV (fun M' => HI base M' ∧ Fr [(74, 0)] M M' ∧ (∀ i : Int, 0 ≤ i → i < 241 → gi M' 74 i = 0))))) := by
  have f0 : Fr [(74, 0)] M M := Fr.rf
  intro mz
  induction mz with
  | zero => exact fun x2 x3 N _ _ z0 z1 z2 z3 z4 z5 => by omega
  | succ mz ih =>
    intro x2 x3 N HN fN i0 i1 i2 i3 i4 hmu
    refine s_blx (lv' := [(0, vR 74), (1, vI val), (2, vI x2), (3, vI x3)]) (st' := [vI x3, vI x2]) B278_5_7 rfl ?_
    refine r_icmp (tgt := 20) (pc' := 10) D278_7 rfl rfl (by unfold inR; omega) (fun (c1 : x3 ≤ x2) => ?_) (fun (c1 : ¬ (x3 ≤ x2)) => ?_)
    · exact r_retV D278_20 rfl (⟨HN, fN, fun i h1 h2 => i0 i h1 (by omega)⟩)
    · refine s_blx (lv' := [(0, vR 74), (1, vI val), (2, vI x2), (3, vI x3)]) (st' := [vI val, vI x2, vR 74]) B278_10_13 rfl ?_
      refine r_iast (pc' := 14) D278_13 rfl sc_74 HN (by omega) (by unfold inR; omega) trivial ?_
      intro M2 u3 H4 p5
      have f6 := fN.wr u3 rfl
      have ku := u3
      have kp := p5
      refine s_blx (lv' := [(2, vI (x2 + 1)), (0, vR 74), (1, vI val), (3, vI x3)]) (st' := []) B278_14_17 rfl ?_
      refine r_goto (tgt := 5) D278_17 rfl ?_
      refine r_loc (lv' := [(0, vR 74), (1, vI val), (2, vI (x2 + 1)), (3, vI x3)]) ⟨rfl, rfl, rfl, rfl, trivial⟩ rfl rfl ?_
      exact ih (x2 + 1) x3 M2 H4 f6 (fun i h1 h2 => if e : i = x2 then (by rw [e, kp]; omega) else (by rw [ku.gi_ne (by omega) (Or.inr e)]; exact i0 i h1 (by omega))) (by omega) (by omega) (by omega) (by omega) (by omega)
set_option maxRecDepth 4000 in
theorem k278_74g {base : Nat} {X : Nat → Option mC} {G : Nat → Value} (E : EnvOK base X G) {d : Nat} (hd : 0 ≤ d) {M : mH} (H : HI base M) (val : Int) (h0 : 0 ≤ val ∧ val ≤ 0) : sOk base X G d T278 [vR 74, vI val] M (pV (fun M' => HI base M' ∧ Fr [(74, 0)] M M' ∧ (∀ i : Int, 0 ≤ i → i < 241 → gi M' 74 i = 0))) := by
  have f0 : Fr [(74, 0)] M M := Fr.rf
  refine sOk.of (show sRn base X G d T278 0 [(0, vR 74), (1, vI val)] [] M _ from ?_)
  refine s_blx (lv' := [(2, vI 0), (0, vR 74), (1, vI val)]) (st' := [vR 74]) B278_0_3 rfl ?_
  refine r_len (ni := 241) (pc' := 4) D278_3 rfl sc_74 (by decide) rfl H.1 ?_
  refine s_blx (lv' := [(3, vI 241), (2, vI 0), (0, vR 74), (1, vI val)]) (st' := []) B278_4_5 rfl ?_
  refine r_loc (lv' := [(0, vR 74), (1, vI val), (2, vI 0), (3, vI 241)]) ⟨rfl, rfl, rfl, rfl, trivial⟩ rfl rfl ?_
  exact (L_k278_74g E hd H val h0 (((241 - 0) * 1 + 0 : Int) + 1).toNat) 0 241 M H f0 (fun i h1 h2 => by omega) (by omega) (by omega) (by omega) (by omega) (by omega)
set_option maxRecDepth 4000 in
theorem L_k278_75g {base : Nat} {X : Nat → Option mC} {G : Nat → Value} (E : EnvOK base X G) {d : Nat} (hd : 0 ≤ d) {M : mH} (H : HI base M) (val : Int) (h0 : 0 ≤ val ∧ val ≤ 0) : ∀ mz : Nat, (∀ (x2 x3 : Int) (N : mH), HI base N → Fr [(75, 0)] M N → (∀ i : Int, 0 ≤ i → i < x2 → gi N 75 i = 0) → (0 ≤ x2) → (x2 ≤ 241) → (241 ≤ x3) → (x3 ≤ 241) → (241 - x2) * 1 + 0 < (mz : Int) → sRn base X G d T278 5 [(0, vR 75), (1, vI val), (2, vI x2), (3, vI x3)] [] N (s_Q base (pV (fun M' => HI base M' ∧ Fr [(75, 0)] M M' ∧ (∀ i : Int, 0 ≤ i → i < 241 → gi M' 75 i = 0))))) := by
  have f0 : Fr [(75, 0)] M M := Fr.rf
  intro mz
  induction mz with
  | zero => exact fun x2 x3 N _ _ z0 z1 z2 z3 z4 z5 => by omega
  | succ mz ih =>
    intro x2 x3 N HN fN i0 i1 i2 i3 i4 hmu
    refine s_blx (lv' := [(0, vR 75), (1, vI val), (2, vI x2), (3, vI x3)]) (st' := [vI x3, vI x2]) B278_5_7 rfl ?_
    refine r_icmp (tgt := 20) (pc' := 10) D278_7 rfl rfl (by unfold inR; omega) (fun (c1 : x3 ≤ x2) => ?_) (fun (c1 : ¬ (x3 ≤ x2)) => ?_)
    · exact r_retV D278_20 rfl (⟨HN, fN, fun i h1 h2 => i0 i h1 (by omega)⟩)
    · refine s_blx (lv' := [(0, vR 75), (1, vI val), (2, vI x2), (3, vI x3)]) (st' := [vI val, vI x2, vR 75]) B278_10_13 rfl ?_
      refine r_iast (pc' := 14) D278_13 rfl sc_75 HN (by omega) (by unfold inR; omega) trivial ?_
      intro M2 u3 H4 p5
      have f6 := fN.wr u3 rfl
      have ku := u3
      have kp := p5
      refine s_blx (lv' := [(2, vI (x2 + 1)), (0, vR 75), (1, vI val), (3, vI x3)]) (st' := []) B278_14_17 rfl ?_
      refine r_goto (tgt := 5) D278_17 rfl ?_
      refine r_loc (lv' := [(0, vR 75), (1, vI val), (2, vI (x2 + 1)), (3, vI x3)]) ⟨rfl, rfl, rfl, rfl, trivial⟩ rfl rfl ?_
      exact ih (x2 + 1) x3 M2 H4 f6 (fun i h1 h2 => if e : i = x2 then (by rw [e, kp]; omega) else (by rw [ku.gi_ne (by omega) (Or.inr e)]; exact i0 i h1 (by omega))) (by omega) (by omega) (by omega) (by omega) (by omega)
set_option maxRecDepth 4000 in
theorem k278_75g {base : Nat} {X : Nat → Option mC} {G : Nat → Value} (E : EnvOK base X G) {d : Nat} (hd : 0 ≤ d) {M : mH} (H : HI base M) (val : Int) (h0 : 0 ≤ val ∧ val ≤ 0) : sOk base X G d T278 [vR 75, vI val] M (pV (fun M' => HI base M' ∧ Fr [(75, 0)] M M' ∧ (∀ i : Int, 0 ≤ i → i < 241 → gi M' 75 i = 0))) := by
  have f0 : Fr [(75, 0)] M M := Fr.rf
  refine sOk.of (show sRn base X G d T278 0 [(0, vR 75), (1, vI val)] [] M _ from ?_)
  refine s_blx (lv' := [(2, vI 0), (0, vR 75), (1, vI val)]) (st' := [vR 75]) B278_0_3 rfl ?_
  refine r_len (ni := 241) (pc' := 4) D278_3 rfl sc_75 (by decide) rfl H.1 ?_
  refine s_blx (lv' := [(3, vI 241), (2, vI 0), (0, vR 75), (1, vI val)]) (st' := []) B278_4_5 rfl ?_
  refine r_loc (lv' := [(0, vR 75), (1, vI val), (2, vI 0), (3, vI 241)]) ⟨rfl, rfl, rfl, rfl, trivial⟩ rfl rfl ?_
  exact (L_k278_75g E hd H val h0 (((241 - 0) * 1 + 0 : Int) + 1).toNat) 0 241 M H f0 (fun i h1 h2 => by omega) (by omega) (by omega) (by omega) (by omega) (by omega)
set_option maxRecDepth 4000 in
theorem L_k13_73g {base : Nat} {X : Nat → Option mC} {G : Nat → Value} (E : EnvOK base X G) {d : Nat} (hd : 2 ≤ d) {M : mH} (H : HI base M) (minutes : Int) (h0 : 0 ≤ minutes ∧ minutes ≤ 240) (h1 : ∀ w : Int, 0 ≤ w → w ≤ 29 → 0 ≤ svF (cS 1 M) w ∧ svF (cS 1 M) w ≤ 768000) : ∀ mz : Nat, (∀ (x3 : Int) (N : mH), HI base N → Fr [(74, 0), (75, 0)] M N → (∀ t : Int, 0 ≤ t → t ≤ minutes → gi N 74 t = (gF (cS 1 M) (29 - x3).toNat t).1 ∧ gi N 75 t = (gF (cS 1 M) (29 - x3).toNat t).2) → (-1 ≤ x3 ∧ x3 ≤ 29) → ((-1) ≤ x3) → (x3 ≤ 29) → (x3 + 1) * 243 + 242 < (mz : Int) → sRn base X G d T13 19 [(0, vR 73), (1, vR 1), (2, vI minutes), (3, vI x3)] [] N (s_Q base (pV (fun M' => HI base M' ∧ Fr [(74, 0), (75, 0)] M M' ∧ (∀ t : Int, 0 ≤ t → t ≤ minutes → gi M' 74 t = (gF (cS 1 M) 30 t).1 ∧ gi M' 75 t = (gF (cS 1 M) 30 t).2))))) ∧ (∀ (x3 x4 x5 x6 : Int) (N : mH), HI base N → Fr [(74, 0), (75, 0)] M N → (0 ≤ x3 ∧ x3 ≤ 29) → (x4 = cS 1 M (30 + x3)) → (0 ≤ x4 ∧ x4 ≤ 60) → (x5 = svF (cS 1 M) x3) → (-1 ≤ x6 ∧ x6 ≤ minutes) → (∀ t : Int, 0 ≤ t → t ≤ x6 → gi N 74 t = (gF (cS 1 M) (29 - x3).toNat t).1 ∧ gi N 75 t = (gF (cS 1 M) (29 - x3).toNat t).2) → (∀ t : Int, x6 < t → t ≤ minutes → 0 ≤ t → gi N 74 t = (gF (cS 1 M) (30 - x3).toNat t).1 ∧ gi N 75 t = (gF (cS 1 M) (30 - x3).toNat t).2) → (0 ≤ x5 ∧ x5 ≤ 768000) → (0 ≤ x3) → (x3 ≤ 29) → (0 ≤ x4) → (x4 ≤ 60) → (0 ≤ x5) → (x5 ≤ 768000) → ((-1) ≤ x6) → (x6 ≤ 240) → (x3 + 1) * 243 + 0 + (x6 + 1) * 1 + 0 < (mz : Int) → sRn base X G d T13 44 [(0, vR 73), (1, vR 1), (2, vI minutes), (3, vI x3), (4, vI x4), (5, vI x5), (6, vI x6)] [] N (s_Q base (pV (fun M' => HI base M' ∧ Fr [(74, 0), (75, 0)] M M' ∧ (∀ t : Int, 0 ≤ t → t ≤ minutes → gi M' 74 t = (gF (cS 1 M) 30 t).1 ∧ gi M' 75 t = (gF (cS 1 M) 30 t).2))))) := by
  have f0 : Fr [(74, 0), (75, 0)] M M := Fr.rf
  intro mz
  induction mz with
  | zero => exact ⟨fun x3 N _ _ z0 z1 z2 z3 z4 => by omega, fun x3 x4 x5 x6 N _ _ z0 z1 z2 z3 z4 z5 z6 z7 z8 z9 z10 z11 z12 z13 z14 z15 z16 => by omega⟩
  | succ mz ih =>
    refine ⟨?_, ?_⟩
    · intro x3 N HN fN i0 i1 i2 i3 hmu
      refine s_blx (lv' := [(0, vR 73), (1, vR 1), (2, vI minutes), (3, vI x3)]) (st' := [vI x3]) B13_19_20 rfl ?_
      refine r_ifc (tgt := 127) (pc' := 23) D13_20 rfl rfl (by unfold inR; omega) (fun (c15 : x3 < 0) => ?_) (fun (c15 : ¬ (x3 < 0)) => ?_)
      · exact r_retV D13_127 rfl (⟨HN, fN, fun t a b => by have q := i0 t a b; rw [show (29 - x3).toNat = 30 by omega] at q; exact q⟩)
      · refine s_blx (lv' := [(0, vR 73), (1, vR 1), (2, vI minutes), (3, vI x3)]) (st' := [vR 1]) B13_23_24 rfl ?_
        refine r_gfix (r := 2) (pc' := 27) D13_24 rfl gf_2_24_1 HN.1 ?_
        refine s_blx (lv' := [(0, vR 73), (1, vR 1), (2, vI minutes), (3, vI x3)]) (st' := [vI (30 + x3), vR 2]) B13_27_31 rfl ?_
        refine r_iald (pc' := 32) D13_31 rfl sc_2 HN.1 (by omega) ?_
        intro w16 e17 r18
        have b_w16 := HN.2 2 (30 + x3) 0 60 rfl
        rw [← e17] at b_w16; clear r18
        have klk : w16 = cS 1 M (30 + x3) := e17.trans ((fN.g rfl).trans (cS_at (slA_w (by omega))).symm)
        refine s_blx (lv' := [(4, vI w16), (0, vR 73), (1, vR 1), (2, vI minutes), (3, vI x3)]) (st' := [vI x3, vR 1]) B13_32_36 rfl ?_
        refine r_sIp (args := [vR 1, vI x3]) (rest := []) (pc' := 39) D13_36 rfl ck_2_static_29 TE14 rfl (Nat.le_of_ble_eq_true rfl) ⟨Nat.le_of_ble_eq_true rfl, Nat.le_of_ble_eq_true rfl⟩ (by decide) (dp_0 hd rfl) (k14g E (dp_n hd rfl) HN x3 (by omega)) ?_
        intro v19 q23
        obtain ⟨q21, q22⟩ := q23
        have ksv : v19 = svF (cS 1 M) x3 := by rw [q22]; congr 1; funext j; exact (cS_fN fN rfl j)
        refine s_blx (lv' := [(6, vI minutes), (5, vI v19), (4, vI w16), (0, vR 73), (1, vR 1), (2, vI minutes), (3, vI x3)]) (st' := []) B13_39_44 rfl ?_
        refine r_loc (lv' := [(0, vR 73), (1, vR 1), (2, vI minutes), (3, vI x3), (4, vI w16), (5, vI v19), (6, vI minutes)]) ⟨rfl, rfl, rfl, rfl, rfl, rfl, rfl, trivial⟩ rfl rfl ?_
        exact ih.2 x3 w16 v19 minutes N HN fN (by omega) (by omega) (by omega) (by omega) (by omega) (fun t a b => i0 t a b) (fun t a b c => by omega) (by omega) (by omega) (by omega) (by omega) (by omega) (by omega) (by omega) (by omega) (by omega) (by omega)
    · intro x3 x4 x5 x6 N HN fN i0 i1 i2 i3 i4 i5 i6 i7 i8 i9 i10 i11 i12 i13 i14 i15 hmu
      refine s_blx (lv' := [(0, vR 73), (1, vR 1), (2, vI minutes), (3, vI x3), (4, vI x4), (5, vI x5), (6, vI x6)]) (st' := [vI x4, vI x6]) B13_44_48 rfl ?_
      refine r_icmp (tgt := 121) (pc' := 51) D13_48 rfl rfl (by unfold inR; omega) (fun (c24 : x6 < x4) => ?_) (fun (c24 : ¬ (x6 < x4)) => ?_)
      · refine s_blx (lv' := [(3, vI (x3 + (-1))), (0, vR 73), (1, vR 1), (2, vI minutes), (4, vI x4), (5, vI x5), (6, vI x6)]) (st' := []) B13_121_124 rfl ?_
        refine r_goto (tgt := 19) D13_124 rfl ?_
        refine r_loc (lv' := [(0, vR 73), (1, vR 1), (2, vI minutes), (3, vI (x3 + (-1)))]) ⟨rfl, rfl, rfl, rfl, trivial⟩ rfl rfl ?_
        exact ih.1 (x3 + (-1)) N HN fN (fun t a b => by rw [show (29 - (x3 + (-1))).toNat = (30 - x3).toNat by omega]; exact if c : x6 < t then i6 t c b a else (by rw [gF_out (by omega) i1 (fun h => by omega)]; exact i5 t a (by omega))) (by omega) (by omega) (by omega) (by omega)
      · refine s_blx (lv' := [(0, vR 73), (1, vR 1), (2, vI minutes), (3, vI x3), (4, vI x4), (5, vI x5), (6, vI x6)]) (st' := [vR 73]) B13_51_52 rfl ?_
        refine r_gfix (r := 74) (pc' := 55) D13_52 rfl gf_2_9_73 HN.1 ?_
        refine s_blx (lv' := [(0, vR 73), (1, vR 1), (2, vI minutes), (3, vI x3), (4, vI x4), (5, vI x5), (6, vI x6)]) (st' := [vI (x6 - x4), vR 74]) B13_55_60 rfl ?_
        refine r_iald (pc' := 61) D13_60 rfl sc_74 HN.1 (by omega) ?_
        intro w25 e26 r27
        unfold inR at r27
        have ko := i5 (x6 - x4) (by omega) (by omega)
        have kob := gF_b h1 (29 - x3).toNat (by omega) (x6 - x4)
        have kr1 := e26.trans ko.1
        refine s_blx (lv' := [(0, vR 73), (1, vR 1), (2, vI minutes), (3, vI x3), (4, vI x4), (5, vI x5), (6, vI x6)]) (st' := [vR 73, vI (w25 + x5)]) B13_61_65 rfl ?_
        refine r_gfix (r := 74) (pc' := 68) D13_65 rfl gf_2_9_73 HN.1 ?_
        refine s_blx (lv' := [(0, vR 73), (1, vR 1), (2, vI minutes), (3, vI x3), (4, vI x4), (5, vI x5), (6, vI x6)]) (st' := [vI x6, vR 74, vI (w25 + x5)]) B13_68_70 rfl ?_
        refine r_iald (pc' := 71) D13_70 rfl sc_74 HN.1 (by omega) ?_
        intro w28 e29 r30
        unfold inR at r30
        have kn := i5 x6 (by omega) (by omega)
        have knb := gF_b h1 (29 - x3).toNat (by omega) x6
        have kr2 := e29.trans kn.1
        have kle0 : x6 = x6 := rfl
        refine r_icmp (tgt := 115) (pc' := 74) D13_71 rfl rfl (by unfold inR; omega) (fun (c31 : (w25 + x5) < w28) => ?_) (fun (c31 : ¬ ((w25 + x5) < w28)) => ?_)
        · refine s_blx (lv' := [(6, vI (x6 + (-1))), (0, vR 73), (1, vR 1), (2, vI minutes), (3, vI x3), (4, vI x4), (5, vI x5)]) (st' := []) B13_115_118 rfl ?_
          refine r_goto (tgt := 44) D13_118 rfl ?_
          refine r_loc (lv' := [(0, vR 73), (1, vR 1), (2, vI minutes), (3, vI x3), (4, vI x4), (5, vI x5), (6, vI (x6 + (-1)))]) ⟨rfl, rfl, rfl, rfl, rfl, rfl, rfl, trivial⟩ rfl rfl ?_
          exact ih.2 x3 x4 x5 (x6 + (-1)) N HN fN (by omega) (by omega) (by omega) (by omega) (by omega) (by first | exact fun t a b => ⟨by rw [ku2.gi_ne (by omega) (Or.inl (by decide)), ku1.gi_ne (by omega) (Or.inr (by omega))]; exact (i5 t a (by omega)).1, by rw [ku2.gi_ne (by omega) (Or.inr (by omega)), ku1.gi_ne (by omega) (Or.inl (by decide))]; exact (i5 t a (by omega)).2⟩ | exact fun t a b => i5 t a (by omega)) (by first | exact fun t a b c => if e : t = x6 then (by subst e; rw [gF_in (by omega) i1 (by omega) kle]; exact ⟨kA, kB⟩) else ⟨by rw [ku2.gi_ne (by omega) (Or.inl (by decide)), ku1.gi_ne (by omega) (Or.inr e)]; exact (i6 t (by omega) b c).1, by rw [ku2.gi_ne (by omega) (Or.inr e), ku1.gi_ne (by omega) (Or.inl (by decide))]; exact (i6 t (by omega) b c).2⟩ | exact fun t a b c => if e : t = x6 then (by subst e; rw [gF_out (by omega) i1 (fun h => by have h2 := h.2; omega)]; exact i5 t c (by omega)) else i6 t (by omega) b c) (by omega) (by omega) (by omega) (by omega) (by omega) (by omega) (by omega) (by omega) (by omega) (by omega)
        · refine s_blx (lv' := [(0, vR 73), (1, vR 1), (2, vI minutes), (3, vI x3), (4, vI x4), (5, vI x5), (6, vI x6)]) (st' := [vR 73]) B13_74_75 rfl ?_
          refine r_gfix (r := 74) (pc' := 78) D13_75 rfl gf_2_9_73 HN.1 ?_
          refine s_blx (lv' := [(0, vR 73), (1, vR 1), (2, vI minutes), (3, vI x3), (4, vI x4), (5, vI x5), (6, vI x6)]) (st' := [vR 73, vI x6, vR 74]) B13_78_81 rfl ?_
          refine r_gfix (r := 74) (pc' := 84) D13_81 rfl gf_2_9_73 HN.1 ?_
          refine s_blx (lv' := [(0, vR 73), (1, vR 1), (2, vI minutes), (3, vI x3), (4, vI x4), (5, vI x5), (6, vI x6)]) (st' := [vI (x6 - x4), vR 74, vI x6, vR 74]) B13_84_89 rfl ?_
          refine r_iald (pc' := 90) D13_89 rfl sc_74 HN.1 (by omega) ?_
          intro w32 e33 r34
          have e35 : w25 = w32 := (e33.trans (e26.symm)).symm
          subst e35
          have kr3 := e33.trans ko.1
          have kle : (gF (cS 1 M) (29 - x3).toNat x6).1 ≤ (gF (cS 1 M) (29 - x3).toNat (x6 - x4)).1 + svF (cS 1 M) x3 := by omega
          refine s_blx (lv' := [(0, vR 73), (1, vR 1), (2, vI minutes), (3, vI x3), (4, vI x4), (5, vI x5), (6, vI x6)]) (st' := [vI (w25 + x5), vI x6, vR 74]) B13_90_93 rfl ?_
          refine r_iast (pc' := 94) D13_93 rfl sc_74 HN (by omega) (by unfold inR; omega) trivial ?_
          intro M36 u37 H38 p39
          have f40 := fN.wr u37 rfl
          have ku1 := u37
          have kp1 := p39
          refine s_blx (lv' := [(0, vR 73), (1, vR 1), (2, vI minutes), (3, vI x3), (4, vI x4), (5, vI x5), (6, vI x6)]) (st' := [vR 73]) B13_94_95 rfl ?_
          refine r_gfix (r := 75) (pc' := 98) D13_95 rfl gf_2_15_73 H38.1 ?_
          refine s_blx (lv' := [(0, vR 73), (1, vR 1), (2, vI minutes), (3, vI x3), (4, vI x4), (5, vI x5), (6, vI x6)]) (st' := [vR 73, vI x6, vR 75]) B13_98_101 rfl ?_
          refine r_gfix (r := 75) (pc' := 104) D13_101 rfl gf_2_15_73 H38.1 ?_
          refine s_blx (lv' := [(0, vR 73), (1, vR 1), (2, vI minutes), (3, vI x3), (4, vI x4), (5, vI x5), (6, vI x6)]) (st' := [vI (x6 - x4), vR 75, vI x6, vR 75]) B13_104_109 rfl ?_
          refine r_iald (pc' := 110) D13_109 rfl sc_75 H38.1 (by omega) ?_
          intro w41 e42 r43
          unfold inR at r43
          have kr4 : w41 = (gF (cS 1 M) (29 - x3).toNat (x6 - x4)).2 := by rw [e42, ku1.gi_ne (by omega) (Or.inl (by decide))]; exact ko.2
          refine s_blx (lv' := [(0, vR 73), (1, vR 1), (2, vI minutes), (3, vI x3), (4, vI x4), (5, vI x5), (6, vI x6)]) (st' := [vI x3, vI 1, vI w41, vI x6, vR 75]) B13_110_112 rfl ?_
          refine r_bin (pc' := 113) D13_112 rfl rfl ?_
          intro z44 r45 kq1; unfold inR at r45
          refine r_bin (pc' := 114) D13_113 rfl rfl ?_
          intro z46 r47 kq2; unfold inR at r47
          refine r_iast (pc' := 115) D13_114 rfl sc_75 H38 (by omega) (by unfold inR; omega) trivial ?_
          intro M48 u49 H50 p51
          have f52 := f40.wr u49 rfl
          have ku2 := u49
          have kp2 := p51
          have kA : gi M48 74 x6 = (gF (cS 1 M) (29 - x3).toNat (x6 - x4)).1 + svF (cS 1 M) x3 := by rw [ku2.gi_ne (by omega) (Or.inl (by decide)), kp1]; omega
          have kB : gi M48 75 x6 = orI (gF (cS 1 M) (29 - x3).toNat (x6 - x4)).2 (shI 1 x3) := by rw [kp2, ← kr4, ← shI_of (by unfold inR; omega) kq1]; exact orI_of (by unfold inR; omega) kq2
          refine s_blx (lv' := [(6, vI (x6 + (-1))), (0, vR 73), (1, vR 1), (2, vI minutes), (3, vI x3), (4, vI x4), (5, vI x5)]) (st' := []) B13_115_118 rfl ?_
          refine r_goto (tgt := 44) D13_118 rfl ?_
          refine r_loc (lv' := [(0, vR 73), (1, vR 1), (2, vI minutes), (3, vI x3), (4, vI x4), (5, vI x5), (6, vI (x6 + (-1)))]) ⟨rfl, rfl, rfl, rfl, rfl, rfl, rfl, trivial⟩ rfl rfl ?_
          exact ih.2 x3 x4 x5 (x6 + (-1)) M48 H50 f52 (by omega) (by omega) (by omega) (by omega) (by omega) (by first | exact fun t a b => ⟨by rw [ku2.gi_ne (by omega) (Or.inl (by decide)), ku1.gi_ne (by omega) (Or.inr (by omega))]; exact (i5 t a (by omega)).1, by rw [ku2.gi_ne (by omega) (Or.inr (by omega)), ku1.gi_ne (by omega) (Or.inl (by decide))]; exact (i5 t a (by omega)).2⟩ | exact fun t a b => i5 t a (by omega)) (by first | exact fun t a b c => if e : t = x6 then (by subst e; rw [gF_in (by omega) i1 (by omega) kle]; exact ⟨kA, kB⟩) else ⟨by rw [ku2.gi_ne (by omega) (Or.inl (by decide)), ku1.gi_ne (by omega) (Or.inr e)]; exact (i6 t (by omega) b c).1, by rw [ku2.gi_ne (by omega) (Or.inr e), ku1.gi_ne (by omega) (Or.inl (by decide))]; exact (i6 t (by omega) b c).2⟩ | exact fun t a b c => if e : t = x6 then (by subst e; rw [gF_out (by omega) i1 (fun h => by have h2 := h.2; omega)]; exact i5 t c (by omega)) else i6 t (by omega) b c) (by omega) (by omega) (by omega) (by omega) (by omega) (by omega) (by omega) (by omega) (by omega) (by omega)
set_option maxRecDepth 4000 in
theorem k13_73g {base : Nat} {X : Nat → Option mC} {G : Nat → Value} (E : EnvOK base X G) {d : Nat} (hd : 2 ≤ d) {M : mH} (H : HI base M) (minutes : Int) (h0 : 0 ≤ minutes ∧ minutes ≤ 240) (h1 : ∀ w : Int, 0 ≤ w → w ≤ 29 → 0 ≤ svF (cS 1 M) w ∧ svF (cS 1 M) w ≤ 768000) : sOk base X G d T13 [vR 73, vR 1, vI minutes] M (pV (fun M' => HI base M' ∧ Fr [(74, 0), (75, 0)] M M' ∧ (∀ t : Int, 0 ≤ t → t ≤ minutes → gi M' 74 t = (gF (cS 1 M) 30 t).1 ∧ gi M' 75 t = (gF (cS 1 M) 30 t).2))) := by
  have f0 : Fr [(74, 0), (75, 0)] M M := Fr.rf
  refine sOk.of (show sRn base X G d T13 0 [(0, vR 73), (1, vR 1), (2, vI minutes)] [] M _ from ?_)
  refine s_blx (lv' := [(0, vR 73), (1, vR 1), (2, vI minutes)]) (st' := [vR 73]) B13_0_1 rfl ?_
  refine r_gfix (r := 74) (pc' := 4) D13_1 rfl gf_2_9_73 H.1 ?_
  refine s_blx (lv' := [(0, vR 73), (1, vR 1), (2, vI minutes)]) (st' := [vI 0, vR 74]) B13_4_5 rfl ?_
  refine r_sV (args := [vR 74, vI 0]) (rest := []) (pc' := 8) D13_5 rfl ck_2_static_18 TE278 rfl (Nat.le_of_ble_eq_true rfl) ⟨Nat.le_of_ble_eq_true rfl, Nat.le_of_ble_eq_true rfl⟩ (by decide) (dp_0 hd rfl) (k278_74g E (dp_n hd rfl) H 0 (by omega)) ?_
  intro M2 q6
  obtain ⟨H3, f4, q5⟩ := q6
  have f7 := f0.tr (f4.up rfl)
  have kg1 := q5; clear q5
  refine s_blx (lv' := [(0, vR 73), (1, vR 1), (2, vI minutes)]) (st' := [vR 73]) B13_8_9 rfl ?_
  refine r_gfix (r := 75) (pc' := 12) D13_9 rfl gf_2_15_73 H3.1 ?_
  refine s_blx (lv' := [(0, vR 73), (1, vR 1), (2, vI minutes)]) (st' := [vI 0, vR 75]) B13_12_13 rfl ?_
  refine r_sV (args := [vR 75, vI 0]) (rest := []) (pc' := 16) D13_13 rfl ck_2_static_18 TE278 rfl (Nat.le_of_ble_eq_true rfl) ⟨Nat.le_of_ble_eq_true rfl, Nat.le_of_ble_eq_true rfl⟩ (by decide) (dp_0 hd rfl) (k278_75g E (dp_n hd rfl) H3 0 (by omega)) ?_
  intro M9 q13
  obtain ⟨H10, f11, q12⟩ := q13
  have f14 := f7.tr (f11.up rfl)
  have kf2 := q12; clear q12
  have kf1 : ∀ i : Int, 0 ≤ i → i < 241 → gi M9 74 i = 0 := fun i a b => (f11.g rfl).trans (kg1 i a b)
  refine s_blx (lv' := [(3, vI 29), (0, vR 73), (1, vR 1), (2, vI minutes)]) (st' := []) B13_16_19 rfl ?_
  refine r_loc (lv' := [(0, vR 73), (1, vR 1), (2, vI minutes), (3, vI 29)]) ⟨rfl, rfl, rfl, rfl, trivial⟩ rfl rfl ?_
  exact (L_k13_73g E hd H minutes h0 h1 (((29 + 1) * 243 + 242 : Int) + 1).toNat).1 29 M9 H10 f14 (fun t a b => ⟨kf1 t a (by omega), kf2 t a (by omega)⟩) (by omega) (by omega) (by omega) (by omega)
set_option maxRecDepth 4000 in
theorem k125g {base : Nat} {X : Nat → Option mC} {G : Nat → Value} (E : EnvOK base X G) {d : Nat} (hd : 3 ≤ d) {M : mH} (H : HI base M) (minutes : Int) (what : Int) (h0 : -2147483648 ≤ minutes ∧ minutes ≤ 2147483647) (h1 : -2147483648 ≤ what ∧ what ≤ 2147483647) : sOk base X G d T125 [vR 0, vI minutes, vI what] M (pI (fun v M' => HI base M' ∧ Fr [(74, 0), (75, 0)] M M' ∧ (-2147483648 ≤ v ∧ v ≤ 2147483647) ∧ (v = glV (cS 1 M) minutes what))) := by
  have f0 : Fr [(74, 0), (75, 0)] M M := Fr.rf
  refine sOk.of (show sRn base X G d T125 0 [(0, vR 0), (1, vI minutes), (2, vI what)] [] M _ from ?_)
  refine s_blx (lv' := [(0, vR 0), (1, vI minutes), (2, vI what)]) (st' := [vI 240, vI 0, vI minutes]) B125_0_5 rfl ?_
  refine r_sIp (args := [vI minutes, vI 0, vI 240]) (rest := []) (pc' := 8) D125_5 rfl ck_10_static_102 TE142 rfl (Nat.le_of_ble_eq_true rfl) ⟨Nat.le_of_ble_eq_true rfl, Nat.le_of_ble_eq_true rfl⟩ (by decide) (dp_0 hd rfl) (k142 E (dp_n hd rfl) H minutes 0 240 (by omega) (by omega) (by omega)) ?_
  intro v1 q6
  obtain ⟨q3, q4, q5⟩ := q6
  refine r_ifc (tgt := 20) (pc' := 11) D125_8 rfl rfl (by unfold inR; omega) (fun (c7 : v1 = 0) => ?_) (fun (c7 : ¬ (v1 = 0)) => ?_)
  · refine s_blx (lv' := [(0, vR 0), (1, vI minutes), (2, vI what)]) (st' := [vI (-1)]) B125_20_21 rfl ?_
    exact r_iretI D125_21 rfl (⟨H, f0, by omega, glV_no (fun h => by omega)⟩)
  · refine s_blx (lv' := [(0, vR 0), (1, vI minutes), (2, vI what)]) (st' := [vI 1, vI 0, vI what]) B125_11_14 rfl ?_
    refine r_sIp (args := [vI what, vI 0, vI 1]) (rest := []) (pc' := 17) D125_14 rfl ck_10_static_102 TE142 rfl (Nat.le_of_ble_eq_true rfl) ⟨Nat.le_of_ble_eq_true rfl, Nat.le_of_ble_eq_true rfl⟩ (by decide) (dp_0 hd rfl) (k142 E (dp_n hd rfl) H what 0 1 (by omega) (by omega) (by omega)) ?_
    intro v8 q13
    obtain ⟨q10, q11, q12⟩ := q13
    refine r_ifc (tgt := 22) (pc' := 20) D125_17 rfl rfl (by unfold inR; omega) (fun (c14 : v8 ≠ 0) => ?_) (fun (c14 : ¬ (v8 ≠ 0)) => ?_)
    · refine s_blx (lv' := [(0, vR 0), (1, vI minutes), (2, vI what)]) (st' := [vR 0]) B125_22_23 rfl ?_
      refine r_gfix (r := 73) (pc' := 26) D125_23 rfl gf_10_94_0 H.1 ?_
      refine s_blx (lv' := [(0, vR 0), (1, vI minutes), (2, vI what)]) (st' := [vR 0, vR 73]) B125_26_27 rfl ?_
      refine r_gfix (r := 1) (pc' := 30) D125_27 rfl gf_10_10_0 H.1 ?_
      refine s_blx (lv' := [(0, vR 0), (1, vI minutes), (2, vI what)]) (st' := [vI minutes, vR 1, vR 73]) B125_30_31 rfl ?_
      refine r_vV (c := 73) (args := [vR 1, vI minutes]) (rest := []) (pc' := 34) D125_31 rfl ck_10_virtual_308 TE13 rfl (Nat.le_of_ble_eq_true rfl) ⟨Nat.le_of_ble_eq_true rfl, Nat.le_of_ble_eq_true rfl⟩ sc_73 ⟨rfl, by decide⟩ H.1 (dp_0 hd rfl) (k13_73g E (dp_n hd rfl) H minutes (by omega) (svF_cl H)) ?_
      intro M16 q20
      obtain ⟨H17, f18, q19⟩ := q20
      have f21 := f0.tr (f18.up rfl)
      have kf := q19 minutes (by omega) (by omega)
      have kR := gF_R (K := cS 1 M) 30 minutes
      unfold inR at kR
      have kB := gF_b (svF_cl H) 30 (by omega) minutes
      refine s_blx (lv' := [(0, vR 0), (1, vI minutes), (2, vI what)]) (st' := [vI what]) B125_34_35 rfl ?_
      refine r_ifc (tgt := 50) (pc' := 38) D125_35 rfl rfl (by unfold inR; omega) (fun (c22 : what ≠ 0) => ?_) (fun (c22 : ¬ (what ≠ 0)) => ?_)
      · refine s_blx (lv' := [(0, vR 0), (1, vI minutes), (2, vI what)]) (st' := [vR 0]) B125_50_51 rfl ?_
        refine r_gfix (r := 73) (pc' := 54) D125_51 rfl gf_10_94_0 H17.1 ?_
        refine r_gfix (r := 75) (pc' := 57) D125_54 rfl gf_10_313_73 H17.1 ?_
        refine s_blx (lv' := [(0, vR 0), (1, vI minutes), (2, vI what)]) (st' := [vI minutes, vR 75]) B125_57_58 rfl ?_
        refine r_iald (pc' := 59) D125_58 rfl sc_75 H17.1 (by omega) ?_
        intro w23 e24 r25
        unfold inR at r25
        have ke := e24.trans kf.2
        exact r_iretI D125_59 rfl (⟨H17, f21, by omega, by first | (rw [ke]; exact glV_0 (by omega) (by omega)) | (rw [ke]; exact glV_1 (by omega) (by omega))⟩)
      · refine s_blx (lv' := [(0, vR 0), (1, vI minutes), (2, vI what)]) (st' := [vR 0]) B125_38_39 rfl ?_
        refine r_gfix (r := 73) (pc' := 42) D125_39 rfl gf_10_94_0 H17.1 ?_
        refine r_gfix (r := 74) (pc' := 45) D125_42 rfl gf_10_310_73 H17.1 ?_
        refine s_blx (lv' := [(0, vR 0), (1, vI minutes), (2, vI what)]) (st' := [vI minutes, vR 74]) B125_45_46 rfl ?_
        refine r_iald (pc' := 47) D125_46 rfl sc_74 H17.1 (by omega) ?_
        intro w26 e27 r28
        unfold inR at r28
        have ke := e27.trans kf.1
        refine r_goto (tgt := 59) D125_47 rfl ?_
        exact r_iretI D125_59 rfl (⟨H17, f21, by omega, by first | (rw [ke]; exact glV_0 (by omega) (by omega)) | (rw [ke]; exact glV_1 (by omega) (by omega))⟩)
    · refine s_blx (lv' := [(0, vR 0), (1, vI minutes), (2, vI what)]) (st' := [vI (-1)]) B125_20_21 rfl ?_
      exact r_iretI D125_21 rfl (⟨H, f0, by omega, glV_no (fun h => by omega)⟩)
set_option maxRecDepth 4000 in
theorem L_k259g {base : Nat} {X : Nat → Option mC} {G : Nat → Value} (E : EnvOK base X G) {d : Nat} (hd : 1 ≤ d) {M : mH} (H : HI base M) (w : Int) (K : Int → Int) (h0 : KK K M) (h1 : 0 ≤ w ∧ w ≤ 29) : ∀ mz : Nat, (∀ (x2 x3 : Int), (x2 = gsF K w x3.toNat) → (0 ≤ x2 ∧ x2 ≤ 800 * x3) → (0 ≤ x3 ∧ x3 ≤ 16) → (x3 ≤ K 469) → (0 ≤ x2) → (x2 ≤ 12800) → (0 ≤ x3) → (x3 ≤ 16) → (16 - x3) * 10 + 9 < (mz : Int) → sRn base X G d T259 4 [(0, vR 77), (1, vI w), (2, vI x2), (3, vI x3)] [] M (s_Q base (pI (fun v M' => M' = M ∧ (0 ≤ v ∧ v ≤ 768000) ∧ v = svF K w)))) ∧ (∀ (x2 x3 x4 : Int), (x2 = gsF K w x3.toNat + wgK K x3 * tmF K x3 w x4.toNat) → (0 ≤ x2 ∧ x2 ≤ 800 * x3 + 100 * x4) → (0 ≤ x3 ∧ x3 ≤ 15) → (x3 < K 469) → (0 ≤ x4 ∧ x4 ≤ 8) → (x4 ≤ K (135 + 16 * x3)) → (0 ≤ x2) → (x2 ≤ 12900) → (0 ≤ x3) → (x3 ≤ 15) → (0 ≤ x4) → (x4 ≤ 8) → (16 - x3) * 10 + 0 + (8 - x4) * 1 + 0 < (mz : Int) → sRn base X G d T259 19 [(0, vR 77), (1, vI w), (2, vI x2), (3, vI x3), (4, vI x4)] [] M (s_Q base (pI (fun v M' => M' = M ∧ (0 ≤ v ∧ v ≤ 768000) ∧ v = svF K w)))) := by
  intro mz
  induction mz with
  | zero => exact ⟨fun x2 x3 z0 z1 z2 z3 z4 z5 z6 z7 z8 => by omega, fun x2 x3 x4 z0 z1 z2 z3 z4 z5 z6 z7 z8 z9 z10 z11 z12 => by omega⟩
  | succ mz ih =>
    refine ⟨?_, ?_⟩
    · intro x2 x3 i0 i1 i2 i3 i4 i5 i6 i7 hmu
      have km := h0.many H
      refine s_blx (lv' := [(0, vR 77), (1, vI w), (2, vI x2), (3, vI x3)]) (st' := [vR 77, vI x3]) B259_4_6 rfl ?_
      refine r_gfix (r := 78) (pc' := 9) D259_6 rfl gf_11_13_77 H.1 ?_
      refine s_blx (lv' := [(0, vR 77), (1, vI w), (2, vI x2), (3, vI x3)]) (st' := [vI 469, vR 78, vI x3]) B259_9_12 rfl ?_
      refine r_iald (pc' := 13) D259_12 rfl sc_78 H.1 (by omega) ?_
      intro w1 e2 r3
      have kk_w1 := (h0) (469)
      have b_w1 := H.2 78 (469) 0 16 (rk_many (by omega))
      rw [← e2] at b_w1; clear r3
      refine r_icmp (tgt := 64) (pc' := 16) D259_13 rfl rfl (by unfold inR; omega) (fun (c4 : w1 ≤ x3) => ?_) (fun (c4 : ¬ (w1 ≤ x3)) => ?_)
      · refine s_blx (lv' := [(0, vR 77), (1, vI w), (2, vI x2), (3, vI x3)]) (st' := [vR 77, vI x2]) B259_64_66 rfl ?_
        refine r_gfix (r := 78) (pc' := 69) D259_66 rfl gf_11_13_77 H.1 ?_
        refine s_blx (lv' := [(0, vR 77), (1, vI w), (2, vI x2), (3, vI x3)]) (st' := [vI (60 + w), vR 78, vI x2]) B259_69_73 rfl ?_
        refine r_iald (pc' := 74) D259_73 rfl sc_78 H.1 (by omega) ?_
        intro w5 e6 r7
        have kk_w5 := (h0) (60 + w)
        have b_w5 := H.2 78 (60 + w) 0 9 (rk_spare (by omega))
        rw [← e6] at b_w5; clear r7
        have kmc := mulb (a := x2) (b := w5) (A := 12800) (B := 9) (by omega) (by omega)
        have ksp : w5 = K (60 + w) := e6.trans ((h0) _)
        refine s_blx (lv' := [(0, vR 77), (1, vI w), (2, vI x2), (3, vI x3)]) (st' := [vI (x2 * w5)]) B259_74_75 rfl ?_
        exact r_iretI D259_75 rfl (⟨rfl, by omega, by unfold svF; rw [show K 469 = x3 by omega, ← i0, ← ksp]⟩)
      · refine s_blx (lv' := [(4, vI 0), (0, vR 77), (1, vI w), (2, vI x2), (3, vI x3)]) (st' := []) B259_16_19 rfl ?_
        refine r_loc (lv' := [(0, vR 77), (1, vI w), (2, vI x2), (3, vI x3), (4, vI 0)]) ⟨rfl, rfl, rfl, rfl, rfl, trivial⟩ rfl rfl ?_
        exact ih.2 x2 x3 0 (by show x2 = gsF K w x3.toNat + wgK K x3 * 0; rw [Int.mul_zero]; omega) (by omega) (by omega) (by omega) (by omega) (by have q := H.2 78 (135 + 16 * x3) 0 8 (rk_len (by omega)); rw [h0] at q; omega) (by omega) (by omega) (by omega) (by omega) (by omega) (by omega) (by omega)
    · intro x2 x3 x4 i0 i1 i2 i3 i4 i5 i6 i7 i8 i9 i10 i11 hmu
      have km := h0.many H
      refine s_blx (lv' := [(0, vR 77), (1, vI w), (2, vI x2), (3, vI x3), (4, vI x4)]) (st' := [vI x3, vR 77, vI x4]) B259_19_23 rfl ?_
      refine r_vIp (c := 77) (args := [vI x3]) (rest := [vI x4]) (pc' := 26) D259_23 rfl ck_11_virtual_144 TE156 rfl (Nat.le_of_ble_eq_true rfl) ⟨Nat.le_of_ble_eq_true rfl, Nat.le_of_ble_eq_true rfl⟩ sc_77 ⟨rfl, by decide⟩ H.1 (dp_0 hd rfl) (k156f E (dp_n hd rfl) H x3 K (h0) (by omega)) ?_
      intro v8 q12
      obtain ⟨q10, q11⟩ := q12
      refine r_icmp (tgt := 58) (pc' := 29) D259_26 rfl rfl (by unfold inR; omega) (fun (c13 : v8 ≤ x4) => ?_) (fun (c13 : ¬ (v8 ≤ x4)) => ?_)
      · refine s_blx (lv' := [(3, vI (x3 + 1)), (0, vR 77), (1, vI w), (2, vI x2), (4, vI x4)]) (st' := []) B259_58_61 rfl ?_
        refine r_goto (tgt := 4) D259_61 rfl ?_
        refine r_loc (lv' := [(0, vR 77), (1, vI w), (2, vI x2), (3, vI (x3 + 1))]) ⟨rfl, rfl, rfl, rfl, trivial⟩ rfl rfl ?_
        exact ih.1 x2 (x3 + 1) (by rw [gsF_step (by omega), i0, show K (135 + 16 * x3) = x4 by omega]) (by omega) (by omega) (by omega) (by omega) (by omega) (by omega) (by omega) (by omega)
      · refine s_blx (lv' := [(0, vR 77), (1, vI w), (2, vI x2), (3, vI x3), (4, vI x4)]) (st' := [vI x4, vI x3, vR 77, vI x2]) B259_29_34 rfl ?_
        refine r_vIp (c := 77) (args := [vI x3, vI x4]) (rest := [vI x2]) (pc' := 37) D259_34 rfl ck_11_virtual_147 TE157 rfl (Nat.le_of_ble_eq_true rfl) ⟨Nat.le_of_ble_eq_true rfl, Nat.le_of_ble_eq_true rfl⟩ sc_77 ⟨rfl, by decide⟩ H.1 (dp_0 hd rfl) (k157f E (dp_n hd rfl) H x3 x4 K (h0) (by omega) (by omega)) ?_
        intro v14 q18
        obtain ⟨q16, q17⟩ := q18
        have kv := q17; clear q17
        refine s_blx (lv' := [(0, vR 77), (1, vI w), (2, vI x2), (3, vI x3), (4, vI x4)]) (st' := [vI w, vI v14, vI x2]) B259_37_38 rfl ?_
        refine r_icmp (tgt := 49) (pc' := 41) D259_38 rfl rfl (by unfold inR; omega) (fun (c19 : v14 ≠ w) => ?_) (fun (c19 : ¬ (v14 ≠ w)) => ?_)
        · refine s_blx (lv' := [(4, vI (x4 + 1)), (2, vI (x2 + 0)), (0, vR 77), (1, vI w), (3, vI x3)]) (st' := []) B259_49_55 rfl ?_
          refine r_goto (tgt := 19) D259_55 rfl ?_
          refine r_loc (lv' := [(0, vR 77), (1, vI w), (2, vI (x2 + 0)), (3, vI x3), (4, vI (x4 + 1))]) ⟨rfl, rfl, rfl, rfl, rfl, trivial⟩ rfl rfl ?_
          exact ih.2 (x2 + 0) x3 (x4 + 1) (by first | (rw [tmF_step (by omega), if_pos (by rw [← kv]; omega), Int.mul_add, Int.mul_one]; omega) | (rw [tmF_step (by omega), if_neg (by rw [← kv]; omega), Int.mul_add, Int.mul_zero]; omega)) (by omega) (by omega) (by omega) (by omega) (by omega) (by omega) (by omega) (by omega) (by omega) (by omega) (by omega) (by omega)
        · refine s_blx (lv' := [(0, vR 77), (1, vI w), (2, vI x2), (3, vI x3), (4, vI x4)]) (st' := [vI x3, vR 77, vI x2]) B259_41_43 rfl ?_
          refine r_vIp (c := 77) (args := [vI x3]) (rest := [vI x2]) (pc' := 46) D259_43 rfl ck_11_virtual_138 TE159 rfl (Nat.le_of_ble_eq_true rfl) ⟨Nat.le_of_ble_eq_true rfl, Nat.le_of_ble_eq_true rfl⟩ sc_77 ⟨rfl, by decide⟩ H.1 (dp_0 hd rfl) (k159f E (dp_n hd rfl) H x3 K (h0) (by omega)) ?_
          intro v20 q24
          obtain ⟨q22, q23⟩ := q24
          have kw : v20 = wgK K x3 := q23
          refine r_goto (tgt := 50) D259_46 rfl ?_
          refine s_blx (lv' := [(4, vI (x4 + 1)), (2, vI (x2 + v20)), (0, vR 77), (1, vI w), (3, vI x3)]) (st' := []) B259_50_55 rfl ?_
          refine r_goto (tgt := 19) D259_55 rfl ?_
          refine r_loc (lv' := [(0, vR 77), (1, vI w), (2, vI (x2 + v20)), (3, vI x3), (4, vI (x4 + 1))]) ⟨rfl, rfl, rfl, rfl, rfl, trivial⟩ rfl rfl ?_
          exact ih.2 (x2 + v20) x3 (x4 + 1) (by first | (rw [tmF_step (by omega), if_pos (by rw [← kv]; omega), Int.mul_add, Int.mul_one]; omega) | (rw [tmF_step (by omega), if_neg (by rw [← kv]; omega), Int.mul_add, Int.mul_zero]; omega)) (by omega) (by omega) (by omega) (by omega) (by omega) (by omega) (by omega) (by omega) (by omega) (by omega) (by omega) (by omega)
set_option maxRecDepth 4000 in
theorem k259g {base : Nat} {X : Nat → Option mC} {G : Nat → Value} (E : EnvOK base X G) {d : Nat} (hd : 1 ≤ d) {M : mH} (H : HI base M) (w : Int) (K : Int → Int) (h0 : KK K M) (h1 : 0 ≤ w ∧ w ≤ 29) : sOk base X G d T259 [vR 77, vI w] M (pI (fun v M' => M' = M ∧ (0 ≤ v ∧ v ≤ 768000) ∧ v = svF K w)) := by
  refine sOk.of (show sRn base X G d T259 0 [(0, vR 77), (1, vI w)] [] M _ from ?_)
  have km := h0.many H
  refine s_blx (lv' := [(3, vI 0), (2, vI 0), (0, vR 77), (1, vI w)]) (st' := []) B259_0_4 rfl ?_
  refine r_loc (lv' := [(0, vR 77), (1, vI w), (2, vI 0), (3, vI 0)]) ⟨rfl, rfl, rfl, rfl, trivial⟩ rfl rfl ?_
  exact (L_k259g E hd H w K h0 h1 (((16 - 0) * 10 + 9 : Int) + 1).toNat).1 0 0 (rfl) (by omega) (by omega) (by omega) (by omega) (by omega) (by omega) (by omega) (by omega)
set_option maxRecDepth 4000 in
theorem L_k260g {base : Nat} {X : Nat → Option mC} {G : Nat → Value} (E : EnvOK base X G) {d : Nat} (hd : 2 ≤ d) {M : mH} (H : HI base M) (minutes : Int) (what : Int) (K : Int → Int) (h0 : KK K M) (h1 : -2147483648 ≤ minutes ∧ minutes ≤ 2147483647) (h2 : -2147483648 ≤ what ∧ what ≤ 2147483647) : ∀ mz : Nat, (∀ (x3 : Int) (N : mH), HI base N → Fr [(108, 0)] M N → (∀ t : Int, 0 ≤ t → t < x3 → gi N 108 (7230 + t) = 0) → (0 ≤ minutes ∧ minutes ≤ 240) → (0 ≤ what ∧ what ≤ 1) → (0 ≤ x3 ∧ x3 ≤ minutes + 1) → (0 ≤ x3) → (x3 ≤ 241) → (0 ≤ minutes) → (minutes ≤ 240) → (0 ≤ what) → (what ≤ 1) → (241 - x3) * 1 + 7564 < (mz : Int) → sRn base X G d T260 24 [(0, vR 77), (1, vI minutes), (2, vI what), (3, vI x3)] [] N (s_Q base (pI (fun v M' => HI base M' ∧ Fr [(108, 0)] M M' ∧ (-2147483648 ≤ v ∧ v ≤ 2147483647) ∧ (v = glV K minutes what))))) ∧ (∀ (x3 : Int) (N : mH), HI base N → Fr [(108, 0)] M N → (∀ w t : Int, x3 < w → w ≤ 30 → 0 ≤ t → t ≤ minutes → gi N 108 (241 * w + t) = (gF K (30 - w).toNat t).1) → (-1 ≤ x3 ∧ x3 ≤ 29) → (0 ≤ minutes ∧ minutes ≤ 240) → (0 ≤ what ∧ what ≤ 1) → ((-1) ≤ x3) → (x3 ≤ 29) → (0 ≤ minutes) → (minutes ≤ 240) → (0 ≤ what) → (what ≤ 1) → (x3 + 1) * 243 + 273 < (mz : Int) → sRn base X G d T260 49 [(0, vR 77), (1, vI minutes), (2, vI what), (3, vI x3)] [] N (s_Q base (pI (fun v M' => HI base M' ∧ Fr [(108, 0)] M M' ∧ (-2147483648 ≤ v ∧ v ≤ 2147483647) ∧ (v = glV K minutes what))))) ∧ (∀ (x3 x4 x5 : Int) (N : mH), HI base N → Fr [(108, 0)] M N → (0 ≤ x3 ∧ x3 ≤ 29) → (x4 = svF K x3) → (0 ≤ x4 ∧ x4 ≤ 768000) → (0 ≤ x5 ∧ x5 ≤ minutes + 1) → (∀ w t : Int, x3 < w → w ≤ 30 → 0 ≤ t → t ≤ minutes → gi N 108 (241 * w + t) = (gF K (30 - w).toNat t).1) → (∀ t : Int, 0 ≤ t → t < x5 → gi N 108 (241 * x3 + t) = (gF K (30 - x3).toNat t).1) → (0 ≤ minutes ∧ minutes ≤ 240) → (0 ≤ what ∧ what ≤ 1) → (0 ≤ x3) → (x3 ≤ 29) → (0 ≤ x4) → (x4 ≤ 768000) → (0 ≤ x5) → (x5 ≤ 241) → (0 ≤ minutes) → (minutes ≤ 240) → (0 ≤ what) → (what ≤ 1) → (x3 + 1) * 243 + 31 + (241 - x5) * 1 + 0 < (mz : Int) → sRn base X G d T260 63 [(0, vR 77), (1, vI minutes), (2, vI what), (3, vI x3), (4, vI x4), (5, vI x5)] [] N (s_Q base (pI (fun v M' => HI base M' ∧ Fr [(108, 0)] M M' ∧ (-2147483648 ≤ v ∧ v ≤ 2147483647) ∧ (v = glV K minutes what))))) ∧ (∀ (x3 x4 x5 : Int) (N : mH), HI base N → Fr [(108, 0)] M N → (orI x3 (gF K (30 - x5).toNat x4).2 = (gF K 30 minutes).2) → (-2147483648 ≤ x3 ∧ x3 ≤ 2147483647) → (0 ≤ x4 ∧ x4 ≤ minutes) → (0 ≤ x5 ∧ x5 ≤ 30) → (∀ w t : Int, 0 ≤ w → w ≤ 30 → 0 ≤ t → t ≤ minutes → gi N 108 (241 * w + t) = (gF K (30 - w).toNat t).1) → (0 ≤ minutes ∧ minutes ≤ 240) → (0 ≤ what ∧ what ≤ 1) → ((-2147483648) ≤ x3) → (x3 ≤ 2147483647) → ((-60) ≤ x4) → (x4 ≤ 240) → (0 ≤ x5) → (x5 ≤ 30) → (0 ≤ minutes) → (minutes ≤ 240) → (0 ≤ what) → (what ≤ 1) → (30 - x5) * 1 + 0 < (mz : Int) → sRn base X G d T260 181 [(0, vR 77), (1, vI minutes), (2, vI what), (3, vI x3), (4, vI x4), (5, vI x5)] [] N (s_Q base (pI (fun v M' => HI base M' ∧ Fr [(108, 0)] M M' ∧ (-2147483648 ≤ v ∧ v ≤ 2147483647) ∧ (v = glV K minutes what))))) := by
  have f0 : Fr [(108, 0)] M M := Fr.rf
  intro mz
  induction mz with
  | zero => exact ⟨fun x3 N _ _ z0 z1 z2 z3 z4 z5 z6 z7 z8 z9 z10 => by omega, fun x3 N _ _ z0 z1 z2 z3 z4 z5 z6 z7 z8 z9 z10 => by omega, fun x3 x4 x5 N _ _ z0 z1 z2 z3 z4 z5 z6 z7 z8 z9 z10 z11 z12 z13 z14 z15 z16 z17 z18 => by omega, fun x3 x4 x5 N _ _ z0 z1 z2 z3 z4 z5 z6 z7 z8 z9 z10 z11 z12 z13 z14 z15 z16 z17 => by omega⟩
  | succ mz ih =>
    refine ⟨?_, ?_, ?_, ?_⟩
    · intro x3 N HN fN i0 i1 i2 i3 i4 i5 i6 i7 i8 i9 hmu
      refine s_blx (lv' := [(0, vR 77), (1, vI minutes), (2, vI what), (3, vI x3)]) (st' := [vI minutes, vI x3]) B260_24_26 rfl ?_
      refine r_icmp (tgt := 46) (pc' := 29) D260_26 rfl rfl (by unfold inR; omega) (fun (c15 : minutes < x3) => ?_) (fun (c15 : ¬ (minutes < x3)) => ?_)
      · refine s_blx (lv' := [(3, vI 29), (0, vR 77), (1, vI minutes), (2, vI what)]) (st' := []) B260_46_49 rfl ?_
        refine r_loc (lv' := [(0, vR 77), (1, vI minutes), (2, vI what), (3, vI 29)]) ⟨rfl, rfl, rfl, rfl, trivial⟩ rfl rfl ?_
        exact ih.2.1 29 N HN fN (fun w t a b c d => by rw [show w = 30 by omega]; exact i0 t c (by omega)) (by omega) (by omega) (by omega) (by omega) (by omega) (by omega) (by omega) (by omega) (by omega) (by omega)
      · refine s_blx (lv' := [(0, vR 77), (1, vI minutes), (2, vI what), (3, vI x3)]) (st' := [vR 77]) B260_29_30 rfl ?_
        refine r_gfix (r := 108) (pc' := 33) D260_30 rfl gf_11_114_77 HN.1 ?_
        refine s_blx (lv' := [(0, vR 77), (1, vI minutes), (2, vI what), (3, vI x3)]) (st' := [vI 0, vI (7230 + x3), vR 108]) B260_33_39 rfl ?_
        refine r_iast (pc' := 40) D260_39 rfl sc_108 HN (by omega) (by unfold inR; omega) trivial ?_
        intro M16 u17 H18 p19
        have f20 := fN.wr u17 rfl
        have ku0 := u17
        have kp0 := p19
        refine s_blx (lv' := [(3, vI (x3 + 1)), (0, vR 77), (1, vI minutes), (2, vI what)]) (st' := []) B260_40_43 rfl ?_
        refine r_goto (tgt := 24) D260_43 rfl ?_
        refine r_loc (lv' := [(0, vR 77), (1, vI minutes), (2, vI what), (3, vI (x3 + 1))]) ⟨rfl, rfl, rfl, rfl, trivial⟩ rfl rfl ?_
        exact ih.1 (x3 + 1) M16 H18 f20 (fun t a b => if e : t = x3 then (by rw [e]; exact kp0) else (by rw [ku0.gi_ne (by omega) (Or.inr (by omega))]; exact i0 t a (by omega))) (by omega) (by omega) (by omega) (by omega) (by omega) (by omega) (by omega) (by omega) (by omega) (by omega)
    · intro x3 N HN fN i0 i1 i2 i3 i4 i5 i6 i7 i8 i9 hmu
      refine s_blx (lv' := [(0, vR 77), (1, vI minutes), (2, vI what), (3, vI x3)]) (st' := [vI x3]) B260_49_50 rfl ?_
      refine r_ifc (tgt := 173) (pc' := 53) D260_50 rfl rfl (by unfold inR; omega) (fun (c21 : x3 < 0) => ?_) (fun (c21 : ¬ (x3 < 0)) => ?_)
      · refine s_blx (lv' := [(5, vI 0), (4, vI minutes), (3, vI 0), (0, vR 77), (1, vI minutes), (2, vI what)]) (st' := []) B260_173_181 rfl ?_
        refine r_loc (lv' := [(0, vR 77), (1, vI minutes), (2, vI what), (3, vI 0), (4, vI minutes), (5, vI 0)]) ⟨rfl, rfl, rfl, rfl, rfl, rfl, trivial⟩ rfl rfl ?_
        exact ih.2.2.2 0 minutes 0 N HN fN (by show orI 0 (gF K 30 minutes).2 = _; exact orI_zl (gF_R _ _)) (by omega) (by omega) (by omega) (fun w t a b c d => i0 w t (by omega) b c d) (by omega) (by omega) (by omega) (by omega) (by omega) (by omega) (by omega) (by omega) (by omega) (by omega) (by omega) (by omega) (by omega)
      · refine s_blx (lv' := [(0, vR 77), (1, vI minutes), (2, vI what), (3, vI x3)]) (st' := [vI x3, vR 77]) B260_53_55 rfl ?_
        refine r_vIp (c := 77) (args := [vI x3]) (rest := []) (pc' := 58) D260_55 rfl ck_11_virtual_462 TE259 rfl (Nat.le_of_ble_eq_true rfl) ⟨Nat.le_of_ble_eq_true rfl, Nat.le_of_ble_eq_true rfl⟩ sc_77 ⟨rfl, by decide⟩ HN.1 (dp_0 hd rfl) (k259g E (dp_n hd rfl) HN x3 K ((h0.fr fN rfl)) (by omega)) ?_
        intro v22 q26
        obtain ⟨q24, q25⟩ := q26
        have ksv := q25; clear q25
        refine s_blx (lv' := [(5, vI 0), (4, vI v22), (0, vR 77), (1, vI minutes), (2, vI what), (3, vI x3)]) (st' := []) B260_58_63 rfl ?_
        refine r_loc (lv' := [(0, vR 77), (1, vI minutes), (2, vI what), (3, vI x3), (4, vI v22), (5, vI 0)]) ⟨rfl, rfl, rfl, rfl, rfl, rfl, trivial⟩ rfl rfl ?_
        exact ih.2.2.1 x3 v22 0 N HN fN (by omega) (by omega) (by omega) (by omega) (fun w t a b c d => i0 w t a b c d) (fun t a b => by omega) (by omega) (by omega) (by omega) (by omega) (by omega) (by omega) (by omega) (by omega) (by omega) (by omega) (by omega) (by omega) (by omega)
    · intro x3 x4 x5 N HN fN i0 i1 i2 i3 i4 i5 i6 i7 i8 i9 i10 i11 i12 i13 i14 i15 i16 i17 hmu
      refine s_blx (lv' := [(0, vR 77), (1, vI minutes), (2, vI what), (3, vI x3), (4, vI x4), (5, vI x5)]) (st' := [vI minutes, vI x5]) B260_63_66 rfl ?_
      refine r_icmp (tgt := 167) (pc' := 69) D260_66 rfl rfl (by unfold inR; omega) (fun (c60 : minutes < x5) => ?_) (fun (c60 : ¬ (minutes < x5)) => ?_)
      · refine s_blx (lv' := [(3, vI (x3 + (-1))), (0, vR 77), (1, vI minutes), (2, vI what), (4, vI x4), (5, vI x5)]) (st' := []) B260_167_170 rfl ?_
        refine r_goto (tgt := 49) D260_170 rfl ?_
        refine r_loc (lv' := [(0, vR 77), (1, vI minutes), (2, vI what), (3, vI (x3 + (-1)))]) ⟨rfl, rfl, rfl, rfl, trivial⟩ rfl rfl ?_
        exact ih.2.1 (x3 + (-1)) N HN fN (fun w t a b c d => if e : w = x3 then (by rw [e]; exact i5 t c (by omega)) else i4 w t (by omega) b c d) (by omega) (by omega) (by omega) (by omega) (by omega) (by omega) (by omega) (by omega) (by omega) (by omega)
      · refine s_blx (lv' := [(0, vR 77), (1, vI minutes), (2, vI what), (3, vI x3), (4, vI x4), (5, vI x5)]) (st' := [vR 77]) B260_69_70 rfl ?_
        refine r_gfix (r := 108) (pc' := 73) D260_70 rfl gf_11_114_77 HN.1 ?_
        refine s_blx (lv' := [(0, vR 77), (1, vI minutes), (2, vI what), (3, vI x3), (4, vI x4), (5, vI x5)]) (st' := [vI ((241 * (x3 + 1)) + x5), vR 108]) B260_73_83 rfl ?_
        refine r_iald (pc' := 84) D260_83 rfl sc_108 HN.1 (by omega) ?_
        intro w61 e62 r63
        unfold inR at r63
        have kwo : w61 = (gF K (29 - x3).toNat x5).1 := by have q := i4 (x3 + 1) x5 (by omega) (by omega) (by omega) (by omega); rw [show (30 - (x3 + 1)).toNat = (29 - x3).toNat by omega] at q; exact e62.trans q
        have kwb := gF_b (svF_rf h0 H) (29 - x3).toNat (by omega) x5
        refine s_blx (lv' := [(6, vI w61), (0, vR 77), (1, vI minutes), (2, vI what), (3, vI x3), (4, vI x4), (5, vI x5)]) (st' := [vR 77, vI x5]) B260_84_89 rfl ?_
        refine r_gfix (r := 78) (pc' := 92) D260_89 rfl gf_11_13_77 HN.1 ?_
        refine s_blx (lv' := [(6, vI w61), (0, vR 77), (1, vI minutes), (2, vI what), (3, vI x3), (4, vI x4), (5, vI x5)]) (st' := [vI (30 + x3), vR 78, vI x5]) B260_92_96 rfl ?_
        refine r_iald (pc' := 97) D260_96 rfl sc_78 HN.1 (by omega) ?_
        intro w64 e65 r66
        have kk_w64 := ((h0.fr fN rfl)) (30 + x3)
        have b_w64 := HN.2 78 (30 + x3) 0 60 (rk_look (by omega))
        rw [← e65] at b_w64; clear r66
        have klk : w64 = K (30 + x3) := e65.trans (((h0.fr fN rfl)) _)
        have kmx := gF_mx (K := K) (w := x3) (t := x5) (by omega) klk
        refine r_icmp (tgt := 131) (pc' := 100) D260_97 rfl rfl (by unfold inR; omega) (fun (c67 : x5 < w64) => ?_) (fun (c67 : ¬ (x5 < w64)) => ?_)
        · refine s_blx (lv' := [(7, vI (-1)), (6, vI w61), (0, vR 77), (1, vI minutes), (2, vI what), (3, vI x3), (4, vI x4), (5, vI x5)]) (st' := [vR 77]) B260_131_135 rfl ?_
          refine r_gfix (r := 108) (pc' := 138) D260_135 rfl gf_11_114_77 HN.1 ?_
          refine s_blx (lv' := [(7, vI (-1)), (6, vI w61), (0, vR 77), (1, vI minutes), (2, vI what), (3, vI x3), (4, vI x4), (5, vI x5)]) (st' := [vI w61, vI (-1), vI ((241 * x3) + x5), vR 108]) B260_138_150 rfl ?_
          refine r_icmp (tgt := 158) (pc' := 153) D260_150 rfl rfl (by unfold inR; omega) (fun (c68 : (-1) ≤ w61) => ?_) (fun (c68 : ¬ ((-1) ≤ w61)) => ?_)
          · refine s_blx (lv' := [(7, vI (-1)), (6, vI w61), (0, vR 77), (1, vI minutes), (2, vI what), (3, vI x3), (4, vI x4), (5, vI x5)]) (st' := [vI w61, vI ((241 * x3) + x5), vR 108]) B260_158_160 rfl ?_
            refine r_iast (pc' := 161) D260_160 rfl sc_108 HN (by omega) (by unfold inR; omega) trivial ?_
            intro M69 u70 H71 p72
            have f73 := fN.wr u70 rfl
            have ku1 := u70
            have kp1 := p72
            refine s_blx (lv' := [(5, vI (x5 + 1)), (7, vI (-1)), (6, vI w61), (0, vR 77), (1, vI minutes), (2, vI what), (3, vI x3), (4, vI x4)]) (st' := []) B260_161_164 rfl ?_
            refine r_goto (tgt := 63) D260_164 rfl ?_
            refine r_loc (lv' := [(0, vR 77), (1, vI minutes), (2, vI what), (3, vI x3), (4, vI x4), (5, vI (x5 + 1))]) ⟨rfl, rfl, rfl, rfl, rfl, rfl, trivial⟩ rfl rfl ?_
            exact ih.2.2.1 x3 x4 (x5 + 1) M69 H71 f73 (by omega) (by omega) (by omega) (by omega) (fun w t a b c d => by rw [ku1.gi_ne (by omega) (Or.inr (by omega))]; exact i4 w t a b c d) (fun t a b => if e : t = x5 then (by rw [e, kp1]; first | (have q := kmx.1 (by omega) (by omega); omega) | (have q := kmx.2 (fun h => by omega); omega)) else (by rw [ku1.gi_ne (by omega) (Or.inr (by omega))]; exact i5 t a (by omega))) (by omega) (by omega) (by omega) (by omega) (by omega) (by omega) (by omega) (by omega) (by omega) (by omega) (by omega) (by omega) (by omega)
          · exfalso; omega
        · refine s_blx (lv' := [(6, vI w61), (0, vR 77), (1, vI minutes), (2, vI what), (3, vI x3), (4, vI x4), (5, vI x5)]) (st' := [vR 77, vI x4]) B260_100_103 rfl ?_
          refine r_gfix (r := 108) (pc' := 106) D260_103 rfl gf_11_114_77 HN.1 ?_
          refine s_blx (lv' := [(6, vI w61), (0, vR 77), (1, vI minutes), (2, vI what), (3, vI x3), (4, vI x4), (5, vI x5)]) (st' := [vR 77, vI ((241 * (x3 + 1)) + x5), vR 108, vI x4]) B260_106_117 rfl ?_
          refine r_gfix (r := 78) (pc' := 120) D260_117 rfl gf_11_13_77 HN.1 ?_
          refine s_blx (lv' := [(6, vI w61), (0, vR 77), (1, vI minutes), (2, vI what), (3, vI x3), (4, vI x4), (5, vI x5)]) (st' := [vI (30 + x3), vR 78, vI ((241 * (x3 + 1)) + x5), vR 108, vI x4]) B260_120_124 rfl ?_
          refine r_iald (pc' := 125) D260_124 rfl sc_78 HN.1 (by omega) ?_
          intro w74 e75 r76
          have e77 : w64 = w74 := (e75.trans (e65.symm)).symm
          subst e77
          refine s_blx (lv' := [(6, vI w61), (0, vR 77), (1, vI minutes), (2, vI what), (3, vI x3), (4, vI x4), (5, vI x5)]) (st' := [vI (((241 * (x3 + 1)) + x5) - w64), vR 108, vI x4]) B260_125_126 rfl ?_
          refine r_iald (pc' := 127) D260_126 rfl sc_108 HN.1 (by omega) ?_
          intro w78 e79 r80
          unfold inR at r80
          have kwi := i4 (x3 + 1) (x5 - K (30 + x3)) (by omega) (by omega) (by omega) (by omega)
          rw [show (30 - (x3 + 1)).toNat = (29 - x3).toNat by omega] at kwi
          have kwi2 : w78 = (gF K (29 - x3).toNat (x5 - K (30 + x3))).1 := by rw [e79, ← kwi]; congr 1; omega
          have kwib := gF_b (svF_rf h0 H) (29 - x3).toNat (by omega) (x5 - K (30 + x3))
          rw [klk] at kmx
          refine s_blx (lv' := [(6, vI w61), (0, vR 77), (1, vI minutes), (2, vI what), (3, vI x3), (4, vI x4), (5, vI x5)]) (st' := [vI (x4 + w78)]) B260_127_128 rfl ?_
          refine r_goto (tgt := 132) D260_128 rfl ?_
          refine s_blx (lv' := [(7, vI (x4 + w78)), (6, vI w61), (0, vR 77), (1, vI minutes), (2, vI what), (3, vI x3), (4, vI x4), (5, vI x5)]) (st' := [vR 77]) B260_132_135 rfl ?_
          refine r_gfix (r := 108) (pc' := 138) D260_135 rfl gf_11_114_77 HN.1 ?_
          refine s_blx (lv' := [(7, vI (x4 + w78)), (6, vI w61), (0, vR 77), (1, vI minutes), (2, vI what), (3, vI x3), (4, vI x4), (5, vI x5)]) (st' := [vI w61, vI (x4 + w78), vI ((241 * x3) + x5), vR 108]) B260_138_150 rfl ?_
          refine r_icmp (tgt := 158) (pc' := 153) D260_150 rfl rfl (by unfold inR; omega) (fun (c81 : (x4 + w78) ≤ w61) => ?_) (fun (c81 : ¬ ((x4 + w78) ≤ w61)) => ?_)
          · refine s_blx (lv' := [(7, vI (x4 + w78)), (6, vI w61), (0, vR 77), (1, vI minutes), (2, vI what), (3, vI x3), (4, vI x4), (5, vI x5)]) (st' := [vI w61, vI ((241 * x3) + x5), vR 108]) B260_158_160 rfl ?_
            refine r_iast (pc' := 161) D260_160 rfl sc_108 HN (by omega) (by unfold inR; omega) trivial ?_
            intro M82 u83 H84 p85
            have f86 := fN.wr u83 rfl
            have ku1 := u83
            have kp1 := p85
            refine s_blx (lv' := [(5, vI (x5 + 1)), (7, vI (x4 + w78)), (6, vI w61), (0, vR 77), (1, vI minutes), (2, vI what), (3, vI x3), (4, vI x4)]) (st' := []) B260_161_164 rfl ?_
            refine r_goto (tgt := 63) D260_164 rfl ?_
            refine r_loc (lv' := [(0, vR 77), (1, vI minutes), (2, vI what), (3, vI x3), (4, vI x4), (5, vI (x5 + 1))]) ⟨rfl, rfl, rfl, rfl, rfl, rfl, trivial⟩ rfl rfl ?_
            exact ih.2.2.1 x3 x4 (x5 + 1) M82 H84 f86 (by omega) (by omega) (by omega) (by omega) (fun w t a b c d => by rw [ku1.gi_ne (by omega) (Or.inr (by omega))]; exact i4 w t a b c d) (fun t a b => if e : t = x5 then (by rw [e, kp1]; first | (have q := kmx.1 (by omega) (by omega); omega) | (have q := kmx.2 (fun h => by omega); omega)) else (by rw [ku1.gi_ne (by omega) (Or.inr (by omega))]; exact i5 t a (by omega))) (by omega) (by omega) (by omega) (by omega) (by omega) (by omega) (by omega) (by omega) (by omega) (by omega) (by omega) (by omega) (by omega)
          · refine s_blx (lv' := [(7, vI (x4 + w78)), (6, vI w61), (0, vR 77), (1, vI minutes), (2, vI what), (3, vI x3), (4, vI x4), (5, vI x5)]) (st' := [vI (x4 + w78), vI ((241 * x3) + x5), vR 108]) B260_153_155 rfl ?_
            refine r_goto (tgt := 160) D260_155 rfl ?_
            refine r_iast (pc' := 161) D260_160 rfl sc_108 HN (by omega) (by unfold inR; omega) trivial ?_
            intro M87 u88 H89 p90
            have f91 := fN.wr u88 rfl
            have ku1 := u88
            have kp1 := p90
            refine s_blx (lv' := [(5, vI (x5 + 1)), (7, vI (x4 + w78)), (6, vI w61), (0, vR 77), (1, vI minutes), (2, vI what), (3, vI x3), (4, vI x4)]) (st' := []) B260_161_164 rfl ?_
            refine r_goto (tgt := 63) D260_164 rfl ?_
            refine r_loc (lv' := [(0, vR 77), (1, vI minutes), (2, vI what), (3, vI x3), (4, vI x4), (5, vI (x5 + 1))]) ⟨rfl, rfl, rfl, rfl, rfl, rfl, trivial⟩ rfl rfl ?_
            exact ih.2.2.1 x3 x4 (x5 + 1) M87 H89 f91 (by omega) (by omega) (by omega) (by omega) (fun w t a b c d => by rw [ku1.gi_ne (by omega) (Or.inr (by omega))]; exact i4 w t a b c d) (fun t a b => if e : t = x5 then (by rw [e, kp1]; first | (have q := kmx.1 (by omega) (by omega); omega) | (have q := kmx.2 (fun h => by omega); omega)) else (by rw [ku1.gi_ne (by omega) (Or.inr (by omega))]; exact i5 t a (by omega))) (by omega) (by omega) (by omega) (by omega) (by omega) (by omega) (by omega) (by omega) (by omega) (by omega) (by omega) (by omega) (by omega)
    · intro x3 x4 x5 N HN fN i0 i1 i2 i3 i4 i5 i6 i7 i8 i9 i10 i11 i12 i13 i14 i15 i16 hmu
      refine s_blx (lv' := [(0, vR 77), (1, vI minutes), (2, vI what), (3, vI x3), (4, vI x4), (5, vI x5)]) (st' := [vI 30, vI x5]) B260_181_185 rfl ?_
      refine r_icmp (tgt := 285) (pc' := 188) D260_185 rfl rfl (by unfold inR; omega) (fun (c27 : 30 ≤ x5) => ?_) (fun (c27 : ¬ (30 ≤ x5)) => ?_)
      · refine s_blx (lv' := [(0, vR 77), (1, vI minutes), (2, vI what), (3, vI x3), (4, vI x4), (5, vI x5)]) (st' := [vI what]) B260_285_286 rfl ?_
        refine r_ifc (tgt := 298) (pc' := 289) D260_286 rfl rfl (by unfold inR; omega) (fun (c28 : what ≠ 0) => ?_) (fun (c28 : ¬ (what ≠ 0)) => ?_)
        · refine s_blx (lv' := [(0, vR 77), (1, vI minutes), (2, vI what), (3, vI x3), (4, vI x4), (5, vI x5)]) (st' := [vI x3]) B260_298_299 rfl ?_
          exact r_iretI D260_299 rfl (⟨HN, fN, by omega, by first | (rw [kv0]; exact glV_0 (by omega) (by omega)) | (have q := i0; rw [show (30 - x5).toNat = 0 by omega] at q; have q2 : orI x3 0 = (gF K 30 minutes).2 := q; rw [orI_z (by unfold inR; omega)] at q2; rw [q2]; exact glV_1 (by omega) (by omega))⟩)
        · refine s_blx (lv' := [(0, vR 77), (1, vI minutes), (2, vI what), (3, vI x3), (4, vI x4), (5, vI x5)]) (st' := [vR 77]) B260_289_290 rfl ?_
          refine r_gfix (r := 108) (pc' := 293) D260_290 rfl gf_11_114_77 HN.1 ?_
          refine s_blx (lv' := [(0, vR 77), (1, vI minutes), (2, vI what), (3, vI x3), (4, vI x4), (5, vI x5)]) (st' := [vI minutes, vR 108]) B260_293_294 rfl ?_
          refine r_iald (pc' := 295) D260_294 rfl sc_108 HN.1 (by omega) ?_
          intro w29 e30 r31
          unfold inR at r31
          have kv0 : w29 = (gF K 30 minutes).1 := by have q := i4 0 minutes (by omega) (by omega) (by omega) (by omega); rw [show 241 * (0 : Int) + minutes = minutes by omega] at q; exact e30.trans q
          refine r_goto (tgt := 299) D260_295 rfl ?_
          exact r_iretI D260_299 rfl (⟨HN, fN, by omega, by first | (rw [kv0]; exact glV_0 (by omega) (by omega)) | (have q := i0; rw [show (30 - x5).toNat = 0 by omega] at q; have q2 : orI x3 0 = (gF K 30 minutes).2 := q; rw [orI_z (by unfold inR; omega)] at q2; rw [q2]; exact glV_1 (by omega) (by omega))⟩)
      · refine s_blx (lv' := [(0, vR 77), (1, vI minutes), (2, vI what), (3, vI x3), (4, vI x4), (5, vI x5)]) (st' := [vR 77, vI x4]) B260_188_191 rfl ?_
        refine r_gfix (r := 78) (pc' := 194) D260_191 rfl gf_11_13_77 HN.1 ?_
        refine s_blx (lv' := [(0, vR 77), (1, vI minutes), (2, vI what), (3, vI x3), (4, vI x4), (5, vI x5)]) (st' := [vI (30 + x5), vR 78, vI x4]) B260_194_199 rfl ?_
        refine r_iald (pc' := 200) D260_199 rfl sc_78 HN.1 (by omega) ?_
        intro w32 e33 r34
        have kk_w32 := ((h0.fr fN rfl)) (30 + x5)
        have b_w32 := HN.2 78 (30 + x5) 0 60 (rk_look (by omega))
        rw [← e33] at b_w32; clear r34
        have klk2 : w32 = K (30 + x5) := e33.trans (((h0.fr fN rfl)) _)
        refine r_icmp (tgt := 279) (pc' := 203) D260_200 rfl rfl (by unfold inR; omega) (fun (c35 : x4 < w32) => ?_) (fun (c35 : ¬ (x4 < w32)) => ?_)
        · refine s_blx (lv' := [(5, vI (x5 + 1)), (0, vR 77), (1, vI minutes), (2, vI what), (3, vI x3), (4, vI x4)]) (st' := []) B260_279_282 rfl ?_
          refine r_goto (tgt := 181) D260_282 rfl ?_
          refine r_loc (lv' := [(0, vR 77), (1, vI minutes), (2, vI what), (3, vI x3), (4, vI x4), (5, vI (x5 + 1))]) ⟨rfl, rfl, rfl, rfl, rfl, rfl, trivial⟩ rfl rfl ?_
          exact ih.2.2.2 x3 x4 (x5 + 1) N HN fN (by first | (rw [show (30 - (x5 + 1)).toNat = (29 - x5).toNat by omega]; exact kt) | (rw [show (30 - (x5 + 1)).toNat = (29 - x5).toNat by omega, ← gF_out (w := x5) (look := K (30 + x5)) (by omega) rfl (fun h => by omega)]; exact i0) | (rw [show (30 - (x5 + 1)).toNat = (29 - x5).toNat by omega, ← gF_out (w := x5) (look := K (30 + x5)) (by omega) rfl (fun h => by have q := kmx2.1 h.1 h.2; omega)]; exact i0)) (by omega) (by omega) (by omega) (i4) (by omega) (by omega) (by omega) (by omega) (by omega) (by omega) (by omega) (by omega) (by omega) (by omega) (by omega) (by omega) (by omega)
        · refine s_blx (lv' := [(0, vR 77), (1, vI minutes), (2, vI what), (3, vI x3), (4, vI x4), (5, vI x5)]) (st' := [vI x5, vR 77]) B260_203_206 rfl ?_
          refine r_vIp (c := 77) (args := [vI x5]) (rest := []) (pc' := 209) D260_206 rfl ck_11_virtual_462 TE259 rfl (Nat.le_of_ble_eq_true rfl) ⟨Nat.le_of_ble_eq_true rfl, Nat.le_of_ble_eq_true rfl⟩ sc_77 ⟨rfl, by decide⟩ HN.1 (dp_0 hd rfl) (k259g E (dp_n hd rfl) HN x5 K ((h0.fr fN rfl)) (by omega)) ?_
          intro v36 q40
          obtain ⟨q38, q39⟩ := q40
          have ksv2 := q39; clear q39
          refine s_blx (lv' := [(0, vR 77), (1, vI minutes), (2, vI what), (3, vI x3), (4, vI x4), (5, vI x5)]) (st' := [vR 77, vI v36]) B260_209_210 rfl ?_
          refine r_gfix (r := 108) (pc' := 213) D260_210 rfl gf_11_114_77 HN.1 ?_
          refine s_blx (lv' := [(0, vR 77), (1, vI minutes), (2, vI what), (3, vI x3), (4, vI x4), (5, vI x5)]) (st' := [vR 77, vI ((241 * (x5 + 1)) + x4), vR 108, vI v36]) B260_213_225 rfl ?_
          refine r_gfix (r := 78) (pc' := 228) D260_225 rfl gf_11_13_77 HN.1 ?_
          refine s_blx (lv' := [(0, vR 77), (1, vI minutes), (2, vI what), (3, vI x3), (4, vI x4), (5, vI x5)]) (st' := [vI (30 + x5), vR 78, vI ((241 * (x5 + 1)) + x4), vR 108, vI v36]) B260_228_233 rfl ?_
          refine r_iald (pc' := 234) D260_233 rfl sc_78 HN.1 (by omega) ?_
          intro w41 e42 r43
          have e44 : w32 = w41 := (e42.trans (e33.symm)).symm
          subst e44
          refine s_blx (lv' := [(0, vR 77), (1, vI minutes), (2, vI what), (3, vI x3), (4, vI x4), (5, vI x5)]) (st' := [vI (((241 * (x5 + 1)) + x4) - w32), vR 108, vI v36]) B260_234_235 rfl ?_
          refine r_iald (pc' := 236) D260_235 rfl sc_108 HN.1 (by omega) ?_
          intro w45 e46 r47
          unfold inR at r47
          have kwi := i4 (x5 + 1) (x4 - K (30 + x5)) (by omega) (by omega) (by omega) (by omega)
          rw [show (30 - (x5 + 1)).toNat = (29 - x5).toNat by omega] at kwi
          have kwi2 : w45 = (gF K (29 - x5).toNat (x4 - K (30 + x5))).1 := by rw [e46, ← kwi]; congr 1; omega
          have kwib := gF_b (svF_rf h0 H) (29 - x5).toNat (by omega) (x4 - K (30 + x5))
          refine s_blx (lv' := [(0, vR 77), (1, vI minutes), (2, vI what), (3, vI x3), (4, vI x4), (5, vI x5)]) (st' := [vR 77, vI (v36 + w45)]) B260_236_238 rfl ?_
          refine r_gfix (r := 108) (pc' := 241) D260_238 rfl gf_11_114_77 HN.1 ?_
          refine s_blx (lv' := [(0, vR 77), (1, vI minutes), (2, vI what), (3, vI x3), (4, vI x4), (5, vI x5)]) (st' := [vI ((241 * x5) + x4), vR 108, vI (v36 + w45)]) B260_241_250 rfl ?_
          refine r_iald (pc' := 251) D260_250 rfl sc_108 HN.1 (by omega) ?_
          intro w48 e49 r50
          unfold inR at r50
          have kws : w48 = (gF K (30 - x5).toNat x4).1 := e49.trans (i4 x5 x4 (by omega) (by omega) (by omega) (by omega))
          have kmx2 := gF_mx (K := K) (w := x5) (t := x4) (look := K (30 + x5)) (by omega) rfl
          refine r_icmp (tgt := 257) (pc' := 254) D260_251 rfl rfl (by unfold inR; omega) (fun (c51 : w48 ≤ (v36 + w45)) => ?_) (fun (c51 : ¬ (w48 ≤ (v36 + w45))) => ?_)
          · refine s_blx (lv' := [(0, vR 77), (1, vI minutes), (2, vI what), (3, vI x3), (4, vI x4), (5, vI x5)]) (st' := [vI x5, vI 1, vI x3]) B260_257_261 rfl ?_
            refine r_bin (pc' := 262) D260_261 rfl rfl ?_
            intro z52 r53 kq1; unfold inR at r53
            refine r_bin (pc' := 263) D260_262 rfl rfl ?_
            intro z54 r55 kq2; unfold inR at r55
            refine s_blx (lv' := [(3, vI z54), (0, vR 77), (1, vI minutes), (2, vI what), (4, vI x4), (5, vI x5)]) (st' := [vR 77, vI x4]) B260_263_267 rfl ?_
            refine r_gfix (r := 78) (pc' := 270) D260_267 rfl gf_11_13_77 HN.1 ?_
            refine s_blx (lv' := [(3, vI z54), (0, vR 77), (1, vI minutes), (2, vI what), (4, vI x4), (5, vI x5)]) (st' := [vI (30 + x5), vR 78, vI x4]) B260_270_275 rfl ?_
            refine r_iald (pc' := 276) D260_275 rfl sc_78 HN.1 (by omega) ?_
            intro w56 e57 r58
            have e59 : w32 = w56 := (e57.trans (e33.symm)).symm
            subst e59
            have kin : (gF K (29 - x5).toNat x4).1 ≤ (gF K (29 - x5).toNat (x4 - K (30 + x5))).1 + svF K x5 := Classical.byContradiction (fun h => by have q := kmx2.2 (fun _ => by omega); omega)
            have kgi := gF_in (K := K) (w := x5) (t := x4) (look := K (30 + x5)) (by omega) rfl (by omega) kin
            have kz : z54 = orI x3 (shI 1 x5) := by rw [← shI_of (by unfold inR; omega) kq1]; exact orI_of (by unfold inR; omega) kq2
            have kt : orI z54 (gF K (29 - x5).toNat (x4 - w32)).2 = (gF K 30 minutes).2 := by rw [kz, klk2, orI_swap]; rw [kgi] at i0; exact i0
            refine s_blx (lv' := [(5, vI (x5 + 1)), (4, vI (x4 - w32)), (3, vI z54), (0, vR 77), (1, vI minutes), (2, vI what)]) (st' := []) B260_276_282 rfl ?_
            refine r_goto (tgt := 181) D260_282 rfl ?_
            refine r_loc (lv' := [(0, vR 77), (1, vI minutes), (2, vI what), (3, vI z54), (4, vI (x4 - w32)), (5, vI (x5 + 1))]) ⟨rfl, rfl, rfl, rfl, rfl, rfl, trivial⟩ rfl rfl ?_
            exact ih.2.2.2 z54 (x4 - w32) (x5 + 1) N HN fN (by first | (rw [show (30 - (x5 + 1)).toNat = (29 - x5).toNat by omega]; exact kt) | (rw [show (30 - (x5 + 1)).toNat = (29 - x5).toNat by omega, ← gF_out (w := x5) (look := K (30 + x5)) (by omega) rfl (fun h => by omega)]; exact i0) | (rw [show (30 - (x5 + 1)).toNat = (29 - x5).toNat by omega, ← gF_out (w := x5) (look := K (30 + x5)) (by omega) rfl (fun h => by have q := kmx2.1 h.1 h.2; omega)]; exact i0)) (by omega) (by omega) (by omega) (i4) (by omega) (by omega) (by omega) (by omega) (by omega) (by omega) (by omega) (by omega) (by omega) (by omega) (by omega) (by omega) (by omega)
          · refine r_goto (tgt := 279) D260_254 rfl ?_
            refine s_blx (lv' := [(5, vI (x5 + 1)), (0, vR 77), (1, vI minutes), (2, vI what), (3, vI x3), (4, vI x4)]) (st' := []) B260_279_282 rfl ?_
            refine r_goto (tgt := 181) D260_282 rfl ?_
            refine r_loc (lv' := [(0, vR 77), (1, vI minutes), (2, vI what), (3, vI x3), (4, vI x4), (5, vI (x5 + 1))]) ⟨rfl, rfl, rfl, rfl, rfl, rfl, trivial⟩ rfl rfl ?_
            exact ih.2.2.2 x3 x4 (x5 + 1) N HN fN (by first | (rw [show (30 - (x5 + 1)).toNat = (29 - x5).toNat by omega]; exact kt) | (rw [show (30 - (x5 + 1)).toNat = (29 - x5).toNat by omega, ← gF_out (w := x5) (look := K (30 + x5)) (by omega) rfl (fun h => by omega)]; exact i0) | (rw [show (30 - (x5 + 1)).toNat = (29 - x5).toNat by omega, ← gF_out (w := x5) (look := K (30 + x5)) (by omega) rfl (fun h => by have q := kmx2.1 h.1 h.2; omega)]; exact i0)) (by omega) (by omega) (by omega) (i4) (by omega) (by omega) (by omega) (by omega) (by omega) (by omega) (by omega) (by omega) (by omega) (by omega) (by omega) (by omega) (by omega)
set_option maxRecDepth 4000 in
theorem k260g {base : Nat} {X : Nat → Option mC} {G : Nat → Value} (E : EnvOK base X G) {d : Nat} (hd : 2 ≤ d) {M : mH} (H : HI base M) (minutes : Int) (what : Int) (K : Int → Int) (h0 : KK K M) (h1 : -2147483648 ≤ minutes ∧ minutes ≤ 2147483647) (h2 : -2147483648 ≤ what ∧ what ≤ 2147483647) : sOk base X G d T260 [vR 77, vI minutes, vI what] M (pI (fun v M' => HI base M' ∧ Fr [(108, 0)] M M' ∧ (-2147483648 ≤ v ∧ v ≤ 2147483647) ∧ (v = glV K minutes what))) := by
  have f0 : Fr [(108, 0)] M M := Fr.rf
  refine sOk.of (show sRn base X G d T260 0 [(0, vR 77), (1, vI minutes), (2, vI what)] [] M _ from ?_)
  refine s_blx (lv' := [(0, vR 77), (1, vI minutes), (2, vI what)]) (st' := [vI 240, vI 0, vI minutes]) B260_0_5 rfl ?_
  refine r_sIp (args := [vI minutes, vI 0, vI 240]) (rest := []) (pc' := 8) D260_5 rfl ck_11_static_123 TE147 rfl (Nat.le_of_ble_eq_true rfl) ⟨Nat.le_of_ble_eq_true rfl, Nat.le_of_ble_eq_true rfl⟩ (by decide) (dp_0 hd rfl) (k147 E (dp_n hd rfl) H minutes 0 240 (by omega) (by omega) (by omega)) ?_
  intro v1 q6
  obtain ⟨q3, q4, q5⟩ := q6
  refine r_ifc (tgt := 20) (pc' := 11) D260_8 rfl rfl (by unfold inR; omega) (fun (c7 : v1 = 0) => ?_) (fun (c7 : ¬ (v1 = 0)) => ?_)
  · refine s_blx (lv' := [(0, vR 77), (1, vI minutes), (2, vI what)]) (st' := [vI (-1)]) B260_20_21 rfl ?_
    exact r_iretI D260_21 rfl (⟨H, f0, by omega, glV_no (fun h => by omega)⟩)
  · refine s_blx (lv' := [(0, vR 77), (1, vI minutes), (2, vI what)]) (st' := [vI 1, vI 0, vI what]) B260_11_14 rfl ?_
    refine r_sIp (args := [vI what, vI 0, vI 1]) (rest := []) (pc' := 17) D260_14 rfl ck_11_static_123 TE147 rfl (Nat.le_of_ble_eq_true rfl) ⟨Nat.le_of_ble_eq_true rfl, Nat.le_of_ble_eq_true rfl⟩ (by decide) (dp_0 hd rfl) (k147 E (dp_n hd rfl) H what 0 1 (by omega) (by omega) (by omega)) ?_
    intro v8 q13
    obtain ⟨q10, q11, q12⟩ := q13
    refine r_ifc (tgt := 22) (pc' := 20) D260_17 rfl rfl (by unfold inR; omega) (fun (c14 : v8 ≠ 0) => ?_) (fun (c14 : ¬ (v8 ≠ 0)) => ?_)
    · refine s_blx (lv' := [(3, vI 0), (0, vR 77), (1, vI minutes), (2, vI what)]) (st' := []) B260_22_24 rfl ?_
      refine r_loc (lv' := [(0, vR 77), (1, vI minutes), (2, vI what), (3, vI 0)]) ⟨rfl, rfl, rfl, rfl, trivial⟩ rfl rfl ?_
      exact (L_k260g E hd H minutes what K h0 h1 h2 (((241 - 0) * 1 + 7564 : Int) + 1).toNat).1 0 M H f0 (fun t a b => by omega) (by omega) (by omega) (by omega) (by omega) (by omega) (by omega) (by omega) (by omega) (by omega) (by omega)
    · refine s_blx (lv' := [(0, vR 77), (1, vI minutes), (2, vI what)]) (st' := [vI (-1)]) B260_20_21 rfl ?_
      exact r_iretI D260_21 rfl (⟨H, f0, by omega, glV_no (fun h => by omega)⟩)
