/-! A TEXT's TOKENS, once and for all. -/
section
variable {T T' : Int → Int} {s : Int}
theorem TE.cong {k e : Int} (hT : ∀ j : Int, 0 ≤ j → j < s → T j = T' j) (hk : 0 ≤ k) (h : TE T s k e) : TE T' s k e := by
  obtain ⟨a, b, c, d⟩ := h
  have ek : T k = T' k := hT k hk (by omega)
  refine ⟨a, fun j x y => ?_, fun x => ?_, ?_⟩
  · rw [← ek, ← hT j (by omega) (by omega)]; exact b j x y
  · rw [← ek, ← hT e (by omega) x]; exact c x
  · rw [← ek]; exact d
theorem NB.cong {k e : Int} (hT : ∀ j : Int, 0 ≤ j → j < s → T j = T' j) (hk : 0 ≤ k) (h : NB T s k e) : NB T' s k e := by
  obtain ⟨a, b, c⟩ := h
  exact ⟨a, fun j x y => by rw [← hT j (by omega) (by omega)]; exact b j x y, fun x => by rw [← hT e (by omega) x]; exact c x⟩
theorem TKS.nn {st : Int → Int} {n : Int} (h : TKS T s n st) : ∀ j : Int, 0 ≤ j → j < n → 0 ≤ st j := by
  obtain ⟨x1, x2, x3, x4⟩ := h
  have key : ∀ r : Nat, ∀ j : Int, 0 ≤ j → j < n → j ≤ r → 0 ≤ st j := by
    intro r
    induction r with
    | zero => intro j x y z; have := x2.1.1; rw [show j = 0 by omega]; exact this
    | succ r ih =>
      intro j x y z
      by_cases e0 : j = 0
      · have := x2.1.1; rw [e0]; exact this
      · have o := ih (j - 1) (by omega) (by omega) (by omega)
        obtain ⟨-, e, q1, q2⟩ := x3 (j - 1) (by omega) (by omega)
        rw [show j - 1 + 1 = j by omega] at q2
        have := q1.1.1
        have := q2.1.1
        omega
  exact fun j x y => key j.toNat j x y (by omega)
theorem TKS.cong {st : Int → Int} {n : Int} (hT : ∀ j : Int, 0 ≤ j → j < s → T j = T' j) (h : TKS T s n st) : TKS T' s n st := by
  refine ⟨h.1, h.2.1.cong hT (Int.le_refl _), fun j x y => ?_, h.2.2.2⟩
  obtain ⟨p, e, q1, q2⟩ := h.2.2.1 j x y
  have o := h.nn j x y
  exact ⟨p, e, q1.cong hT o, q2.cong hT (by have := q1.1.1; omega)⟩
theorem eqW.cong {a e w : Int} (hT : ∀ j : Int, 0 ≤ j → j < s → T j = T' j) (ha : 0 ≤ a) (he : e ≤ s) (h : eqW T a e w) : eqW T' a e w :=
  ⟨h.1, fun i x y => by rw [← hT (a + i) (by omega) (by have := h.1; omega)]; exact h.2 i x y⟩
theorem NKW.cong {a e w : Int} (hT : ∀ j : Int, 0 ≤ j → j < s → T j = T' j) (ha : 0 ≤ a) (he : e ≤ s) (h : NKW T a e w) : NKW T' a e w :=
  fun u x y c => h u x y (c.cong (fun j p q => (hT j p q).symm) ha he)
theorem KWR.cong {a e w : Int} (hT : ∀ j : Int, 0 ≤ j → j < s → T j = T' j) (ha : 0 ≤ a) (he : e ≤ s) (h : KWR T a e w) : KWR T' a e w := by
  rcases h with ⟨p, q, x, y⟩ | ⟨p, y⟩
  · exact Or.inl ⟨p, q, x.cong hT ha he, y.cong hT ha he⟩
  · exact Or.inr ⟨p, y.cong hT ha he⟩
theorem dvF.cong {a : Int} : ∀ n : Nat, (∀ j : Int, a ≤ j → j < a + n → T j = T' j) → dvF T a n = dvF T' a n := by
  intro n
  induction n with
  | zero => intro _; rfl
  | succ n ih =>
    intro h
    show (10 * dvF T a n + (T (a + (n : Int)) - 48) : Int) = 10 * dvF T' a n + (T' (a + (n : Int)) - 48)
    rw [ih (fun j p q => h j p (by omega)), h _ (by omega) (by omega)]
theorem KD.cong {a e k v : Int} (hT : ∀ j : Int, 0 ≤ j → j < s → T j = T' j) (ha : 0 ≤ a) (hae : a < e) (he : e ≤ s) (h : KD T a e k v) : KD T' a e k v := by
  obtain ⟨x, y, z⟩ := h
  have ek : T a = T' a := hT a ha (by omega)
  have ed : dvF T a (e - a).toNat = dvF T' a (e - a).toNat := dvF.cong _ (fun j p q => hT j (by omega) (by omega))
  refine ⟨fun q => ?_, fun q => ?_, fun q r => ?_⟩
  · rw [← ek] at q; exact (x q).cong hT ha he
  · rw [← ek] at q; rw [← ed]; exact y q
  · rw [← ek] at q r ⊢; exact z q r
theorem TOK.cong {st K V : Int → Int} {n : Int} (hT : ∀ j : Int, 0 ≤ j → j < s → T j = T' j) (h : TOK T s n st K V) : TOK T' s n st K V := by
  refine ⟨h.1.cong hT, fun j x y => ?_, h.2.2⟩
  obtain ⟨e, q1, q2⟩ := h.2.1 j x y
  have o := h.1.nn j x y
  exact ⟨e, q1.cong hT o, q2.cong hT o q1.1.1 q1.1.2⟩
end
/-- the TOKENS of a TEXT: how many, where they begin, what they are, which NUMBERS -/
noncomputable def tkE (T : Int → Int) (s : Int) : Int × (Int → Int) × (Int → Int) × (Int → Int) := Classical.epsilon (fun x => TOK T s x.1 x.2.1 x.2.2.1 x.2.2.2)
theorem tkE_ok {T st K V : Int → Int} {s n : Int} (h : TOK T s n st K V) (hb : ∀ i : Int, 0 ≤ i → i < s → 0 ≤ T i) : n = (tkE T s).1 ∧ (∀ j : Int, 0 ≤ j → j ≤ n → st j = (tkE T s).2.1 j) ∧ (∀ j : Int, 0 ≤ j → j ≤ n → K j = (tkE T s).2.2.1 j) ∧ ∀ j : Int, 0 ≤ j → j < n → K j = 21 → V j = (tkE T s).2.2.2 j := by
  have e : TOK T s (tkE T s).1 (tkE T s).2.1 (tkE T s).2.2.1 (tkE T s).2.2.2 := Classical.epsilon_spec (p := fun x : Int × (Int → Int) × (Int → Int) × (Int → Int) => TOK T s x.1 x.2.1 x.2.2.1 x.2.2.2) ⟨(n, st, K, V), h⟩
  exact h.uniq e hb
/-- how a TEXT is taken: 0 a fault, then where -/
noncomputable def HRx (T : Int → Int) (s x fa : Int) : Prop := ∃ a q : Int, RR (tkE T s).2.2.1 10 0 0 0 (a, q, x) ∧ (x = 0 → fa = (tkE T s).2.1 a)
theorem HRx.uniq {T : Int → Int} {s x fa x' fa' : Int} (h : HRx T s x fa) (h' : HRx T s x' fa') : x = x' ∧ (x = 0 → fa = fa') := by
  obtain ⟨a, q, r, f⟩ := h
  obtain ⟨a', q', r', f'⟩ := h'
  have e := r.det r'
  cases e
  exact ⟨rfl, fun c => (f c).trans (f' c).symm⟩
theorem k24_14j {base : Nat} {X : Nat → Option mC} {G : Nat → Value} (E : EnvOK base X G) {d : Nat} (hd : 58 ≤ d) {M : mH} (H : HI base M) (ct : Int) (at_ : Int) (kd : Int) (us : Int) (K : Int → Int) (st : Int → Int) (fo : Int) (pq : Int) (h0 : gi M 15 ct = 22) (h1 : 0 ≤ ct ∧ ct ≤ 400) (h2 : gi M 14 2 = at_) (h3 : gi M 14 3 = kd) (h4 : 0 ≤ at_ ∧ at_ ≤ ct) (h5 : at_ = ct → kd = 22) (h6 : 0 ≤ kd ∧ kd ≤ 511) (h7 : gi M 14 9 = us) (h8 : 0 ≤ us ∧ us ≤ at_) (h9 : CD us M) (h10 : TKx K st ct M) (h11 : K ct = 22) (h12 : kd = K at_) (h13 : gi M 14 10 = fo) (h14 : gi M 14 4 = pq) (h15 : 0 ≤ pq ∧ pq ≤ 50) : sOk base X G d T24 [vR 14] M (pI (fun v M' => HI base M' ∧ Fr [(14, 3), (14, 4), (14, 5), (14, 8), (14, 10), (14, 11), (17, 0), (18, 0), (19, 0)] M M' ∧ (v = 0 ∨ v = 1) ∧ (at_ ≤ gi M' 14 2 ∧ gi M' 14 2 ≤ ct) ∧ (gi M' 14 2 = ct → gi M' 14 3 = 22) ∧ (0 ≤ gi M' 14 3 ∧ gi M' 14 3 ≤ 511) ∧ (us ≤ gi M' 14 9 ∧ gi M' 14 9 - us ≤ gi M' 14 2 - at_) ∧ (CD (gi M' 14 9) M') ∧ (∀ j : Int, 0 ≤ j → j < us → gi M' 19 j = gi M 19 j) ∧ (v = 1 → EN (gi M' 14 7) (gi M' 14 9) M') ∧ (gi M' 14 3 = K (gi M' 14 2)) ∧ (0 ≤ gi M' 14 4 ∧ gi M' 14 4 ≤ 50) ∧ (RR K 10 0 at_ pq (gi M' 14 2, gi M' 14 4, -v)) ∧ (FTx st fo (gi M' 14 10) (gi M' 14 2) v))) := by
  refine sOk.imp (sOk.andI (k24_14x E (by omega) H ct at_ kd us h0 h1 h2 h3 h4 h5 h6 h7 h8 h9) (k24_14p E (by omega) H ct at_ kd K st fo pq h10 h11 h1 h2 h3 h12 h4 h6 h13 h14 h15) (fun v M' z => by have w := z.2.2.1; omega) (fun v M' z => by have w := z.2.2.1; omega)) ?_
  rintro r M' ⟨v, e, ⟨H', f, q0, q1, q2, q3, q4, q5, q6, q7⟩, ⟨-, -, -, -, r2, r3, r4, r5⟩⟩
  exact ⟨v, e, H', f, q0, q1, q2, q3, q4, q5, q6, q7, r2, r3, r4, r5⟩

set_option maxRecDepth 4000 in
theorem k17_14_13p {base : Nat} {X : Nat → Option mC} {G : Nat → Value} (E : EnvOK base X G) {d : Nat} (hd : 59 ≤ d) {M : mH} (H : HI base M) (length : Int) (T : Int → Int) (h0 : 0 ≤ length ∧ length ≤ 400) (h1 : ∀ j : Int, 0 ≤ j → j < length → gi M 13 j = T j) : sOk base X G d T17 [vR 14, vR 13, vI length] M (pA (fun v M' => (v = none ∧ HI base M' ∧ Fr [(14, 3), (14, 4), (14, 5), (14, 8), (14, 10), (14, 11), (15, 0), (16, 0), (17, 0), (18, 0), (19, 0)] M M' ∧ HRx T length 0 (gi M' 14 10)) ∨ ∃ M1, Fr [(14, 3), (14, 4), (14, 5), (14, 8), (14, 10), (14, 11), (15, 0), (16, 0), (17, 0), (18, 0), (19, 0)] M M1 ∧ HI base M1 ∧ RH base M1 v M' ∧ HRx T length (-1) 0 ∧ gi M1 14 10 = -1)) := by
  have f0 : Fr [(14, 3), (14, 4), (14, 5), (14, 8), (14, 10), (14, 11), (15, 0), (16, 0), (17, 0), (18, 0), (19, 0)] M M := Fr.rf
  refine sOk.of (show sRn base X G d T17 0 [(0, vR 14), (1, vR 13), (2, vI length)] [] M _ from ?_)
  refine s_blx (lv' := [(0, vR 14), (1, vR 13), (2, vI length)]) (st' := [vI (-1), vR 14]) B17_0_2 rfl ?_
  refine r_pint (ki := 10) (pc' := 5) D17_2 rfl pf_4_43_14 rfl H (by unfold inR; omega) trivial ?_
  intro M1 u2 H3 p4
  have f5 := f0.wr u2 rfl
  have hp6 := (CD.zero (M := M)).wr u2 (by decide)
  refine s_blx (lv' := [(0, vR 14), (1, vR 13), (2, vI length)]) (st' := [vI 0, vR 14]) B17_5_7 rfl ?_
  refine r_pint (ki := 4) (pc' := 10) D17_7 rfl pf_4_25_14 rfl H3 (by unfold inR; omega) (show 0 ≤ 0 ∧ 0 ≤ 50 by omega) ?_
  intro M7 u8 H9 p10
  have f11 := f5.wr u8 rfl
  have hp12 := hp6.wr u8 (by decide)
  refine s_blx (lv' := [(0, vR 14), (1, vR 13), (2, vI length)]) (st' := [vI 0, vR 14]) B17_10_12 rfl ?_
  refine r_pint (ki := 7) (pc' := 15) D17_12 rfl pf_4_34_14 rfl H9 (by unfold inR; omega) (show 0 ≤ 0 ∧ 0 ≤ 12 by omega) ?_
  intro M13 u14 H15 p16
  have f17 := f11.wr u14 rfl
  have hp18 := hp12.wr u14 (by decide)
  refine s_blx (lv' := [(0, vR 14), (1, vR 13), (2, vI length)]) (st' := [vI 0, vR 14]) B17_15_17 rfl ?_
  refine r_pint (ki := 9) (pc' := 20) D17_17 rfl pf_4_40_14 rfl H15 (by unfold inR; omega) (show 0 ≤ 0 ∧ 0 ≤ 400 by omega) ?_
  intro M19 u20 H21 p22
  have f23 := f17.wr u20 rfl
  have hp24 := hp18.wr u20 (by decide)
  refine s_blx (lv' := [(0, vR 14), (1, vR 13), (2, vI length)]) (st' := [vR 13, vI length, vR 13, vR 14]) B17_20_24 rfl ?_
  refine r_len (ni := 400) (pc' := 25) D17_24 rfl sc_13 (by decide) rfl H21.1 ?_
  refine s_blx (lv' := [(0, vR 14), (1, vR 13), (2, vI length)]) (st' := [vI 400, vI 400, vI length, vR 13, vR 14]) B17_25_28 rfl ?_
  refine r_min (pc' := 31) D17_28 rfl mc_4_static_46 sp_4_46 (Nat.le_of_ble_eq_true rfl) (by unfold inR; omega) ?_
  intro z25 r26 r27 r28
  refine r_min (pc' := 34) D17_31 rfl mc_4_static_46 sp_4_46 (Nat.le_of_ble_eq_true rfl) (by unfold inR; omega) ?_
  intro z29 r30 r31 r32
  refine r_vV (c := 14) (args := [vR 13, vI z29]) (rest := []) (pc' := 37) D17_34 rfl ck_4_virtual_52 TE18 rfl (Nat.le_of_ble_eq_true rfl) ⟨Nat.le_of_ble_eq_true rfl, Nat.le_of_ble_eq_true rfl⟩ sc_14 ⟨rfl, by decide⟩ H21.1 (dp_0 hd rfl) (k18_14_13a E (dp_n hd rfl) H21 z29 (by omega)) ?_
  intro M34 q38
  obtain ⟨H35, f36, q37⟩ := q38
  have f39 := f23.tr (f36.up rfl)
  have hp40 := hp24.fr f36 (by decide)
  obtain ⟨ct, kc, kct, ktok⟩ := q37
  have k13 : gi M19 13 = gi M 13 := funext fun j => (f23).g rfl
  rw [k13, show z29 = length by omega] at ktok
  have kte := tkE_ok (ktok.cong h1) (fun i a b => by rw [← h1 i a b]; exact (H.2 13 i 0 255 rfl).1)
  have ktk : TKx (tkE T length).2.2.1 (tkE T length).2.1 ct M34 := ⟨fun j a b => kte.2.2.1 j a b, fun j a b => kte.2.1 j a b⟩
  have kKc : (tkE T length).2.2.1 ct = 22 := (kte.2.2.1 ct (by omega) (by omega)).symm.trans (by show gi M34 15 ct % 512 = 22; rw [kct]; rfl)
  refine s_blx (lv' := [(0, vR 14), (1, vR 13), (2, vI length)]) (st' := [vI 0, vR 14]) B17_37_39 rfl ?_
  refine r_pint (ki := 2) (pc' := 42) D17_39 rfl pf_4_18_14 rfl H35 (by unfold inR; omega) (show 0 ≤ 0 ∧ 0 ≤ 400 by omega) ?_
  intro M41 u42 H43 p44
  have f45 := f39.wr u42 rfl
  have hp46 := hp40.wr u42 (by decide)
  have hp47 := ktk.wr u42 (by decide)
  refine s_blx (lv' := [(0, vR 14), (1, vR 13), (2, vI length)]) (st' := [vR 14, vR 14]) B17_42_44 rfl ?_
  refine r_gfix (r := 15) (pc' := 47) D17_44 rfl gf_4_9_14 H43.1 ?_
  refine s_blx (lv' := [(0, vR 14), (1, vR 13), (2, vI length)]) (st' := [vI 0, vR 15, vR 14]) B17_47_48 rfl ?_
  refine r_iald (pc' := 49) D17_48 rfl sc_15 H43.1 (by omega) ?_
  intro w48 e49 r50
  have b_w48 := H43.2 15 (0) 0 60000000 rfl
  rw [← e49] at b_w48; clear r50
  have k0 : 0 = ct → w48 = 22 := fun h => by rw [e49, h]; exact (((u42.gi_ne (by decide) (Or.inl (by decide))).trans (rfl))).trans kct
  have kw0 : w48 % 512 = (tkE T length).2.2.1 0 := by rw [e49]; exact (hp47).1 0 (by omega) (by omega)
  refine s_blx (lv' := [(0, vR 14), (1, vR 13), (2, vI length)]) (st' := [vI 511, vI w48, vR 14]) B17_49_52 rfl ?_
  refine r_and511 (pc' := 53) D17_52 rfl ?_
  refine r_pint (ki := 3) (pc' := 56) D17_53 rfl pf_4_22_14 rfl H43 (by unfold inR; omega) (show 0 ≤ (w48 % 512) ∧ (w48 % 512) ≤ 511 by omega) ?_
  intro M51 u52 H53 p54
  have f55 := f45.wr u52 rfl
  have hp56 := hp46.wr u52 (by decide)
  have hp57 := hp47.wr u52 (by decide)
  refine s_blx (lv' := [(0, vR 14), (1, vR 13), (2, vI length)]) (st' := [vR 14]) B17_56_57 rfl ?_
  have g58 : gi M51 15 ct = gi M34 15 ct := (u52.gi_ne (by decide) (Or.inl (by decide))).trans ((u42.gi_ne (by decide) (Or.inl (by decide))).trans (rfl))
  have g59 : gi M51 14 2 = 0 := (u52.gi_ne (by decide) (Or.inr (by decide))).trans (p44)
  have g60 : gi M51 14 3 = w48 % 512 := p54
  have g61 : gi M51 14 9 = 0 := (u52.gi_ne (by decide) (Or.inr (by decide))).trans ((u42.gi_ne (by decide) (Or.inr (by decide))).trans ((f36.g rfl).trans (p22)))
  have g62 : gi M51 14 10 = -1 := (u52.gi_ne (by decide) (Or.inr (by decide))).trans ((u42.gi_ne (by decide) (Or.inr (by decide))).trans ((f36.g rfl).trans ((u20.gi_ne (by decide) (Or.inr (by decide))).trans ((u14.gi_ne (by decide) (Or.inr (by decide))).trans ((u8.gi_ne (by decide) (Or.inr (by decide))).trans (p4))))))
  have g63 : gi M51 14 4 = 0 := (u52.gi_ne (by decide) (Or.inr (by decide))).trans ((u42.gi_ne (by decide) (Or.inr (by decide))).trans ((f36.g rfl).trans ((u20.gi_ne (by decide) (Or.inr (by decide))).trans ((u14.gi_ne (by decide) (Or.inr (by decide))).trans (p10)))))
  refine r_vI (c := 14) (args := []) (rest := []) (pc' := 60) D17_57 rfl ck_4_virtual_56 TE24 rfl (Nat.le_of_ble_eq_true rfl) ⟨Nat.le_of_ble_eq_true rfl, Nat.le_of_ble_eq_true rfl⟩ sc_14 ⟨rfl, by decide⟩ H53.1 (dp_0 hd rfl) (k24_14j E (dp_n hd rfl) H53 ct 0 (w48 % 512) 0 (tkE T length).2.2.1 (tkE T length).2.1 (-1) 0 (by omega) (by omega) (by omega) (by omega) (by omega) (by omega) (by omega) (by omega) (by omega) (hp56) (hp57) (by omega) (by omega) (by omega) (by omega) (by omega)) ?_
  intro v64 M65 q80
  obtain ⟨H66, f67, q68, q69, q70, q71, q72, q73, q74, q75, q76, q77, q78, q79⟩ := q80
  have f81 := f55.tr (f67.up rfl)
  have hp82 := hp57.fr f67 (by decide)
  obtain ⟨t83, ht84⟩ : ∃ q, q = gi M65 14 2 := ⟨_, rfl⟩
  have b_t83 := H66.2 14 2 0 400 rfl
  rw [← ht84] at b_t83
  obtain ⟨t85, ht86⟩ : ∃ q, q = gi M65 14 3 := ⟨_, rfl⟩
  have b_t85 := H66.2 14 3 0 511 rfl
  rw [← ht86] at b_t85
  obtain ⟨t87, ht88⟩ : ∃ q, q = gi M65 14 9 := ⟨_, rfl⟩
  have b_t87 := H66.2 14 9 0 400 rfl
  rw [← ht88] at b_t87
  obtain ⟨t89, ht90⟩ : ∃ q, q = gi M65 14 7 := ⟨_, rfl⟩
  have b_t89 := H66.2 14 7 0 12 rfl
  rw [← ht90] at b_t89
  obtain ⟨t91, ht92⟩ : ∃ q, q = gi M65 14 4 := ⟨_, rfl⟩
  have b_t91 := H66.2 14 4 0 50 rfl
  rw [← ht92] at b_t91
  obtain ⟨t93, ht94⟩ : ∃ q, q = gi M65 14 10 := ⟨_, rfl⟩
  have b_t93 := (H66.1.int sc_14 (i := 10) (by decide) (by decide) rfl).2
  unfold inR at b_t93; rw [← ht94] at b_t93
  rw [← ht84] at q69
  rw [← ht84, ← ht86] at q70
  rw [← ht86] at q71
  rw [← ht84, ← ht88] at q72
  rw [← ht88] at q73
  rw [← ht90, ← ht88] at q75
  rw [← ht84, ← ht86] at q76
  rw [← ht92] at q77
  rw [← ht84, ← ht92] at q78
  rw [← ht84, ← ht94] at q79
  have ken := q75; clear q75
  have krr := q78; clear q78
  have kft := q79; clear q79
  refine r_ifc (tgt := 65) (pc' := 63) D17_60 rfl rfl (by unfold inR; omega) (fun (c95 : v64 ≠ 0) => ?_) (fun (c95 : ¬ (v64 ≠ 0)) => ?_)
  · refine r_loc (lv' := [(0, vR 14)]) ⟨rfl, trivial⟩ rfl rfl ?_
    exact t17 (by omega) H66 ((ht88.symm)) (q73) (by rw [(ht90.symm)]; exact ken (by omega)) (fun v M' h => Or.inr ⟨_, f81, H66, h, ⟨_, _, krr.rs rfl rfl (by omega), fun c => absurd c (by decide)⟩, by rw [(ht94.symm)]; exact kft.2 (by omega)⟩)
  · refine s_blx (lv' := [(0, vR 14), (1, vR 13), (2, vI length)]) (st' := [vN]) B17_63_64 rfl ?_
    exact r_aret (q := none) D17_64 rfl ⟨_, rfl, Or.inl ⟨rfl, H66, f81, ⟨_, _, krr.rs rfl rfl (by omega), fun _ => (by rw [(ht94.symm)]; exact kft.1 (by omega))⟩⟩⟩
