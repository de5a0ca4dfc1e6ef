/-! The class takes a TEXT: what each of its parts takes is what a TEXT is. -/
section
variable {base : Nat} {X : Nat → Option mC} {G : Nat → Value} {d : Nat} {t : mT} {pc : Nat} {lv : mL} {st : List Value} {M : mH}
/-- two tellings of one run -/
theorem m_Rn.and {Q Q' : Option Value → mH → Prop} (h : m_Rn base X G d t pc lv st M Q) (h' : m_Rn base X G d t pc lv st M Q') : m_Rn base X G d t pc lv st M (fun r M' => Q r M' ∧ Q' r M') := by
  obtain ⟨n, r, M1, e, q⟩ := h
  obtain ⟨n', r', M2, e', q'⟩ := h'
  have a := m_run_le e (Nat.le_max_left n n')
  have b := m_run_le e' (Nat.le_max_right n n')
  rw [a] at b
  cases b
  exact ⟨max n n', r, M1, a, q, q'⟩
theorem sOk.andI {args : List mV} {A B : Int → mH → Prop} (h : sOk base X G d t args M (pI A)) (h' : sOk base X G d t args M (pI B)) (ra : ∀ v M', A v M' → -2147483648 ≤ v ∧ v ≤ 2147483647) (rb : ∀ v M', B v M' → -2147483648 ≤ v ∧ v ≤ 2147483647) : sOk base X G d t args M (pI (fun v M' => A v M' ∧ B v M')) := by
  refine (m_Rn.and h h').imp ?_
  rintro r M' ⟨⟨v, e, w, rfl, a⟩, v', e', w', rfl, b⟩
  have e3 : some (Value.int (Int32.ofInt w)) = some (Value.int (Int32.ofInt w')) := e.symm.trans e'
  have e4 : Int32.ofInt w = Int32.ofInt w' := by injection e3 with e3; injection e3
  have e5 : w = w' := (s_eq (by unfold inR; exact ra _ _ a) (by unfold inR; exact rb _ _ b)).mp e4
  exact ⟨some (vI w), e, w, rfl, a, by rw [e5]; exact b⟩
end
/-- the TOKENS of the class and where they began, up to the n-th -/
noncomputable def TKx (K st : Int → Int) (n : Int) (M : mH) : Prop := (∀ j : Int, 0 ≤ j → j ≤ n → gi M 15 j % 512 = K j) ∧ ∀ j : Int, 0 ≤ j → j ≤ n → gi M 16 j = st j
theorem TKx.of {K st : Int → Int} {n : Int} {M M' : mH} (h : TKx K st n M) (e : ∀ j : Int, gi M' 15 j = gi M 15 j) (e' : ∀ j : Int, gi M' 16 j = gi M 16 j) : TKx K st n M' := ⟨fun j a b => by rw [e]; exact h.1 j a b, fun j a b => by rw [e']; exact h.2 j a b⟩
theorem TKx.fr {K st : Int → Int} {n : Int} {L : List (Nat × Nat)} {M M' : mH} (h : TKx K st n M) (f : Fr L M M') (hc : s_al L (fun c => c != 15 && c != 16) = true) : TKx K st n M' := h.of (fun _ => f.g (s_al_ok hc (by simp))) (fun _ => f.g (s_al_ok hc (by simp)))
theorem TKx.wr {K st : Int → Int} {n : Int} {M M' : mH} {c i : Nat} {v : Value} (h : TKx K st n M) (u : Wr M c i v M') (hc : c ≠ 15 ∧ c ≠ 16) : TKx K st n M' := h.of (fun j => by unfold gi; rw [u.ne (Or.inl (Ne.symm hc.1))]) (fun j => by unfold gi; rw [u.ne (Or.inl (Ne.symm hc.2))])
/-- where the fault lies, if there is one; else what was kept -/
noncomputable def FTx (st : Int → Int) (f0 fa a v : Int) : Prop := (v = 0 → fa = st a) ∧ (v ≠ 0 → fa = f0)
section
variable {st : Int → Int} {f0 f1 fa a a' v w : Int}
theorem FTx.one : FTx st f0 f0 a 1 := ⟨fun h => absurd h (by decide), fun _ => rfl⟩
theorem FTx.bad (hv : v = 0) (h : fa = st a) : FTx st f0 fa a v := ⟨fun _ => h, fun c => absurd hv c⟩
theorem FTx.tr (h : FTx st f0 f1 a' w) (hw : w ≠ 0) (k : FTx st f1 fa a v) : FTx st f0 fa a v := ⟨k.1, fun c => (k.2 c).trans (h.2 hw)⟩
theorem FTx.lit (h : FTx st f0 fa a v) (e : v = w) : FTx st f0 fa a w := e ▸ h
theorem FTx.up (h : FTx st f0 fa a v) (hv : v ≠ 0) (hw : w ≠ 0) : FTx st f0 fa a' w := ⟨fun c => absurd c hw, fun _ => h.2 hv⟩
end
section
variable {K : Int → Int} {k m n : Nat} {r : Int × Int × Int} {d a b q p p' a0 q0 a1 q1 a' b' x x' y v : Int}
theorem RR.at (h : RR K m d p q r) (e : p = p') : RR K m d p' q r := e ▸ h
theorem RR.rs (h : RR K m d p q (a, b, x)) (ea : a = a') (eb : b = b') (ex : x = x') : RR K m d p q (a', b', x') := by subst ea eb ex; exact h
theorem RR.p4 (hk : K p = 10 ∨ K p = 11) (hv : v = 1 ∧ q < 50 ∨ v = 0 ∧ 50 ≤ q) : RR K 4 d p q (p + v, q + v, -v) := by
  rcases hv with ⟨rfl, h⟩ | ⟨rfl, h⟩
  · exact RR.l4 hk h
  · exact (RR.lb4 hk h).rs (by omega) (by omega) (by omega)
theorem RR.p9 (hk : K p = 21 ∨ (12 ≤ K p ∧ K p ≤ 20)) (hv : v = 1 ∧ q < 50 ∨ v = 0 ∧ 50 ≤ q) : RR K 9 d p q (p + v, q + v, -v) := by
  rcases hv with ⟨rfl, h⟩ | ⟨rfl, h⟩
  · exact RR.l9 hk h
  · exact (RR.lb9 hk h).rs (by omega) (by omega) (by omega)
/-- so far in a row of parts: what follows, follows -/
noncomputable def LPx (K : Int → Int) (m n : Nat) (d a q a0 q0 x : Int) : Prop := (x ≠ 0 → ∀ r, RR K n d a0 q0 r → RR K m d a q r) ∧ (x = 0 → RR K m d a q (a0, q0, 0))
theorem LPx.ini (hm : ∀ (p1 q1 : Int) (r : Int × Int × Int), RR K k d a q (p1, q1, -1) → RR K n d p1 q1 r → RR K m d a q r) (hb : ∀ p1 q1 : Int, RR K k d a q (p1, q1, 0) → RR K m d a q (p1, q1, 0)) (hx : x = 0 ∨ x = 1) (h : RR K k d a q (a0, q0, -x)) : LPx K m n d a q a0 q0 x := by
  rcases hx with rfl | rfl
  · exact ⟨fun c => absurd rfl c, fun _ => hb _ _ (h.rs rfl rfl (by omega))⟩
  · exact ⟨fun _ r g => hm _ _ r h g, fun c => absurd c (by decide)⟩
theorem LPx.stp (hm : ∀ (p1 q1 : Int) (r : Int × Int × Int), RR K k d (a0 + 1) q0 (p1, q1, -1) → RR K n d p1 q1 r → RR K n d a0 q0 r) (hb : ∀ p1 q1 : Int, RR K k d (a0 + 1) q0 (p1, q1, 0) → RR K n d a0 q0 (p1, q1, 0)) (i : LPx K m n d a q a0 q0 y) (hy : y ≠ 0) (hx : x = 0 ∨ x = 1) (h : RR K k d (a0 + 1) q0 (a1, q1, -x)) : LPx K m n d a q a1 q1 x := by
  rcases hx with rfl | rfl
  · exact ⟨fun c => absurd rfl c, fun _ => i.1 hy _ (hb _ _ (h.rs rfl rfl (by omega)))⟩
  · exact ⟨fun _ r g => i.1 hy r (hm _ _ r h g), fun c => absurd c (by decide)⟩
theorem LPx.fin (i : LPx K m n d a q a0 q0 x) (hx : x = 0 ∨ x = 1) (he : x ≠ 0 → RR K n d a0 q0 (a0, q0, -1)) : RR K m d a q (a0, q0, -x) := by
  rcases hx with rfl | rfl
  · exact (i.2 rfl).rs rfl rfl (by omega)
  · exact i.1 (by decide) _ (he (by decide))
/-- so far in a row of nots -/
noncomputable def NTx (K : Int → Int) (d a q a0 : Int) : Prop := ∀ r, RR K 4 d a0 q r → RR K 4 d a q r
/-- so far in a row of CLAUSES -/
noncomputable def CLx (K : Int → Int) (a q x a0 q0 : Int) : Prop := ∀ r, RR K 10 x a0 q0 r → RR K 10 0 a q r
end

set_option maxRecDepth 4000 in
theorem k36_14p {base : Nat} {X : Nat → Option mC} {G : Nat → Value} (E : EnvOK base X G) {d : Nat} (hd : 0 ≤ d) {M : mH} (H : HI base M) (ct : Int) (at_ : Int) (K : Int → Int) (st : Int → Int) (h0 : TKx K st ct M) (h1 : gi M 14 2 = at_) (h2 : 0 ≤ at_ ∧ at_ ≤ ct) (h3 : ct ≤ 400) : sOk base X G d T36 [vR 14] M (pI (fun v M' => HI base M' ∧ Fr [(14, 11)] M M' ∧ (v = 0 ∨ v = 1) ∧ (v = 0) ∧ (gi M' 14 10 = st at_))) := by
  have f0 : Fr [(14, 11)] M M := Fr.rf
  refine sOk.of (show sRn base X G d T36 0 [(0, vR 14)] [] M _ from ?_)
  refine s_blx (lv' := [(0, vR 14)]) (st' := [vR 14, vR 14]) B36_0_2 rfl ?_
  refine r_gfix (r := 16) (pc' := 5) D36_2 rfl gf_4_15_14 H.1 ?_
  refine s_blx (lv' := [(0, vR 14)]) (st' := [vR 14, vR 16, vR 14]) B36_5_6 rfl ?_
  refine r_gint (ki := 2) (pc' := 9) D36_6 rfl gf_4_18_14 rfl H.1 ?_
  intro w1 e2 r3
  have e4 : at_ = w1 := (e2.trans (h1)).symm
  subst e4
  refine r_iald (pc' := 10) D36_9 rfl sc_16 H.1 (by omega) ?_
  intro w5 e6 r7
  unfold inR at r7
  have kw : w5 = st at_ := by rw [e6]; exact (h0).2 at_ (by omega) (by omega)
  refine r_pint (ki := 10) (pc' := 13) D36_10 rfl pf_4_43_14 rfl H (by unfold inR; omega) trivial ?_
  intro M8 u9 H10 p11
  have f12 := f0.wr u9 rfl
  refine s_blx (lv' := [(0, vR 14)]) (st' := [vI 0]) B36_13_14 rfl ?_
  have g13 : gi M8 14 10 = w5 := p11
  exact r_zretI D36_14 rfl (by omega) (⟨H10, f12, by omega, by omega, by rw [(p11)]; exact kw⟩)
set_option maxRecDepth 4000 in
theorem k35_14p {base : Nat} {X : Nat → Option mC} {G : Nat → Value} (E : EnvOK base X G) {d : Nat} (hd : 0 ≤ d) {M : mH} (H : HI base M) (ct : Int) (at_ : Int) (kd : Int) (K : Int → Int) (st : Int → Int) (h0 : TKx K st ct M) (h1 : K ct = 22) (h2 : 0 ≤ ct ∧ ct ≤ 400) (h3 : gi M 14 2 = at_) (h4 : gi M 14 3 = kd) (h5 : kd = K at_) (h6 : 0 ≤ at_ ∧ at_ ≤ ct) (h7 : 0 ≤ kd ∧ kd ≤ 511) (h8 : kd ≠ 22) : sOk base X G d T35 [vR 14] M (pV (fun M' => HI base M' ∧ Fr [(14, 3), (14, 4)] M M' ∧ (gi M' 14 2 = at_ + 1) ∧ (gi M' 14 3 = K (gi M' 14 2)) ∧ (gi M' 14 2 ≤ ct) ∧ (gi M' 14 3 = K (at_ + 1)))) := by
  have f0 : Fr [(14, 3), (14, 4)] M M := Fr.rf
  refine sOk.of (show sRn base X G d T35 0 [(0, vR 14)] [] M _ from ?_)
  have kn : at_ = ct → K at_ = 22 := fun h => by rw [h]; exact h1
  refine s_blx (lv' := [(0, vR 14)]) (st' := [vR 14, vR 14]) B35_0_2 rfl ?_
  refine r_gint (ki := 2) (pc' := 5) D35_2 rfl gf_4_18_14 rfl H.1 ?_
  intro w1 e2 r3
  have e4 : at_ = w1 := (e2.trans (h3)).symm
  subst e4
  refine s_blx (lv' := [(0, vR 14)]) (st' := [vI 400, vI (at_ + 1), vR 14]) B35_5_10 rfl ?_
  refine r_min (pc' := 13) D35_10 rfl mc_4_static_46 sp_4_46 (Nat.le_of_ble_eq_true rfl) (by unfold inR; omega) ?_
  intro z5 r6 r7 r8
  refine r_pint (ki := 2) (pc' := 16) D35_13 rfl pf_4_18_14 rfl H (by unfold inR; omega) (show 0 ≤ z5 ∧ z5 ≤ 400 by omega) ?_
  intro M9 u10 H11 p12
  have f13 := f0.wr u10 rfl
  refine s_blx (lv' := [(0, vR 14)]) (st' := [vR 14, vR 14]) B35_16_18 rfl ?_
  refine r_gfix (r := 15) (pc' := 21) D35_18 rfl gf_4_9_14 H11.1 ?_
  refine s_blx (lv' := [(0, vR 14)]) (st' := [vR 14, vR 15, vR 14]) B35_21_22 rfl ?_
  refine r_gint (ki := 2) (pc' := 25) D35_22 rfl gf_4_18_14 rfl H11.1 ?_
  intro w14 e15 r16
  have e17 : z5 = w14 := (e15.trans (p12)).symm
  subst e17
  refine r_iald (pc' := 26) D35_25 rfl sc_15 H11.1 (by omega) ?_
  intro w18 e19 r20
  have b_w18 := H11.2 15 (z5) 0 60000000 rfl
  rw [← e19] at b_w18; clear r20
  have kw : w18 % 512 = K (at_ + 1) := by rw [e19, show z5 = at_ + 1 by omega]; exact ((h0.fr f13 rfl)).1 (at_ + 1) (by omega) (by omega)
  refine s_blx (lv' := [(0, vR 14)]) (st' := [vI 511, vI w18, vR 14]) B35_26_29 rfl ?_
  refine r_and511 (pc' := 30) D35_29 rfl ?_
  refine r_pint (ki := 3) (pc' := 33) D35_30 rfl pf_4_22_14 rfl H11 (by unfold inR; omega) (show 0 ≤ (w18 % 512) ∧ (w18 % 512) ≤ 511 by omega) ?_
  intro M21 u22 H23 p24
  have f25 := f13.wr u22 rfl
  have g26 : gi M21 14 2 = z5 := (u22.gi_ne (by decide) (Or.inr (by decide))).trans (p12)
  have g27 : gi M21 14 3 = w18 % 512 := p24
  exact r_retV D35_33 rfl (⟨H23, f25, by first | (rw [g26]; omega) | rw [g26], by rw [(p24), ((u22.gi_ne (by decide) (Or.inr (by decide))).trans (p12)), show z5 = at_ + 1 by omega]; exact kw, by first | (rw [g26]; omega) | rw [g26], by rw [(p24)]; exact kw⟩)
set_option maxRecDepth 4000 in
theorem k37_14p {base : Nat} {X : Nat → Option mC} {G : Nat → Value} (E : EnvOK base X G) {d : Nat} (hd : 0 ≤ d) {M : mH} (H : HI base M) (operation : Int) (operand : Int) (h0 : -2147483648 ≤ operation ∧ operation ≤ 2147483647) (h1 : -2147483648 ≤ operand ∧ operand ≤ 2147483647) : sOk base X G d T37 [vR 14, vI operation, vI operand] M (pI (fun v M' => HI base M' ∧ Fr [(14, 10), (19, 0)] M M' ∧ (0 ≤ v ∧ v ≤ 399))) := by
  have f0 : Fr [(14, 10), (19, 0)] M M := Fr.rf
  refine sOk.of (show sRn base X G d T37 0 [(0, vR 14), (1, vI operation), (2, vI operand)] [] M _ from ?_)
  refine s_blx (lv' := [(0, vR 14), (1, vI operation), (2, vI operand)]) (st' := [vR 14]) B37_0_1 rfl ?_
  refine r_gint (ki := 9) (pc' := 4) D37_1 rfl gf_4_40_14 rfl H.1 ?_
  intro w1 e2 r3
  have b_w1 := H.2 14 (9) 0 400 rfl
  rw [← e2] at b_w1; clear r3
  refine s_blx (lv' := [(0, vR 14), (1, vI operation), (2, vI operand)]) (st' := [vI 399, vI w1]) B37_4_7 rfl ?_
  refine r_min (pc' := 10) D37_7 rfl mc_4_static_46 sp_4_46 (Nat.le_of_ble_eq_true rfl) (by unfold inR; omega) ?_
  intro z4 r5 r6 r7
  refine s_blx (lv' := [(3, vI z4), (0, vR 14), (1, vI operation), (2, vI operand)]) (st' := [vR 14]) B37_10_12 rfl ?_
  refine r_gfix (r := 19) (pc' := 15) D37_12 rfl gf_4_37_14 H.1 ?_
  refine s_blx (lv' := [(3, vI z4), (0, vR 14), (1, vI operation), (2, vI operand)]) (st' := [vI 4, vI operand, vI z4, vR 19]) B37_15_18 rfl ?_
  refine r_shl4 (pc' := 19) D37_18 rfl ?_
  refine s_blx (lv' := [(3, vI z4), (0, vR 14), (1, vI operation), (2, vI operand)]) (st' := [vI operation, vI (operand * 16), vI z4, vR 19]) B37_19_20 rfl ?_
  refine r_bin (pc' := 21) D37_20 rfl rfl ?_
  intro z8 r9 _; unfold inR at r9
  refine r_iast (pc' := 22) D37_21 rfl sc_19 H (by omega) (by unfold inR; omega) trivial ?_
  intro M10 u11 H12 p13
  have f14 := f0.wr u11 rfl
  refine s_blx (lv' := [(3, vI z4), (0, vR 14), (1, vI operation), (2, vI operand)]) (st' := [vI (z4 + 1), vR 14]) B37_22_26 rfl ?_
  refine r_pint (ki := 9) (pc' := 29) D37_26 rfl pf_4_40_14 rfl H12 (by unfold inR; omega) (show 0 ≤ (z4 + 1) ∧ (z4 + 1) ≤ 400 by omega) ?_
  intro M15 u16 H17 p18
  have f19 := f14.wr u16 rfl
  refine s_blx (lv' := [(3, vI z4), (0, vR 14), (1, vI operation), (2, vI operand)]) (st' := [vI z4]) B37_29_30 rfl ?_
  exact r_iretI D37_30 rfl (⟨H17, f19, by omega⟩)
set_option maxRecDepth 4000 in
theorem k38_14p {base : Nat} {X : Nat → Option mC} {G : Nat → Value} (E : EnvOK base X G) {d : Nat} (hd : 0 ≤ d) {M : mH} (H : HI base M) (jump : Int) (h0 : 0 ≤ jump ∧ jump ≤ 399) : sOk base X G d T38 [vR 14, vI jump] M (pV (fun M' => HI base M' ∧ Fr [(19, 0)] M M')) := by
  have f0 : Fr [(19, 0)] M M := Fr.rf
  refine sOk.of (show sRn base X G d T38 0 [(0, vR 14), (1, vI jump)] [] M _ from ?_)
  refine s_blx (lv' := [(0, vR 14), (1, vI jump)]) (st' := [vR 14]) B38_0_1 rfl ?_
  refine r_gfix (r := 19) (pc' := 4) D38_1 rfl gf_4_37_14 H.1 ?_
  refine s_blx (lv' := [(0, vR 14), (1, vI jump)]) (st' := [vI jump, vR 19, vI jump, vR 19]) B38_4_6 rfl ?_
  refine r_iald (pc' := 7) D38_6 rfl sc_19 H.1 (by omega) ?_
  intro w1 e2 r3
  unfold inR at r3
  refine s_blx (lv' := [(0, vR 14), (1, vI jump)]) (st' := [vR 14, vI w1, vI jump, vR 19]) B38_7_8 rfl ?_
  refine r_gint (ki := 9) (pc' := 11) D38_8 rfl gf_4_40_14 rfl H.1 ?_
  intro w4 e5 r6
  have b_w4 := H.2 14 (9) 0 400 rfl
  rw [← e5] at b_w4; clear r6
  refine s_blx (lv' := [(0, vR 14), (1, vI jump)]) (st' := [vI 4, vI w4, vI w1, vI jump, vR 19]) B38_11_12 rfl ?_
  refine r_shl4 (pc' := 13) D38_12 rfl ?_
  refine r_bin (pc' := 14) D38_13 rfl rfl ?_
  intro z7 r8 _; unfold inR at r8
  refine r_iast (pc' := 15) D38_14 rfl sc_19 H (by omega) (by unfold inR; omega) trivial ?_
  intro M9 u10 H11 p12
  have f13 := f0.wr u10 rfl
  exact r_retV D38_15 rfl (⟨H11, f13⟩)
set_option maxRecDepth 4000 in
theorem k34_14p {base : Nat} {X : Nat → Option mC} {G : Nat → Value} (E : EnvOK base X G) {d : Nat} (hd : 1 ≤ d) {M : mH} (H : HI base M) (sign : Int) (ct : Int) (at_ : Int) (kd : Int) (K : Int → Int) (st : Int → Int) (fo : Int) (h0 : TKx K st ct M) (h1 : K ct = 22) (h2 : 0 ≤ ct ∧ ct ≤ 400) (h3 : gi M 14 2 = at_) (h4 : gi M 14 3 = kd) (h5 : kd = K at_) (h6 : 0 ≤ at_ ∧ at_ ≤ ct) (h7 : 0 ≤ kd ∧ kd ≤ 511) (h8 : gi M 14 10 = fo) (h9 : 0 ≤ sign ∧ sign ≤ 127) (h10 : 100 + sign ≠ 22) : sOk base X G d T34 [vR 14, vI sign] M (pI (fun v M' => HI base M' ∧ Fr [(14, 3), (14, 4), (14, 11)] M M' ∧ (v = 0 ∨ v = 1) ∧ (gi M' 14 2 = at_ + v) ∧ (gi M' 14 3 = K (gi M' 14 2)) ∧ (at_ + v ≤ ct) ∧ (v = 1 → kd = 100 + sign) ∧ (v = 0 → kd ≠ 100 + sign) ∧ (FTx st fo (gi M' 14 10) (gi M' 14 2) v))) := by
  have f0 : Fr [(14, 3), (14, 4), (14, 11)] M M := Fr.rf
  refine sOk.of (show sRn base X G d T34 0 [(0, vR 14), (1, vI sign)] [] M _ from ?_)
  have kk := h5
  have kF : FTx st fo fo at_ 1 := FTx.one
  refine s_blx (lv' := [(0, vR 14), (1, vI sign)]) (st' := [vR 14]) B34_0_1 rfl ?_
  refine r_gint (ki := 3) (pc' := 4) D34_1 rfl gf_4_22_14 rfl H.1 ?_
  intro w1 e2 r3
  have e4 : kd = w1 := (e2.trans (h4)).symm
  subst e4
  refine s_blx (lv' := [(0, vR 14), (1, vI sign)]) (st' := [vI (100 + sign), vI kd]) B34_4_8 rfl ?_
  refine r_icmp (tgt := 16) (pc' := 11) D34_8 rfl rfl (by unfold inR; omega) (fun (c5 : kd = (100 + sign)) => ?_) (fun (c5 : ¬ (kd = (100 + sign))) => ?_)
  · refine s_blx (lv' := [(0, vR 14), (1, vI sign)]) (st' := [vR 14]) B34_16_17 rfl ?_
    have g6 : gi M 14 2 = at_ := h3
    have g7 : gi M 14 3 = kd := h4
    refine r_vV (c := 14) (args := []) (rest := []) (pc' := 20) D34_17 rfl ck_4_virtual_105 TE35 rfl (Nat.le_of_ble_eq_true rfl) ⟨Nat.le_of_ble_eq_true rfl, Nat.le_of_ble_eq_true rfl⟩ sc_14 ⟨rfl, by decide⟩ H.1 (dp_0 hd rfl) (k35_14p E (dp_n hd rfl) H ct at_ kd K st (h0) (by omega) (by omega) (by omega) (by omega) (by omega) (by omega) (by omega) (by omega)) ?_
    intro M9 q16
    obtain ⟨H10, f11, q12, q13, q14, q15⟩ := q16
    have f17 := f0.tr (f11.up rfl)
    obtain ⟨t18, ht19⟩ : ∃ q, q = gi M9 14 2 := ⟨_, rfl⟩
    have b_t18 := H10.2 14 2 0 400 rfl
    rw [← ht19] at b_t18
    obtain ⟨t20, ht21⟩ : ∃ q, q = gi M9 14 3 := ⟨_, rfl⟩
    have b_t20 := H10.2 14 3 0 511 rfl
    rw [← ht21] at b_t20
    rw [← ht19] at q12
    rw [← ht19, ← ht21] at q13
    rw [← ht19] at q14
    rw [← ht21] at q15
    have kk := q13; clear q13
    refine s_blx (lv' := [(0, vR 14), (1, vI sign)]) (st' := [vI 1]) B34_20_21 rfl ?_
    have g22 : gi M9 14 2 = t18 := ht19.symm
    have g23 : gi M9 14 3 = t20 := ht21.symm
    have g24 : gi M9 14 10 = fo := (f11.g rfl).trans (h8)
    exact r_zretI D34_21 rfl (by omega) (⟨H10, f17, by omega, by first | (rw [g22]; omega) | rw [g22], by rw [(ht21.symm), (ht19.symm)]; exact kk, by omega, by omega, by omega, by rw [((f11.g rfl).trans (h8)), (ht19.symm)]; first | exact kF | exact kF.lit (by omega) | exact kF.up (by omega) (by omega)⟩)
  · refine s_blx (lv' := [(0, vR 14), (1, vI sign)]) (st' := [vR 14]) B34_11_12 rfl ?_
    have g25 : gi M 14 2 = at_ := h3
    refine r_vI (c := 14) (args := []) (rest := []) (pc' := 15) D34_12 rfl ck_4_virtual_102 TE36 rfl (Nat.le_of_ble_eq_true rfl) ⟨Nat.le_of_ble_eq_true rfl, Nat.le_of_ble_eq_true rfl⟩ sc_14 ⟨rfl, by decide⟩ H.1 (dp_0 hd rfl) (k36_14p E (dp_n hd rfl) H ct at_ K st (h0) (by omega) (by omega) (by omega)) ?_
    intro v26 M27 q33
    obtain ⟨H28, f29, q30, q31, q32⟩ := q33
    have f34 := f0.tr (f29.up rfl)
    obtain ⟨t35, ht36⟩ : ∃ q, q = gi M27 14 10 := ⟨_, rfl⟩
    have b_t35 := (H28.1.int sc_14 (i := 10) (by decide) (by decide) rfl).2
    unfold inR at b_t35; rw [← ht36] at b_t35
    rw [← ht36] at q32
    have kF : FTx st fo t35 at_ v26 := FTx.bad (by omega) q32
    have g37 : gi M27 14 2 = at_ := (f29.g rfl).trans (h3)
    have g38 : gi M27 14 3 = kd := (f29.g rfl).trans (h4)
    have g39 : gi M27 14 10 = t35 := ht36.symm
    exact r_zretI D34_15 rfl (by omega) (⟨H28, f34, by omega, by first | (rw [g37]; omega) | rw [g37], by rw [((f29.g rfl).trans (h4)), ((f29.g rfl).trans (h3))]; exact kk, by omega, by omega, by omega, by rw [(ht36.symm), ((f29.g rfl).trans (h3))]; first | exact kF | exact kF.lit (by omega) | exact kF.up (by omega) (by omega)⟩)
set_option maxRecDepth 4000 in
theorem k32_14p {base : Nat} {X : Nat → Option mC} {G : Nat → Value} (E : EnvOK base X G) {d : Nat} (hd : 1 ≤ d) {M : mH} (H : HI base M) (depth : Int) (ct : Int) (at_ : Int) (kd : Int) (K : Int → Int) (st : Int → Int) (fo : Int) (h0 : TKx K st ct M) (h1 : K ct = 22) (h2 : 0 ≤ ct ∧ ct ≤ 400) (h3 : gi M 14 2 = at_) (h4 : gi M 14 3 = kd) (h5 : kd = K at_) (h6 : 0 ≤ at_ ∧ at_ ≤ ct) (h7 : 0 ≤ kd ∧ kd ≤ 511) (h8 : gi M 14 10 = fo) (h9 : 0 ≤ depth ∧ depth ≤ 8) (h10 : kd ≠ 22) : sOk base X G d T32 [vR 14, vI depth] M (pI (fun v M' => HI base M' ∧ Fr [(14, 3), (14, 4), (14, 11)] M M' ∧ (v = 0 ∨ v = 1) ∧ (gi M' 14 2 = at_ + v) ∧ (gi M' 14 3 = K (gi M' 14 2)) ∧ (at_ + v ≤ ct) ∧ (v = 1 → depth ≤ 7) ∧ (v = 0 → 8 ≤ depth) ∧ (FTx st fo (gi M' 14 10) (gi M' 14 2) v))) := by
  have f0 : Fr [(14, 3), (14, 4), (14, 11)] M M := Fr.rf
  refine sOk.of (show sRn base X G d T32 0 [(0, vR 14), (1, vI depth)] [] M _ from ?_)
  have kk := h5
  have kF : FTx st fo fo at_ 1 := FTx.one
  refine s_blx (lv' := [(0, vR 14), (1, vI depth)]) (st' := [vI 8, vI depth]) B32_0_3 rfl ?_
  refine r_icmp (tgt := 11) (pc' := 6) D32_3 rfl rfl (by unfold inR; omega) (fun (c1 : depth < 8) => ?_) (fun (c1 : ¬ (depth < 8)) => ?_)
  · refine s_blx (lv' := [(0, vR 14), (1, vI depth)]) (st' := [vR 14]) B32_11_12 rfl ?_
    have g2 : gi M 14 2 = at_ := h3
    have g3 : gi M 14 3 = kd := h4
    refine r_vV (c := 14) (args := []) (rest := []) (pc' := 15) D32_12 rfl ck_4_virtual_105 TE35 rfl (Nat.le_of_ble_eq_true rfl) ⟨Nat.le_of_ble_eq_true rfl, Nat.le_of_ble_eq_true rfl⟩ sc_14 ⟨rfl, by decide⟩ H.1 (dp_0 hd rfl) (k35_14p E (dp_n hd rfl) H ct at_ kd K st (h0) (by omega) (by omega) (by omega) (by omega) (by omega) (by omega) (by omega) (by omega)) ?_
    intro M5 q12
    obtain ⟨H6, f7, q8, q9, q10, q11⟩ := q12
    have f13 := f0.tr (f7.up rfl)
    obtain ⟨t14, ht15⟩ : ∃ q, q = gi M5 14 2 := ⟨_, rfl⟩
    have b_t14 := H6.2 14 2 0 400 rfl
    rw [← ht15] at b_t14
    obtain ⟨t16, ht17⟩ : ∃ q, q = gi M5 14 3 := ⟨_, rfl⟩
    have b_t16 := H6.2 14 3 0 511 rfl
    rw [← ht17] at b_t16
    rw [← ht15] at q8
    rw [← ht15, ← ht17] at q9
    rw [← ht15] at q10
    rw [← ht17] at q11
    have kk := q9; clear q9
    refine s_blx (lv' := [(0, vR 14), (1, vI depth)]) (st' := [vI 1]) B32_15_16 rfl ?_
    have g18 : gi M5 14 2 = t14 := ht15.symm
    have g19 : gi M5 14 3 = t16 := ht17.symm
    have g20 : gi M5 14 10 = fo := (f7.g rfl).trans (h8)
    exact r_zretI D32_16 rfl (by omega) (⟨H6, f13, by omega, by first | (rw [g18]; omega) | rw [g18], by rw [(ht17.symm), (ht15.symm)]; exact kk, by omega, by omega, by omega, by rw [((f7.g rfl).trans (h8)), (ht15.symm)]; first | exact kF | exact kF.lit (by omega) | exact kF.up (by omega) (by omega)⟩)
  · refine s_blx (lv' := [(0, vR 14), (1, vI depth)]) (st' := [vR 14]) B32_6_7 rfl ?_
    have g21 : gi M 14 2 = at_ := h3
    refine r_vI (c := 14) (args := []) (rest := []) (pc' := 10) D32_7 rfl ck_4_virtual_102 TE36 rfl (Nat.le_of_ble_eq_true rfl) ⟨Nat.le_of_ble_eq_true rfl, Nat.le_of_ble_eq_true rfl⟩ sc_14 ⟨rfl, by decide⟩ H.1 (dp_0 hd rfl) (k36_14p E (dp_n hd rfl) H ct at_ K st (h0) (by omega) (by omega) (by omega)) ?_
    intro v22 M23 q29
    obtain ⟨H24, f25, q26, q27, q28⟩ := q29
    have f30 := f0.tr (f25.up rfl)
    obtain ⟨t31, ht32⟩ : ∃ q, q = gi M23 14 10 := ⟨_, rfl⟩
    have b_t31 := (H24.1.int sc_14 (i := 10) (by decide) (by decide) rfl).2
    unfold inR at b_t31; rw [← ht32] at b_t31
    rw [← ht32] at q28
    have kF : FTx st fo t31 at_ v22 := FTx.bad (by omega) q28
    have g33 : gi M23 14 2 = at_ := (f25.g rfl).trans (h3)
    have g34 : gi M23 14 3 = kd := (f25.g rfl).trans (h4)
    have g35 : gi M23 14 10 = t31 := ht32.symm
    exact r_zretI D32_10 rfl (by omega) (⟨H24, f30, by omega, by first | (rw [g33]; omega) | rw [g33], by rw [((f25.g rfl).trans (h4)), ((f25.g rfl).trans (h3))]; exact kk, by omega, by omega, by omega, by rw [(ht32.symm), ((f25.g rfl).trans (h3))]; first | exact kF | exact kF.lit (by omega) | exact kF.up (by omega) (by omega)⟩)
set_option maxRecDepth 4000 in
theorem k33_14p {base : Nat} {X : Nat → Option mC} {G : Nat → Value} (E : EnvOK base X G) {d : Nat} (hd : 1 ≤ d) {M : mH} (H : HI base M) (operation : Int) (operand : Int) (ct : Int) (at_ : Int) (kd : Int) (K : Int → Int) (st : Int → Int) (fo : Int) (pq : Int) (h0 : TKx K st ct M) (h1 : K ct = 22) (h2 : 0 ≤ ct ∧ ct ≤ 400) (h3 : gi M 14 2 = at_) (h4 : gi M 14 3 = kd) (h5 : kd = K at_) (h6 : 0 ≤ at_ ∧ at_ ≤ ct) (h7 : 0 ≤ kd ∧ kd ≤ 511) (h8 : gi M 14 10 = fo) (h9 : gi M 14 4 = pq) (h10 : 0 ≤ pq ∧ pq ≤ 50) (h11 : kd ≠ 22) (h12 : -2147483648 ≤ operation ∧ operation ≤ 2147483647) (h13 : -2147483648 ≤ operand ∧ operand ≤ 2147483647) : sOk base X G d T33 [vR 14, vI operation, vI operand] M (pI (fun v M' => HI base M' ∧ Fr [(14, 3), (14, 4), (14, 5), (14, 10), (14, 11), (19, 0)] M M' ∧ (v = 0 ∨ v = 1) ∧ (gi M' 14 2 = at_ + v) ∧ (gi M' 14 3 = K (gi M' 14 2)) ∧ (at_ + v ≤ ct) ∧ (gi M' 14 4 = pq + v) ∧ (v = 1 ∧ pq < 50 ∨ v = 0 ∧ 50 ≤ pq) ∧ (FTx st fo (gi M' 14 10) (gi M' 14 2) v))) := by
  have f0 : Fr [(14, 3), (14, 4), (14, 5), (14, 10), (14, 11), (19, 0)] M M := Fr.rf
  refine sOk.of (show sRn base X G d T33 0 [(0, vR 14), (1, vI operation), (2, vI operand)] [] M _ from ?_)
  have kk := h5
  have kF : FTx st fo fo at_ 1 := FTx.one
  refine s_blx (lv' := [(0, vR 14), (1, vI operation), (2, vI operand)]) (st' := [vR 14]) B33_0_1 rfl ?_
  refine r_gint (ki := 4) (pc' := 4) D33_1 rfl gf_4_25_14 rfl H.1 ?_
  intro w1 e2 r3
  have e4 : pq = w1 := (e2.trans (h9)).symm
  subst e4
  refine s_blx (lv' := [(0, vR 14), (1, vI operation), (2, vI operand)]) (st' := [vI 50, vI pq]) B33_4_6 rfl ?_
  refine r_icmp (tgt := 14) (pc' := 9) D33_6 rfl rfl (by unfold inR; omega) (fun (c5 : pq < 50) => ?_) (fun (c5 : ¬ (pq < 50)) => ?_)
  · refine s_blx (lv' := [(0, vR 14), (1, vI operation), (2, vI operand)]) (st' := [vR 14, vR 14]) B33_14_16 rfl ?_
    refine r_gint (ki := 4) (pc' := 19) D33_16 rfl gf_4_25_14 rfl H.1 ?_
    intro w6 e7 r8
    have e9 : pq = w6 := (e7.trans (h9)).symm
    subst e9
    refine s_blx (lv' := [(0, vR 14), (1, vI operation), (2, vI operand)]) (st' := [vI (pq + 1), vR 14]) B33_19_21 rfl ?_
    refine r_pint (ki := 4) (pc' := 24) D33_21 rfl pf_4_25_14 rfl H (by unfold inR; omega) (show 0 ≤ (pq + 1) ∧ (pq + 1) ≤ 50 by omega) ?_
    intro M10 u11 H12 p13
    have f14 := f0.wr u11 rfl
    refine s_blx (lv' := [(0, vR 14), (1, vI operation), (2, vI operand)]) (st' := [vI operand, vI operation, vR 14]) B33_24_27 rfl ?_
    refine r_vI (c := 14) (args := [vI operation, vI operand]) (rest := []) (pc' := 30) D33_27 rfl ck_4_virtual_118 TE37 rfl (Nat.le_of_ble_eq_true rfl) ⟨Nat.le_of_ble_eq_true rfl, Nat.le_of_ble_eq_true rfl⟩ sc_14 ⟨rfl, by decide⟩ H12.1 (dp_0 hd rfl) (k37_14p E (dp_n hd rfl) H12 operation operand (by omega) (by omega)) ?_
    intro v15 M16 q20
    obtain ⟨H17, f18, q19⟩ := q20
    have f21 := f14.tr (f18.up rfl)
    refine s_blx (lv' := [(0, vR 14), (1, vI operation), (2, vI operand)]) (st' := [vR 14]) B33_30_32 rfl ?_
    have g22 : gi M16 14 2 = at_ := (f18.g rfl).trans ((u11.gi_ne (by decide) (Or.inr (by decide))).trans (h3))
    have g23 : gi M16 14 3 = kd := (f18.g rfl).trans ((u11.gi_ne (by decide) (Or.inr (by decide))).trans (h4))
    refine r_vV (c := 14) (args := []) (rest := []) (pc' := 35) D33_32 rfl ck_4_virtual_105 TE35 rfl (Nat.le_of_ble_eq_true rfl) ⟨Nat.le_of_ble_eq_true rfl, Nat.le_of_ble_eq_true rfl⟩ sc_14 ⟨rfl, by decide⟩ H17.1 (dp_0 hd rfl) (k35_14p E (dp_n hd rfl) H17 ct at_ kd K st ((h0.fr f21 rfl)) (by omega) (by omega) (by omega) (by omega) (by omega) (by omega) (by omega) (by omega)) ?_
    intro M25 q32
    obtain ⟨H26, f27, q28, q29, q30, q31⟩ := q32
    have f33 := f21.tr (f27.up rfl)
    obtain ⟨t34, ht35⟩ : ∃ q, q = gi M25 14 2 := ⟨_, rfl⟩
    have b_t34 := H26.2 14 2 0 400 rfl
    rw [← ht35] at b_t34
    obtain ⟨t36, ht37⟩ : ∃ q, q = gi M25 14 3 := ⟨_, rfl⟩
    have b_t36 := H26.2 14 3 0 511 rfl
    rw [← ht37] at b_t36
    rw [← ht35] at q28
    rw [← ht35, ← ht37] at q29
    rw [← ht35] at q30
    rw [← ht37] at q31
    have kk := q29; clear q29
    refine s_blx (lv' := [(0, vR 14), (1, vI operation), (2, vI operand)]) (st' := [vI 1]) B33_35_36 rfl ?_
    have g38 : gi M25 14 2 = t34 := ht35.symm
    have g39 : gi M25 14 3 = t36 := ht37.symm
    have g40 : gi M25 14 4 = pq + 1 := (f27.g rfl).trans ((f18.g rfl).trans (p13))
    have g41 : gi M25 14 10 = fo := (f27.g rfl).trans ((f18.g rfl).trans ((u11.gi_ne (by decide) (Or.inr (by decide))).trans (h8)))
    exact r_zretI D33_36 rfl (by omega) (⟨H26, f33, by omega, by first | (rw [g38]; omega) | rw [g38], by rw [(ht37.symm), (ht35.symm)]; exact kk, by omega, by first | (rw [g40]; omega) | rw [g40], by omega, by rw [((f27.g rfl).trans ((f18.g rfl).trans ((u11.gi_ne (by decide) (Or.inr (by decide))).trans (h8)))), (ht35.symm)]; first | exact kF | exact kF.lit (by omega) | exact kF.up (by omega) (by omega)⟩)
  · refine s_blx (lv' := [(0, vR 14), (1, vI operation), (2, vI operand)]) (st' := [vR 14]) B33_9_10 rfl ?_
    have g42 : gi M 14 2 = at_ := h3
    refine r_vI (c := 14) (args := []) (rest := []) (pc' := 13) D33_10 rfl ck_4_virtual_102 TE36 rfl (Nat.le_of_ble_eq_true rfl) ⟨Nat.le_of_ble_eq_true rfl, Nat.le_of_ble_eq_true rfl⟩ sc_14 ⟨rfl, by decide⟩ H.1 (dp_0 hd rfl) (k36_14p E (dp_n hd rfl) H ct at_ K st (h0) (by omega) (by omega) (by omega)) ?_
    intro v43 M44 q50
    obtain ⟨H45, f46, q47, q48, q49⟩ := q50
    have f51 := f0.tr (f46.up rfl)
    obtain ⟨t52, ht53⟩ : ∃ q, q = gi M44 14 10 := ⟨_, rfl⟩
    have b_t52 := (H45.1.int sc_14 (i := 10) (by decide) (by decide) rfl).2
    unfold inR at b_t52; rw [← ht53] at b_t52
    rw [← ht53] at q49
    have kF : FTx st fo t52 at_ v43 := FTx.bad (by omega) q49
    have g54 : gi M44 14 2 = at_ := (f46.g rfl).trans (h3)
    have g55 : gi M44 14 3 = kd := (f46.g rfl).trans (h4)
    have g56 : gi M44 14 4 = pq := (f46.g rfl).trans (h9)
    have g57 : gi M44 14 10 = t52 := ht53.symm
    exact r_zretI D33_13 rfl (by omega) (⟨H45, f51, by omega, by first | (rw [g54]; omega) | rw [g54], by rw [((f46.g rfl).trans (h4)), ((f46.g rfl).trans (h3))]; exact kk, by omega, by first | (rw [g56]; omega) | rw [g56], by omega, by rw [(ht53.symm), ((f46.g rfl).trans (h3))]; first | exact kF | exact kF.lit (by omega) | exact kF.up (by omega) (by omega)⟩)
set_option maxRecDepth 4000 in
theorem k31_14p {base : Nat} {X : Nat → Option mC} {G : Nat → Value} (E : EnvOK base X G) {rr : Nat} (ihr : ∀ {d : Nat} (_ : 2 + 3 * rr ≤ d) {M : mH} (_ : HI base M) (depth : Int) (ct : Int) (at_ : Int) (kd : Int) (K : Int → Int) (st : Int → Int) (fo : Int) (pq : Int), (TKx K st ct M) → (K ct = 22) → (0 ≤ ct ∧ ct ≤ 400) → (gi M 14 2 = at_) → (gi M 14 3 = kd) → (kd = K at_) → (0 ≤ at_ ∧ at_ ≤ ct) → (0 ≤ kd ∧ kd ≤ 511) → (gi M 14 10 = fo) → (gi M 14 4 = pq) → (0 ≤ pq ∧ pq ≤ 50) → (0 ≤ depth ∧ depth ≤ 8) → 8 - depth < ((rr : Nat) : Int) → sOk base X G d T29 [vR 14, vI depth] M (pI (fun v M' => HI base M' ∧ Fr [(14, 3), (14, 4), (14, 5), (14, 10), (14, 11), (19, 0)] M M' ∧ (v = 0 ∨ v = 1) ∧ (at_ ≤ gi M' 14 2 ∧ gi M' 14 2 ≤ ct) ∧ (gi M' 14 3 = K (gi M' 14 2)) ∧ (0 ≤ gi M' 14 4 ∧ gi M' 14 4 ≤ 50) ∧ (RR K 5 depth at_ pq (gi M' 14 2, gi M' 14 4, -v)) ∧ (FTx st fo (gi M' 14 10) (gi M' 14 2) v)))) {d : Nat} (hd : 3 + 3 * rr ≤ d) {M : mH} (H : HI base M) (depth : Int) (ct : Int) (at_ : Int) (kd : Int) (K : Int → Int) (st : Int → Int) (fo : Int) (pq : Int) (h0 : TKx K st ct M) (h1 : K ct = 22) (h2 : 0 ≤ ct ∧ ct ≤ 400) (h3 : gi M 14 2 = at_) (h4 : gi M 14 3 = kd) (h5 : kd = K at_) (h6 : 0 ≤ at_ ∧ at_ ≤ ct) (h7 : 0 ≤ kd ∧ kd ≤ 511) (h8 : gi M 14 10 = fo) (h9 : gi M 14 4 = pq) (h10 : 0 ≤ pq ∧ pq ≤ 50) (h11 : 0 ≤ depth ∧ depth ≤ 8) (h12 : 8 - depth < (rr : Int) + 1) : sOk base X G d T31 [vR 14, vI depth] M (pI (fun v M' => HI base M' ∧ Fr [(14, 3), (14, 4), (14, 5), (14, 10), (14, 11), (19, 0)] M M' ∧ (v = 0 ∨ v = 1) ∧ (at_ ≤ gi M' 14 2 ∧ gi M' 14 2 ≤ ct) ∧ (gi M' 14 3 = K (gi M' 14 2)) ∧ (0 ≤ gi M' 14 4 ∧ gi M' 14 4 ≤ 50) ∧ (RR K 9 depth at_ pq (gi M' 14 2, gi M' 14 4, -v)) ∧ (FTx st fo (gi M' 14 10) (gi M' 14 2) v))) := by
  have f0 : Fr [(14, 3), (14, 4), (14, 5), (14, 10), (14, 11), (19, 0)] M M := Fr.rf
  refine sOk.of (show sRn base X G d T31 0 [(0, vR 14), (1, vI depth)] [] M _ from ?_)
  have kk := h5
  have kF : FTx st fo fo at_ 1 := FTx.one
  refine s_blx (lv' := [(0, vR 14), (1, vI depth)]) (st' := [vR 14]) B31_0_1 rfl ?_
  refine r_gint (ki := 3) (pc' := 4) D31_1 rfl gf_4_22_14 rfl H.1 ?_
  intro w1 e2 r3
  have e4 : kd = w1 := (e2.trans (h4)).symm
  subst e4
  refine s_blx (lv' := [(0, vR 14), (1, vI depth)]) (st' := [vI 191, vI kd]) B31_4_7 rfl ?_
  refine r_icmp (tgt := 43) (pc' := 10) D31_7 rfl rfl (by unfold inR; omega) (fun (c5 : kd ≠ 191) => ?_) (fun (c5 : ¬ (kd ≠ 191)) => ?_)
  · refine s_blx (lv' := [(0, vR 14), (1, vI depth)]) (st' := [vR 14]) B31_43_44 rfl ?_
    refine r_gint (ki := 3) (pc' := 47) D31_44 rfl gf_4_22_14 rfl H.1 ?_
    intro w6 e7 r8
    have e9 : kd = w6 := (e7.trans (h4)).symm
    subst e9
    refine s_blx (lv' := [(0, vR 14), (1, vI depth)]) (st' := [vI 21, vI kd]) B31_47_49 rfl ?_
    refine r_icmp (tgt := 70) (pc' := 52) D31_49 rfl rfl (by unfold inR; omega) (fun (c10 : kd ≠ 21) => ?_) (fun (c10 : ¬ (kd ≠ 21)) => ?_)
    · refine s_blx (lv' := [(0, vR 14), (1, vI depth)]) (st' := [vR 14]) B31_70_71 rfl ?_
      refine r_gint (ki := 3) (pc' := 74) D31_71 rfl gf_4_22_14 rfl H.1 ?_
      intro w11 e12 r13
      have e14 : kd = w11 := (e12.trans (h4)).symm
      subst e14
      refine s_blx (lv' := [(0, vR 14), (1, vI depth)]) (st' := [vI 12, vI kd]) B31_74_76 rfl ?_
      refine r_icmp (tgt := 101) (pc' := 79) D31_76 rfl rfl (by unfold inR; omega) (fun (c15 : kd < 12) => ?_) (fun (c15 : ¬ (kd < 12)) => ?_)
      · refine s_blx (lv' := [(0, vR 14), (1, vI depth)]) (st' := [vR 14]) B31_101_102 rfl ?_
        have g16 : gi M 14 2 = at_ := h3
        refine r_vI (c := 14) (args := []) (rest := []) (pc' := 105) D31_102 rfl ck_4_virtual_102 TE36 rfl (Nat.le_of_ble_eq_true rfl) ⟨Nat.le_of_ble_eq_true rfl, Nat.le_of_ble_eq_true rfl⟩ sc_14 ⟨rfl, by decide⟩ H.1 (by omega) (k36_14p E (by omega) H ct at_ K st (h0) (by omega) (by omega) (by omega)) ?_
        intro v17 M18 q24
        obtain ⟨H19, f20, q21, q22, q23⟩ := q24
        have f25 := f0.tr (f20.up rfl)
        obtain ⟨t26, ht27⟩ : ∃ q, q = gi M18 14 10 := ⟨_, rfl⟩
        have b_t26 := (H19.1.int sc_14 (i := 10) (by decide) (by decide) rfl).2
        unfold inR at b_t26; rw [← ht27] at b_t26
        rw [← ht27] at q23
        have kF : FTx st fo t26 at_ v17 := FTx.bad (by omega) q23
        have g28 : gi M18 14 2 = at_ := (f20.g rfl).trans (h3)
        have g29 : gi M18 14 3 = kd := (f20.g rfl).trans (h4)
        have g30 : gi M18 14 4 = pq := (f20.g rfl).trans (h9)
        have g31 : gi M18 14 10 = t26 := ht27.symm
        exact r_zretI D31_105 rfl (by omega) (⟨H19, f25, by omega, by first | (rw [g28]; omega) | rw [g28], by rw [((f20.g rfl).trans (h4)), ((f20.g rfl).trans (h3))]; exact kk, by first | (rw [g30]; omega) | rw [g30], by rw [((f20.g rfl).trans (h3)), ((f20.g rfl).trans (h9))]; exact (RR.f9 (by omega)).rs rfl rfl (by omega), by rw [(ht27.symm), ((f20.g rfl).trans (h3))]; first | exact kF | exact kF.lit (by omega) | exact kF.up (by omega) (by omega)⟩)
      · refine s_blx (lv' := [(0, vR 14), (1, vI depth)]) (st' := [vR 14]) B31_79_80 rfl ?_
        refine r_gint (ki := 3) (pc' := 83) D31_80 rfl gf_4_22_14 rfl H.1 ?_
        intro w32 e33 r34
        have e35 : kd = w32 := (e33.trans (h4)).symm
        subst e35
        refine s_blx (lv' := [(0, vR 14), (1, vI depth)]) (st' := [vI 21, vI kd]) B31_83_85 rfl ?_
        refine r_icmp (tgt := 101) (pc' := 88) D31_85 rfl rfl (by unfold inR; omega) (fun (c36 : 21 ≤ kd) => ?_) (fun (c36 : ¬ (21 ≤ kd)) => ?_)
        · refine s_blx (lv' := [(0, vR 14), (1, vI depth)]) (st' := [vR 14]) B31_101_102 rfl ?_
          have g37 : gi M 14 2 = at_ := h3
          refine r_vI (c := 14) (args := []) (rest := []) (pc' := 105) D31_102 rfl ck_4_virtual_102 TE36 rfl (Nat.le_of_ble_eq_true rfl) ⟨Nat.le_of_ble_eq_true rfl, Nat.le_of_ble_eq_true rfl⟩ sc_14 ⟨rfl, by decide⟩ H.1 (by omega) (k36_14p E (by omega) H ct at_ K st (h0) (by omega) (by omega) (by omega)) ?_
          intro v38 M39 q45
          obtain ⟨H40, f41, q42, q43, q44⟩ := q45
          have f46 := f0.tr (f41.up rfl)
          obtain ⟨t47, ht48⟩ : ∃ q, q = gi M39 14 10 := ⟨_, rfl⟩
          have b_t47 := (H40.1.int sc_14 (i := 10) (by decide) (by decide) rfl).2
          unfold inR at b_t47; rw [← ht48] at b_t47
          rw [← ht48] at q44
          have kF : FTx st fo t47 at_ v38 := FTx.bad (by omega) q44
          have g49 : gi M39 14 2 = at_ := (f41.g rfl).trans (h3)
          have g50 : gi M39 14 3 = kd := (f41.g rfl).trans (h4)
          have g51 : gi M39 14 4 = pq := (f41.g rfl).trans (h9)
          have g52 : gi M39 14 10 = t47 := ht48.symm
          exact r_zretI D31_105 rfl (by omega) (⟨H40, f46, by omega, by first | (rw [g49]; omega) | rw [g49], by rw [((f41.g rfl).trans (h4)), ((f41.g rfl).trans (h3))]; exact kk, by first | (rw [g51]; omega) | rw [g51], by rw [((f41.g rfl).trans (h3)), ((f41.g rfl).trans (h9))]; exact (RR.f9 (by omega)).rs rfl rfl (by omega), by rw [(ht48.symm), ((f41.g rfl).trans (h3))]; first | exact kF | exact kF.lit (by omega) | exact kF.up (by omega) (by omega)⟩)
        · refine s_blx (lv' := [(0, vR 14), (1, vI depth)]) (st' := [vR 14, vI 1, vR 14]) B31_88_91 rfl ?_
          refine r_gint (ki := 3) (pc' := 94) D31_91 rfl gf_4_22_14 rfl H.1 ?_
          intro w53 e54 r55
          have e56 : kd = w53 := (e54.trans (h4)).symm
          subst e56
          refine s_blx (lv' := [(0, vR 14), (1, vI depth)]) (st' := [vI (kd - 10), vI 1, vR 14]) B31_94_97 rfl ?_
          have g57 : gi M 14 2 = at_ := h3
          have g58 : gi M 14 3 = kd := h4
          have g59 : gi M 14 10 = fo := h8
          have g60 : gi M 14 4 = pq := h9
          refine r_vI (c := 14) (args := [vI 1, vI (kd - 10)]) (rest := []) (pc' := 100) D31_97 rfl ck_4_virtual_131 TE33 rfl (Nat.le_of_ble_eq_true rfl) ⟨Nat.le_of_ble_eq_true rfl, Nat.le_of_ble_eq_true rfl⟩ sc_14 ⟨rfl, by decide⟩ H.1 (by omega) (k33_14p E (by omega) H 1 (kd - 10) ct at_ kd K st fo pq (h0) (by omega) (by omega) (by omega) (by omega) (by omega) (by omega) (by omega) (by omega) (by omega) (by omega) (by omega) (by omega) (by omega)) ?_
          intro v61 M62 q72
          obtain ⟨H63, f64, q65, q66, q67, q68, q69, q70, q71⟩ := q72
          have f73 := f0.tr (f64.up rfl)
          obtain ⟨t74, ht75⟩ : ∃ q, q = gi M62 14 2 := ⟨_, rfl⟩
          have b_t74 := H63.2 14 2 0 400 rfl
          rw [← ht75] at b_t74
          obtain ⟨t76, ht77⟩ : ∃ q, q = gi M62 14 3 := ⟨_, rfl⟩
          have b_t76 := H63.2 14 3 0 511 rfl
          rw [← ht77] at b_t76
          obtain ⟨t78, ht79⟩ : ∃ q, q = gi M62 14 4 := ⟨_, rfl⟩
          have b_t78 := H63.2 14 4 0 50 rfl
          rw [← ht79] at b_t78
          obtain ⟨t80, ht81⟩ : ∃ q, q = gi M62 14 10 := ⟨_, rfl⟩
          have b_t80 := (H63.1.int sc_14 (i := 10) (by decide) (by decide) rfl).2
          unfold inR at b_t80; rw [← ht81] at b_t80
          rw [← ht75] at q66
          rw [← ht75, ← ht77] at q67
          rw [← ht79] at q69
          rw [← ht75, ← ht81] at q71
          have kF := kF.tr (by omega) q71
          have kk := q67; clear q67
          have kP := q70; clear q70
          have kQ := q69; clear q69
          have g82 : gi M62 14 2 = t74 := ht75.symm
          have g83 : gi M62 14 3 = t76 := ht77.symm
          have g84 : gi M62 14 4 = t78 := ht79.symm
          have g85 : gi M62 14 10 = t80 := ht81.symm
          exact r_zretI D31_100 rfl (by omega) (⟨H63, f73, by omega, by first | (rw [g82]; omega) | rw [g82], by rw [(ht77.symm), (ht75.symm)]; exact kk, by first | (rw [g84]; omega) | rw [g84], by rw [(ht75.symm), (ht79.symm)]; exact (RR.p9 (by omega) kP).rs (by omega) (by omega) rfl, by rw [(ht81.symm), (ht75.symm)]; first | exact kF | exact kF.lit (by omega) | exact kF.up (by omega) (by omega)⟩)
    · refine s_blx (lv' := [(0, vR 14), (1, vI depth)]) (st' := [vR 14, vI 0, vR 14]) B31_52_55 rfl ?_
      refine r_gfix (r := 15) (pc' := 58) D31_55 rfl gf_4_9_14 H.1 ?_
      refine s_blx (lv' := [(0, vR 14), (1, vI depth)]) (st' := [vR 14, vR 15, vI 0, vR 14]) B31_58_59 rfl ?_
      refine r_gint (ki := 2) (pc' := 62) D31_59 rfl gf_4_18_14 rfl H.1 ?_
      intro w86 e87 r88
      have e89 : at_ = w86 := (e87.trans (h3)).symm
      subst e89
      refine r_iald (pc' := 63) D31_62 rfl sc_15 H.1 (by omega) ?_
      intro w90 e91 r92
      have b_w90 := H.2 15 (at_) 0 60000000 rfl
      rw [← e91] at b_w90; clear r92
      refine s_blx (lv' := [(0, vR 14), (1, vI depth)]) (st' := [vI 9, vI w90, vI 0, vR 14]) B31_63_65 rfl ?_
      refine r_shr9 (pc' := 66) D31_65 rfl (by unfold inR; omega) ?_
      have g93 : gi M 14 2 = at_ := h3
      have g94 : gi M 14 3 = kd := h4
      have g95 : gi M 14 10 = fo := h8
      have g96 : gi M 14 4 = pq := h9
      refine r_vI (c := 14) (args := [vI 0, vI (w90 / 512)]) (rest := []) (pc' := 69) D31_66 rfl ck_4_virtual_131 TE33 rfl (Nat.le_of_ble_eq_true rfl) ⟨Nat.le_of_ble_eq_true rfl, Nat.le_of_ble_eq_true rfl⟩ sc_14 ⟨rfl, by decide⟩ H.1 (by omega) (k33_14p E (by omega) H 0 (w90 / 512) ct at_ kd K st fo pq (h0) (by omega) (by omega) (by omega) (by omega) (by omega) (by omega) (by omega) (by omega) (by omega) (by omega) (by omega) (by omega) (by omega)) ?_
      intro v97 M98 q108
      obtain ⟨H99, f100, q101, q102, q103, q104, q105, q106, q107⟩ := q108
      have f109 := f0.tr (f100.up rfl)
      obtain ⟨t110, ht111⟩ : ∃ q, q = gi M98 14 2 := ⟨_, rfl⟩
      have b_t110 := H99.2 14 2 0 400 rfl
      rw [← ht111] at b_t110
      obtain ⟨t112, ht113⟩ : ∃ q, q = gi M98 14 3 := ⟨_, rfl⟩
      have b_t112 := H99.2 14 3 0 511 rfl
      rw [← ht113] at b_t112
      obtain ⟨t114, ht115⟩ : ∃ q, q = gi M98 14 4 := ⟨_, rfl⟩
      have b_t114 := H99.2 14 4 0 50 rfl
      rw [← ht115] at b_t114
      obtain ⟨t116, ht117⟩ : ∃ q, q = gi M98 14 10 := ⟨_, rfl⟩
      have b_t116 := (H99.1.int sc_14 (i := 10) (by decide) (by decide) rfl).2
      unfold inR at b_t116; rw [← ht117] at b_t116
      rw [← ht111] at q102
      rw [← ht111, ← ht113] at q103
      rw [← ht115] at q105
      rw [← ht111, ← ht117] at q107
      have kF := kF.tr (by omega) q107
      have kk := q103; clear q103
      have kP := q106; clear q106
      have kQ := q105; clear q105
      have g118 : gi M98 14 2 = t110 := ht111.symm
      have g119 : gi M98 14 3 = t112 := ht113.symm
      have g120 : gi M98 14 4 = t114 := ht115.symm
      have g121 : gi M98 14 10 = t116 := ht117.symm
      exact r_zretI D31_69 rfl (by omega) (⟨H99, f109, by omega, by first | (rw [g118]; omega) | rw [g118], by rw [(ht113.symm), (ht111.symm)]; exact kk, by first | (rw [g120]; omega) | rw [g120], by rw [(ht111.symm), (ht115.symm)]; exact (RR.p9 (by omega) kP).rs (by omega) (by omega) rfl, by rw [(ht117.symm), (ht111.symm)]; first | exact kF | exact kF.lit (by omega) | exact kF.up (by omega) (by omega)⟩)
  · refine s_blx (lv' := [(0, vR 14), (1, vI depth)]) (st' := [vI depth, vR 14]) B31_10_12 rfl ?_
    have g122 : gi M 14 2 = at_ := h3
    have g123 : gi M 14 3 = kd := h4
    have g124 : gi M 14 10 = fo := h8
    refine r_vI (c := 14) (args := [vI depth]) (rest := []) (pc' := 15) D31_12 rfl ck_4_virtual_128 TE32 rfl (Nat.le_of_ble_eq_true rfl) ⟨Nat.le_of_ble_eq_true rfl, Nat.le_of_ble_eq_true rfl⟩ sc_14 ⟨rfl, by decide⟩ H.1 (by omega) (k32_14p E (by omega) H depth ct at_ kd K st fo (h0) (by omega) (by omega) (by omega) (by omega) (by omega) (by omega) (by omega) (by omega) (by omega) (by omega)) ?_
    intro v125 M126 q136
    obtain ⟨H127, f128, q129, q130, q131, q132, q133, q134, q135⟩ := q136
    have f137 := f0.tr (f128.up rfl)
    obtain ⟨t138, ht139⟩ : ∃ q, q = gi M126 14 2 := ⟨_, rfl⟩
    have b_t138 := H127.2 14 2 0 400 rfl
    rw [← ht139] at b_t138
    obtain ⟨t140, ht141⟩ : ∃ q, q = gi M126 14 3 := ⟨_, rfl⟩
    have b_t140 := H127.2 14 3 0 511 rfl
    rw [← ht141] at b_t140
    obtain ⟨t142, ht143⟩ : ∃ q, q = gi M126 14 10 := ⟨_, rfl⟩
    have b_t142 := (H127.1.int sc_14 (i := 10) (by decide) (by decide) rfl).2
    unfold inR at b_t142; rw [← ht143] at b_t142
    rw [← ht139] at q130
    rw [← ht139, ← ht141] at q131
    rw [← ht139, ← ht143] at q135
    have kF := kF.tr (by omega) q135
    have kk := q131; clear q131
    refine r_ifc (tgt := 41) (pc' := 18) D31_15 rfl rfl (by unfold inR; omega) (fun (c144 : v125 = 0) => ?_) (fun (c144 : ¬ (v125 = 0)) => ?_)
    · refine s_blx (lv' := [(0, vR 14), (1, vI depth)]) (st' := [vI 0]) B31_41_42 rfl ?_
      have g145 : gi M126 14 2 = t138 := ht139.symm
      have g146 : gi M126 14 3 = t140 := ht141.symm
      have g147 : gi M126 14 4 = pq := (f128.g rfl).trans (h9)
      have g148 : gi M126 14 10 = t142 := ht143.symm
      exact r_zretI D31_42 rfl (by omega) (⟨H127, f137, by omega, by first | (rw [g145]; omega) | rw [g145], by rw [(ht141.symm), (ht139.symm)]; exact kk, by first | (rw [g147]; omega) | rw [g147], by rw [(ht139.symm), ((f128.g rfl).trans (h9))]; first | exact (RR.o9 (by omega) (by omega) ((kS.at (by omega)).rs rfl rfl (by omega)) (kG (by omega))).rs (by omega) (by omega) (by omega) | exact (RR.c9 (by omega) (by omega) ((kS.at (by omega)).rs rfl rfl (by omega)) (kH (by omega))).rs (by omega) (by omega) (by omega) | exact (RR.b9 (by omega) (by omega) ((kS.at (by omega)).rs rfl rfl (by omega))).rs (by omega) (by omega) (by omega) | exact (RR.d9 (by omega) (by omega)).rs (by omega) (by omega) (by omega), by rw [(ht143.symm), (ht139.symm)]; first | exact kF | exact kF.lit (by omega) | exact kF.up (by omega) (by omega)⟩)
    · refine s_blx (lv' := [(0, vR 14), (1, vI depth)]) (st' := [vI (depth + 1), vR 14]) B31_18_22 rfl ?_
      have g149 : gi M126 14 2 = t138 := ht139.symm
      have g150 : gi M126 14 3 = t140 := ht141.symm
      have g151 : gi M126 14 10 = t142 := ht143.symm
      have g152 : gi M126 14 4 = pq := (f128.g rfl).trans (h9)
      refine r_vI (c := 14) (args := [vI (depth + 1)]) (rest := []) (pc' := 25) D31_22 rfl ck_4_virtual_138 TE29 rfl (Nat.le_of_ble_eq_true rfl) ⟨Nat.le_of_ble_eq_true rfl, Nat.le_of_ble_eq_true rfl⟩ sc_14 ⟨rfl, by decide⟩ H127.1 (by omega) (ihr (by omega) H127 (depth + 1) ct t138 t140 K st t142 pq ((h0.fr f137 rfl)) (by omega) (by omega) (by omega) (by omega) (by omega) (by omega) (by omega) (by omega) (by omega) (by omega) (by omega) (by omega)) ?_
      intro v153 M154 q163
      obtain ⟨H155, f156, q157, q158, q159, q160, q161, q162⟩ := q163
      have f164 := f137.tr (f156.up rfl)
      obtain ⟨t165, ht166⟩ : ∃ q, q = gi M154 14 2 := ⟨_, rfl⟩
      have b_t165 := H155.2 14 2 0 400 rfl
      rw [← ht166] at b_t165
      obtain ⟨t167, ht168⟩ : ∃ q, q = gi M154 14 3 := ⟨_, rfl⟩
      have b_t167 := H155.2 14 3 0 511 rfl
      rw [← ht168] at b_t167
      obtain ⟨t169, ht170⟩ : ∃ q, q = gi M154 14 4 := ⟨_, rfl⟩
      have b_t169 := H155.2 14 4 0 50 rfl
      rw [← ht170] at b_t169
      obtain ⟨t171, ht172⟩ : ∃ q, q = gi M154 14 10 := ⟨_, rfl⟩
      have b_t171 := (H155.1.int sc_14 (i := 10) (by decide) (by decide) rfl).2
      unfold inR at b_t171; rw [← ht172] at b_t171
      rw [← ht166] at q158
      rw [← ht166, ← ht168] at q159
      rw [← ht170] at q160
      rw [← ht166, ← ht170] at q161
      rw [← ht166, ← ht172] at q162
      have kS := q161; clear q161
      have kk := q159; clear q159
      have kF := kF.tr (by omega) q162
      refine r_ifc (tgt := 41) (pc' := 28) D31_25 rfl rfl (by unfold inR; omega) (fun (c173 : v153 = 0) => ?_) (fun (c173 : ¬ (v153 = 0)) => ?_)
      · refine s_blx (lv' := [(0, vR 14), (1, vI depth)]) (st' := [vI 0]) B31_41_42 rfl ?_
        have g174 : gi M154 14 2 = t165 := ht166.symm
        have g175 : gi M154 14 3 = t167 := ht168.symm
        have g176 : gi M154 14 4 = t169 := ht170.symm
        have g177 : gi M154 14 10 = t171 := ht172.symm
        exact r_zretI D31_42 rfl (by omega) (⟨H155, f164, by omega, by first | (rw [g174]; omega) | rw [g174], by rw [(ht168.symm), (ht166.symm)]; exact kk, by first | (rw [g176]; omega) | rw [g176], by rw [(ht166.symm), (ht170.symm)]; first | exact (RR.o9 (by omega) (by omega) ((kS.at (by omega)).rs rfl rfl (by omega)) (kG (by omega))).rs (by omega) (by omega) (by omega) | exact (RR.c9 (by omega) (by omega) ((kS.at (by omega)).rs rfl rfl (by omega)) (kH (by omega))).rs (by omega) (by omega) (by omega) | exact (RR.b9 (by omega) (by omega) ((kS.at (by omega)).rs rfl rfl (by omega))).rs (by omega) (by omega) (by omega) | exact (RR.d9 (by omega) (by omega)).rs (by omega) (by omega) (by omega), by rw [(ht172.symm), (ht166.symm)]; first | exact kF | exact kF.lit (by omega) | exact kF.up (by omega) (by omega)⟩)
      · refine s_blx (lv' := [(0, vR 14), (1, vI depth)]) (st' := [vI 93, vR 14]) B31_28_31 rfl ?_
        have g178 : gi M154 14 2 = t165 := ht166.symm
        have g179 : gi M154 14 3 = t167 := ht168.symm
        have g180 : gi M154 14 10 = t171 := ht172.symm
        refine r_vI (c := 14) (args := [vI 93]) (rest := []) (pc' := 34) D31_31 rfl ck_4_virtual_111 TE34 rfl (Nat.le_of_ble_eq_true rfl) ⟨Nat.le_of_ble_eq_true rfl, Nat.le_of_ble_eq_true rfl⟩ sc_14 ⟨rfl, by decide⟩ H155.1 (by omega) (k34_14p E (by omega) H155 93 ct t165 t167 K st t171 ((h0.fr f164 rfl)) (by omega) (by omega) (by omega) (by omega) (by omega) (by omega) (by omega) (by omega) (by omega) (by omega)) ?_
        intro v181 M182 q192
        obtain ⟨H183, f184, q185, q186, q187, q188, q189, q190, q191⟩ := q192
        have f193 := f164.tr (f184.up rfl)
        obtain ⟨t194, ht195⟩ : ∃ q, q = gi M182 14 2 := ⟨_, rfl⟩
        have b_t194 := H183.2 14 2 0 400 rfl
        rw [← ht195] at b_t194
        obtain ⟨t196, ht197⟩ : ∃ q, q = gi M182 14 3 := ⟨_, rfl⟩
        have b_t196 := H183.2 14 3 0 511 rfl
        rw [← ht197] at b_t196
        obtain ⟨t198, ht199⟩ : ∃ q, q = gi M182 14 10 := ⟨_, rfl⟩
        have b_t198 := (H183.1.int sc_14 (i := 10) (by decide) (by decide) rfl).2
        unfold inR at b_t198; rw [← ht199] at b_t198
        rw [← ht195] at q186
        rw [← ht195, ← ht197] at q187
        rw [← ht195, ← ht199] at q191
        have kG : v181 = 1 → K t165 = 193 := fun h => by have w := q189 h; omega
        have kH : v181 = 0 → K t165 ≠ 193 := fun h => by have w := q190 h; omega
        have kF := kF.tr (by omega) q191
        have kk := q187; clear q187
        refine r_ifc (tgt := 41) (pc' := 37) D31_34 rfl rfl (by unfold inR; omega) (fun (c200 : v181 = 0) => ?_) (fun (c200 : ¬ (v181 = 0)) => ?_)
        · refine s_blx (lv' := [(0, vR 14), (1, vI depth)]) (st' := [vI 0]) B31_41_42 rfl ?_
          have g201 : gi M182 14 2 = t194 := ht195.symm
          have g202 : gi M182 14 3 = t196 := ht197.symm
          have g203 : gi M182 14 4 = t169 := (f184.g rfl).trans (ht170.symm)
          have g204 : gi M182 14 10 = t198 := ht199.symm
          exact r_zretI D31_42 rfl (by omega) (⟨H183, f193, by omega, by first | (rw [g201]; omega) | rw [g201], by rw [(ht197.symm), (ht195.symm)]; exact kk, by first | (rw [g203]; omega) | rw [g203], by rw [(ht195.symm), ((f184.g rfl).trans (ht170.symm))]; first | exact (RR.o9 (by omega) (by omega) ((kS.at (by omega)).rs rfl rfl (by omega)) (kG (by omega))).rs (by omega) (by omega) (by omega) | exact (RR.c9 (by omega) (by omega) ((kS.at (by omega)).rs rfl rfl (by omega)) (kH (by omega))).rs (by omega) (by omega) (by omega) | exact (RR.b9 (by omega) (by omega) ((kS.at (by omega)).rs rfl rfl (by omega))).rs (by omega) (by omega) (by omega) | exact (RR.d9 (by omega) (by omega)).rs (by omega) (by omega) (by omega), by rw [(ht199.symm), (ht195.symm)]; first | exact kF | exact kF.lit (by omega) | exact kF.up (by omega) (by omega)⟩)
        · refine s_blx (lv' := [(0, vR 14), (1, vI depth)]) (st' := [vI 1]) B31_37_38 rfl ?_
          refine r_goto (tgt := 42) D31_38 rfl ?_
          have g205 : gi M182 14 2 = t194 := ht195.symm
          have g206 : gi M182 14 3 = t196 := ht197.symm
          have g207 : gi M182 14 4 = t169 := (f184.g rfl).trans (ht170.symm)
          have g208 : gi M182 14 10 = t198 := ht199.symm
          exact r_zretI D31_42 rfl (by omega) (⟨H183, f193, by omega, by first | (rw [g205]; omega) | rw [g205], by rw [(ht197.symm), (ht195.symm)]; exact kk, by first | (rw [g207]; omega) | rw [g207], by rw [(ht195.symm), ((f184.g rfl).trans (ht170.symm))]; first | exact (RR.o9 (by omega) (by omega) ((kS.at (by omega)).rs rfl rfl (by omega)) (kG (by omega))).rs (by omega) (by omega) (by omega) | exact (RR.c9 (by omega) (by omega) ((kS.at (by omega)).rs rfl rfl (by omega)) (kH (by omega))).rs (by omega) (by omega) (by omega) | exact (RR.b9 (by omega) (by omega) ((kS.at (by omega)).rs rfl rfl (by omega))).rs (by omega) (by omega) (by omega) | exact (RR.d9 (by omega) (by omega)).rs (by omega) (by omega) (by omega), by rw [(ht199.symm), (ht195.symm)]; first | exact kF | exact kF.lit (by omega) | exact kF.up (by omega) (by omega)⟩)
set_option maxRecDepth 4000 in
theorem L_k30_14p {base : Nat} {X : Nat → Option mC} {G : Nat → Value} (E : EnvOK base X G) {rr : Nat} (ihr : ∀ {d : Nat} (_ : 2 + 3 * rr ≤ d) {M : mH} (_ : HI base M) (depth : Int) (ct : Int) (at_ : Int) (kd : Int) (K : Int → Int) (st : Int → Int) (fo : Int) (pq : Int), (TKx K st ct M) → (K ct = 22) → (0 ≤ ct ∧ ct ≤ 400) → (gi M 14 2 = at_) → (gi M 14 3 = kd) → (kd = K at_) → (0 ≤ at_ ∧ at_ ≤ ct) → (0 ≤ kd ∧ kd ≤ 511) → (gi M 14 10 = fo) → (gi M 14 4 = pq) → (0 ≤ pq ∧ pq ≤ 50) → (0 ≤ depth ∧ depth ≤ 8) → 8 - depth < ((rr : Nat) : Int) → sOk base X G d T29 [vR 14, vI depth] M (pI (fun v M' => HI base M' ∧ Fr [(14, 3), (14, 4), (14, 5), (14, 10), (14, 11), (19, 0)] M M' ∧ (v = 0 ∨ v = 1) ∧ (at_ ≤ gi M' 14 2 ∧ gi M' 14 2 ≤ ct) ∧ (gi M' 14 3 = K (gi M' 14 2)) ∧ (0 ≤ gi M' 14 4 ∧ gi M' 14 4 ≤ 50) ∧ (RR K 5 depth at_ pq (gi M' 14 2, gi M' 14 4, -v)) ∧ (FTx st fo (gi M' 14 10) (gi M' 14 2) v)))) {d : Nat} (hd : 4 + 3 * rr ≤ d) {M : mH} (H : HI base M) (depth : Int) (ct : Int) (at_ : Int) (kd : Int) (K : Int → Int) (st : Int → Int) (fo : Int) (pq : Int) (h0 : TKx K st ct M) (h1 : K ct = 22) (h2 : 0 ≤ ct ∧ ct ≤ 400) (h3 : gi M 14 2 = at_) (h4 : gi M 14 3 = kd) (h5 : kd = K at_) (h6 : 0 ≤ at_ ∧ at_ ≤ ct) (h7 : 0 ≤ kd ∧ kd ≤ 511) (h8 : gi M 14 10 = fo) (h9 : gi M 14 4 = pq) (h10 : 0 ≤ pq ∧ pq ≤ 50) (h11 : 0 ≤ depth ∧ depth ≤ 8) (h12 : 8 - depth < (rr : Int) + 1) : ∀ mz : Nat, (∀ (x2 x3 a0 k0 p0 y0 : Int) (N : mH), HI base N → Fr [(14, 3), (14, 4), (14, 5), (14, 10), (14, 11), (19, 0)] M N → (gi N 14 2 = a0) → (gi N 14 3 = k0) → (gi N 14 4 = p0) → (gi N 14 10 = y0) → (k0 = K a0) → (at_ ≤ a0 ∧ a0 ≤ ct) → (0 ≤ k0 ∧ k0 ≤ 511) → (0 ≤ p0 ∧ p0 ≤ 50) → (0 ≤ x2 ∧ x2 ≤ 1) → (0 ≤ x3 ∧ x3 ≤ a0 - at_) → (LPx K 7 8 depth at_ pq a0 p0 x2) → (FTx st fo y0 a0 x2) → (0 ≤ x2) → (x2 ≤ 1) → (0 ≤ x3) → (x3 ≤ 400) → (400 - x3) * 1 + 0 < (mz : Int) → sRn base X G d T30 8 [(0, vR 14), (1, vI depth), (2, vI x2), (3, vI x3)] [] N (s_Q base (pI (fun v M' => HI base M' ∧ Fr [(14, 3), (14, 4), (14, 5), (14, 10), (14, 11), (19, 0)] M M' ∧ (v = 0 ∨ v = 1) ∧ (at_ ≤ gi M' 14 2 ∧ gi M' 14 2 ≤ ct) ∧ (gi M' 14 3 = K (gi M' 14 2)) ∧ (0 ≤ gi M' 14 4 ∧ gi M' 14 4 ≤ 50) ∧ (RR K 7 depth at_ pq (gi M' 14 2, gi M' 14 4, -v)) ∧ (FTx st fo (gi M' 14 10) (gi M' 14 2) v))))) := by
  have f0 : Fr [(14, 3), (14, 4), (14, 5), (14, 10), (14, 11), (19, 0)] M M := Fr.rf
  intro mz
  induction mz with
  | zero => exact fun x2 x3 a0 k0 p0 y0 N _ _ z0 z1 z2 z3 z4 z5 z6 z7 z8 z9 z10 z11 z12 z13 z14 z15 z16 => by omega
  | succ mz ih =>
    intro x2 x3 a0 k0 p0 y0 N HN fN i0 i1 i2 i3 i4 i5 i6 i7 i8 i9 i10 i11 i12 i13 i14 i15 hmu
    have kn : a0 = ct → K a0 = 22 := fun h => by rw [h]; exact h1
    have kk := i4
    have kF := i11
    refine s_blx (lv' := [(0, vR 14), (1, vI depth), (2, vI x2), (3, vI x3)]) (st' := [vI 400, vI x3]) B30_8_12 rfl ?_
    refine r_icmp (tgt := 80) (pc' := 15) D30_12 rfl rfl (by unfold inR; omega) (fun (c29 : 400 ≤ x3) => ?_) (fun (c29 : ¬ (400 ≤ x3)) => ?_)
    · refine s_blx (lv' := [(0, vR 14), (1, vI depth), (2, vI x2), (3, vI x3)]) (st' := [vI x2]) B30_80_81 rfl ?_
      have g30 : gi N 14 2 = a0 := i0
      have g31 : gi N 14 3 = k0 := i1
      have g32 : gi N 14 4 = p0 := i2
      have g33 : gi N 14 10 = y0 := i3
      exact r_zretI D30_81 rfl (by omega) (⟨HN, fN, by omega, by first | (rw [g30]; omega) | rw [g30], by rw [(i1), (i0)]; exact kk, by first | (rw [g32]; omega) | rw [g32], by rw [(i0), (i2)]; exact LPx.fin i10 (by omega) (fun hx => RR.e8 (by omega)), by rw [(i3), (i0)]; first | exact kF | exact kF.lit (by omega) | exact kF.up (by omega) (by omega)⟩)
    · refine s_blx (lv' := [(0, vR 14), (1, vI depth), (2, vI x2), (3, vI x3)]) (st' := [vI x2]) B30_15_16 rfl ?_
      refine r_ifc (tgt := 80) (pc' := 19) D30_16 rfl rfl (by unfold inR; omega) (fun (c34 : x2 = 0) => ?_) (fun (c34 : ¬ (x2 = 0)) => ?_)
      · refine s_blx (lv' := [(0, vR 14), (1, vI depth), (2, vI x2), (3, vI x3)]) (st' := [vI x2]) B30_80_81 rfl ?_
        have g35 : gi N 14 2 = a0 := i0
        have g36 : gi N 14 3 = k0 := i1
        have g37 : gi N 14 4 = p0 := i2
        have g38 : gi N 14 10 = y0 := i3
        exact r_zretI D30_81 rfl (by omega) (⟨HN, fN, by omega, by first | (rw [g35]; omega) | rw [g35], by rw [(i1), (i0)]; exact kk, by first | (rw [g37]; omega) | rw [g37], by rw [(i0), (i2)]; exact LPx.fin i10 (by omega) (fun hx => RR.e8 (by omega)), by rw [(i3), (i0)]; first | exact kF | exact kF.lit (by omega) | exact kF.up (by omega) (by omega)⟩)
      · refine s_blx (lv' := [(0, vR 14), (1, vI depth), (2, vI x2), (3, vI x3)]) (st' := [vR 14]) B30_19_20 rfl ?_
        refine r_gint (ki := 3) (pc' := 23) D30_20 rfl gf_4_22_14 rfl HN.1 ?_
        intro w39 e40 r41
        have e42 : k0 = w39 := (e40.trans (i1)).symm
        subst e42
        refine s_blx (lv' := [(0, vR 14), (1, vI depth), (2, vI x2), (3, vI x3)]) (st' := [vI 142, vI k0]) B30_23_26 rfl ?_
        refine r_icmp (tgt := 39) (pc' := 29) D30_26 rfl rfl (by unfold inR; omega) (fun (c43 : k0 = 142) => ?_) (fun (c43 : ¬ (k0 = 142)) => ?_)
        · refine s_blx (lv' := [(0, vR 14), (1, vI depth), (2, vI x2), (3, vI x3)]) (st' := [vR 14]) B30_39_40 rfl ?_
          refine r_gint (ki := 3) (pc' := 43) D30_40 rfl gf_4_22_14 rfl HN.1 ?_
          intro w44 e45 r46
          have e47 : k0 = w44 := (e45.trans (i1)).symm
          subst e47
          refine s_blx (lv' := [(0, vR 14), (1, vI depth), (2, vI x2), (3, vI x3)]) (st' := [vI 142, vI k0]) B30_43_46 rfl ?_
          refine r_icmp (tgt := 53) (pc' := 49) D30_46 rfl rfl (by unfold inR; omega) (fun (c48 : k0 ≠ 142) => ?_) (fun (c48 : ¬ (k0 ≠ 142)) => ?_)
          · exfalso; omega
          · refine s_blx (lv' := [(0, vR 14), (1, vI depth), (2, vI x2), (3, vI x3)]) (st' := [vI 4]) B30_49_50 rfl ?_
            refine r_goto (tgt := 54) D30_50 rfl ?_
            refine s_blx (lv' := [(4, vI 4), (0, vR 14), (1, vI depth), (2, vI x2), (3, vI x3)]) (st' := [vR 14]) B30_54_57 rfl ?_
            have g49 : gi N 14 2 = a0 := i0
            have g50 : gi N 14 3 = k0 := i1
            refine r_vV (c := 14) (args := []) (rest := []) (pc' := 60) D30_57 rfl ck_4_virtual_105 TE35 rfl (Nat.le_of_ble_eq_true rfl) ⟨Nat.le_of_ble_eq_true rfl, Nat.le_of_ble_eq_true rfl⟩ sc_14 ⟨rfl, by decide⟩ HN.1 (by omega) (k35_14p E (by omega) HN ct a0 k0 K st ((h0.fr fN rfl)) (by omega) (by omega) (by omega) (by omega) (by omega) (by omega) (by omega) (by omega)) ?_
            intro M52 q59
            obtain ⟨H53, f54, q55, q56, q57, q58⟩ := q59
            have f60 := fN.tr (f54.up rfl)
            obtain ⟨t61, ht62⟩ : ∃ q, q = gi M52 14 2 := ⟨_, rfl⟩
            have b_t61 := H53.2 14 2 0 400 rfl
            rw [← ht62] at b_t61
            obtain ⟨t63, ht64⟩ : ∃ q, q = gi M52 14 3 := ⟨_, rfl⟩
            have b_t63 := H53.2 14 3 0 511 rfl
            rw [← ht64] at b_t63
            rw [← ht62] at q55
            rw [← ht62, ← ht64] at q56
            rw [← ht62] at q57
            rw [← ht64] at q58
            refine s_blx (lv' := [(4, vI 4), (0, vR 14), (1, vI depth), (2, vI x2), (3, vI x3)]) (st' := [vI depth, vR 14]) B30_60_62 rfl ?_
            have g65 : gi M52 14 2 = t61 := ht62.symm
            have g66 : gi M52 14 3 = t63 := ht64.symm
            have g67 : gi M52 14 10 = y0 := (f54.g rfl).trans (i3)
            have g68 : gi M52 14 4 = p0 := (f54.g rfl).trans (i2)
            refine r_vI (c := 14) (args := [vI depth]) (rest := []) (pc' := 65) D30_62 rfl ck_4_virtual_144 TE31 rfl (Nat.le_of_ble_eq_true rfl) ⟨Nat.le_of_ble_eq_true rfl, Nat.le_of_ble_eq_true rfl⟩ sc_14 ⟨rfl, by decide⟩ H53.1 (by omega) (k31_14p E ihr (by omega) H53 depth ct t61 t63 K st y0 p0 ((h0.fr f60 rfl)) (by omega) (by omega) (by omega) (by omega) (by omega) (by omega) (by omega) (by omega) (by omega) (by omega) (by omega) (by omega)) ?_
            intro v69 M70 q79
            obtain ⟨H71, f72, q73, q74, q75, q76, q77, q78⟩ := q79
            have f80 := f60.tr (f72.up rfl)
            obtain ⟨t81, ht82⟩ : ∃ q, q = gi M70 14 2 := ⟨_, rfl⟩
            have b_t81 := H71.2 14 2 0 400 rfl
            rw [← ht82] at b_t81
            obtain ⟨t83, ht84⟩ : ∃ q, q = gi M70 14 3 := ⟨_, rfl⟩
            have b_t83 := H71.2 14 3 0 511 rfl
            rw [← ht84] at b_t83
            obtain ⟨t85, ht86⟩ : ∃ q, q = gi M70 14 4 := ⟨_, rfl⟩
            have b_t85 := H71.2 14 4 0 50 rfl
            rw [← ht86] at b_t85
            obtain ⟨t87, ht88⟩ : ∃ q, q = gi M70 14 10 := ⟨_, rfl⟩
            have b_t87 := (H71.1.int sc_14 (i := 10) (by decide) (by decide) rfl).2
            unfold inR at b_t87; rw [← ht88] at b_t87
            rw [← ht82] at q74
            rw [← ht82, ← ht84] at q75
            rw [← ht86] at q76
            rw [← ht82, ← ht86] at q77
            rw [← ht82, ← ht88] at q78
            have kS := q77; clear q77
            have kk := q75; clear q75
            have kF := kF.tr (by omega) q78
            refine s_blx (lv' := [(2, vI v69), (4, vI 4), (0, vR 14), (1, vI depth), (3, vI x3)]) (st' := [vI 0, vI 4, vR 14]) B30_65_70 rfl ?_
            refine r_vI (c := 14) (args := [vI 4, vI 0]) (rest := []) (pc' := 73) D30_70 rfl ck_4_virtual_118 TE37 rfl (Nat.le_of_ble_eq_true rfl) ⟨Nat.le_of_ble_eq_true rfl, Nat.le_of_ble_eq_true rfl⟩ sc_14 ⟨rfl, by decide⟩ H71.1 (by omega) (k37_14p E (by omega) H71 4 0 (by omega) (by omega)) ?_
            intro v89 M90 q94
            obtain ⟨H91, f92, q93⟩ := q94
            have f95 := f80.tr (f92.up rfl)
            refine s_blx (lv' := [(3, vI (x3 + 1)), (2, vI v69), (4, vI 4), (0, vR 14), (1, vI depth)]) (st' := []) B30_73_77 rfl ?_
            refine r_goto (tgt := 8) D30_77 rfl ?_
            refine r_loc (lv' := [(0, vR 14), (1, vI depth), (2, vI v69), (3, vI (x3 + 1))]) ⟨rfl, rfl, rfl, rfl, trivial⟩ rfl rfl ?_
            have g96 : gi M90 14 2 = t81 := (f92.g rfl).trans (ht82.symm)
            have g97 : gi M90 14 3 = t83 := (f92.g rfl).trans (ht84.symm)
            have g98 : gi M90 14 4 = t85 := (f92.g rfl).trans (ht86.symm)
            have g99 : gi M90 14 10 = t87 := (f92.g rfl).trans (ht88.symm)
            exact ih v69 (x3 + 1) t81 t83 t85 t87 M90 H91 f95 (by omega) (by omega) (by omega) (by omega) (by omega) (by omega) (by omega) (by omega) (by omega) (by omega) (LPx.stp (fun _ _ _ g1 g2 => RR.m8 (by omega) g1 g2) (fun _ _ g1 => RR.b8 (by omega) g1) i10 (by omega) (by omega) (kS.at (by omega))) (kF) (by omega) (by omega) (by omega) (by omega) (by omega)
        · refine s_blx (lv' := [(0, vR 14), (1, vI depth), (2, vI x2), (3, vI x3)]) (st' := [vR 14]) B30_29_30 rfl ?_
          refine r_gint (ki := 3) (pc' := 33) D30_30 rfl gf_4_22_14 rfl HN.1 ?_
          intro w100 e101 r102
          have e103 : k0 = w100 := (e101.trans (i1)).symm
          subst e103
          refine s_blx (lv' := [(0, vR 14), (1, vI depth), (2, vI x2), (3, vI x3)]) (st' := [vI 147, vI k0]) B30_33_36 rfl ?_
          refine r_icmp (tgt := 80) (pc' := 39) D30_36 rfl rfl (by unfold inR; omega) (fun (c104 : k0 ≠ 147) => ?_) (fun (c104 : ¬ (k0 ≠ 147)) => ?_)
          · refine s_blx (lv' := [(0, vR 14), (1, vI depth), (2, vI x2), (3, vI x3)]) (st' := [vI x2]) B30_80_81 rfl ?_
            have g105 : gi N 14 2 = a0 := i0
            have g106 : gi N 14 3 = k0 := i1
            have g107 : gi N 14 4 = p0 := i2
            have g108 : gi N 14 10 = y0 := i3
            exact r_zretI D30_81 rfl (by omega) (⟨HN, fN, by omega, by first | (rw [g105]; omega) | rw [g105], by rw [(i1), (i0)]; exact kk, by first | (rw [g107]; omega) | rw [g107], by rw [(i0), (i2)]; exact LPx.fin i10 (by omega) (fun hx => RR.e8 (by omega)), by rw [(i3), (i0)]; first | exact kF | exact kF.lit (by omega) | exact kF.up (by omega) (by omega)⟩)
          · refine s_blx (lv' := [(0, vR 14), (1, vI depth), (2, vI x2), (3, vI x3)]) (st' := [vR 14]) B30_39_40 rfl ?_
            refine r_gint (ki := 3) (pc' := 43) D30_40 rfl gf_4_22_14 rfl HN.1 ?_
            intro w109 e110 r111
            have e112 : k0 = w109 := (e110.trans (i1)).symm
            subst e112
            refine s_blx (lv' := [(0, vR 14), (1, vI depth), (2, vI x2), (3, vI x3)]) (st' := [vI 142, vI k0]) B30_43_46 rfl ?_
            refine r_icmp (tgt := 53) (pc' := 49) D30_46 rfl rfl (by unfold inR; omega) (fun (c113 : k0 ≠ 142) => ?_) (fun (c113 : ¬ (k0 ≠ 142)) => ?_)
            · refine s_blx (lv' := [(4, vI 5), (0, vR 14), (1, vI depth), (2, vI x2), (3, vI x3)]) (st' := [vR 14]) B30_53_57 rfl ?_
              have g114 : gi N 14 2 = a0 := i0
              have g115 : gi N 14 3 = k0 := i1
              refine r_vV (c := 14) (args := []) (rest := []) (pc' := 60) D30_57 rfl ck_4_virtual_105 TE35 rfl (Nat.le_of_ble_eq_true rfl) ⟨Nat.le_of_ble_eq_true rfl, Nat.le_of_ble_eq_true rfl⟩ sc_14 ⟨rfl, by decide⟩ HN.1 (by omega) (k35_14p E (by omega) HN ct a0 k0 K st ((h0.fr fN rfl)) (by omega) (by omega) (by omega) (by omega) (by omega) (by omega) (by omega) (by omega)) ?_
              intro M117 q124
              obtain ⟨H118, f119, q120, q121, q122, q123⟩ := q124
              have f125 := fN.tr (f119.up rfl)
              obtain ⟨t126, ht127⟩ : ∃ q, q = gi M117 14 2 := ⟨_, rfl⟩
              have b_t126 := H118.2 14 2 0 400 rfl
              rw [← ht127] at b_t126
              obtain ⟨t128, ht129⟩ : ∃ q, q = gi M117 14 3 := ⟨_, rfl⟩
              have b_t128 := H118.2 14 3 0 511 rfl
              rw [← ht129] at b_t128
              rw [← ht127] at q120
              rw [← ht127, ← ht129] at q121
              rw [← ht127] at q122
              rw [← ht129] at q123
              refine s_blx (lv' := [(4, vI 5), (0, vR 14), (1, vI depth), (2, vI x2), (3, vI x3)]) (st' := [vI depth, vR 14]) B30_60_62 rfl ?_
              have g130 : gi M117 14 2 = t126 := ht127.symm
              have g131 : gi M117 14 3 = t128 := ht129.symm
              have g132 : gi M117 14 10 = y0 := (f119.g rfl).trans (i3)
              have g133 : gi M117 14 4 = p0 := (f119.g rfl).trans (i2)
              refine r_vI (c := 14) (args := [vI depth]) (rest := []) (pc' := 65) D30_62 rfl ck_4_virtual_144 TE31 rfl (Nat.le_of_ble_eq_true rfl) ⟨Nat.le_of_ble_eq_true rfl, Nat.le_of_ble_eq_true rfl⟩ sc_14 ⟨rfl, by decide⟩ H118.1 (by omega) (k31_14p E ihr (by omega) H118 depth ct t126 t128 K st y0 p0 ((h0.fr f125 rfl)) (by omega) (by omega) (by omega) (by omega) (by omega) (by omega) (by omega) (by omega) (by omega) (by omega) (by omega) (by omega)) ?_
              intro v134 M135 q144
              obtain ⟨H136, f137, q138, q139, q140, q141, q142, q143⟩ := q144
              have f145 := f125.tr (f137.up rfl)
              obtain ⟨t146, ht147⟩ : ∃ q, q = gi M135 14 2 := ⟨_, rfl⟩
              have b_t146 := H136.2 14 2 0 400 rfl
              rw [← ht147] at b_t146
              obtain ⟨t148, ht149⟩ : ∃ q, q = gi M135 14 3 := ⟨_, rfl⟩
              have b_t148 := H136.2 14 3 0 511 rfl
              rw [← ht149] at b_t148
              obtain ⟨t150, ht151⟩ : ∃ q, q = gi M135 14 4 := ⟨_, rfl⟩
              have b_t150 := H136.2 14 4 0 50 rfl
              rw [← ht151] at b_t150
              obtain ⟨t152, ht153⟩ : ∃ q, q = gi M135 14 10 := ⟨_, rfl⟩
              have b_t152 := (H136.1.int sc_14 (i := 10) (by decide) (by decide) rfl).2
              unfold inR at b_t152; rw [← ht153] at b_t152
              rw [← ht147] at q139
              rw [← ht147, ← ht149] at q140
              rw [← ht151] at q141
              rw [← ht147, ← ht151] at q142
              rw [← ht147, ← ht153] at q143
              have kS := q142; clear q142
              have kk := q140; clear q140
              have kF := kF.tr (by omega) q143
              refine s_blx (lv' := [(2, vI v134), (4, vI 5), (0, vR 14), (1, vI depth), (3, vI x3)]) (st' := [vI 0, vI 5, vR 14]) B30_65_70 rfl ?_
              refine r_vI (c := 14) (args := [vI 5, vI 0]) (rest := []) (pc' := 73) D30_70 rfl ck_4_virtual_118 TE37 rfl (Nat.le_of_ble_eq_true rfl) ⟨Nat.le_of_ble_eq_true rfl, Nat.le_of_ble_eq_true rfl⟩ sc_14 ⟨rfl, by decide⟩ H136.1 (by omega) (k37_14p E (by omega) H136 5 0 (by omega) (by omega)) ?_
              intro v154 M155 q159
              obtain ⟨H156, f157, q158⟩ := q159
              have f160 := f145.tr (f157.up rfl)
              refine s_blx (lv' := [(3, vI (x3 + 1)), (2, vI v134), (4, vI 5), (0, vR 14), (1, vI depth)]) (st' := []) B30_73_77 rfl ?_
              refine r_goto (tgt := 8) D30_77 rfl ?_
              refine r_loc (lv' := [(0, vR 14), (1, vI depth), (2, vI v134), (3, vI (x3 + 1))]) ⟨rfl, rfl, rfl, rfl, trivial⟩ rfl rfl ?_
              have g161 : gi M155 14 2 = t146 := (f157.g rfl).trans (ht147.symm)
              have g162 : gi M155 14 3 = t148 := (f157.g rfl).trans (ht149.symm)
              have g163 : gi M155 14 4 = t150 := (f157.g rfl).trans (ht151.symm)
              have g164 : gi M155 14 10 = t152 := (f157.g rfl).trans (ht153.symm)
              exact ih v134 (x3 + 1) t146 t148 t150 t152 M155 H156 f160 (by omega) (by omega) (by omega) (by omega) (by omega) (by omega) (by omega) (by omega) (by omega) (by omega) (LPx.stp (fun _ _ _ g1 g2 => RR.m8 (by omega) g1 g2) (fun _ _ g1 => RR.b8 (by omega) g1) i10 (by omega) (by omega) (kS.at (by omega))) (kF) (by omega) (by omega) (by omega) (by omega) (by omega)
            · exfalso; omega
set_option maxRecDepth 4000 in
theorem k30_14p {base : Nat} {X : Nat → Option mC} {G : Nat → Value} (E : EnvOK base X G) {rr : Nat} (ihr : ∀ {d : Nat} (_ : 2 + 3 * rr ≤ d) {M : mH} (_ : HI base M) (depth : Int) (ct : Int) (at_ : Int) (kd : Int) (K : Int → Int) (st : Int → Int) (fo : Int) (pq : Int), (TKx K st ct M) → (K ct = 22) → (0 ≤ ct ∧ ct ≤ 400) → (gi M 14 2 = at_) → (gi M 14 3 = kd) → (kd = K at_) → (0 ≤ at_ ∧ at_ ≤ ct) → (0 ≤ kd ∧ kd ≤ 511) → (gi M 14 10 = fo) → (gi M 14 4 = pq) → (0 ≤ pq ∧ pq ≤ 50) → (0 ≤ depth ∧ depth ≤ 8) → 8 - depth < ((rr : Nat) : Int) → sOk base X G d T29 [vR 14, vI depth] M (pI (fun v M' => HI base M' ∧ Fr [(14, 3), (14, 4), (14, 5), (14, 10), (14, 11), (19, 0)] M M' ∧ (v = 0 ∨ v = 1) ∧ (at_ ≤ gi M' 14 2 ∧ gi M' 14 2 ≤ ct) ∧ (gi M' 14 3 = K (gi M' 14 2)) ∧ (0 ≤ gi M' 14 4 ∧ gi M' 14 4 ≤ 50) ∧ (RR K 5 depth at_ pq (gi M' 14 2, gi M' 14 4, -v)) ∧ (FTx st fo (gi M' 14 10) (gi M' 14 2) v)))) {d : Nat} (hd : 4 + 3 * rr ≤ d) {M : mH} (H : HI base M) (depth : Int) (ct : Int) (at_ : Int) (kd : Int) (K : Int → Int) (st : Int → Int) (fo : Int) (pq : Int) (h0 : TKx K st ct M) (h1 : K ct = 22) (h2 : 0 ≤ ct ∧ ct ≤ 400) (h3 : gi M 14 2 = at_) (h4 : gi M 14 3 = kd) (h5 : kd = K at_) (h6 : 0 ≤ at_ ∧ at_ ≤ ct) (h7 : 0 ≤ kd ∧ kd ≤ 511) (h8 : gi M 14 10 = fo) (h9 : gi M 14 4 = pq) (h10 : 0 ≤ pq ∧ pq ≤ 50) (h11 : 0 ≤ depth ∧ depth ≤ 8) (h12 : 8 - depth < (rr : Int) + 1) : sOk base X G d T30 [vR 14, vI depth] M (pI (fun v M' => HI base M' ∧ Fr [(14, 3), (14, 4), (14, 5), (14, 10), (14, 11), (19, 0)] M M' ∧ (v = 0 ∨ v = 1) ∧ (at_ ≤ gi M' 14 2 ∧ gi M' 14 2 ≤ ct) ∧ (gi M' 14 3 = K (gi M' 14 2)) ∧ (0 ≤ gi M' 14 4 ∧ gi M' 14 4 ≤ 50) ∧ (RR K 7 depth at_ pq (gi M' 14 2, gi M' 14 4, -v)) ∧ (FTx st fo (gi M' 14 10) (gi M' 14 2) v))) := by
  have f0 : Fr [(14, 3), (14, 4), (14, 5), (14, 10), (14, 11), (19, 0)] M M := Fr.rf
  refine sOk.of (show sRn base X G d T30 0 [(0, vR 14), (1, vI depth)] [] M _ from ?_)
  have kk := h5
  have kF : FTx st fo fo at_ 1 := FTx.one
  refine s_blx (lv' := [(0, vR 14), (1, vI depth)]) (st' := [vI depth, vR 14]) B30_0_2 rfl ?_
  have g1 : gi M 14 2 = at_ := h3
  have g2 : gi M 14 3 = kd := h4
  have g3 : gi M 14 10 = fo := h8
  have g4 : gi M 14 4 = pq := h9
  refine r_vI (c := 14) (args := [vI depth]) (rest := []) (pc' := 5) D30_2 rfl ck_4_virtual_144 TE31 rfl (Nat.le_of_ble_eq_true rfl) ⟨Nat.le_of_ble_eq_true rfl, Nat.le_of_ble_eq_true rfl⟩ sc_14 ⟨rfl, by decide⟩ H.1 (by omega) (k31_14p E ihr (by omega) H depth ct at_ kd K st fo pq (h0) (by omega) (by omega) (by omega) (by omega) (by omega) (by omega) (by omega) (by omega) (by omega) (by omega) (by omega) (by omega)) ?_
  intro v5 M6 q15
  obtain ⟨H7, f8, q9, q10, q11, q12, q13, q14⟩ := q15
  have f16 := f0.tr (f8.up rfl)
  obtain ⟨t17, ht18⟩ : ∃ q, q = gi M6 14 2 := ⟨_, rfl⟩
  have b_t17 := H7.2 14 2 0 400 rfl
  rw [← ht18] at b_t17
  obtain ⟨t19, ht20⟩ : ∃ q, q = gi M6 14 3 := ⟨_, rfl⟩
  have b_t19 := H7.2 14 3 0 511 rfl
  rw [← ht20] at b_t19
  obtain ⟨t21, ht22⟩ : ∃ q, q = gi M6 14 4 := ⟨_, rfl⟩
  have b_t21 := H7.2 14 4 0 50 rfl
  rw [← ht22] at b_t21
  obtain ⟨t23, ht24⟩ : ∃ q, q = gi M6 14 10 := ⟨_, rfl⟩
  have b_t23 := (H7.1.int sc_14 (i := 10) (by decide) (by decide) rfl).2
  unfold inR at b_t23; rw [← ht24] at b_t23
  rw [← ht18] at q10
  rw [← ht18, ← ht20] at q11
  rw [← ht22] at q12
  rw [← ht18, ← ht22] at q13
  rw [← ht18, ← ht24] at q14
  have kS := q13; clear q13
  have kk := q11; clear q11
  have kF := kF.tr (by omega) q14
  refine s_blx (lv' := [(3, vI 0), (2, vI v5), (0, vR 14), (1, vI depth)]) (st' := []) B30_5_8 rfl ?_
  refine r_loc (lv' := [(0, vR 14), (1, vI depth), (2, vI v5), (3, vI 0)]) ⟨rfl, rfl, rfl, rfl, trivial⟩ rfl rfl ?_
  have g25 : gi M6 14 2 = t17 := ht18.symm
  have g26 : gi M6 14 3 = t19 := ht20.symm
  have g27 : gi M6 14 4 = t21 := ht22.symm
  have g28 : gi M6 14 10 = t23 := ht24.symm
  exact (L_k30_14p E ihr hd H depth ct at_ kd K st fo pq h0 h1 h2 h3 h4 h5 h6 h7 h8 h9 h10 h11 h12 (((400 - 0) * 1 + 0 : Int) + 1).toNat) v5 0 t17 t19 t21 t23 M6 H7 f16 (by omega) (by omega) (by omega) (by omega) (by omega) (by omega) (by omega) (by omega) (by omega) (by omega) (LPx.ini (fun _ _ _ g1 g2 => RR.m7 g1 g2) (fun _ _ g1 => RR.b7 g1) (by omega) kS) (kF) (by omega) (by omega) (by omega) (by omega) (by omega)
set_option maxRecDepth 4000 in
theorem L_k29_14p {base : Nat} {X : Nat → Option mC} {G : Nat → Value} (E : EnvOK base X G) {rr : Nat} (ihr : ∀ {d : Nat} (_ : 2 + 3 * rr ≤ d) {M : mH} (_ : HI base M) (depth : Int) (ct : Int) (at_ : Int) (kd : Int) (K : Int → Int) (st : Int → Int) (fo : Int) (pq : Int), (TKx K st ct M) → (K ct = 22) → (0 ≤ ct ∧ ct ≤ 400) → (gi M 14 2 = at_) → (gi M 14 3 = kd) → (kd = K at_) → (0 ≤ at_ ∧ at_ ≤ ct) → (0 ≤ kd ∧ kd ≤ 511) → (gi M 14 10 = fo) → (gi M 14 4 = pq) → (0 ≤ pq ∧ pq ≤ 50) → (0 ≤ depth ∧ depth ≤ 8) → 8 - depth < ((rr : Nat) : Int) → sOk base X G d T29 [vR 14, vI depth] M (pI (fun v M' => HI base M' ∧ Fr [(14, 3), (14, 4), (14, 5), (14, 10), (14, 11), (19, 0)] M M' ∧ (v = 0 ∨ v = 1) ∧ (at_ ≤ gi M' 14 2 ∧ gi M' 14 2 ≤ ct) ∧ (gi M' 14 3 = K (gi M' 14 2)) ∧ (0 ≤ gi M' 14 4 ∧ gi M' 14 4 ≤ 50) ∧ (RR K 5 depth at_ pq (gi M' 14 2, gi M' 14 4, -v)) ∧ (FTx st fo (gi M' 14 10) (gi M' 14 2) v)))) {d : Nat} (hd : 2 + 3 * (rr + 1) ≤ d) {M : mH} (H : HI base M) (depth : Int) (ct : Int) (at_ : Int) (kd : Int) (K : Int → Int) (st : Int → Int) (fo : Int) (pq : Int) (h0 : TKx K st ct M) (h1 : K ct = 22) (h2 : 0 ≤ ct ∧ ct ≤ 400) (h3 : gi M 14 2 = at_) (h4 : gi M 14 3 = kd) (h5 : kd = K at_) (h6 : 0 ≤ at_ ∧ at_ ≤ ct) (h7 : 0 ≤ kd ∧ kd ≤ 511) (h8 : gi M 14 10 = fo) (h9 : gi M 14 4 = pq) (h10 : 0 ≤ pq ∧ pq ≤ 50) (h11 : 0 ≤ depth ∧ depth ≤ 8) (hrr : 8 - depth < ((rr + 1 : Nat) : Int)) : ∀ mz : Nat, (∀ (x2 x3 a0 k0 p0 y0 : Int) (N : mH), HI base N → Fr [(14, 3), (14, 4), (14, 5), (14, 10), (14, 11), (19, 0)] M N → (gi N 14 2 = a0) → (gi N 14 3 = k0) → (gi N 14 4 = p0) → (gi N 14 10 = y0) → (k0 = K a0) → (at_ ≤ a0 ∧ a0 ≤ ct) → (0 ≤ k0 ∧ k0 ≤ 511) → (0 ≤ p0 ∧ p0 ≤ 50) → (0 ≤ x2 ∧ x2 ≤ 1) → (0 ≤ x3 ∧ x3 ≤ a0 - at_) → (LPx K 5 6 depth at_ pq a0 p0 x2) → (FTx st fo y0 a0 x2) → (0 ≤ x2) → (x2 ≤ 1) → (0 ≤ x3) → (x3 ≤ 400) → (400 - x3) * 1 + 0 < (mz : Int) → sRn base X G d T29 8 [(0, vR 14), (1, vI depth), (2, vI x2), (3, vI x3)] [] N (s_Q base (pI (fun v M' => HI base M' ∧ Fr [(14, 3), (14, 4), (14, 5), (14, 10), (14, 11), (19, 0)] M M' ∧ (v = 0 ∨ v = 1) ∧ (at_ ≤ gi M' 14 2 ∧ gi M' 14 2 ≤ ct) ∧ (gi M' 14 3 = K (gi M' 14 2)) ∧ (0 ≤ gi M' 14 4 ∧ gi M' 14 4 ≤ 50) ∧ (RR K 5 depth at_ pq (gi M' 14 2, gi M' 14 4, -v)) ∧ (FTx st fo (gi M' 14 10) (gi M' 14 2) v))))) := by
  have f0 : Fr [(14, 3), (14, 4), (14, 5), (14, 10), (14, 11), (19, 0)] M M := Fr.rf
  intro mz
  induction mz with
  | zero => exact fun x2 x3 a0 k0 p0 y0 N _ _ z0 z1 z2 z3 z4 z5 z6 z7 z8 z9 z10 z11 z12 z13 z14 z15 z16 => by omega
  | succ mz ih =>
    intro x2 x3 a0 k0 p0 y0 N HN fN i0 i1 i2 i3 i4 i5 i6 i7 i8 i9 i10 i11 i12 i13 i14 i15 hmu
    have kn : a0 = ct → K a0 = 22 := fun h => by rw [h]; exact h1
    have kk := i4
    have kF := i11
    refine s_blx (lv' := [(0, vR 14), (1, vI depth), (2, vI x2), (3, vI x3)]) (st' := [vI 400, vI x3]) B29_8_12 rfl ?_
    refine r_icmp (tgt := 80) (pc' := 15) D29_12 rfl rfl (by unfold inR; omega) (fun (c29 : 400 ≤ x3) => ?_) (fun (c29 : ¬ (400 ≤ x3)) => ?_)
    · refine s_blx (lv' := [(0, vR 14), (1, vI depth), (2, vI x2), (3, vI x3)]) (st' := [vI x2]) B29_80_81 rfl ?_
      have g30 : gi N 14 2 = a0 := i0
      have g31 : gi N 14 3 = k0 := i1
      have g32 : gi N 14 4 = p0 := i2
      have g33 : gi N 14 10 = y0 := i3
      exact r_zretI D29_81 rfl (by omega) (⟨HN, fN, by omega, by first | (rw [g30]; omega) | rw [g30], by rw [(i1), (i0)]; exact kk, by first | (rw [g32]; omega) | rw [g32], by rw [(i0), (i2)]; exact LPx.fin i10 (by omega) (fun hx => RR.e6 (by omega)), by rw [(i3), (i0)]; first | exact kF | exact kF.lit (by omega) | exact kF.up (by omega) (by omega)⟩)
    · refine s_blx (lv' := [(0, vR 14), (1, vI depth), (2, vI x2), (3, vI x3)]) (st' := [vI x2]) B29_15_16 rfl ?_
      refine r_ifc (tgt := 80) (pc' := 19) D29_16 rfl rfl (by unfold inR; omega) (fun (c34 : x2 = 0) => ?_) (fun (c34 : ¬ (x2 = 0)) => ?_)
      · refine s_blx (lv' := [(0, vR 14), (1, vI depth), (2, vI x2), (3, vI x3)]) (st' := [vI x2]) B29_80_81 rfl ?_
        have g35 : gi N 14 2 = a0 := i0
        have g36 : gi N 14 3 = k0 := i1
        have g37 : gi N 14 4 = p0 := i2
        have g38 : gi N 14 10 = y0 := i3
        exact r_zretI D29_81 rfl (by omega) (⟨HN, fN, by omega, by first | (rw [g35]; omega) | rw [g35], by rw [(i1), (i0)]; exact kk, by first | (rw [g37]; omega) | rw [g37], by rw [(i0), (i2)]; exact LPx.fin i10 (by omega) (fun hx => RR.e6 (by omega)), by rw [(i3), (i0)]; first | exact kF | exact kF.lit (by omega) | exact kF.up (by omega) (by omega)⟩)
      · refine s_blx (lv' := [(0, vR 14), (1, vI depth), (2, vI x2), (3, vI x3)]) (st' := [vR 14]) B29_19_20 rfl ?_
        refine r_gint (ki := 3) (pc' := 23) D29_20 rfl gf_4_22_14 rfl HN.1 ?_
        intro w39 e40 r41
        have e42 : k0 = w39 := (e40.trans (i1)).symm
        subst e42
        refine s_blx (lv' := [(0, vR 14), (1, vI depth), (2, vI x2), (3, vI x3)]) (st' := [vI 143, vI k0]) B29_23_26 rfl ?_
        refine r_icmp (tgt := 39) (pc' := 29) D29_26 rfl rfl (by unfold inR; omega) (fun (c43 : k0 = 143) => ?_) (fun (c43 : ¬ (k0 = 143)) => ?_)
        · refine s_blx (lv' := [(0, vR 14), (1, vI depth), (2, vI x2), (3, vI x3)]) (st' := [vR 14]) B29_39_40 rfl ?_
          refine r_gint (ki := 3) (pc' := 43) D29_40 rfl gf_4_22_14 rfl HN.1 ?_
          intro w44 e45 r46
          have e47 : k0 = w44 := (e45.trans (i1)).symm
          subst e47
          refine s_blx (lv' := [(0, vR 14), (1, vI depth), (2, vI x2), (3, vI x3)]) (st' := [vI 143, vI k0]) B29_43_46 rfl ?_
          refine r_icmp (tgt := 53) (pc' := 49) D29_46 rfl rfl (by unfold inR; omega) (fun (c48 : k0 ≠ 143) => ?_) (fun (c48 : ¬ (k0 ≠ 143)) => ?_)
          · exfalso; omega
          · refine s_blx (lv' := [(0, vR 14), (1, vI depth), (2, vI x2), (3, vI x3)]) (st' := [vI 2]) B29_49_50 rfl ?_
            refine r_goto (tgt := 54) D29_50 rfl ?_
            refine s_blx (lv' := [(4, vI 2), (0, vR 14), (1, vI depth), (2, vI x2), (3, vI x3)]) (st' := [vR 14]) B29_54_57 rfl ?_
            have g49 : gi N 14 2 = a0 := i0
            have g50 : gi N 14 3 = k0 := i1
            refine r_vV (c := 14) (args := []) (rest := []) (pc' := 60) D29_57 rfl ck_4_virtual_105 TE35 rfl (Nat.le_of_ble_eq_true rfl) ⟨Nat.le_of_ble_eq_true rfl, Nat.le_of_ble_eq_true rfl⟩ sc_14 ⟨rfl, by decide⟩ HN.1 (by omega) (k35_14p E (by omega) HN ct a0 k0 K st ((h0.fr fN rfl)) (by omega) (by omega) (by omega) (by omega) (by omega) (by omega) (by omega) (by omega)) ?_
            intro M52 q59
            obtain ⟨H53, f54, q55, q56, q57, q58⟩ := q59
            have f60 := fN.tr (f54.up rfl)
            obtain ⟨t61, ht62⟩ : ∃ q, q = gi M52 14 2 := ⟨_, rfl⟩
            have b_t61 := H53.2 14 2 0 400 rfl
            rw [← ht62] at b_t61
            obtain ⟨t63, ht64⟩ : ∃ q, q = gi M52 14 3 := ⟨_, rfl⟩
            have b_t63 := H53.2 14 3 0 511 rfl
            rw [← ht64] at b_t63
            rw [← ht62] at q55
            rw [← ht62, ← ht64] at q56
            rw [← ht62] at q57
            rw [← ht64] at q58
            refine s_blx (lv' := [(4, vI 2), (0, vR 14), (1, vI depth), (2, vI x2), (3, vI x3)]) (st' := [vI depth, vR 14]) B29_60_62 rfl ?_
            have g65 : gi M52 14 2 = t61 := ht62.symm
            have g66 : gi M52 14 3 = t63 := ht64.symm
            have g67 : gi M52 14 10 = y0 := (f54.g rfl).trans (i3)
            have g68 : gi M52 14 4 = p0 := (f54.g rfl).trans (i2)
            refine r_vI (c := 14) (args := [vI depth]) (rest := []) (pc' := 65) D29_62 rfl ck_4_virtual_141 TE30 rfl (Nat.le_of_ble_eq_true rfl) ⟨Nat.le_of_ble_eq_true rfl, Nat.le_of_ble_eq_true rfl⟩ sc_14 ⟨rfl, by decide⟩ H53.1 (by omega) (k30_14p E ihr (by omega) H53 depth ct t61 t63 K st y0 p0 ((h0.fr f60 rfl)) (by omega) (by omega) (by omega) (by omega) (by omega) (by omega) (by omega) (by omega) (by omega) (by omega) (by omega) (by omega)) ?_
            intro v69 M70 q79
            obtain ⟨H71, f72, q73, q74, q75, q76, q77, q78⟩ := q79
            have f80 := f60.tr (f72.up rfl)
            obtain ⟨t81, ht82⟩ : ∃ q, q = gi M70 14 2 := ⟨_, rfl⟩
            have b_t81 := H71.2 14 2 0 400 rfl
            rw [← ht82] at b_t81
            obtain ⟨t83, ht84⟩ : ∃ q, q = gi M70 14 3 := ⟨_, rfl⟩
            have b_t83 := H71.2 14 3 0 511 rfl
            rw [← ht84] at b_t83
            obtain ⟨t85, ht86⟩ : ∃ q, q = gi M70 14 4 := ⟨_, rfl⟩
            have b_t85 := H71.2 14 4 0 50 rfl
            rw [← ht86] at b_t85
            obtain ⟨t87, ht88⟩ : ∃ q, q = gi M70 14 10 := ⟨_, rfl⟩
            have b_t87 := (H71.1.int sc_14 (i := 10) (by decide) (by decide) rfl).2
            unfold inR at b_t87; rw [← ht88] at b_t87
            rw [← ht82] at q74
            rw [← ht82, ← ht84] at q75
            rw [← ht86] at q76
            rw [← ht82, ← ht86] at q77
            rw [← ht82, ← ht88] at q78
            have kS := q77; clear q77
            have kk := q75; clear q75
            have kF := kF.tr (by omega) q78
            refine s_blx (lv' := [(2, vI v69), (4, vI 2), (0, vR 14), (1, vI depth), (3, vI x3)]) (st' := [vI 0, vI 2, vR 14]) B29_65_70 rfl ?_
            refine r_vI (c := 14) (args := [vI 2, vI 0]) (rest := []) (pc' := 73) D29_70 rfl ck_4_virtual_118 TE37 rfl (Nat.le_of_ble_eq_true rfl) ⟨Nat.le_of_ble_eq_true rfl, Nat.le_of_ble_eq_true rfl⟩ sc_14 ⟨rfl, by decide⟩ H71.1 (by omega) (k37_14p E (by omega) H71 2 0 (by omega) (by omega)) ?_
            intro v89 M90 q94
            obtain ⟨H91, f92, q93⟩ := q94
            have f95 := f80.tr (f92.up rfl)
            refine s_blx (lv' := [(3, vI (x3 + 1)), (2, vI v69), (4, vI 2), (0, vR 14), (1, vI depth)]) (st' := []) B29_73_77 rfl ?_
            refine r_goto (tgt := 8) D29_77 rfl ?_
            refine r_loc (lv' := [(0, vR 14), (1, vI depth), (2, vI v69), (3, vI (x3 + 1))]) ⟨rfl, rfl, rfl, rfl, trivial⟩ rfl rfl ?_
            have g96 : gi M90 14 2 = t81 := (f92.g rfl).trans (ht82.symm)
            have g97 : gi M90 14 3 = t83 := (f92.g rfl).trans (ht84.symm)
            have g98 : gi M90 14 4 = t85 := (f92.g rfl).trans (ht86.symm)
            have g99 : gi M90 14 10 = t87 := (f92.g rfl).trans (ht88.symm)
            exact ih v69 (x3 + 1) t81 t83 t85 t87 M90 H91 f95 (by omega) (by omega) (by omega) (by omega) (by omega) (by omega) (by omega) (by omega) (by omega) (by omega) (LPx.stp (fun _ _ _ g1 g2 => RR.m6 (by omega) g1 g2) (fun _ _ g1 => RR.b6 (by omega) g1) i10 (by omega) (by omega) (kS.at (by omega))) (kF) (by omega) (by omega) (by omega) (by omega) (by omega)
        · refine s_blx (lv' := [(0, vR 14), (1, vI depth), (2, vI x2), (3, vI x3)]) (st' := [vR 14]) B29_29_30 rfl ?_
          refine r_gint (ki := 3) (pc' := 33) D29_30 rfl gf_4_22_14 rfl HN.1 ?_
          intro w100 e101 r102
          have e103 : k0 = w100 := (e101.trans (i1)).symm
          subst e103
          refine s_blx (lv' := [(0, vR 14), (1, vI depth), (2, vI x2), (3, vI x3)]) (st' := [vI 145, vI k0]) B29_33_36 rfl ?_
          refine r_icmp (tgt := 80) (pc' := 39) D29_36 rfl rfl (by unfold inR; omega) (fun (c104 : k0 ≠ 145) => ?_) (fun (c104 : ¬ (k0 ≠ 145)) => ?_)
          · refine s_blx (lv' := [(0, vR 14), (1, vI depth), (2, vI x2), (3, vI x3)]) (st' := [vI x2]) B29_80_81 rfl ?_
            have g105 : gi N 14 2 = a0 := i0
            have g106 : gi N 14 3 = k0 := i1
            have g107 : gi N 14 4 = p0 := i2
            have g108 : gi N 14 10 = y0 := i3
            exact r_zretI D29_81 rfl (by omega) (⟨HN, fN, by omega, by first | (rw [g105]; omega) | rw [g105], by rw [(i1), (i0)]; exact kk, by first | (rw [g107]; omega) | rw [g107], by rw [(i0), (i2)]; exact LPx.fin i10 (by omega) (fun hx => RR.e6 (by omega)), by rw [(i3), (i0)]; first | exact kF | exact kF.lit (by omega) | exact kF.up (by omega) (by omega)⟩)
          · refine s_blx (lv' := [(0, vR 14), (1, vI depth), (2, vI x2), (3, vI x3)]) (st' := [vR 14]) B29_39_40 rfl ?_
            refine r_gint (ki := 3) (pc' := 43) D29_40 rfl gf_4_22_14 rfl HN.1 ?_
            intro w109 e110 r111
            have e112 : k0 = w109 := (e110.trans (i1)).symm
            subst e112
            refine s_blx (lv' := [(0, vR 14), (1, vI depth), (2, vI x2), (3, vI x3)]) (st' := [vI 143, vI k0]) B29_43_46 rfl ?_
            refine r_icmp (tgt := 53) (pc' := 49) D29_46 rfl rfl (by unfold inR; omega) (fun (c113 : k0 ≠ 143) => ?_) (fun (c113 : ¬ (k0 ≠ 143)) => ?_)
            · refine s_blx (lv' := [(4, vI 3), (0, vR 14), (1, vI depth), (2, vI x2), (3, vI x3)]) (st' := [vR 14]) B29_53_57 rfl ?_
              have g114 : gi N 14 2 = a0 := i0
              have g115 : gi N 14 3 = k0 := i1
              refine r_vV (c := 14) (args := []) (rest := []) (pc' := 60) D29_57 rfl ck_4_virtual_105 TE35 rfl (Nat.le_of_ble_eq_true rfl) ⟨Nat.le_of_ble_eq_true rfl, Nat.le_of_ble_eq_true rfl⟩ sc_14 ⟨rfl, by decide⟩ HN.1 (by omega) (k35_14p E (by omega) HN ct a0 k0 K st ((h0.fr fN rfl)) (by omega) (by omega) (by omega) (by omega) (by omega) (by omega) (by omega) (by omega)) ?_
              intro M117 q124
              obtain ⟨H118, f119, q120, q121, q122, q123⟩ := q124
              have f125 := fN.tr (f119.up rfl)
              obtain ⟨t126, ht127⟩ : ∃ q, q = gi M117 14 2 := ⟨_, rfl⟩
              have b_t126 := H118.2 14 2 0 400 rfl
              rw [← ht127] at b_t126
              obtain ⟨t128, ht129⟩ : ∃ q, q = gi M117 14 3 := ⟨_, rfl⟩
              have b_t128 := H118.2 14 3 0 511 rfl
              rw [← ht129] at b_t128
              rw [← ht127] at q120
              rw [← ht127, ← ht129] at q121
              rw [← ht127] at q122
              rw [← ht129] at q123
              refine s_blx (lv' := [(4, vI 3), (0, vR 14), (1, vI depth), (2, vI x2), (3, vI x3)]) (st' := [vI depth, vR 14]) B29_60_62 rfl ?_
              have g130 : gi M117 14 2 = t126 := ht127.symm
              have g131 : gi M117 14 3 = t128 := ht129.symm
              have g132 : gi M117 14 10 = y0 := (f119.g rfl).trans (i3)
              have g133 : gi M117 14 4 = p0 := (f119.g rfl).trans (i2)
              refine r_vI (c := 14) (args := [vI depth]) (rest := []) (pc' := 65) D29_62 rfl ck_4_virtual_141 TE30 rfl (Nat.le_of_ble_eq_true rfl) ⟨Nat.le_of_ble_eq_true rfl, Nat.le_of_ble_eq_true rfl⟩ sc_14 ⟨rfl, by decide⟩ H118.1 (by omega) (k30_14p E ihr (by omega) H118 depth ct t126 t128 K st y0 p0 ((h0.fr f125 rfl)) (by omega) (by omega) (by omega) (by omega) (by omega) (by omega) (by omega) (by omega) (by omega) (by omega) (by omega) (by omega)) ?_
              intro v134 M135 q144
              obtain ⟨H136, f137, q138, q139, q140, q141, q142, q143⟩ := q144
              have f145 := f125.tr (f137.up rfl)
              obtain ⟨t146, ht147⟩ : ∃ q, q = gi M135 14 2 := ⟨_, rfl⟩
              have b_t146 := H136.2 14 2 0 400 rfl
              rw [← ht147] at b_t146
              obtain ⟨t148, ht149⟩ : ∃ q, q = gi M135 14 3 := ⟨_, rfl⟩
              have b_t148 := H136.2 14 3 0 511 rfl
              rw [← ht149] at b_t148
              obtain ⟨t150, ht151⟩ : ∃ q, q = gi M135 14 4 := ⟨_, rfl⟩
              have b_t150 := H136.2 14 4 0 50 rfl
              rw [← ht151] at b_t150
              obtain ⟨t152, ht153⟩ : ∃ q, q = gi M135 14 10 := ⟨_, rfl⟩
              have b_t152 := (H136.1.int sc_14 (i := 10) (by decide) (by decide) rfl).2
              unfold inR at b_t152; rw [← ht153] at b_t152
              rw [← ht147] at q139
              rw [← ht147, ← ht149] at q140
              rw [← ht151] at q141
              rw [← ht147, ← ht151] at q142
              rw [← ht147, ← ht153] at q143
              have kS := q142; clear q142
              have kk := q140; clear q140
              have kF := kF.tr (by omega) q143
              refine s_blx (lv' := [(2, vI v134), (4, vI 3), (0, vR 14), (1, vI depth), (3, vI x3)]) (st' := [vI 0, vI 3, vR 14]) B29_65_70 rfl ?_
              refine r_vI (c := 14) (args := [vI 3, vI 0]) (rest := []) (pc' := 73) D29_70 rfl ck_4_virtual_118 TE37 rfl (Nat.le_of_ble_eq_true rfl) ⟨Nat.le_of_ble_eq_true rfl, Nat.le_of_ble_eq_true rfl⟩ sc_14 ⟨rfl, by decide⟩ H136.1 (by omega) (k37_14p E (by omega) H136 3 0 (by omega) (by omega)) ?_
              intro v154 M155 q159
              obtain ⟨H156, f157, q158⟩ := q159
              have f160 := f145.tr (f157.up rfl)
              refine s_blx (lv' := [(3, vI (x3 + 1)), (2, vI v134), (4, vI 3), (0, vR 14), (1, vI depth)]) (st' := []) B29_73_77 rfl ?_
              refine r_goto (tgt := 8) D29_77 rfl ?_
              refine r_loc (lv' := [(0, vR 14), (1, vI depth), (2, vI v134), (3, vI (x3 + 1))]) ⟨rfl, rfl, rfl, rfl, trivial⟩ rfl rfl ?_
              have g161 : gi M155 14 2 = t146 := (f157.g rfl).trans (ht147.symm)
              have g162 : gi M155 14 3 = t148 := (f157.g rfl).trans (ht149.symm)
              have g163 : gi M155 14 4 = t150 := (f157.g rfl).trans (ht151.symm)
              have g164 : gi M155 14 10 = t152 := (f157.g rfl).trans (ht153.symm)
              exact ih v134 (x3 + 1) t146 t148 t150 t152 M155 H156 f160 (by omega) (by omega) (by omega) (by omega) (by omega) (by omega) (by omega) (by omega) (by omega) (by omega) (LPx.stp (fun _ _ _ g1 g2 => RR.m6 (by omega) g1 g2) (fun _ _ g1 => RR.b6 (by omega) g1) i10 (by omega) (by omega) (kS.at (by omega))) (kF) (by omega) (by omega) (by omega) (by omega) (by omega)
            · exfalso; omega
set_option maxRecDepth 4000 in
theorem k29_14pr {base : Nat} {X : Nat → Option mC} {G : Nat → Value} (E : EnvOK base X G) : ∀ rr : Nat, ∀ {d : Nat} (_ : 2 + 3 * rr ≤ d) {M : mH} (_ : HI base M) (depth : Int) (ct : Int) (at_ : Int) (kd : Int) (K : Int → Int) (st : Int → Int) (fo : Int) (pq : Int), (TKx K st ct M) → (K ct = 22) → (0 ≤ ct ∧ ct ≤ 400) → (gi M 14 2 = at_) → (gi M 14 3 = kd) → (kd = K at_) → (0 ≤ at_ ∧ at_ ≤ ct) → (0 ≤ kd ∧ kd ≤ 511) → (gi M 14 10 = fo) → (gi M 14 4 = pq) → (0 ≤ pq ∧ pq ≤ 50) → (0 ≤ depth ∧ depth ≤ 8) → 8 - depth < ((rr : Nat) : Int) → sOk base X G d T29 [vR 14, vI depth] M (pI (fun v M' => HI base M' ∧ Fr [(14, 3), (14, 4), (14, 5), (14, 10), (14, 11), (19, 0)] M M' ∧ (v = 0 ∨ v = 1) ∧ (at_ ≤ gi M' 14 2 ∧ gi M' 14 2 ≤ ct) ∧ (gi M' 14 3 = K (gi M' 14 2)) ∧ (0 ≤ gi M' 14 4 ∧ gi M' 14 4 ≤ 50) ∧ (RR K 5 depth at_ pq (gi M' 14 2, gi M' 14 4, -v)) ∧ (FTx st fo (gi M' 14 10) (gi M' 14 2) v))) := by
  intro rr
  induction rr with
  | zero => intro d hd M H depth ct at_ kd K st fo pq h0 h1 h2 h3 h4 h5 h6 h7 h8 h9 h10 h11 hrr; exfalso; omega
  | succ rr ihr =>
  intro d hd M H depth ct at_ kd K st fo pq h0 h1 h2 h3 h4 h5 h6 h7 h8 h9 h10 h11 hrr
  have f0 : Fr [(14, 3), (14, 4), (14, 5), (14, 10), (14, 11), (19, 0)] M M := Fr.rf
  refine sOk.of (show sRn base X G d T29 0 [(0, vR 14), (1, vI depth)] [] M _ from ?_)
  have kk := h5
  have kF : FTx st fo fo at_ 1 := FTx.one
  refine s_blx (lv' := [(0, vR 14), (1, vI depth)]) (st' := [vI depth, vR 14]) B29_0_2 rfl ?_
  have g1 : gi M 14 2 = at_ := h3
  have g2 : gi M 14 3 = kd := h4
  have g3 : gi M 14 10 = fo := h8
  have g4 : gi M 14 4 = pq := h9
  refine r_vI (c := 14) (args := [vI depth]) (rest := []) (pc' := 5) D29_2 rfl ck_4_virtual_141 TE30 rfl (Nat.le_of_ble_eq_true rfl) ⟨Nat.le_of_ble_eq_true rfl, Nat.le_of_ble_eq_true rfl⟩ sc_14 ⟨rfl, by decide⟩ H.1 (by omega) (k30_14p E ihr (by omega) H depth ct at_ kd K st fo pq (h0) (by omega) (by omega) (by omega) (by omega) (by omega) (by omega) (by omega) (by omega) (by omega) (by omega) (by omega) (by omega)) ?_
  intro v5 M6 q15
  obtain ⟨H7, f8, q9, q10, q11, q12, q13, q14⟩ := q15
  have f16 := f0.tr (f8.up rfl)
  obtain ⟨t17, ht18⟩ : ∃ q, q = gi M6 14 2 := ⟨_, rfl⟩
  have b_t17 := H7.2 14 2 0 400 rfl
  rw [← ht18] at b_t17
  obtain ⟨t19, ht20⟩ : ∃ q, q = gi M6 14 3 := ⟨_, rfl⟩
  have b_t19 := H7.2 14 3 0 511 rfl
  rw [← ht20] at b_t19
  obtain ⟨t21, ht22⟩ : ∃ q, q = gi M6 14 4 := ⟨_, rfl⟩
  have b_t21 := H7.2 14 4 0 50 rfl
  rw [← ht22] at b_t21
  obtain ⟨t23, ht24⟩ : ∃ q, q = gi M6 14 10 := ⟨_, rfl⟩
  have b_t23 := (H7.1.int sc_14 (i := 10) (by decide) (by decide) rfl).2
  unfold inR at b_t23; rw [← ht24] at b_t23
  rw [← ht18] at q10
  rw [← ht18, ← ht20] at q11
  rw [← ht22] at q12
  rw [← ht18, ← ht22] at q13
  rw [← ht18, ← ht24] at q14
  have kS := q13; clear q13
  have kk := q11; clear q11
  have kF := kF.tr (by omega) q14
  refine s_blx (lv' := [(3, vI 0), (2, vI v5), (0, vR 14), (1, vI depth)]) (st' := []) B29_5_8 rfl ?_
  refine r_loc (lv' := [(0, vR 14), (1, vI depth), (2, vI v5), (3, vI 0)]) ⟨rfl, rfl, rfl, rfl, trivial⟩ rfl rfl ?_
  have g25 : gi M6 14 2 = t17 := ht18.symm
  have g26 : gi M6 14 3 = t19 := ht20.symm
  have g27 : gi M6 14 4 = t21 := ht22.symm
  have g28 : gi M6 14 10 = t23 := ht24.symm
  exact (L_k29_14p E ihr hd H depth ct at_ kd K st fo pq h0 h1 h2 h3 h4 h5 h6 h7 h8 h9 h10 h11 hrr (((400 - 0) * 1 + 0 : Int) + 1).toNat) v5 0 t17 t19 t21 t23 M6 H7 f16 (by omega) (by omega) (by omega) (by omega) (by omega) (by omega) (by omega) (by omega) (by omega) (by omega) (LPx.ini (fun _ _ _ g1 g2 => RR.m5 g1 g2) (fun _ _ g1 => RR.b5 g1) (by omega) kS) (kF) (by omega) (by omega) (by omega) (by omega) (by omega)
theorem k29_14p {base : Nat} {X : Nat → Option mC} {G : Nat → Value} (E : EnvOK base X G) {d : Nat} (hd : 29 ≤ d) {M : mH} (H : HI base M) (depth : Int) (ct : Int) (at_ : Int) (kd : Int) (K : Int → Int) (st : Int → Int) (fo : Int) (pq : Int) (h0 : TKx K st ct M) (h1 : K ct = 22) (h2 : 0 ≤ ct ∧ ct ≤ 400) (h3 : gi M 14 2 = at_) (h4 : gi M 14 3 = kd) (h5 : kd = K at_) (h6 : 0 ≤ at_ ∧ at_ ≤ ct) (h7 : 0 ≤ kd ∧ kd ≤ 511) (h8 : gi M 14 10 = fo) (h9 : gi M 14 4 = pq) (h10 : 0 ≤ pq ∧ pq ≤ 50) (h11 : 0 ≤ depth ∧ depth ≤ 8) : sOk base X G d T29 [vR 14, vI depth] M (pI (fun v M' => HI base M' ∧ Fr [(14, 3), (14, 4), (14, 5), (14, 10), (14, 11), (19, 0)] M M' ∧ (v = 0 ∨ v = 1) ∧ (at_ ≤ gi M' 14 2 ∧ gi M' 14 2 ≤ ct) ∧ (gi M' 14 3 = K (gi M' 14 2)) ∧ (0 ≤ gi M' 14 4 ∧ gi M' 14 4 ≤ 50) ∧ (RR K 5 depth at_ pq (gi M' 14 2, gi M' 14 4, -v)) ∧ (FTx st fo (gi M' 14 10) (gi M' 14 2) v))) := k29_14pr E 9 (by omega) H depth ct at_ kd K st fo pq h0 h1 h2 h3 h4 h5 h6 h7 h8 h9 h10 h11 (by omega)
