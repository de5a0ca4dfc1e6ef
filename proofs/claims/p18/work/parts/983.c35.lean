/-! The habits of the state: each of the eight is there, or null. -/
noncomputable def HN (base : Nat) (M : mH) : Prop := ∀ i, i < 8 → hv M 9 i = .null ∨ ∃ h, hv M 9 i = .ref (base + h) ∧ h < M.1 ∧ hk M h = 3
theorem HN.of {base : Nat} {M M' : mH} (h : HN base M) (hn : M.1 ≤ M'.1) (e : ∀ i, hv M' 9 i = hv M 9 i) (hk' : ∀ r, r < M.1 → hk M r = 3 → hk M' r = 3) : HN base M' := fun i hi => by
  rw [e]
  rcases h i hi with q | ⟨x, a, b, c⟩
  · exact Or.inl q
  · exact Or.inr ⟨x, a, Nat.lt_of_lt_of_le b hn, hk' x b c⟩
theorem HN.fr {base : Nat} {L : List (Nat × Nat)} {M M' : mH} (h : HN base M) (f : Fr L M M') (hc : s_al L (fun c => c != 9) = true) : HN base M' := h.of (by rw [f.1]; exact Nat.le_refl _) (fun i => (f.2.2 9).2.2 i (s_al_ok hc (by simp))) (fun r _ q => (f.2.2 r).1.trans q)
theorem HN.wr {base : Nat} {M M' : mH} {c i : Nat} {v : Value} (h : HN base M) (u : Wr M c i v M') (hc : c ≠ 9) : HN base M' := h.of (by rw [u.n1]; exact Nat.le_refl _) (fun i => u.ne (Or.inl (Ne.symm hc))) (fun r _ q => (u.k r).trans q)
theorem HN.fz {base : Nat} {L : List (Nat × Nat)} {M M' : mH} (h : HN base M) (hM : 111 ≤ M.1) (f : Fz L M M') (hc : s_al L (fun c => c != 9) = true) : HN base M' := h.of f.1 (fun i => (f.2.1 9 (by omega)).2.2 i (s_al_ok hc (by simp)) (Or.inl (by decide))) (fun r hr q => (f.2.1 r hr).1.trans q)
theorem HN.alloc {base : Nat} {M M' : mH} (h : HN base M) (hn : M.1 ≤ M'.1) (h111 : 111 ≤ M.1) (s : ∀ r, r < M.1 → sameC r M M') : HN base M' := h.of hn (s 9 (by omega)).2.2 (fun r hr q => (s r hr).1.trans q)
theorem HN.put {base hb : Nat} {nh nc : Int} {M M' : mH} {i : Nat} (h : HN base M) (u : Wr M 9 i (.ref (base + hb)) M') (hh : IsHab base hb nh nc M) : HN base M' := fun j hj => by
  by_cases e : j = i
  · subst e
    exact Or.inr ⟨hb, u.eq, by rw [u.n1]; exact Nat.lt_of_le_of_lt (Nat.le_add_right hb 3) hh.2.1, by rw [u.k]; exact hh.2.2.1⟩
  · rw [u.ne (Or.inr e)]
    rcases h j hj with q | ⟨x, a, b, c⟩
    · exact Or.inl q
    · exact Or.inr ⟨x, a, by rw [u.n1]; exact b, by rw [u.k]; exact c⟩
theorem Fx.gi {L : List (Nat × Nat)} {a b : Nat} {M0 M : mH} (h : Fx L a b M0 M) (hM : 111 ≤ M0.1) {c : Nat} {i : Int} (k : (!s_md L c i.toNat && decide (c < 111)) = true) : gi M c i = gi M0 c i := by
  rw [Bool.and_eq_true, decide_eq_true_eq] at k
  unfold _root_.Jvm.Pilot.CGlassBoxLaw_law_r5389_4e1fe2.gi
  rw [(h.2.2 c (by omega)).2.2 _ (by simpa using k.1)]
theorem Fx.z {L : List (Nat × Nat)} {a b : Nat} {M0 M : mH} (h : Fx L a b M0 M) (hc : s_al L (fun c => decide (c < 111)) = true) : Fz L M0 M := by
  refine ⟨h.1.1, fun c hlt => ⟨(h.2.2 c hlt).1, (h.2.2 c hlt).2.1, fun i hi _ => (h.2.2 c hlt).2.2 i hi⟩, fun r hr => ?_⟩
  have := h.2.2 r hr.2.1
  exact hr.of h.1.1 ⟨this.1, this.2.1, fun i => this.2.2 i (s_al_ok hc (by simp; exact hr.1))⟩

set_option maxRecDepth 4000 in
theorem k62_1h {base : Nat} {X : Nat → Option mC} {G : Nat → Value} (E : EnvOK base X G) {d : Nat} (hd : 0 ≤ d) {M : mH} (H : HI base M) (habit : Nat) (nh : Int) (nc : Int) (n : Int) (h0 : HB base M) (h1 : HN base M) (h2 : IsHab base habit nh nc M) (h3 : gi M 1 12 = n) (h4 : 0 ≤ n ∧ n ≤ 7) (h5 : 0 ≤ nh ∧ nh ≤ 12) : sOk base X G d T62 [vR 1, vR (habit)] M (pI (fun v M' => HI base M' ∧ Fr [(1, 13), (9, 0)] M M' ∧ (-2147483648 ≤ v ∧ v ≤ 2147483647) ∧ (HB base M') ∧ (HN base M'))) := by
  have f0 : Fr [(1, 13), (9, 0)] M M := Fr.rf
  refine sOk.of (show sRn base X G d T62 0 [(0, vR 1), (1, vR (habit))] [] M _ from ?_)
  refine s_blx (lv' := [(0, vR 1), (1, vR (habit))]) (st' := [vR 1]) B62_0_1 rfl ?_
  refine r_gfix (r := 9) (pc' := 4) D62_1 rfl gf_8_48_1 H.1 ?_
  refine s_blx (lv' := [(0, vR 1), (1, vR (habit))]) (st' := [vR 1, vR 9]) B62_4_5 rfl ?_
  refine r_gint (ki := 12) (pc' := 8) D62_5 rfl gf_8_52_1 rfl H.1 ?_
  intro w1 e2 r3
  have e4 : n = w1 := (e2.trans (h3)).symm
  subst e4
  refine s_blx (lv' := [(0, vR 1), (1, vR (habit))]) (st' := [vR (habit), vI n, vR 9]) B62_8_9 rfl ?_
  refine r_aastH (pc' := 10) D62_9 rfl H (h2) (by omega) ?_
  intro M5 u6 H7
  have f8 := f0.wr u6 rfl
  have ku1 := u6
  have khn := HN.put h1 ku1 h2
  refine s_blx (lv' := [(0, vR 1), (1, vR (habit))]) (st' := [vR 1, vR 1]) B62_10_12 rfl ?_
  refine r_gint (ki := 12) (pc' := 15) D62_12 rfl gf_8_52_1 rfl H7.1 ?_
  intro w9 e10 r11
  have e12 : n = w9 := (e10.trans ((u6.gi_ne (by omega) (Or.inl (by decide))).trans (h3))).symm
  subst e12
  refine s_blx (lv' := [(0, vR 1), (1, vR (habit))]) (st' := [vI (n + 1), vR 1]) B62_15_17 rfl ?_
  refine r_pint (ki := 12) (pc' := 20) D62_17 rfl pf_8_52_1 rfl H7 (by unfold inR; omega) (show 0 ≤ (n + 1) ∧ (n + 1) ≤ 8 by omega) ?_
  intro M13 u14 H15 p16
  have f17 := f8.wr u14 rfl
  have hp18 := khn.wr u14 (by decide)
  have khb := HB.add h0 (by omega) h3 ku1 u14 p16 h2 (by omega)
  refine s_blx (lv' := [(0, vR 1), (1, vR (habit))]) (st' := [vR 1]) B62_20_21 rfl ?_
  refine r_gint (ki := 12) (pc' := 24) D62_21 rfl gf_8_52_1 rfl H15.1 ?_
  intro w19 e20 r21
  have e22 : n + 1 = w19 := (e20.trans (p16)).symm
  subst e22
  refine s_blx (lv' := [(0, vR 1), (1, vR (habit))]) (st' := [vI ((n + 1) - 1)]) B62_24_26 rfl ?_
  exact r_iretI D62_26 rfl (⟨H15, f17, by omega, khb, hp18⟩)
