/-! A habit is kept. -/
section
variable {base : Nat} {X : Nat → Option mC} {G : Nat → Value} {d : Nat} {t : mT} {pc pc' : Nat} {lv : sL} {st : List mV} {M : mH} {Q : Option Value → mH → Prop}
theorem r_aastH {hb : Nat} {nh nc e : Int} (hd : decode t.2.2.1 pc = .ok (.aastore, 1)) (hn : pc + 1 = pc') (H : HI base M) (hh : IsHab base hb nh nc M) (he : 0 ≤ e ∧ e ≤ 7) (h : ∀ M', Wr M 9 e.toNat (.ref (base + hb)) M' → HI base M' → sRn base X G d t pc' lv st M' Q) : sRn base X G d t pc lv (vR hb :: vI e :: vR 9 :: st) M Q := by
  obtain ⟨g1, g2, -⟩ := H.1.2 9 _ sc_9
  have hlt : hb < M.1 := by have := hh.2.1; omega
  refine r_sv (w := .ref (base + hb)) hd hn rfl (H.1.lt sc_9) (by rw [g1]; rfl) ?_ ⟨he.1, by rw [g2]; show e < (8 : Int); omega, by omega⟩ (fun M' u => h M' u ⟨H.1.wr u (fun q hq => ?_), H.2.wr u he.1 (fun lo hi hr => by cases hr)⟩)
  · rw [g1]
    show (match m_own base M (base + hb) with
      | some x => if x.1 = 3 then some (Value.ref (base + hb)) else none
      | none => none) = _
    rw [m_own_own hlt]
    dsimp only
    rw [if_pos (show (M.2.2 hb).1 = 3 from hh.2.2.1)]
  · cases sc_9.symm.trans hq
    exact Or.inr ⟨_, rfl⟩
end
theorem HB.add {base hb : Nat} {nh nc n : Int} {M M1 M2 : mH} {v : Value} (h : HB base M) (h0 : 0 ≤ n) (hn : gi M 1 12 = n) (u1 : Wr M 9 n.toNat (.ref (base + hb)) M1) (u2 : Wr M1 1 12 v M2) (h2 : gi M2 1 12 = n + 1) (hh : IsHab base hb nh nc M) (hb1 : 0 ≤ nh ∧ nh ≤ 12) : HB base M2 := by
  have hN := (hh.wr u1 (by decide)).wr u2 (by decide)
  intro t t1 t2
  by_cases e : t = n
  · subst e
    exact ⟨hb, nh, nc, by rw [u2.ne (Or.inl (by decide)), u1.eq], hN, hb1, hN.nc⟩
  · obtain ⟨b, x, y, a1, a2, a3⟩ := h t t1 (by omega)
    exact ⟨b, x, y, by rw [u2.ne (Or.inl (by decide)), u1.ne (Or.inr (by omega))]; exact a1, (a2.wr u1 (by decide)).wr u2 (by decide), a3⟩
/-- a frame that lets things be made: so many cells, so many slots at most -/
noncomputable def Fx (L : List (Nat × Nat)) (a b : Nat) (M0 M : mH) : Prop := (M0.1 ≤ M.1 ∧ M.1 ≤ M0.1 + a) ∧ M.2.1 ≤ M0.2.1 + b ∧ ∀ c, c < M0.1 → hk M c = hk M0 c ∧ hz M c = hz M0 c ∧ ∀ i, s_md L c i = false → hv M c i = hv M0 c i
theorem Fr.x {L : List (Nat × Nat)} {M0 M : mH} (h : Fr L M0 M) : Fx L 0 0 M0 M := ⟨⟨by rw [h.1]; exact Nat.le_refl _, by rw [h.1]; exact Nat.le_refl _⟩, by rw [h.2.1]; exact Nat.le_refl _, fun c _ => h.2.2 c⟩
theorem Fx.tr {L : List (Nat × Nat)} {a b a' b' : Nat} {M0 M1 M2 : mH} (h : Fx L a b M0 M1) (k : Fx L a' b' M1 M2) : Fx L (a + a') (b + b') M0 M2 := by
  obtain ⟨⟨h1, h2⟩, h3, h4⟩ := h
  obtain ⟨⟨k1, k2⟩, k3, k4⟩ := k
  refine ⟨⟨by omega, by omega⟩, by omega, fun c hc => ?_⟩
  obtain ⟨p1, p2, p3⟩ := h4 c hc
  obtain ⟨q1, q2, q3⟩ := k4 c (by omega)
  exact ⟨q1.trans p1, q2.trans p2, fun i hi => (q3 i hi).trans (p3 i hi)⟩
theorem Fx.up {L L' : List (Nat × Nat)} {a b : Nat} {M0 M : mH} (h : Fx L a b M0 M) (k : s_sub L L' = true) : Fx L' a b M0 M := ⟨h.1, h.2.1, fun c hc => ⟨(h.2.2 c hc).1, (h.2.2 c hc).2.1, fun i hi => (h.2.2 c hc).2.2 i (s_sub_ok k c i hi)⟩⟩
theorem RH.x {base : Nat} {M M' : mH} {v : Option (Nat ⊕ Nat)} (h : RH base M v M') : Fx [] 4 427 M M' := by
  obtain ⟨h1, h2, h3, h4, h5, h6⟩ := h
  exact ⟨⟨by omega, by omega⟩, h4, fun c hc => ⟨(h5 c hc).1, (h5 c hc).2.1, fun i _ => (h5 c hc).2.2 i⟩⟩
theorem HB.alloc {base : Nat} {M M' : mH} (h : HB base M) (hn : M.1 ≤ M'.1) (h111 : 111 ≤ M.1) (s : ∀ r, r < M.1 → sameC r M M') : HB base M' := by
  intro t t1 t2
  rw [(s 1 (by omega)).gi] at t2
  obtain ⟨hb, nh, nc, a, b, c⟩ := h t t1 t2
  exact ⟨hb, nh, nc, by rw [(s 9 (by omega)).2.2]; exact a, b.of hn (fun r _ r2 => s r (by have := b.2.1; omega)), c⟩
noncomputable def T62 : mT := (8, yX8_addHabit, cX8_addHabit, 2, (some .int))
set_option maxRecDepth 10000 in
theorem TE62 : sy_m[62]? = some T62 := rfl
theorem B62_0_1 : s_dk T62.2.2.1 0 [.aload_n 0] 1 = true := by decide +kernel
theorem D62_1 : decode T62.2.2.1 1 = .ok (.getfield 48, 3) := by decide +kernel
theorem B62_4_5 : s_dk T62.2.2.1 4 [.aload_n 0] 5 = true := by decide +kernel
theorem D62_5 : decode T62.2.2.1 5 = .ok (.getfield 52, 3) := by decide +kernel
theorem B62_8_9 : s_dk T62.2.2.1 8 [.aload_n 1] 9 = true := by decide +kernel
theorem D62_9 : decode T62.2.2.1 9 = .ok (.aastore, 1) := by decide +kernel
theorem B62_10_12 : s_dk T62.2.2.1 10 [.aload_n 0, .dup] 12 = true := by decide +kernel
theorem D62_12 : decode T62.2.2.1 12 = .ok (.getfield 52, 3) := by decide +kernel
theorem B62_15_17 : s_dk T62.2.2.1 15 [.iconst 1, .iadd] 17 = true := by decide +kernel
theorem pf_8_52_1 : s_pf 8 52 1 = some (12, 1) := by decide +kernel
theorem D62_17 : decode T62.2.2.1 17 = .ok (.putfield 52, 3) := by decide +kernel
theorem B62_20_21 : s_dk T62.2.2.1 20 [.aload_n 0] 21 = true := by decide +kernel
theorem D62_21 : decode T62.2.2.1 21 = .ok (.getfield 52, 3) := by decide +kernel
theorem B62_24_26 : s_dk T62.2.2.1 24 [.iconst 1, .isub] 26 = true := by decide +kernel
theorem D62_26 : decode T62.2.2.1 26 = .ok (.ireturn, 1) := by decide +kernel
set_option maxRecDepth 4000 in
theorem k62_1x {base : Nat} {X : Nat → Option mC} {G : Nat → Value} (E : EnvOK base X G) {d : Nat} (hd : 0 ≤ d) {M : mH} (H : HI base M) (habit : Nat) (nh : Int) (nc : Int) (n : Int) (h0 : HB base M) (h1 : IsHab base habit nh nc M) (h2 : gi M 1 12 = n) (h3 : 0 ≤ n ∧ n ≤ 7) (h4 : 0 ≤ nh ∧ nh ≤ 12) : sOk base X G d T62 [vR 1, vR (habit)] M (pI (fun v M' => HI base M' ∧ Fr [(1, 13), (9, 0)] M M' ∧ (-2147483648 ≤ v ∧ v ≤ 2147483647) ∧ (HB base M'))) := by
  have f0 : Fr [(1, 13), (9, 0)] M M := Fr.rf
  refine sOk.of (show sRn base X G d T62 0 [(0, vR 1), (1, vR (habit))] [] M _ from ?_)
  refine s_blx (lv' := [(0, vR 1), (1, vR (habit))]) (st' := [vR 1]) B62_0_1 rfl ?_
  refine r_gfix (r := 9) (pc' := 4) D62_1 rfl gf_8_48_1 H.1 ?_
  refine s_blx (lv' := [(0, vR 1), (1, vR (habit))]) (st' := [vR 1, vR 9]) B62_4_5 rfl ?_
  refine r_gint (ki := 12) (pc' := 8) D62_5 rfl gf_8_52_1 rfl H.1 ?_
  intro w1 e2 r3
  have e4 : n = w1 := (e2.trans (h2)).symm
  subst e4
  refine s_blx (lv' := [(0, vR 1), (1, vR (habit))]) (st' := [vR (habit), vI n, vR 9]) B62_8_9 rfl ?_
  refine r_aastH (pc' := 10) D62_9 rfl H (h1) (by omega) ?_
  intro M5 u6 H7
  have f8 := f0.wr u6 rfl
  have ku1 := u6
  refine s_blx (lv' := [(0, vR 1), (1, vR (habit))]) (st' := [vR 1, vR 1]) B62_10_12 rfl ?_
  refine r_gint (ki := 12) (pc' := 15) D62_12 rfl gf_8_52_1 rfl H7.1 ?_
  intro w9 e10 r11
  have e12 : n = w9 := (e10.trans ((u6.gi_ne (by omega) (Or.inl (by decide))).trans (h2))).symm
  subst e12
  refine s_blx (lv' := [(0, vR 1), (1, vR (habit))]) (st' := [vI (n + 1), vR 1]) B62_15_17 rfl ?_
  refine r_pint (ki := 12) (pc' := 20) D62_17 rfl pf_8_52_1 rfl H7 (by unfold inR; omega) (show 0 ≤ (n + 1) ∧ (n + 1) ≤ 8 by omega) ?_
  intro M13 u14 H15 p16
  have f17 := f8.wr u14 rfl
  have khb := HB.add h0 (by omega) h2 ku1 u14 p16 h1 (by omega)
  refine s_blx (lv' := [(0, vR 1), (1, vR (habit))]) (st' := [vR 1]) B62_20_21 rfl ?_
  refine r_gint (ki := 12) (pc' := 24) D62_21 rfl gf_8_52_1 rfl H15.1 ?_
  intro w18 e19 r20
  have e21 : n + 1 = w18 := (e19.trans (p16)).symm
  subst e21
  refine s_blx (lv' := [(0, vR 1), (1, vR (habit))]) (st' := [vI ((n + 1) - 1)]) B62_24_26 rfl ?_
  exact r_iretI D62_26 rfl (⟨H15, f17, by omega, khb⟩)
