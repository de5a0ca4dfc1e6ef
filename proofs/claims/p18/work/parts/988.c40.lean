/-! What holds between two calls of the law: of the class, of the reference, of the room. -/
noncomputable def KCl (base : Nat) (a b : Int) (M : mH) : Prop := HI base M ∧ HB base M ∧ HN base M ∧ IMG base M ∧ RN base 37 a M ∧ RN base 56 b M ∧ SF M ∧ (∃ n : Int, (0 ≤ n ∧ n ≤ b) ∧ TR 40 n M ∧ GT 51 n M) ∧ (1 ≤ a ∧ a ≤ 145) ∧ (1 ≤ b ∧ b ≤ 145)
noncomputable def KRf (M : mH) : Prop := TB M ∧ WD M ∧ LN M ∧ GK M ∧ VT M ∧ IM M
noncomputable def INVl (base : Nat) (j : Int) (M : mH) : Prop := ∃ a b : Int, KCl base a b M ∧ KRf M ∧ (M.1 : Int) ≤ 200 + 2 * j + a + b ∧ (M.2.1 : Int) ≤ 500000 + 200 * j + 1111 * (a + b)
/-- a frame that says nothing -/
noncomputable def Ftr (_ : List (Nat × Nat)) (_ _ : mH) : Prop := True
theorem Ftr.rf {L : List (Nat × Nat)} {M : mH} : Ftr L M M := trivial
theorem Ftr.tr {L : List (Nat × Nat)} {M0 M1 M2 : mH} (_ : Ftr L M0 M1) (_ : Ftr L M1 M2) : Ftr L M0 M2 := trivial
theorem Ftr.up {L L' : List (Nat × Nat)} {M0 M : mH} (_ : Ftr L M0 M) (_ : s_sub L L' = true) : Ftr L' M0 M := trivial
noncomputable def okHB (L : List (Nat × Nat)) : Bool := s_al L (fun c => decide (c < 111) && c != 9) && !s_md L 1 12
noncomputable def okN (k : Nat) (L : List (Nat × Nat)) : Bool := s_al L (fun c => c != k)
noncomputable def okI (L : List (Nat × Nat)) : Bool := s_al L (fun c => decide (c < 111) && c != 12)
noncomputable def okT (k : Nat) (L : List (Nat × Nat)) : Bool := s_al L (fun c => c != k && c != k + 1)
noncomputable def okX (L : List (Nat × Nat)) : Bool := okHB L && okN 9 L && okI L && okN 37 L && okN 56 L && okT 40 L && okT 51 L
theorem KCl.sf {base : Nat} {a b : Int} {L : List (Nat × Nat)} {M M' : mH} (h : KCl base a b M) (H' : HI base M') (f : Fz L M M') (hc : okX L = true) (hs : SF M') : KCl base a b M' := by
  obtain ⟨H, hB, hN, hI, hA, hR, -, ⟨n, hn, hT, hG⟩, ha, hb⟩ := h
  unfold okX at hc
  simp only [Bool.and_eq_true] at hc
  obtain ⟨⟨⟨⟨⟨⟨c1, c2⟩, c3⟩, c4⟩, c5⟩, c6⟩, c7⟩ := hc
  have hM := H.m
  exact ⟨H', hB.fz hM f c1, hN.fz hM f c2, hI.fz hM f c3, hA.fz hM f (by unfold okN at c4; rw [c4]; rfl), hR.fz hM f (by unfold okN at c5; rw [c5]; rfl), hs, ⟨n, hn, hT.fz hM f (by unfold okT at c6; rw [c6]; rfl), hG.fz hM f (by unfold okT at c7; rw [c7]; rfl)⟩, ha, hb⟩
theorem KCl.hi {base : Nat} {a b : Int} {M : mH} (h : KCl base a b M) : HI base M := h.1
theorem SF.st {base : Nat} {L : List (Nat × Nat)} {M M' : mH} (h : SF M) (H : HI base M) (f : Fz L M M') (hc : tgL L = true) (hs : gi M' 0 9 = 1 ∨ gi M' 0 9 = gi M 0 9) : SF M' := by
  rcases hs with q | q
  · exact SF.stale q
  · exact fun z => (h (by rw [← q]; exact z)).fz H.m f hc
theorem KCl.st {base : Nat} {a b : Int} {L : List (Nat × Nat)} {M M' : mH} (h : KCl base a b M) (H' : HI base M') (f : Fz L M M') (hc : okX L = true) (ht : tgL L = true) (hs : gi M' 0 9 = 1 ∨ gi M' 0 9 = gi M 0 9) : KCl base a b M' := h.sf H' f hc (SF.st h.2.2.2.2.2.2.1 h.1 f ht hs)
theorem KCl.keep {base : Nat} {a b : Int} {L : List (Nat × Nat)} {M M' : mH} (h : KCl base a b M) (H' : HI base M') (f : Fz L M M') (hc : okX L = true) (ht : (tgL L && !s_md L 0 9) = true) : KCl base a b M' := h.sf H' f hc (h.2.2.2.2.2.2.1.fz h.1.m f ht)
/-- best: the latest solver's rows and tree are other ones -/
theorem KCl.best {base : Nat} {a b b' n : Int} {L : List (Nat × Nat)} {M M' : mH} (h : KCl base a b M) (H' : HI base M') (f : Fz L M M') (hc : (okHB L && okN 9 L && okI L && okN 37 L && (tgL L && !s_md L 0 9)) = true) (hR : RN base 56 b' M') (hb : b ≤ b' ∧ b' ≤ 145) (hn : 0 ≤ n ∧ n ≤ b') (hT : TR 40 n M') (hG : GT 51 n M') : KCl base a b' M' := by
  obtain ⟨H, hB, hN, hI, hA, -, hS, -, ha, hb0⟩ := h
  simp only [Bool.and_eq_true] at hc
  obtain ⟨⟨⟨⟨c1, c2⟩, c3⟩, c4⟩, c5⟩ := hc
  have hM := H.m
  exact ⟨H', hB.fz hM f c1, hN.fz hM f c2, hI.fz hM f c3, hA.fz hM f (by unfold okN at c4; rw [c4]; rfl), hR, hS.fz hM f (by simp only [Bool.and_eq_true]; exact c5), ⟨n, hn, hT, hG⟩, ha, by omega⟩
/-- guessing, write: the solver's rows are other ones -/
theorem KCl.solv {base : Nat} {a a' b : Int} {L : List (Nat × Nat)} {M M' : mH} (h : KCl base a b M) (H' : HI base M') (f : Fz L M M') (hc : (okHB L && okN 9 L && okI L && okN 56 L && okT 40 L && okT 51 L) = true) (hA : RN base 37 a' M') (ha : a ≤ a' ∧ a' ≤ 145) (hs : SF M') : KCl base a' b M' := by
  obtain ⟨H, hB, hN, hI, -, hR, -, ⟨n, hn, hT, hG⟩, ha0, hb⟩ := h
  simp only [Bool.and_eq_true] at hc
  obtain ⟨⟨⟨⟨⟨c1, c2⟩, c3⟩, c5⟩, c6⟩, c7⟩ := hc
  have hM := H.m
  exact ⟨H', hB.fz hM f c1, hN.fz hM f c2, hI.fz hM f c3, hA, hR.fz hM f (by unfold okN at c5; rw [c5]; rfl), hs, ⟨n, hn, hT.fz hM f (by unfold okT at c6; rw [c6]; rfl), hG.fz hM f (by unfold okT at c7; rw [c7]; rfl)⟩, by omega, hb⟩
theorem KCl.hab {base : Nat} {a b : Int} {L : List (Nat × Nat)} {M M' : mH} (h : KCl base a b M) (H' : HI base M') (hB : HB base M') (hN : HN base M') (f : Fz L M M') (hc : (okI L && okN 37 L && okN 56 L && okT 40 L && okT 51 L && tgL L) = true) (hs : gi M' 0 9 = 1 ∨ gi M' 0 9 = gi M 0 9) : KCl base a b M' := by
  obtain ⟨H, -, -, hI, hA, hR, hS, ⟨n, hn, hT, hG⟩, ha, hb⟩ := h
  simp only [Bool.and_eq_true] at hc
  obtain ⟨⟨⟨⟨⟨c3, c4⟩, c5⟩, c6⟩, c7⟩, c8⟩ := hc
  have hM := H.m
  exact ⟨H', hB, hN, hI.fz hM f c3, hA.fz hM f (by unfold okN at c4; rw [c4]; rfl), hR.fz hM f (by unfold okN at c5; rw [c5]; rfl), SF.st hS H f c8 hs, ⟨n, hn, hT.fz hM f (by unfold okT at c6; rw [c6]; rfl), hG.fz hM f (by unfold okT at c7; rw [c7]; rfl)⟩, ha, hb⟩
theorem RN.sm {base Lc : Nat} {hw : Int} {M M' : mH} (h : RN base Lc hw M) (e : ∀ i, hv M' Lc i = hv M Lc i) (r : ∀ r, IsRow r M → IsRow r M') : RN base Lc hw M' := by
  refine ⟨fun p h1 h2 => ?_, fun p h1 h2 => by rw [e]; exact h.2 p h1 h2⟩
  obtain ⟨x, a, b⟩ := h.1 p h1 h2
  exact ⟨x, by rw [e]; exact a, r x b⟩
theorem KCl.img {base : Nat} {a b : Int} {M M' : mH} (h : KCl base a b M) (q : ImP base M M') : KCl base a b M' := by
  obtain ⟨H, -, -, -, hA, hR, hS, ⟨n, hn, hT, hG⟩, ha, hb⟩ := h
  obtain ⟨H', hB, hN, hI, -, -, s, r, st⟩ := q
  have g : ∀ c, 12 < c → c < 111 → ∀ i : Int, gi M' c i = gi M c i := fun c x y i => (s c x y).gi i
  refine ⟨H', hB, hN, hI, hA.sm (s 37 (by decide) (by decide)).2.2 r, hR.sm (s 56 (by decide) (by decide)).2.2 r, ?_, ⟨n, hn, hT.of (g 40 (by decide) (by decide)) (g 41 (by decide) (by decide)), hG.of (g 51 (by decide) (by decide)) (g 52 (by decide) (by decide))⟩, ha, hb⟩
  rcases st with z | z
  · exact SF.stale z
  · exact fun y => TGd.of (hS (by rw [← z]; exact y)) (g 20 (by decide) (by decide) 15) (g 21 (by decide) (by decide)) (g 22 (by decide) (by decide)) (g 32 (by decide) (by decide)) (g 33 (by decide) (by decide))
/-- the reference's cells are as they were -/
theorem KRf.of {M M' : mH} (h : KRf M) (s : ∀ c, 77 ≤ c → c < 111 → sameC c M M') : KRf M' := by
  have e : ∀ c, 77 ≤ c → c < 111 → gi M' c = gi M c := fun c x y => funext fun i => (s c x y).gi i
  have e78 := e 78 (by decide) (by decide)
  have e79 := e 79 (by decide) (by decide)
  have e80 := e 80 (by decide) (by decide)
  have e81 := e 81 (by decide) (by decide)
  have e82 := e 82 (by decide) (by decide)
  have e87 := e 87 (by decide) (by decide)
  have e94 := e 94 (by decide) (by decide)
  obtain ⟨a, b, c, d, f, g⟩ := h
  refine ⟨?_, ?_, ?_, ?_, ?_, ?_⟩
  · unfold TB at a ⊢; rw [e81, e82]; exact a
  · unfold WD at b ⊢; rw [e94]; exact b
  · unfold LN at c ⊢; rw [e78]; exact c
  · unfold GK AC at d ⊢; rw [e78]; exact d
  · unfold VT at f ⊢; rw [e87]; exact f
  · unfold IM LI GI AC at g ⊢; rw [e79, e80]; exact g
theorem Fz.ref {L : List (Nat × Nat)} {M M' : mH} (f : Fz L M M') (hM : 111 ≤ M.1) (hc : s_al L (fun c => decide (c < 77)) = true) : ∀ c, 77 ≤ c → c < 111 → sameC c M M' := fun c x y => by
  obtain ⟨a, b, d⟩ := f.2.1 c (by omega)
  exact ⟨a, b, fun i => d i (s_al_ok hc (by simp; omega)) (Or.inl y)⟩
theorem ImP.no {base : Nat} {M M' : mH} (H : HI base M) (hB : HB base M) (hN : HN base M) (hI : IMG base M) (H' : HI base M') (f : Fr [(0, 6)] M M') : ImP base M M' := by
  obtain ⟨B5, N5, I5, s5, r5⟩ := acc_ok H hB hN hI (f.up rfl)
  exact ⟨H', B5, N5, I5, ⟨by rw [f.1]; omega, by rw [f.1]; omega⟩, by rw [f.2.1]; omega, s5, r5, Or.inr (f.g rfl)⟩
theorem B129_0_3 : s_dk T129.2.2.1 0 [.iload_n 1, .iconst 0, .iconst 1] 3 = true := by decide +kernel
theorem D129_3 : decode T129.2.2.1 3 = .ok (.invokestatic 102, 3) := by decide +kernel
theorem D129_6 : decode T129.2.2.1 6 = .ok (.ifCond .ne 9, 3) := by decide +kernel
theorem B129_15_16 : s_dk T129.2.2.1 15 [.aload_n 0] 16 = true := by decide +kernel
theorem D129_16 : decode T129.2.2.1 16 = .ok (.getfield 16, 3) := by decide +kernel
theorem B129_19_20 : s_dk T129.2.2.1 19 [.iload_n 1] 20 = true := by decide +kernel
theorem B129_9_11 : s_dk T129.2.2.1 9 [.aload_n 0, .iconst (-1)] 11 = true := by decide +kernel
theorem D129_11 : decode T129.2.2.1 11 = .ok (.invokevirtual 106, 3) := by decide +kernel
theorem D129_14 : decode T129.2.2.1 14 = .ok (.ireturn, 1) := by decide +kernel
theorem B130_0_3 : s_dk T130.2.2.1 0 [.iload_n 1, .iconst 0, .iconst 1] 3 = true := by decide +kernel
theorem D130_3 : decode T130.2.2.1 3 = .ok (.invokestatic 102, 3) := by decide +kernel
theorem D130_6 : decode T130.2.2.1 6 = .ok (.ifCond .ne 9, 3) := by decide +kernel
theorem B130_15_16 : s_dk T130.2.2.1 15 [.aload_n 0] 16 = true := by decide +kernel
theorem D130_16 : decode T130.2.2.1 16 = .ok (.getfield 16, 3) := by decide +kernel
theorem B130_19_20 : s_dk T130.2.2.1 19 [.iload_n 1] 20 = true := by decide +kernel
theorem B130_9_11 : s_dk T130.2.2.1 9 [.aload_n 0, .iconst (-1)] 11 = true := by decide +kernel
theorem D130_11 : decode T130.2.2.1 11 = .ok (.invokevirtual 106, 3) := by decide +kernel
theorem D130_14 : decode T130.2.2.1 14 = .ok (.ireturn, 1) := by decide +kernel
set_option maxRecDepth 4000 in
theorem k129k {base : Nat} {X : Nat → Option mC} {G : Nat → Value} (E : EnvOK base X G) {d : Nat} (hd : 3 ≤ d) {M : mH} (H : HI base M) (k : Int) (h0 : -2147483648 ≤ k ∧ k ≤ 2147483647) (h1 : HB base M) (h2 : HN base M) (h3 : IMG base M) : sOk base X G d T129 [vR 0, vI k] M (pI (fun v M' => ImP base M M' ∧ (0 ≤ k ∧ k ≤ 1 → v = 0) ∧ (k < 0 ∨ 1 < k → v = -1))) := by
  have f0 : Fr [(0, 6)] M M := Fr.rf
  refine sOk.of (show sRn base X G d T129 0 [(0, vR 0), (1, vI k)] [] M _ from ?_)
  refine s_blx (lv' := [(0, vR 0), (1, vI k)]) (st' := [vI 1, vI 0, vI k]) B129_0_3 rfl ?_
  refine r_sIp (args := [vI k, vI 0, vI 1]) (rest := []) (pc' := 6) D129_3 rfl ck_10_static_102 TE142 rfl (Nat.le_of_ble_eq_true rfl) ⟨Nat.le_of_ble_eq_true rfl, Nat.le_of_ble_eq_true rfl⟩ (by decide) (dp_0 hd rfl) (k142 E (dp_n hd rfl) H k 0 1 (by omega) (by omega) (by omega)) ?_
  intro v1 q6
  obtain ⟨q3, q4, q5⟩ := q6
  refine r_ifc (tgt := 15) (pc' := 9) D129_6 rfl rfl (by unfold inR; omega) (fun (c7 : v1 ≠ 0) => ?_) (fun (c7 : ¬ (v1 ≠ 0)) => ?_)
  · refine s_blx (lv' := [(0, vR 0), (1, vI k)]) (st' := [vR 0]) B129_15_16 rfl ?_
    refine r_gfix (r := 12) (pc' := 19) D129_16 rfl gf_10_16_0 H.1 ?_
    refine s_blx (lv' := [(0, vR 0), (1, vI k)]) (st' := [vI k, vR 12]) B129_19_20 rfl ?_
    refine r_loc (lv' := [(0, vR 0), (1, vI k)]) ⟨rfl, rfl, trivial⟩ rfl rfl ?_
    exact u129 E (by omega) H h1 h2 h3 (by omega) (fun M' a => ⟨a, fun _ => rfl, fun _ => by omega⟩)
  · refine s_blx (lv' := [(0, vR 0), (1, vI k)]) (st' := [vI (-1), vR 0]) B129_9_11 rfl ?_
    refine r_vI (c := 0) (args := [vI (-1)]) (rest := []) (pc' := 14) D129_11 rfl ck_10_virtual_106 TE133 rfl (Nat.le_of_ble_eq_true rfl) ⟨Nat.le_of_ble_eq_true rfl, Nat.le_of_ble_eq_true rfl⟩ sc_0 ⟨rfl, by decide⟩ H.1 (dp_0 hd rfl) (k133 E (dp_n hd rfl) H (-1) (by omega)) ?_
    intro v8 M9 q13
    obtain ⟨H10, f11, q12⟩ := q13
    have f14 := f0.tr (f11.up rfl)
    exact r_iretI D129_14 rfl (⟨ImP.no H h1 h2 h3 H10 f14, fun _ => by omega, fun _ => by omega⟩)
set_option maxRecDepth 4000 in
theorem k130k {base : Nat} {X : Nat → Option mC} {G : Nat → Value} (E : EnvOK base X G) {d : Nat} (hd : 3 ≤ d) {M : mH} (H : HI base M) (k : Int) (h0 : -2147483648 ≤ k ∧ k ≤ 2147483647) (h1 : HB base M) (h2 : HN base M) (h3 : IMG base M) : sOk base X G d T130 [vR 0, vI k] M (pI (fun v M' => ImP base M M')) := by
  have f0 : Fr [(0, 6)] M M := Fr.rf
  refine sOk.of (show sRn base X G d T130 0 [(0, vR 0), (1, vI k)] [] M _ from ?_)
  refine s_blx (lv' := [(0, vR 0), (1, vI k)]) (st' := [vI 1, vI 0, vI k]) B130_0_3 rfl ?_
  refine r_sIp (args := [vI k, vI 0, vI 1]) (rest := []) (pc' := 6) D130_3 rfl ck_10_static_102 TE142 rfl (Nat.le_of_ble_eq_true rfl) ⟨Nat.le_of_ble_eq_true rfl, Nat.le_of_ble_eq_true rfl⟩ (by decide) (dp_0 hd rfl) (k142 E (dp_n hd rfl) H k 0 1 (by omega) (by omega) (by omega)) ?_
  intro v1 q6
  obtain ⟨q3, q4, q5⟩ := q6
  refine r_ifc (tgt := 15) (pc' := 9) D130_6 rfl rfl (by unfold inR; omega) (fun (c7 : v1 ≠ 0) => ?_) (fun (c7 : ¬ (v1 ≠ 0)) => ?_)
  · refine s_blx (lv' := [(0, vR 0), (1, vI k)]) (st' := [vR 0]) B130_15_16 rfl ?_
    refine r_gfix (r := 12) (pc' := 19) D130_16 rfl gf_10_16_0 H.1 ?_
    refine s_blx (lv' := [(0, vR 0), (1, vI k)]) (st' := [vI k, vR 12]) B130_19_20 rfl ?_
    refine r_loc (lv' := [(0, vR 0), (1, vI k)]) ⟨rfl, rfl, trivial⟩ rfl rfl ?_
    exact u130 E (by omega) H h1 h2 h3 (by omega) (fun v M' a => a)
  · refine s_blx (lv' := [(0, vR 0), (1, vI k)]) (st' := [vI (-1), vR 0]) B130_9_11 rfl ?_
    refine r_vI (c := 0) (args := [vI (-1)]) (rest := []) (pc' := 14) D130_11 rfl ck_10_virtual_106 TE133 rfl (Nat.le_of_ble_eq_true rfl) ⟨Nat.le_of_ble_eq_true rfl, Nat.le_of_ble_eq_true rfl⟩ sc_0 ⟨rfl, by decide⟩ H.1 (dp_0 hd rfl) (k133 E (dp_n hd rfl) H (-1) (by omega)) ?_
    intro v8 M9 q13
    obtain ⟨H10, f11, q12⟩ := q13
    have f14 := f0.tr (f11.up rfl)
    exact r_iretI D130_14 rfl (ImP.no H h1 h2 h3 H10 f14)
