/-! Images of the class: each a State of its own, as the state once was. -/
noncomputable def IsSt (base c : Nat) (M : mH) : Prop := 111 ≤ c ∧ StS base c M ∧ (∃ M0, HI base M0 ∧ (∀ j z i, stZ[j]? = some z → 1 ≤ j → j ≠ 8 → i < z.2 → hv M (c + j) i = hv M0 (1 + j) i) ∧ ∀ k, stI k = true → hv M c k = hv M0 1 k) ∧ ∀ t : Int, 0 ≤ t → t < gi M c 12 → ∃ (hb : Nat) (nh nc : Int), hv M (c + 8) t.toNat = .ref (base + hb) ∧ IsHab base hb nh nc M ∧ (0 ≤ nh ∧ nh ≤ 12) ∧ 0 ≤ nc ∧ nc ≤ 400
noncomputable def IMG (base : Nat) (M : mH) : Prop := ∀ k, k < 2 → hv M 12 k = .null ∨ ∃ c, hv M 12 k = .ref (base + c) ∧ IsSt base c M
theorem StS.kd {base c r : Nat} {M : mH} (h : StS base c M) (h1 : c ≤ r) (h2 : r ≤ c + 10) : (r = c ∧ hk M r = 7) ∨ (c < r ∧ (hk M r = 1000 ∨ hk M r = 1007)) := by
  obtain ⟨j, rfl⟩ : ∃ j, r = c + j := ⟨r - c, by omega⟩
  have hj : j < 11 := by omega
  have q := h.2.1
  match j, hj with
  | 0, _ => exact Or.inl ⟨rfl, (q 0 _ rfl).1⟩
  | 1, _ => exact Or.inr ⟨by omega, Or.inl (q 1 _ rfl).1⟩
  | 2, _ => exact Or.inr ⟨by omega, Or.inl (q 2 _ rfl).1⟩
  | 3, _ => exact Or.inr ⟨by omega, Or.inl (q 3 _ rfl).1⟩
  | 4, _ => exact Or.inr ⟨by omega, Or.inl (q 4 _ rfl).1⟩
  | 5, _ => exact Or.inr ⟨by omega, Or.inl (q 5 _ rfl).1⟩
  | 6, _ => exact Or.inr ⟨by omega, Or.inl (q 6 _ rfl).1⟩
  | 7, _ => exact Or.inr ⟨by omega, Or.inl (q 7 _ rfl).1⟩
  | 8, _ => exact Or.inr ⟨by omega, Or.inr (q 8 _ rfl).1⟩
  | 9, _ => exact Or.inr ⟨by omega, Or.inl (q 9 _ rfl).1⟩
  | 10, _ => exact Or.inr ⟨by omega, Or.inl (q 10 _ rfl).1⟩
  | j + 11, h => omega
theorem hab_dis {base hb c : Nat} {nh nc : Int} {M : mH} (hh : IsHab base hb nh nc M) (hs : StS base c M) {r : Nat} (h1 : hb ≤ r) (h2 : r ≤ hb + 3) : ¬ (c ≤ r ∧ r ≤ c + 10) := by
  rintro ⟨h3, h4⟩
  by_cases e : c ≤ hb
  · rcases hs.kd e (by omega) with ⟨-, q⟩ | ⟨-, q | q⟩ <;> (rw [hh.2.2.1] at q; cases q)
  · rcases hs.kd (Nat.le_refl c) (by omega) with ⟨-, q⟩ | ⟨q, -⟩
    · have z : c = hb + 1 ∨ c = hb + 2 ∨ c = hb + 3 := by omega
      rcases z with rfl | rfl | rfl
      · rw [hh.2.2.2.2.2.1.1] at q; cases q
      · rw [hh.2.2.2.2.2.2.1.1] at q; cases q
      · rw [hh.ic.2.2.1.1] at q; cases q
    · omega
theorem row_dis {base r c : Nat} {M : mH} (hr : IsRow r M) (hs : StS base c M) : ¬ (c ≤ r ∧ r ≤ c + 10) := by
  rintro ⟨h3, h4⟩
  rcases hs.kd h3 h4 with ⟨-, q⟩ | ⟨-, q | q⟩ <;> (rw [hr.2.2.1] at q; cases q)
theorem st_dis {base c c' : Nat} {M : mH} (h : StS base c M) (h' : StS base c' M) (hne : c ≠ c') : c + 10 < c' ∨ c' + 10 < c := by
  have key : ∀ {a b : Nat}, StS base a M → StS base b M → a < b → a + 10 < b := by
    intro a b ha hb hab
    by_cases e : a + 10 < b
    · exact e
    · exfalso
      rcases ha.kd (Nat.le_of_lt hab) (by omega) with ⟨q, -⟩ | ⟨-, q⟩
      · omega
      · have z := (hb.2.1 0 _ rfl).1
        have z2 : hk M b = 7 := z
        rw [z2] at q
        rcases q with q | q <;> cases q
  rcases Nat.lt_or_gt_of_ne hne with q | q
  · exact Or.inl (key h h' q)
  · exact Or.inr (key h' h q)
theorem CpP.same {cf ct : Nat} {L : List (Nat × Nat × Nat)} {M0 M : mH} (P : CpP cf ct L M0 M) {r : Nat} (hr : ¬ (ct ≤ r ∧ r ≤ ct + 10)) : sameC r M0 M := ⟨(P.2.2.1 r).1, (P.2.2.1 r).2, fun i => by rw [P.2.2.2, if_neg (fun z => hr ⟨z.1, z.2.1⟩)]⟩
theorem IsSt.of {base c : Nat} {M M' : mH} (h : IsSt base c M) (hn : M.1 ≤ M'.1) (s : ∀ r, c ≤ r → r ≤ c + 10 → sameC r M M') (hh : ∀ hb nh nc, IsHab base hb nh nc M → IsHab base hb nh nc M') (hk' : ∀ r, r < M.1 → hk M r = 3 → hk M' r = 3) : IsSt base c M' := by
  obtain ⟨h0, ⟨h1, h2, h3, h4, h5⟩, ⟨M0, H0, ha, hb⟩, h6⟩ := h
  have s0 := s c (Nat.le_refl _) (by omega)
  refine ⟨h0, ⟨by omega, fun j z hz => ?_, fun k r hr => by rw [s0.2.2]; exact h3 k r hr, fun k hk => by rw [s0.2.2]; exact h4 k hk, fun i hi => ?_⟩, ⟨M0, H0, fun j z i hz a b d => ?_, fun k hk => by rw [s0.2.2]; exact hb k hk⟩, fun t t1 t2 => ?_⟩
  · have hl : j < 11 := (List.getElem?_eq_some_iff.mp hz).1
    have sj := s (c + j) (by omega) (by omega)
    rw [sj.1, sj.2.1]
    exact h2 j z hz
  · rw [(s (c + 8) (by omega) (by omega)).2.2]
    rcases h5 i hi with q | ⟨x, q1, q2, q3⟩
    · exact Or.inl q
    · exact Or.inr ⟨x, q1, Nat.lt_of_lt_of_le q2 hn, hk' x q2 q3⟩
  · have hl : j < 11 := (List.getElem?_eq_some_iff.mp hz).1
    rw [(s (c + j) (by omega) (by omega)).2.2]
    exact ha j z i hz a b d
  · rw [s0.gi] at t2
    obtain ⟨x, nh, nc, a, b, d⟩ := h6 t t1 t2
    exact ⟨x, nh, nc, by rw [(s (c + 8) (by omega) (by omega)).2.2]; exact a, hh x nh nc b, d⟩
theorem IMG.of {base : Nat} {M M' : mH} (h : IMG base M) (hn : M.1 ≤ M'.1) (e : ∀ i, hv M' 12 i = hv M 12 i) (s : ∀ c r, IsSt base c M → c ≤ r → r ≤ c + 10 → sameC r M M') (hh : ∀ hb nh nc, IsHab base hb nh nc M → IsHab base hb nh nc M') (hk' : ∀ r, r < M.1 → hk M r = 3 → hk M' r = 3) : IMG base M' := fun k hk => by
  rw [e]
  rcases h k hk with q | ⟨c, a, b⟩
  · exact Or.inl q
  · exact Or.inr ⟨c, a, b.of hn (fun r x y => s c r b x y) hh hk'⟩
theorem IMG.fz {base : Nat} {L : List (Nat × Nat)} {M M' : mH} (h : IMG base M) (hM : 111 ≤ M.1) (f : Fz L M M') (hc : s_al L (fun c => decide (c < 111) && c != 12) = true) : IMG base M' := by
  have hl : s_al L (fun c => decide (c < 111)) = true := by
    unfold s_al at hc ⊢
    rw [List.all_eq_true] at hc ⊢
    intro q hq
    have := hc q hq
    rw [Bool.and_eq_true] at this
    exact this.1
  refine h.of f.1 (fun i => (f.2.1 12 (by omega)).2.2 i (s_al_ok hc (by simp)) (Or.inl (by decide))) (fun c r hs x y => ?_) (fun hb nh nc hh => hh.fz f hl) (fun r hr q => (f.2.1 r hr).1.trans q)
  have h1 := hs.1
  have h2 := hs.2.1.1
  obtain ⟨a, b, d⟩ := f.2.1 r (by omega)
  refine ⟨a, b, fun i => d i (s_al_ok hl (by simp; omega)) (Or.inr ?_)⟩
  intro q
  rcases hs.2.1.kd x y with ⟨-, z⟩ | ⟨-, z | z⟩ <;> (rw [q] at z; cases z)
theorem StS.one {base : Nat} {M : mH} (H : HI base M) (hN : HN base M) : StS base 1 M := by
  have hM := H.m
  have q1 := (H.1.2 1 _ sc_1).2.2
  have r0 : hv M 1 0 = .ref (base + 2) := q1 0 (by decide)
  have r1 : hv M 1 1 = .ref (base + 3) := q1 1 (by decide)
  have r3 : hv M 1 3 = .ref (base + 4) := q1 3 (by decide)
  have r6 : hv M 1 6 = .ref (base + 5) := q1 6 (by decide)
  have r7 : hv M 1 7 = .ref (base + 6) := q1 7 (by decide)
  have r8 : hv M 1 8 = .ref (base + 7) := q1 8 (by decide)
  have r9 : hv M 1 9 = .ref (base + 8) := q1 9 (by decide)
  have r11 : hv M 1 11 = .ref (base + 9) := q1 11 (by decide)
  have r13 : hv M 1 13 = .ref (base + 10) := q1 13 (by decide)
  have r15 : hv M 1 15 = .ref (base + 11) := q1 15 (by decide)
  have i2 : ∃ x : Int32, hv M 1 2 = .int x := q1 2 (by decide)
  have i4 : ∃ x : Int32, hv M 1 4 = .int x := q1 4 (by decide)
  have i5 : ∃ x : Int32, hv M 1 5 = .int x := q1 5 (by decide)
  have i10 : ∃ x : Int32, hv M 1 10 = .int x := q1 10 (by decide)
  have i12 : ∃ x : Int32, hv M 1 12 = .int x := q1 12 (by decide)
  have i14 : ∃ x : Int32, hv M 1 14 = .int x := q1 14 (by decide)
  refine ⟨by omega, fun j z hz => ?_, fun k r hr => ?_, fun k hk => ?_, hN⟩
  · have hl : j < 11 := (List.getElem?_eq_some_iff.mp hz).1
    match j, hl, hz with
    | 0, _, h => cases h; exact ⟨(H.1.2 1 _ sc_1).1, (H.1.2 1 _ sc_1).2.1⟩
    | 1, _, h => cases h; exact ⟨(H.1.2 2 _ sc_2).1, (H.1.2 2 _ sc_2).2.1⟩
    | 2, _, h => cases h; exact ⟨(H.1.2 3 _ sc_3).1, (H.1.2 3 _ sc_3).2.1⟩
    | 3, _, h => cases h; exact ⟨(H.1.2 4 _ sc_4).1, (H.1.2 4 _ sc_4).2.1⟩
    | 4, _, h => cases h; exact ⟨(H.1.2 5 _ sc_5).1, (H.1.2 5 _ sc_5).2.1⟩
    | 5, _, h => cases h; exact ⟨(H.1.2 6 _ sc_6).1, (H.1.2 6 _ sc_6).2.1⟩
    | 6, _, h => cases h; exact ⟨(H.1.2 7 _ sc_7).1, (H.1.2 7 _ sc_7).2.1⟩
    | 7, _, h => cases h; exact ⟨(H.1.2 8 _ sc_8).1, (H.1.2 8 _ sc_8).2.1⟩
    | 8, _, h => cases h; exact ⟨(H.1.2 9 _ sc_9).1, (H.1.2 9 _ sc_9).2.1⟩
    | 9, _, h => cases h; exact ⟨(H.1.2 10 _ sc_10).1, (H.1.2 10 _ sc_10).2.1⟩
    | 10, _, h => cases h; exact ⟨(H.1.2 11 _ sc_11).1, (H.1.2 11 _ sc_11).2.1⟩
    | j + 11, h, _ => omega
  · unfold stR at hr
    clear i2 i4 i5 i10 i12 i14 q1
    split at hr <;> first | (cases hr; assumption) | (cases hr; done)
  · unfold stI at hk
    simp only [Bool.or_eq_true, beq_iff_eq] at hk
    rcases hk with ((((rfl | rfl) | rfl) | rfl) | rfl) | rfl <;> assumption
theorem cpL_in {j i : Nat} {z : Nat × Nat} (h : stZ[j]? = some z) (h1 : 1 ≤ j) : cpD cpL j i = true ↔ i < z.2 := by
  have hl : j < 11 := (List.getElem?_eq_some_iff.mp h).1
  match j, hl, h with
  | 0, _, _ => omega
  | 1, _, h => cases h; simp [cpD, cpL]
  | 2, _, h => cases h; simp [cpD, cpL]
  | 3, _, h => cases h; simp [cpD, cpL]
  | 4, _, h => cases h; simp [cpD, cpL]
  | 5, _, h => cases h; simp [cpD, cpL]
  | 6, _, h => cases h; simp [cpD, cpL]
  | 7, _, h => cases h; simp [cpD, cpL]
  | 8, _, h => cases h; simp [cpD, cpL]
  | 9, _, h => cases h; simp [cpD, cpL]
  | 10, _, h => cases h; simp [cpD, cpL]
  | j + 11, h, _ => omega
theorem cpL_int {k : Nat} (hk : stI k = true) : cpD cpL 0 k = true := by
  unfold stI at hk
  simp only [Bool.or_eq_true, beq_iff_eq] at hk
  rcases hk with ((((rfl | rfl) | rfl) | rfl) | rfl) | rfl <;> rfl
theorem cpL_ok : cpOk cpL = true := rfl
theorem CpP.arr {cf ct : Nat} {M0 M : mH} (P : CpP cf ct cpL M0 M) {j i : Nat} {z : Nat × Nat} (h : stZ[j]? = some z) (h1 : 1 ≤ j) (hi : i < z.2) : hv M (ct + j) i = hv M0 (cf + j) i := by
  have hl : j < 11 := (List.getElem?_eq_some_iff.mp h).1
  have e : ct + j - ct = j := by omega
  rw [P.2.2.2, if_pos ⟨by omega, by omega, by rw [e]; exact (cpL_in h h1).mpr hi⟩, e]
theorem CpP.int {cf ct : Nat} {M0 M : mH} (P : CpP cf ct cpL M0 M) {k : Nat} (hk : stI k = true) : hv M ct k = hv M0 cf k := by
  have e : ct - ct = 0 := by omega
  rw [P.2.2.2, if_pos ⟨by omega, by omega, by rw [e]; exact cpL_int hk⟩, e]
  rfl
/-- the state is kept as an image -/
theorem IsSt.made {base c : Nat} {M M' : mH} (H : HI base M) (hB : HB base M) (hN : HN base M) (hc : 111 ≤ c) (hs : StS base c M) (P : CpP 1 c cpL M M') : IsSt base c M' := by
  have h1 := StS.one H hN
  refine ⟨hc, hs.cp P cpL_ok h1 (Or.inl (by omega)) (Or.inr rfl), ⟨M, H, fun j z i hz a _ d => P.arr hz a d, fun k hk => P.int hk⟩, fun t t1 t2 => ?_⟩
  have e : gi M' c 12 = gi M 1 12 := by
    unfold gi
    rw [if_pos (by decide), if_pos (by decide)]
    rw [show ((12 : Int)).toNat = 12 from rfl, P.int (k := 12) rfl]
  rw [e] at t2
  have b8 := H.2 1 12 0 8 rfl
  obtain ⟨hb, nh, nc, a, b, d⟩ := hB t t1 t2
  refine ⟨hb, nh, nc, ?_, b.of (by rw [P.1]; exact Nat.le_refl _) (fun r x y => P.same (hab_dis b hs x y)), d⟩
  rw [P.arr (j := 8) (z := (1007, 8)) rfl (by decide) (by show t.toNat < 8; omega)]
  exact a
/-- the state is as an image -/
theorem back_ok {base c : Nat} {M M' : mH} (H : HI base M) (hI : IsSt base c M) (P : CpP c 1 cpL M M') : HI base M' ∧ HB base M' ∧ HN base M' := by
  obtain ⟨hc, hs, ⟨M0, H0, hA, hK⟩, hH⟩ := hI
  have hM := H.m
  have key : ∀ j i, j ≤ 10 → j ≠ 8 → hv M' (1 + j) i = hv M0 (1 + j) i ∨ hv M' (1 + j) i = hv M (1 + j) i := by
    intro j i hj h8
    have e : 1 + j - 1 = j := by omega
    rw [P.2.2.2, e]
    split
    · next z =>
      left
      by_cases j0 : j = 0
      · subst j0
        exact hK i (cpOk_ok cpL_ok z.2.2)
      · have hlt : j < stZ.length := by show j < 11; omega
        have hz := List.getElem?_eq_getElem hlt
        exact hA j _ i hz (by omega) h8 ((cpL_in hz (by omega)).mp z.2.2)
    · exact Or.inr rfl
  have hh : ∀ hb nh nc, IsHab base hb nh nc M → IsHab base hb nh nc M' := fun hb nh nc h => h.of (by rw [P.1]; exact Nat.le_refl _) (fun r x y => P.same (by have := h.1; omega))
  have n9 : ∀ i, i < 8 → hv M' 9 i = hv M (c + 8) i := fun i hi => P.arr (j := 8) (z := (1007, 8)) rfl (by decide) hi
  have HN' : HN base M' := fun i hi => by
    rw [n9 i hi]
    rcases hs.2.2.2.2 i hi with q | ⟨x, q1, q2, q3⟩
    · exact Or.inl q
    · exact Or.inr ⟨x, q1, by rw [P.1]; exact q2, by rw [(P.2.2.1 x).1]; exact q3⟩
  have H' : HI base M' := by
    refine ⟨⟨by rw [P.1]; exact H.1.1, fun c' q hq => ?_⟩, fun c' i lo hi hr => ?_⟩
    · obtain ⟨a, b, d⟩ := H.1.2 c' q hq
      refine ⟨by rw [(P.2.2.1 c').1]; exact a, by rw [(P.2.2.1 c').2]; exact b, fun i hi => ?_⟩
      by_cases e : 1 ≤ c' ∧ c' ≤ 11
      · by_cases e9 : c' = 9
        · subst e9
          cases sc_9.symm.trans hq
          show s_ty base 0 _
          rcases HN' i hi with z | ⟨x, z, -⟩
          · exact Or.inl z
          · exact Or.inr ⟨_, z⟩
        · obtain ⟨j, rfl⟩ : ∃ j, c' = 1 + j := ⟨c' - 1, by omega⟩
          rcases key j i (by omega) (by omega) with z | z
          · rw [z]; exact (H0.1.2 _ q hq).2.2 i hi
          · rw [z]; exact d i hi
      · rw [(P.same (r := c') (by omega)).2.2]
        exact d i hi
    · by_cases e : 1 ≤ c' ∧ c' ≤ 11
      · by_cases e9 : c' = 9
        · subst e9; cases hr
        · obtain ⟨j, rfl⟩ : ∃ j, c' = 1 + j := ⟨c' - 1, by omega⟩
          rcases key j i.toNat (by omega) (by omega) with z | z
          · have : gi M' (1 + j) i = gi M0 (1 + j) i := by unfold gi; rw [z]
            rw [this]; exact H0.2 _ i lo hi hr
          · have : gi M' (1 + j) i = gi M (1 + j) i := by unfold gi; rw [z]
            rw [this]; exact H.2 _ i lo hi hr
      · rw [(P.same (r := c') (by omega)).gi]
        exact H.2 c' i lo hi hr
  refine ⟨H', fun t t1 t2 => ?_, HN'⟩
  have b8 := H'.2 1 12 0 8 rfl
  have e : gi M' 1 12 = gi M c 12 := by
    unfold gi
    rw [if_pos (by decide), if_pos (by decide)]
    rw [show ((12 : Int)).toNat = 12 from rfl, P.int (k := 12) rfl]
  obtain ⟨hb, nh, nc, a, b, d⟩ := hH t t1 (by rw [← e]; exact t2)
  exact ⟨hb, nh, nc, by rw [n9 _ (by omega)]; exact a, hh _ _ _ b, d⟩
/-- what image and back leave -/
noncomputable def ImP (base : Nat) (M M' : mH) : Prop := HI base M' ∧ HB base M' ∧ HN base M' ∧ IMG base M' ∧ (M.1 ≤ M'.1 ∧ M'.1 ≤ M.1 + 11) ∧ M'.2.1 ≤ M.2.1 + 500 ∧ (∀ c, 12 < c → c < 111 → sameC c M M') ∧ (∀ r, IsRow r M → IsRow r M') ∧ (gi M' 0 9 = 1 ∨ gi M' 0 9 = gi M 0 9)
noncomputable def T129 : mT := (10, yX10_image, cX10_image, 2, (some .int))
set_option maxRecDepth 10000 in
theorem TE129 : sy_m[129]? = some T129 := rfl
theorem B129_37_38 : s_dk T129.2.2.1 37 [.aload_n 0] 38 = true := by decide +kernel
theorem B129_41_42 : s_dk T129.2.2.1 41 [.iload_n 1] 42 = true := by decide +kernel
theorem B129_43_44 : s_dk T129.2.2.1 43 [.aload_n 0] 44 = true := by decide +kernel
theorem B129_50_52 : s_dk T129.2.2.1 50 [.aload_n 0, .iconst 0] 52 = true := by decide +kernel
theorem B129_24_25 : s_dk T129.2.2.1 24 [.aload_n 0] 25 = true := by decide +kernel
theorem B129_28_29 : s_dk T129.2.2.1 28 [.iload_n 1] 29 = true := by decide +kernel
theorem B129_32_33 : s_dk T129.2.2.1 32 [.dup] 33 = true := by decide +kernel
noncomputable def T130 : mT := (10, yX10_back, cX10_back, 2, (some .int))
set_option maxRecDepth 10000 in
theorem TE130 : sy_m[130]? = some T130 := rfl
theorem B130_24_27 : s_dk T130.2.2.1 24 [.aload_n 0, .bipush (-2)] 27 = true := by decide +kernel
theorem B130_31_32 : s_dk T130.2.2.1 31 [.aload_n 0] 32 = true := by decide +kernel
theorem B130_35_36 : s_dk T130.2.2.1 35 [.aload_n 0] 36 = true := by decide +kernel
theorem B130_39_40 : s_dk T130.2.2.1 39 [.iload_n 1] 40 = true := by decide +kernel
theorem B130_44_46 : s_dk T130.2.2.1 44 [.aload_n 0, .iconst 0] 46 = true := by decide +kernel
theorem D129_20 : decode T129.2.2.1 20 = .ok (.aaload, 1) := by decide +kernel
theorem D129_21 : decode T129.2.2.1 21 = .ok (.ifnonnull 16, 3) := by decide +kernel
theorem D129_25 : decode T129.2.2.1 25 = .ok (.getfield 16, 3) := by decide +kernel
theorem D129_29 : decode T129.2.2.1 29 = .ok (.new 7, 3) := by decide +kernel
theorem D129_33 : decode T129.2.2.1 33 = .ok (.invokespecial 9, 3) := by decide +kernel
theorem D129_36 : decode T129.2.2.1 36 = .ok (.aastore, 1) := by decide +kernel
theorem D129_38 : decode T129.2.2.1 38 = .ok (.getfield 16, 3) := by decide +kernel
theorem D129_42 : decode T129.2.2.1 42 = .ok (.aaload, 1) := by decide +kernel
theorem D129_44 : decode T129.2.2.1 44 = .ok (.getfield 10, 3) := by decide +kernel
theorem D129_47 : decode T129.2.2.1 47 = .ok (.invokevirtual 331, 3) := by decide +kernel
theorem D129_52 : decode T129.2.2.1 52 = .ok (.invokevirtual 123, 3) := by decide +kernel
theorem D129_55 : decode T129.2.2.1 55 = .ok (.ireturn, 1) := by decide +kernel
theorem D130_20 : decode T130.2.2.1 20 = .ok (.aaload, 1) := by decide +kernel
theorem D130_21 : decode T130.2.2.1 21 = .ok (.ifnonnull 10, 3) := by decide +kernel
theorem D130_27 : decode T130.2.2.1 27 = .ok (.invokevirtual 106, 3) := by decide +kernel
theorem D130_30 : decode T130.2.2.1 30 = .ok (.ireturn, 1) := by decide +kernel
theorem D130_32 : decode T130.2.2.1 32 = .ok (.getfield 10, 3) := by decide +kernel
theorem D130_36 : decode T130.2.2.1 36 = .ok (.getfield 16, 3) := by decide +kernel
theorem D130_40 : decode T130.2.2.1 40 = .ok (.aaload, 1) := by decide +kernel
theorem D130_41 : decode T130.2.2.1 41 = .ok (.invokevirtual 331, 3) := by decide +kernel
theorem D130_46 : decode T130.2.2.1 46 = .ok (.invokevirtual 123, 3) := by decide +kernel
theorem D130_49 : decode T130.2.2.1 49 = .ok (.ireturn, 1) := by decide +kernel
theorem ck_10_virtual_331 : m_call 10 (.invokevirtual 331) = some (0, 58, 1) := by decide +kernel
theorem gf_10_16_0 : s_gf 10 16 0 = some (1, 15) := by decide +kernel
section
variable {base : Nat} {X : Nat → Option mC} {G : Nat → Value} {d : Nat}
theorem r_callD {t : mT} {pc pc' : Nat} {lv : sL} {st : List mV} {M : mH} {Q : Option Value → mH → Prop} {P : Option mV → mH → Prop} {ins : Instr} {k : Nat × Nat × Nat} {t' : mT} {c : Nat} {args rest : List mV} (hd : decode t.2.2.1 pc = .ok (ins, 3)) (hn : pc + 3 = pc') (hkk : m_call t.1 ins = some k) (ht : sy_m[k.2.1]? = some t') (ha : s_args k.1 k.2.2 st = some (vR c :: args, rest)) (h1 : s_sz rest ≤ 8) (h2 : s_sz (vR c :: args) ≤ t'.2.2.2.1 ∧ t'.2.2.2.1 ≤ 45) (hlt : c < M.1) (hkc : hk M c = m_oc t'.1) (h13 : t'.1 ≠ 13) (hd0 : 0 < d)
    (h : sOk base X G (d - 1) t' (vR c :: args) M P) (hh : ∀ v M', P v M' → sRn base X G d t pc' lv (v.toList ++ rest) M' Q) : sRn base X G d t pc lv st M Q := by
  refine r_cv hd hn hkk ht ha h1 h2 ?_ hd0 h hh
  unfold m_recv
  split
  · simp only [em_s, List.map_cons]
    rw [show em base (vR c) = Value.ref (base + c) from rfl]
    dsimp only
    first | rw [if_neg h13, m_own_own hlt] | rw [m_own_own hlt]
    show ((M.2.2 c).1 == m_oc t'.1) = true
    have e1 : (M.2.2 c).1 = m_oc t'.1 := hkc
    rw [e1]
    simp
  · rfl
theorem r_aastS {t : mT} {pc pc' : Nat} {lv : sL} {st : List mV} {M : mH} {Q : Option Value → mH → Prop} {r : Nat} {e : Int} (hd : decode t.2.2.1 pc = .ok (.aastore, 1)) (hn : pc + 1 = pc') (H : HI base M) (hr : r < M.1) (hk1 : hk M r = 7) (he : 0 ≤ e ∧ e ≤ 1) (h : ∀ M', Wr M 12 e.toNat (.ref (base + r)) M' → HI base M' → sRn base X G d t pc' lv st M' Q) : sRn base X G d t pc lv (vR r :: vI e :: vR 12 :: st) M Q := by
  obtain ⟨g1, g2, -⟩ := H.1.2 12 _ sc_12
  refine r_sv (w := .ref (base + r)) hd hn rfl (H.1.lt sc_12) (by rw [g1]; rfl) ?_ ⟨he.1, by rw [g2]; show e < (2 : Int); omega, by omega⟩ (fun M' u => h M' u ⟨H.1.wr u (fun q hq => ?_), H.2.wr u he.1 (fun lo hi hh => by cases hh)⟩)
  · rw [g1]
    show (match m_own base M (base + r) with
      | some x => if x.1 = 7 then some (Value.ref (base + r)) else none
      | none => none) = _
    rw [m_own_own hr]
    dsimp only
    rw [if_pos (show (M.2.2 r).1 = 7 from hk1)]
  · cases sc_12.symm.trans hq
    exact Or.inr ⟨_, rfl⟩
/-- what the copy into an image leaves -/
theorem img_ok {c k : Nat} {Mz M4 : mH} (H : HI base Mz) (hB : HB base Mz) (hN : HN base Mz) (hc : 111 ≤ c) (hs : StS base c Mz) (hv12 : hv Mz 12 k = .ref (base + c)) (hI : ∀ k', k' < 2 → k' ≠ k → hv Mz 12 k' = .null ∨ ∃ c', hv Mz 12 k' = .ref (base + c') ∧ IsSt base c' Mz) (P : CpP 1 c cpL Mz M4) : HI base M4 ∧ HB base M4 ∧ HN base M4 ∧ IMG base M4 ∧ (∀ r, r < 111 → sameC r Mz M4) ∧ ∀ r, IsRow r Mz → IsRow r M4 := by
  have hM := H.m
  have hle : Mz.1 ≤ M4.1 := by rw [P.1]; exact Nat.le_refl _
  have s1 : ∀ r, r < 111 → sameC r Mz M4 := fun r hr => P.same (by omega)
  have hh : ∀ hb nh nc, IsHab base hb nh nc Mz → IsHab base hb nh nc M4 := fun hb nh nc h => h.of hle (fun r x y => P.same (hab_dis h hs x y))
  have hkk : ∀ r, r < Mz.1 → hk Mz r = 3 → hk M4 r = 3 := fun r _ q => (P.2.2.1 r).1.trans q
  have I4 := IsSt.made H hB hN hc hs P
  refine ⟨H.of hle s1, fun t t1 t2 => ?_, hN.of hle (s1 9 (by decide)).2.2 hkk, fun k' hk' => ?_, s1, fun r hr => hr.of hle (P.same (row_dis hr hs))⟩
  · rw [(s1 1 (by decide)).gi] at t2
    obtain ⟨hb, nh, nc, a, b, e⟩ := hB t t1 t2
    exact ⟨hb, nh, nc, by rw [(s1 9 (by decide)).2.2]; exact a, hh _ _ _ b, e⟩
  · rw [(s1 12 (by decide)).2.2]
    by_cases e : k' = k
    · subst e
      exact Or.inr ⟨c, hv12, I4⟩
    · rcases hI k' hk' e with q | ⟨c', a, b⟩
      · exact Or.inl q
      · by_cases ec : c' = c
        · subst ec; exact Or.inr ⟨c', a, I4⟩
        · exact Or.inr ⟨c', a, b.of hle (fun r x y => P.same (by have := st_dis b.2.1 hs ec; omega)) hh hkk⟩
theorem acc_ok {M4 M5 : mH} (H : HI base M4) (hB : HB base M4) (hN : HN base M4) (hI : IMG base M4) (f : Fr [(0, 6), (0, 10)] M4 M5) : HB base M5 ∧ HN base M5 ∧ IMG base M5 ∧ (∀ c, 12 < c → c < 111 → sameC c M4 M5) ∧ (∀ r, IsRow r M4 → IsRow r M5) := by
  refine ⟨hB.fr f rfl, hN.fr f rfl, hI.fz H.m (f.q rfl).z rfl, fun c h1 h2 => ⟨(f.2.2 c).1, (f.2.2 c).2.1, fun i => (f.2.2 c).2.2 i (by simp [s_md]; omega)⟩, (f.q rfl).2.2.2⟩
set_option maxRecDepth 4000 in
theorem v129 (E : EnvOK base X G) (hd : 2 ≤ d) {Mz : mH} (H : HI base Mz) (hB : HB base Mz) (hN : HN base Mz) {k : Int} (hk : 0 ≤ k ∧ k ≤ 1) {c : Nat} (hc : 111 ≤ c) (hv12 : hv Mz 12 k.toNat = .ref (base + c)) (hs : StS base c Mz) (hI : ∀ k', k' < 2 → k' ≠ k.toNat → hv Mz 12 k' = .null ∨ ∃ c', hv Mz 12 k' = .ref (base + c') ∧ IsSt base c' Mz) {P : Int → mH → Prop} (hP : ∀ M', HI base M' → HB base M' → HN base M' → IMG base M' → M'.1 = Mz.1 → M'.2.1 = Mz.2.1 → (∀ c, 12 < c → c < 111 → sameC c Mz M') → (∀ r, IsRow r Mz → IsRow r M') → gi M' 0 9 = 1 → P 0 M') : sRn base X G d T129 37 [(0, vR 0), (1, vI k)] [] Mz (s_Q base (pI P)) := by
  refine s_blx (lv' := [(0, vR 0), (1, vI k)]) (st' := [vR 0]) B129_37_38 rfl ?_
  refine r_gfix (r := 12) (pc' := 41) D129_38 rfl gf_10_16_0 H.1 ?_
  refine s_blx (lv' := [(0, vR 0), (1, vI k)]) (st' := [vI k, vR 12]) B129_41_42 rfl ?_
  refine r_aald (v := vR c) (pc' := 43) D129_42 rfl sc_12 (by decide) H.1 (by omega) hv12 ?_
  refine s_blx (lv' := [(0, vR 0), (1, vI k)]) (st' := [vR 0, vR c]) B129_43_44 rfl ?_
  refine r_gfix (r := 1) (pc' := 47) D129_44 rfl gf_10_10_0 H.1 ?_
  refine r_callD (c := c) (args := [vR 1]) (rest := []) (pc' := 50) D129_47 rfl ck_10_virtual_331 TE58 rfl (Nat.le_of_ble_eq_true rfl) ⟨Nat.le_of_ble_eq_true rfl, Nat.le_of_ble_eq_true rfl⟩ (by have := hs.1; omega) (hs.2.1 0 _ rfl).1 (by decide) (by omega) (k58 (StS.one H hN) hs (Or.inl (by omega))) ?_
  rintro v M4 ⟨rfl, P4⟩
  obtain ⟨H4, B4, N4, I4, s4, r4⟩ := img_ok H hB hN hc hs hv12 hI P4
  show sRn _ _ _ _ _ 50 [(0, vR 0), (1, vI k)] [] _ _
  refine s_blx (lv' := [(0, vR 0), (1, vI k)]) (st' := [vI 0, vR 0]) B129_50_52 rfl ?_
  refine r_vI (c := 0) (args := [vI 0]) (rest := []) (pc' := 55) D129_52 rfl ck_10_virtual_123 TE134 rfl (Nat.le_of_ble_eq_true rfl) ⟨Nat.le_of_ble_eq_true rfl, Nat.le_of_ble_eq_true rfl⟩ sc_0 ⟨rfl, by decide⟩ H4.1 (dp_0 hd rfl) (k134s E (dp_n hd rfl) H4 0 (by omega)) ?_
  intro v M5 q
  obtain ⟨H5, f5, e5, g5⟩ := q
  subst e5
  obtain ⟨B5, N5, I5, s5, r5⟩ := acc_ok H4 B4 N4 I4 f5
  exact r_iretI D129_55 rfl (hP M5 H5 B5 N5 I5 (by rw [f5.1, P4.1]) (by rw [f5.2.1, P4.2.1]) (fun c a b => (s4 c b).tr (s5 c a b)) (fun r hr => r5 r (r4 r hr)) g5)
theorem StS.ofPs {M M2 : mH} (P : Ps base sc57_30 M M2) : StS base M.1 M2 := by
  have q0 := P.2.2.2 0 _ rfl
  have z := q0.2.2
  refine ⟨by have := P.1; have e : M2.1 = M.1 + 11 := this; omega, fun j y hy => ?_, fun k r hr => ?_, fun k hk => ?_, fun i hi => ?_⟩
  · have hl : j < 11 := (List.getElem?_eq_some_iff.mp hy).1
    match j, hl, hy with
    | 0, _, h => cases h; have y := P.2.2.2 0 _ rfl; exact ⟨y.1, y.2.1⟩
    | 1, _, h => cases h; have y := P.2.2.2 1 _ rfl; exact ⟨y.1, y.2.1⟩
    | 2, _, h => cases h; have y := P.2.2.2 2 _ rfl; exact ⟨y.1, y.2.1⟩
    | 3, _, h => cases h; have y := P.2.2.2 3 _ rfl; exact ⟨y.1, y.2.1⟩
    | 4, _, h => cases h; have y := P.2.2.2 4 _ rfl; exact ⟨y.1, y.2.1⟩
    | 5, _, h => cases h; have y := P.2.2.2 5 _ rfl; exact ⟨y.1, y.2.1⟩
    | 6, _, h => cases h; have y := P.2.2.2 6 _ rfl; exact ⟨y.1, y.2.1⟩
    | 7, _, h => cases h; have y := P.2.2.2 7 _ rfl; exact ⟨y.1, y.2.1⟩
    | 8, _, h => cases h; have y := P.2.2.2 8 _ rfl; exact ⟨y.1, y.2.1⟩
    | 9, _, h => cases h; have y := P.2.2.2 9 _ rfl; exact ⟨y.1, y.2.1⟩
    | 10, _, h => cases h; have y := P.2.2.2 10 _ rfl; exact ⟨y.1, y.2.1⟩
    | j + 11, h, _ => omega
  · have key : ∀ r : Nat, Value.ref (base + ((M.1 : Int) + (r : Int)).toNat) = Value.ref (base + (M.1 + r)) := fun r => by congr 2
    unfold stR at hr
    split at hr
    · cases hr; have y : hv M2 M.1 0 = Value.ref (base + ((M.1 : Int) + 1).toNat) := (z 0).1 (by decide); rw [y]; exact key 1
    · cases hr; have y : hv M2 M.1 1 = Value.ref (base + ((M.1 : Int) + 2).toNat) := (z 1).1 (by decide); rw [y]; exact key 2
    · cases hr; have y : hv M2 M.1 3 = Value.ref (base + ((M.1 : Int) + 3).toNat) := (z 3).1 (by decide); rw [y]; exact key 3
    · cases hr; have y : hv M2 M.1 6 = Value.ref (base + ((M.1 : Int) + 4).toNat) := (z 6).1 (by decide); rw [y]; exact key 4
    · cases hr; have y : hv M2 M.1 7 = Value.ref (base + ((M.1 : Int) + 5).toNat) := (z 7).1 (by decide); rw [y]; exact key 5
    · cases hr; have y : hv M2 M.1 8 = Value.ref (base + ((M.1 : Int) + 6).toNat) := (z 8).1 (by decide); rw [y]; exact key 6
    · cases hr; have y : hv M2 M.1 9 = Value.ref (base + ((M.1 : Int) + 7).toNat) := (z 9).1 (by decide); rw [y]; exact key 7
    · cases hr; have y : hv M2 M.1 11 = Value.ref (base + ((M.1 : Int) + 8).toNat) := (z 11).1 (by decide); rw [y]; exact key 8
    · cases hr; have y : hv M2 M.1 13 = Value.ref (base + ((M.1 : Int) + 9).toNat) := (z 13).1 (by decide); rw [y]; exact key 9
    · cases hr; have y : hv M2 M.1 15 = Value.ref (base + ((M.1 : Int) + 10).toNat) := (z 15).1 (by decide); rw [y]; exact key 10
    · cases hr
  · unfold stI at hk
    simp only [Bool.or_eq_true, beq_iff_eq] at hk
    rcases hk with ((((rfl | rfl) | rfl) | rfl) | rfl) | rfl
    · obtain ⟨x, e, -⟩ := (z 2).1 (by decide); exact ⟨x, e⟩
    · obtain ⟨x, e, -⟩ := (z 4).1 (by decide); exact ⟨x, e⟩
    · obtain ⟨x, e, -⟩ := (z 5).1 (by decide); exact ⟨x, e⟩
    · obtain ⟨x, e, -⟩ := (z 10).1 (by decide); exact ⟨x, e⟩
    · obtain ⟨x, e, -⟩ := (z 12).1 (by decide); exact ⟨x, e⟩
    · obtain ⟨x, e, -⟩ := (z 14).1 (by decide); exact ⟨x, e⟩
  · have y := P.2.2.2 8 _ rfl
    exact Or.inl ((y.2.2 i).1 hi)
set_option maxRecDepth 4000 in
theorem u129 (E : EnvOK base X G) (hd : 3 ≤ d) {M : mH} (H : HI base M) (hB : HB base M) (hN : HN base M) (hI : IMG base M) {k : Int} (hk : 0 ≤ k ∧ k ≤ 1) {P : Int → mH → Prop} (hP : ∀ M', ImP base M M' → P 0 M') : sRn base X G d T129 20 [(0, vR 0), (1, vI k)] [vI k, vR 12] M (s_Q base (pI P)) := by
  have hM := H.m
  rcases hI k.toNat (by omega) with hnull | ⟨c, hc12, hSt⟩
  · refine r_aald (v := vN) (pc' := 21) D129_20 rfl sc_12 (by decide) H.1 (by omega) hnull ?_
    refine r_ifnonnull (q := none) (tgt := 37) (pc' := 24) D129_21 rfl rfl (fun hq_ => absurd hq_ (by simp)) (fun hq_ => ?_)
    refine s_blx (lv' := [(0, vR 0), (1, vI k)]) (st' := [vR 0]) B129_24_25 rfl ?_
    refine r_gfix (r := 12) (pc' := 28) D129_25 rfl gf_10_16_0 H.1 ?_
    refine s_blx (lv' := [(0, vR 0), (1, vI k)]) (st' := [vI k, vR 12]) B129_28_29 rfl ?_
    refine p_new [(4, 0, 0), (4, 0, 0), (1, 0, 0), (4, 0, 0), (1, 0, 0), (1, 0, 0), (4, 0, 0), (4, 0, 0), (4, 0, 0), (4, 0, 0), (1, 0, 0), (4, 0, 0), (1, 0, 0), (4, 0, 0), (1, 0, 0), (4, 0, 0)] (pc' := 32) D129_29 rfl nw_10_7 rfl (Ps.nil (base := base) (M := M)) pd_7 0 rfl (fun M1 P1 => ?_)
    show sRn _ _ _ _ _ 32 _ [vR M.1, vI k, vR 12] _ _
    refine s_blx (lv' := [(0, vR 0), (1, vI k)]) (st' := [vR M.1, vR M.1, vI k, vR 12]) B129_32_33 rfl ?_
    refine r_calls (args := [vR M.1]) (rest := [vR M.1, vI k, vR 12]) (pc' := 36) D129_33 rfl ck_10_special_9 TE57 rfl (Nat.le_of_ble_eq_true rfl) ⟨Nat.le_of_ble_eq_true rfl, Nat.le_of_ble_eq_true rfl⟩ (by decide) (by omega) (c57 E (by omega) P1 rfl) ?_
    rintro v M2 ⟨rfl, P2⟩
    show sRn _ _ _ _ _ 36 [(0, vR 0), (1, vI k)] [vR M.1, vI k, vR 12] _ _
    have hs2 := StS.ofPs P2
    have n2 : M2.1 = M.1 + 11 := P2.1
    have l2 : M2.2.1 = M.2.1 + 493 := P2.2.1
    have s2 := P2.2.2.1
    have H2 : HI base M2 := H.of (by omega) (fun c hc => s2 c (by omega))
    have B2 := hB.alloc (by omega) hM s2
    have N2 := hN.alloc (by omega) hM s2
    refine r_aastS (pc' := 37) D129_36 rfl H2 (by omega) (hs2.2.1 0 _ rfl).1 hk ?_
    intro M3 u3 H3
    have hle3 : M2.1 ≤ M3.1 := by rw [u3.n1]; exact Nat.le_refl _
    have hs3 : StS base M.1 M3 := by
      obtain ⟨h1, h2, h3, h4, h5⟩ := hs2
      have s : ∀ r, M.1 ≤ r → sameC r M2 M3 := fun r hr => u3.same (by omega)
      refine ⟨by rw [u3.n1]; exact h1, fun j z hz => ?_, fun k r hr => ?_, fun k hk => ?_, fun i hi => ?_⟩
      · have sj := s (M.1 + j) (by omega)
        rw [sj.1, sj.2.1]; exact h2 j z hz
      · rw [(s M.1 (Nat.le_refl _)).2.2]; exact h3 k r hr
      · rw [(s M.1 (Nat.le_refl _)).2.2]; exact h4 k hk
      · rw [(s (M.1 + 8) (by omega)).2.2]
        rcases h5 i hi with q | ⟨x, q1, q2, q3⟩
        · exact Or.inl q
        · exact Or.inr ⟨x, q1, by rw [u3.n1]; exact q2, by rw [u3.k]; exact q3⟩
    refine v129 E (by omega) H3 (B2.wr u3 ⟨by decide, by decide, Or.inl (by decide)⟩) (N2.wr u3 (by decide)) hk hM u3.eq hs3 (fun k' hk' hne => ?_) (fun M' a1 a2 a3 a4 a5 a6 a7 a8 a9 => hP M' ⟨a1, a2, a3, a4, ⟨by rw [a5, u3.n1, n2]; omega, by rw [a5, u3.n1, n2]; omega⟩, by rw [a6, u3.n2, l2]; omega, fun c x y => ((s2 c (by omega)).tr (u3.same (by omega))).tr (a7 c x y), fun r hr => a8 r ((hr.of (by omega) (s2 r hr.2.1)).wr u3 (Or.inl (by decide))), Or.inl a9⟩)
    rw [u3.ne (Or.inr hne), (s2 12 (by omega)).2.2]
    rcases hI k' hk' with q | ⟨c', a, b⟩
    · exact Or.inl q
    · refine Or.inr ⟨c', a, ?_⟩
      have b2 := b.of (M' := M2) (by omega) (fun r x y => s2 r (by have := b.2.1.1; omega)) (fun hb nh nc hh => hh.of (by omega) (fun r x y => s2 r (by have := hh.2.1; omega))) (fun r hr q => (s2 r hr).1.trans q)
      exact b2.of hle3 (fun r x y => u3.same (by have := b.1; omega)) (fun hb nh nc hh => hh.wr u3 (by decide)) (fun r hr q => (u3.k r).trans q)
  · refine r_aald (v := vR c) (pc' := 21) D129_20 rfl sc_12 (by decide) H.1 (by omega) hc12 ?_
    refine r_ifnonnull (q := some (.inl c)) (tgt := 37) (pc' := 24) D129_21 rfl rfl (fun hq_ => ?_) (fun hq_ => absurd hq_ (by simp))
    exact v129 E (by omega) H hB hN hk hSt.1 hc12 hSt.2.1 (fun k' hk' _ => hI k' hk') (fun M' a1 a2 a3 a4 a5 a6 a7 a8 a9 => hP M' ⟨a1, a2, a3, a4, ⟨by omega, by omega⟩, by omega, a7, a8, Or.inl a9⟩)
set_option maxRecDepth 4000 in
theorem u130 (E : EnvOK base X G) (hd : 2 ≤ d) {M : mH} (H : HI base M) (hB : HB base M) (hN : HN base M) (hI : IMG base M) {k : Int} (hk : 0 ≤ k ∧ k ≤ 1) {P : Int → mH → Prop} (hP : ∀ v M', ImP base M M' → P v M') : sRn base X G d T130 20 [(0, vR 0), (1, vI k)] [vI k, vR 12] M (s_Q base (pI P)) := by
  have hM := H.m
  rcases hI k.toNat (by omega) with hnull | ⟨c, hc12, hSt⟩
  · refine r_aald (v := vN) (pc' := 21) D130_20 rfl sc_12 (by decide) H.1 (by omega) hnull ?_
    refine r_ifnonnull (q := none) (tgt := 31) (pc' := 24) D130_21 rfl rfl (fun hq_ => absurd hq_ (by simp)) (fun hq_ => ?_)
    refine s_blx (lv' := [(0, vR 0), (1, vI k)]) (st' := [vI (-2), vR 0]) B130_24_27 rfl ?_
    refine r_vI (c := 0) (args := [vI (-2)]) (rest := []) (pc' := 30) D130_27 rfl ck_10_virtual_106 TE133 rfl (Nat.le_of_ble_eq_true rfl) ⟨Nat.le_of_ble_eq_true rfl, Nat.le_of_ble_eq_true rfl⟩ sc_0 ⟨rfl, by decide⟩ H.1 (dp_0 hd rfl) (k133 E (dp_n hd rfl) H (-2) (by omega)) ?_
    intro v M5 q
    obtain ⟨H5, f5, e5⟩ := q
    obtain ⟨B5, N5, I5, s5, r5⟩ := acc_ok H hB hN hI (f5.up rfl)
    exact r_iretI D130_30 rfl (hP _ M5 ⟨H5, B5, N5, I5, ⟨by rw [f5.1]; omega, by rw [f5.1]; omega⟩, by rw [f5.2.1]; omega, s5, r5, Or.inr (f5.g rfl)⟩)
  · refine r_aald (v := vR c) (pc' := 21) D130_20 rfl sc_12 (by decide) H.1 (by omega) hc12 ?_
    refine r_ifnonnull (q := some (.inl c)) (tgt := 31) (pc' := 24) D130_21 rfl rfl (fun hq_ => ?_) (fun hq_ => absurd hq_ (by simp))
    refine s_blx (lv' := [(0, vR 0), (1, vI k)]) (st' := [vR 0]) B130_31_32 rfl ?_
    refine r_gfix (r := 1) (pc' := 35) D130_32 rfl gf_10_10_0 H.1 ?_
    refine s_blx (lv' := [(0, vR 0), (1, vI k)]) (st' := [vR 0, vR 1]) B130_35_36 rfl ?_
    refine r_gfix (r := 12) (pc' := 39) D130_36 rfl gf_10_16_0 H.1 ?_
    refine s_blx (lv' := [(0, vR 0), (1, vI k)]) (st' := [vI k, vR 12, vR 1]) B130_39_40 rfl ?_
    refine r_aald (v := vR c) (pc' := 41) D130_40 rfl sc_12 (by decide) H.1 (by omega) hc12 ?_
    refine r_callv (c := 1) (args := [vR c]) (rest := []) (pc' := 44) D130_41 rfl ck_10_virtual_331 TE58 rfl (Nat.le_of_ble_eq_true rfl) ⟨Nat.le_of_ble_eq_true rfl, Nat.le_of_ble_eq_true rfl⟩ sc_1 ⟨rfl, by decide⟩ H.1 (by omega) (k58 hSt.2.1 (StS.one H hN) (Or.inr (by have := hSt.1; omega))) ?_
    rintro v M4 ⟨rfl, P4⟩
    obtain ⟨H4, B4, N4⟩ := back_ok H hSt P4
    have hle : M.1 ≤ M4.1 := by rw [P4.1]; exact Nat.le_refl _
    have s4 : ∀ r, 11 < r → sameC r M M4 := fun r hr => P4.same (by omega)
    have I4 : IMG base M4 := hI.of hle (s4 12 (by decide)).2.2 (fun c' r hs x y => s4 r (by have := hs.1; omega)) (fun hb nh nc hh => hh.of hle (fun r x y => s4 r (by have := hh.1; omega))) (fun r hr q => (P4.2.2.1 r).1.trans q)
    show sRn _ _ _ _ _ 44 [(0, vR 0), (1, vI k)] [] _ _
    refine s_blx (lv' := [(0, vR 0), (1, vI k)]) (st' := [vI 0, vR 0]) B130_44_46 rfl ?_
    refine r_vI (c := 0) (args := [vI 0]) (rest := []) (pc' := 49) D130_46 rfl ck_10_virtual_123 TE134 rfl (Nat.le_of_ble_eq_true rfl) ⟨Nat.le_of_ble_eq_true rfl, Nat.le_of_ble_eq_true rfl⟩ sc_0 ⟨rfl, by decide⟩ H4.1 (dp_0 hd rfl) (k134s E (dp_n hd rfl) H4 0 (by omega)) ?_
    intro v M5 q
    obtain ⟨H5, f5, e5, g5⟩ := q
    obtain ⟨B5, N5, I5, s5, r5⟩ := acc_ok H4 B4 N4 I4 f5
    exact r_iretI D130_49 rfl (hP _ M5 ⟨H5, B5, N5, I5, ⟨by rw [f5.1, P4.1]; omega, by rw [f5.1, P4.1]; omega⟩, by rw [f5.2.1, P4.2.1]; omega, fun c a b => (s4 c (by omega)).tr (s5 c a b), fun r hr => r5 r (hr.of hle (s4 r (by have := hr.1; omega))), Or.inl g5⟩)
end
