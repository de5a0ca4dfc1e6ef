/-! A State is copied into another. -/
noncomputable def stZ : List (Nat × Nat) := [(7, 16), (1000, 90), (1000, 9), (1000, 36), (1000, 128), (1000, 16), (1000, 48), (1000, 64), (1007, 8), (1000, 18), (1000, 60)]
noncomputable def stR (k : Nat) : Option Nat := match k with
  | 0 => some 1
  | 1 => some 2
  | 3 => some 3
  | 6 => some 4
  | 7 => some 5
  | 8 => some 6
  | 9 => some 7
  | 11 => some 8
  | 13 => some 9
  | 15 => some 10
  | _ => none
noncomputable def stI (k : Nat) : Bool := k == 2 || k == 4 || k == 5 || k == 10 || k == 12 || k == 14
/-- the shape of a State at c, its arrays behind it -/
noncomputable def StS (base c : Nat) (M : mH) : Prop := c + 10 < M.1 ∧ (∀ j z, stZ[j]? = some z → hk M (c + j) = z.1 ∧ hz M (c + j) = z.2) ∧ (∀ k r, stR k = some r → hv M c k = .ref (base + (c + r))) ∧ (∀ k, stI k = true → ∃ x : Int32, hv M c k = .int x) ∧ ∀ i, i < 8 → hv M (c + 8) i = .null ∨ ∃ h, hv M (c + 8) i = .ref (base + h) ∧ h < M.1 ∧ hk M h = 3
noncomputable def cpD (L : List (Nat × Nat × Nat)) (j i : Nat) : Bool := L.any fun q => q.1 == j && (decide (q.2.1 ≤ i) && decide (i < q.2.2))
/-- M is M0 but for the slots of L of the State at ct, which are as those at cf were -/
noncomputable def CpP (cf ct : Nat) (L : List (Nat × Nat × Nat)) (M0 M : mH) : Prop := M.1 = M0.1 ∧ M.2.1 = M0.2.1 ∧ (∀ c, hk M c = hk M0 c ∧ hz M c = hz M0 c) ∧ ∀ c i, hv M c i = if ct ≤ c ∧ c ≤ ct + 10 ∧ cpD L (c - ct) i = true then hv M0 (cf + (c - ct)) i else hv M0 c i
theorem CpP.nil {cf ct : Nat} {M : mH} : CpP cf ct [] M M := ⟨rfl, rfl, fun _ => ⟨rfl, rfl⟩, fun c i => by rw [if_neg (fun h => by cases h.2.2)]⟩
theorem CpP.add {cf ct j lo hi : Nat} {L : List (Nat × Nat × Nat)} {M0 M M' : mH} (h : CpP cf ct L M0 M) (n1 : M'.1 = M.1) (n2 : M'.2.1 = M.2.1) (kz : ∀ c, hk M' c = hk M c ∧ hz M' c = hz M c) (hs : ∀ c i, hv M' c i = if c = ct + j ∧ lo ≤ i ∧ i < hi then hv M (cf + j) i else hv M c i) (hd : cf + 10 < ct ∨ ct + 10 < cf) (hj : j ≤ 10) : CpP cf ct ((j, lo, hi) :: L) M0 M' := by
  obtain ⟨h1, h2, h3, h4⟩ := h
  refine ⟨n1.trans h1, n2.trans h2, fun c => ⟨(kz c).1.trans (h3 c).1, (kz c).2.trans (h3 c).2⟩, fun c i => ?_⟩
  have hsrc : hv M (cf + j) i = hv M0 (cf + j) i := by rw [h4, if_neg (by omega)]
  have e : cpD ((j, lo, hi) :: L) (c - ct) i = ((j == c - ct && (decide (lo ≤ i) && decide (i < hi))) || cpD L (c - ct) i) := rfl
  rw [hs]
  by_cases hc : c = ct + j ∧ lo ≤ i ∧ i < hi
  · obtain ⟨rfl, a, b⟩ := hc
    have hh : cpD ((j, lo, hi) :: L) (ct + j - ct) i = true := by
      rw [e, show ct + j - ct = j by omega]
      simp [a, b]
    rw [if_pos ⟨rfl, a, b⟩, if_pos ⟨by omega, by omega, hh⟩, hsrc, show ct + j - ct = j by omega]
  · rw [if_neg hc, h4]
    by_cases hq : ct ≤ c ∧ c ≤ ct + 10 ∧ cpD L (c - ct) i = true
    · have hh : cpD ((j, lo, hi) :: L) (c - ct) i = true := by
        rw [e, hq.2.2]; simp
      rw [if_pos hq, if_pos ⟨hq.1, hq.2.1, hh⟩]
    · rw [if_neg hq, if_neg ?_]
      intro z
      rw [e, Bool.or_eq_true] at z
      rcases z.2.2 with y | y
      · simp only [Bool.and_eq_true, beq_iff_eq, decide_eq_true_eq] at y
        exact hc ⟨by omega, y.2⟩
      · exact hq ⟨z.1, z.2.1, y⟩
theorem CpP.eq {cf ct : Nat} {L L' : List (Nat × Nat × Nat)} {M0 M : mH} (h : CpP cf ct L M0 M) (e : ∀ j i, cpD L j i = cpD L' j i) : CpP cf ct L' M0 M := ⟨h.1, h.2.1, h.2.2.1, fun c i => by rw [← e]; exact h.2.2.2 c i⟩
theorem cpD_z {L : List (Nat × Nat × Nat)} {j j' i : Nat} : cpD ((j, 0, 0) :: L) j' i = cpD L j' i := by
  show ((j == j' && (decide (0 ≤ i) && decide (i < 0))) || cpD L j' i) = _
  simp
theorem CpP.join {cf ct j a : Nat} {L : List (Nat × Nat × Nat)} {M0 M : mH} (h : CpP cf ct ((j, a, a + 1) :: (j, 0, a) :: L) M0 M) : CpP cf ct ((j, 0, a + 1) :: L) M0 M := h.eq (fun j' i => by
  show ((j == j' && (decide (a ≤ i) && decide (i < a + 1))) || ((j == j' && (decide (0 ≤ i) && decide (i < a))) || cpD L j' i)) = ((j == j' && (decide (0 ≤ i) && decide (i < a + 1))) || cpD L j' i)
  cases cpD L j' i
  · simp only [Bool.or_false]
    by_cases hj : j = j'
    · rw [Bool.eq_iff_iff]
      simp only [Bool.or_eq_true, Bool.and_eq_true, beq_iff_eq, decide_eq_true_eq]
      omega
    · have hj2 : (j == j') = false := by simpa using hj
      rw [hj2]; rfl
  · simp)
noncomputable def cpOk (L : List (Nat × Nat × Nat)) : Bool := L.all fun q => q.1 != 0 || (stI q.2.1 && q.2.2 == q.2.1 + 1)
theorem cpOk_ok {L : List (Nat × Nat × Nat)} (h : cpOk L = true) {k : Nat} (hk : cpD L 0 k = true) : stI k = true := by
  unfold cpD at hk
  rw [List.any_eq_true] at hk
  obtain ⟨q, hq, z⟩ := hk
  have := List.all_eq_true.mp h q hq
  simp only [Bool.and_eq_true, Bool.or_eq_true, beq_iff_eq, bne_iff_ne, decide_eq_true_eq] at this z
  rcases this with y | y
  · exact absurd z.1 y
  · have e : k = q.2.1 := by omega
    rw [e]; exact y.1
theorem stR_I {k r : Nat} (h : stR k = some r) : stI k = false := by
  unfold stR at h
  split at h <;> first | rfl | (cases h; done)
theorem StS.cp {base c cf ct : Nat} {L : List (Nat × Nat × Nat)} {M0 M : mH} (h : StS base c M0) (P : CpP cf ct L M0 M) (ok : cpOk L = true) (hf : StS base cf M0) (hd : cf + 10 < ct ∨ ct + 10 < cf) (hc : c = cf ∨ c = ct) : StS base c M := by
  obtain ⟨p1, p2, p3, p4⟩ := P
  obtain ⟨h1, h2, h3, h4, h5⟩ := h
  obtain ⟨g1, g2, g3, g4, g5⟩ := hf
  refine ⟨by omega, fun j z hz => ?_, fun k r hr => ?_, fun k hk => ?_, fun i hi => ?_⟩
  · rw [(p3 _).1, (p3 _).2]; exact h2 j z hz
  · rw [p4, if_neg]
    · exact h3 k r hr
    · intro z
      have e : c - ct = 0 := by omega
      rw [e] at z
      have := cpOk_ok ok z.2.2
      rw [stR_I hr] at this
      cases this
  · rw [p4]
    split
    · next z =>
      have e : c - ct = 0 := by omega
      rw [e]
      exact g4 k hk
    · exact h4 k hk
  · rw [p4]
    split
    · next z =>
      have e : c + 8 - ct = 8 := by omega
      rw [e]
      rcases g5 i hi with q | ⟨x, q1, q2, q3⟩
      · exact Or.inl q
      · exact Or.inr ⟨x, q1, by rw [p1]; exact q2, by rw [(p3 x).1]; exact q3⟩
    · rcases h5 i hi with q | ⟨x, q1, q2, q3⟩
      · exact Or.inl q
      · exact Or.inr ⟨x, q1, by rw [p1]; exact q2, by rw [(p3 x).1]; exact q3⟩
section
variable {base : Nat} {X : Nat → Option mC} {G : Nat → Value} {d : Nat} {t : mT} {pc pc' : Nat} {lv : sL} {st : List mV} {M : mH} {Q : Option Value → mH → Prop}
theorem st_gf {i c k r : Nat} (hd : decode t.2.2.1 pc = .ok (.getfield i, 3)) (hn : pc + 3 = pc') (ho : t.1 ≠ 13) (hf : m_fi t.1 i = some (7, k)) (hs : StS base c M) (hr : stR k = some r) (hk : k < 16) (h : sRn base X G d t pc' lv (vR (c + r) :: st) M Q) : sRn base X G d t pc lv (vR c :: st) M Q := by
  obtain ⟨h1, h2, h3, -⟩ := hs
  obtain ⟨a, b⟩ := h2 0 (7, 16) rfl
  exact r_gv (v := vR (c + r)) hd hn ho hf (by omega) a (by rw [show hz M c = 16 from b]; exact hk) (h3 k r hr) h
theorem st_gi {i c k : Nat} (hd : decode t.2.2.1 pc = .ok (.getfield i, 3)) (hn : pc + 3 = pc') (ho : t.1 ≠ 13) (hf : m_fi t.1 i = some (7, k)) (hs : StS base c M) (hr : stI k = true) (hk : k < 16) (h : ∀ w, inR w → hv M c k = .int (Int32.ofInt w) → sRn base X G d t pc' lv (vI w :: st) M Q) : sRn base X G d t pc lv (vR c :: st) M Q := by
  obtain ⟨h1, h2, h3, h4, -⟩ := hs
  obtain ⟨a, b⟩ := h2 0 (7, 16) rfl
  obtain ⟨x, hx⟩ := h4 k hr
  have hx2 : hv M c k = .int (Int32.ofInt x.toInt) := by rw [hx, Int32.ofInt_toInt]
  exact r_gv (v := vI x.toInt) hd hn ho hf (by omega) a (by rw [show hz M c = 16 from b]; exact hk) hx2 (h _ (inR_toInt x) hx2)
theorem st_len {c j n : Nat} {ni : Int} (hd : decode t.2.2.1 pc = .ok (.arraylength, 1)) (hn : pc + 1 = pc') (hs : StS base c M) (hj : stZ[j]? = some (1000, n)) (hi : ((n : Nat) : Int) = ni) (h : sRn base X G d t pc' lv (vI ni :: st) M Q) : sRn base X G d t pc lv (vR (c + j) :: st) M Q := by
  obtain ⟨a, b⟩ := hs.2.1 j _ hj
  have hl : j < 11 := (List.getElem?_eq_some_iff.mp hj).1
  refine r_lenv (w := vR (c + j)) (x := M.2.2 (c + j)) hd hn rfl (m_at_own (by have := hs.1; omega)) (by show 1000 ≤ hk M _; rw [a]; exact Nat.le_refl _) ?_
  rw [show ((M.2.2 (c + j)).2.1 : Int) = ni from by show ((hz M (c + j) : Nat) : Int) = ni; rw [b]; exact hi]
  exact h
variable {cf ct : Nat} {L : List (Nat × Nat × Nat)} {M0 : mH}
theorem c_acp {i j n : Nat} {ni : Int} (hd : decode t.2.2.1 pc = .ok (.invokestatic i, 3)) (hn : pc + 3 = pc') (hkk : m_call t.1 (.invokestatic i) = none) (hs : m_sp t.1 i = some 1) (h1 : s_sz st ≤ 8) (P : CpP cf ct L M0 M) (hf : StS base cf M) (ht : StS base ct M) (hj : stZ[j]? = some (1000, n)) (hi : ((n : Nat) : Int) = ni) (hb : n ≤ 1000) (hdj : cf + 10 < ct ∨ ct + 10 < cf)
    (h : ∀ M', CpP cf ct ((j, 0, n) :: L) M0 M' → sRn base X G d t pc' lv st M' Q) : sRn base X G d t pc lv (vI ni :: vI 0 :: vR (ct + j) :: vI 0 :: vR (cf + j) :: st) M Q := by
  obtain ⟨a1, b1⟩ := hf.2.1 j _ hj
  obtain ⟨a2, b2⟩ := ht.2.1 j _ hj
  have hl : j < 11 := (List.getElem?_eq_some_iff.mp hj).1
  have l1 := hf.1
  have l2 := ht.1
  dsimp only at a1 b1 a2 b2
  refine r_acpyG hd hn hkk hs h1 ⟨by omega, a1⟩ ⟨by omega, a2⟩ ⟨by decide, by decide, by omega, by rw [b1]; omega, by rw [b2]; omega, by omega, by omega⟩ (fun M' u => h M' (P.add u.n1 u.n2 (fun c => ⟨u.k c, u.z c⟩) (fun c i => ?_) hdj (by omega)))
  by_cases hc : c = ct + j
  · subst hc
    rw [u.eq]
    by_cases hi2 : i < n
    · rw [if_pos ⟨by show 0 ≤ i; omega, by show i < 0 + ni.toNat; omega⟩, if_pos ⟨rfl, by omega, hi2⟩]
      show hv M (cf + j) (0 + (i - 0)) = _
      rw [show 0 + (i - 0) = i by omega]
    · rw [if_neg (by show ¬ (0 ≤ i ∧ i < 0 + ni.toNat); omega), if_neg (by omega)]
  · rw [u.ne hc, if_neg (by omega)]
theorem c_pi {i k : Nat} {w : Int} (hd : decode t.2.2.1 pc = .ok (.putfield i, 3)) (hn : pc + 3 = pc') (hf : m_fi t.1 i = some (7, k)) (hty : m_fty 7 k = some .int) (hfin : m_fin 7 k = false) (P : CpP cf ct L M0 M) (ht : StS base ct M) (hk : k < 16) (hw : hv M cf k = .int (Int32.ofInt w)) (hdj : cf + 10 < ct ∨ ct + 10 < cf)
    (h : ∀ M', CpP cf ct ((0, k, k + 1) :: L) M0 M' → sRn base X G d t pc' lv st M' Q) : sRn base X G d t pc lv (vI w :: vR ct :: st) M Q := by
  obtain ⟨a, b⟩ := ht.2.1 0 (7, 16) rfl
  have l2 := ht.1
  refine r_pv hd hn hf (by omega) a (by rw [show hz M ct = 16 from b]; exact hk) hty rfl rfl (Or.inl hfin) (fun M' u => h M' (P.add u.n1 u.n2 (fun c => ⟨u.k c, u.z c⟩) (fun c i => ?_) hdj (by omega)))
  by_cases hc : c = ct ∧ i = k
  · obtain ⟨rfl, rfl⟩ := hc
    rw [u.eq, if_pos ⟨by omega, by omega, by omega⟩]
    exact hw.symm
  · rw [u.ne (by omega), if_neg (by omega)]
theorem c_hab {pc1 pc2 : Nat} {e : Int} (hd1 : decode t.2.2.1 pc = .ok (.aaload, 1)) (hn1 : pc + 1 = pc1) (hd2 : decode t.2.2.1 pc1 = .ok (.aastore, 1)) (hn2 : pc1 + 1 = pc2) (P : CpP cf ct ((8, 0, e.toNat) :: L) M0 M) (hf : StS base cf M) (ht : StS base ct M) (he : 0 ≤ e ∧ e < 8) (hdj : cf + 10 < ct ∨ ct + 10 < cf)
    (h : ∀ M', CpP cf ct ((8, 0, (e + 1).toNat) :: L) M0 M' → sRn base X G d t pc2 lv st M' Q) : sRn base X G d t pc lv (vI e :: vR (cf + 8) :: vI e :: vR (ct + 8) :: st) M Q := by
  obtain ⟨a1, b1⟩ := hf.2.1 8 (1007, 8) rfl
  obtain ⟨a2, b2⟩ := ht.2.1 8 (1007, 8) rfl
  have l1 := hf.1
  have l2 := ht.1
  dsimp only at a1 b1 a2 b2
  have fin : ∀ (v : mV) (w : Value), hv M (cf + 8) e.toNat = w → em base v = w → m_okA base M 1007 w = some w → sRn base X G d t pc lv (vI e :: vR (cf + 8) :: vI e :: vR (ct + 8) :: st) M Q := by
    intro v w hw hv' hok
    refine r_ld (w := vR (cf + 8)) (x := M.2.2 (cf + 8)) (v := v) hd1 hn1 rfl rfl (m_at_own (by omega)) (by show decide (1005 ≤ hk M (cf + 8)) = true; rw [a1]; rfl) ⟨he.1, by show e < (hz M (cf + 8) : Int); rw [b1]; exact he.2, by omega⟩ (by show hv M (cf + 8) e.toNat = _; rw [hw, hv']) ?_
    refine r_sv (v := v) (w := w) hd2 hn2 rfl (by omega) (by rw [a2]; rfl) (by rw [a2, hv']; exact hok) ⟨he.1, by rw [b2]; exact he.2, by omega⟩ (fun M' u => h M' ?_)
    rw [show (e + 1).toNat = e.toNat + 1 by omega]
    refine CpP.join (P.add u.n1 u.n2 (fun c => ⟨u.k c, u.z c⟩) (fun c i => ?_) hdj (by omega))
    by_cases hc : c = ct + 8 ∧ i = e.toNat
    · obtain ⟨rfl, rfl⟩ := hc
      rw [u.eq, if_pos ⟨rfl, by omega, by omega⟩, hw]
    · rw [u.ne (by omega), if_neg (by omega)]
  rcases hf.2.2.2.2 e.toNat (by omega) with q | ⟨x, q1, q2, q3⟩
  · exact fin vN .null q rfl rfl
  · refine fin (vR x) (.ref (base + x)) q1 rfl ?_
    show (match m_own base M (base + x) with
      | some y => if y.1 = 3 then some (Value.ref (base + x)) else none
      | none => none) = _
    rw [m_own_own q2]
    dsimp only
    rw [if_pos (show (M.2.2 x).1 = 3 from q3)]
end
noncomputable def T58 : mT := (8, yX8_copy, cX8_copy, 3, none)
set_option maxRecDepth 10000 in
theorem TE58 : sy_m[58]? = some T58 := rfl
theorem B58_0_1 : s_dk T58.2.2.1 0 [.aload_n 1] 1 = true := by decide +kernel
theorem D58_1 : decode T58.2.2.1 1 = .ok (.getfield 9, 3) := by decide +kernel
theorem B58_4_6 : s_dk T58.2.2.1 4 [.iconst 0, .aload_n 0] 6 = true := by decide +kernel
theorem D58_6 : decode T58.2.2.1 6 = .ok (.getfield 9, 3) := by decide +kernel
theorem B58_9_11 : s_dk T58.2.2.1 9 [.iconst 0, .aload_n 0] 11 = true := by decide +kernel
theorem D58_11 : decode T58.2.2.1 11 = .ok (.getfield 9, 3) := by decide +kernel
theorem D58_14 : decode T58.2.2.1 14 = .ok (.arraylength, 1) := by decide +kernel
theorem D58_15 : decode T58.2.2.1 15 = .ok (.invokestatic 70, 3) := by decide +kernel
theorem B58_18_19 : s_dk T58.2.2.1 18 [.aload_n 1] 19 = true := by decide +kernel
theorem D58_19 : decode T58.2.2.1 19 = .ok (.getfield 15, 3) := by decide +kernel
theorem B58_22_24 : s_dk T58.2.2.1 22 [.iconst 0, .aload_n 0] 24 = true := by decide +kernel
theorem D58_24 : decode T58.2.2.1 24 = .ok (.getfield 15, 3) := by decide +kernel
theorem B58_27_29 : s_dk T58.2.2.1 27 [.iconst 0, .aload_n 0] 29 = true := by decide +kernel
theorem D58_29 : decode T58.2.2.1 29 = .ok (.getfield 15, 3) := by decide +kernel
theorem D58_32 : decode T58.2.2.1 32 = .ok (.arraylength, 1) := by decide +kernel
theorem D58_33 : decode T58.2.2.1 33 = .ok (.invokestatic 70, 3) := by decide +kernel
theorem B58_36_38 : s_dk T58.2.2.1 36 [.aload_n 0, .aload_n 1] 38 = true := by decide +kernel
theorem D58_38 : decode T58.2.2.1 38 = .ok (.getfield 18, 3) := by decide +kernel
theorem D58_41 : decode T58.2.2.1 41 = .ok (.putfield 18, 3) := by decide +kernel
theorem B58_44_45 : s_dk T58.2.2.1 44 [.aload_n 1] 45 = true := by decide +kernel
theorem D58_45 : decode T58.2.2.1 45 = .ok (.getfield 22, 3) := by decide +kernel
theorem B58_48_50 : s_dk T58.2.2.1 48 [.iconst 0, .aload_n 0] 50 = true := by decide +kernel
theorem D58_50 : decode T58.2.2.1 50 = .ok (.getfield 22, 3) := by decide +kernel
theorem B58_53_55 : s_dk T58.2.2.1 53 [.iconst 0, .aload_n 0] 55 = true := by decide +kernel
theorem D58_55 : decode T58.2.2.1 55 = .ok (.getfield 22, 3) := by decide +kernel
theorem D58_58 : decode T58.2.2.1 58 = .ok (.arraylength, 1) := by decide +kernel
theorem D58_59 : decode T58.2.2.1 59 = .ok (.invokestatic 70, 3) := by decide +kernel
theorem B58_62_64 : s_dk T58.2.2.1 62 [.aload_n 0, .aload_n 1] 64 = true := by decide +kernel
theorem D58_64 : decode T58.2.2.1 64 = .ok (.getfield 25, 3) := by decide +kernel
theorem D58_67 : decode T58.2.2.1 67 = .ok (.putfield 25, 3) := by decide +kernel
theorem B58_70_72 : s_dk T58.2.2.1 70 [.aload_n 0, .aload_n 1] 72 = true := by decide +kernel
theorem D58_72 : decode T58.2.2.1 72 = .ok (.getfield 28, 3) := by decide +kernel
theorem D58_75 : decode T58.2.2.1 75 = .ok (.putfield 28, 3) := by decide +kernel
theorem B58_78_79 : s_dk T58.2.2.1 78 [.aload_n 1] 79 = true := by decide +kernel
theorem D58_79 : decode T58.2.2.1 79 = .ok (.getfield 31, 3) := by decide +kernel
theorem B58_82_84 : s_dk T58.2.2.1 82 [.iconst 0, .aload_n 0] 84 = true := by decide +kernel
theorem D58_84 : decode T58.2.2.1 84 = .ok (.getfield 31, 3) := by decide +kernel
theorem B58_87_89 : s_dk T58.2.2.1 87 [.iconst 0, .aload_n 0] 89 = true := by decide +kernel
theorem D58_89 : decode T58.2.2.1 89 = .ok (.getfield 31, 3) := by decide +kernel
theorem D58_92 : decode T58.2.2.1 92 = .ok (.arraylength, 1) := by decide +kernel
theorem D58_93 : decode T58.2.2.1 93 = .ok (.invokestatic 70, 3) := by decide +kernel
theorem B58_96_97 : s_dk T58.2.2.1 96 [.aload_n 1] 97 = true := by decide +kernel
theorem D58_97 : decode T58.2.2.1 97 = .ok (.getfield 34, 3) := by decide +kernel
theorem B58_100_102 : s_dk T58.2.2.1 100 [.iconst 0, .aload_n 0] 102 = true := by decide +kernel
theorem D58_102 : decode T58.2.2.1 102 = .ok (.getfield 34, 3) := by decide +kernel
theorem B58_105_107 : s_dk T58.2.2.1 105 [.iconst 0, .aload_n 0] 107 = true := by decide +kernel
theorem D58_107 : decode T58.2.2.1 107 = .ok (.getfield 34, 3) := by decide +kernel
theorem D58_110 : decode T58.2.2.1 110 = .ok (.arraylength, 1) := by decide +kernel
theorem D58_111 : decode T58.2.2.1 111 = .ok (.invokestatic 70, 3) := by decide +kernel
theorem B58_114_115 : s_dk T58.2.2.1 114 [.aload_n 1] 115 = true := by decide +kernel
theorem D58_115 : decode T58.2.2.1 115 = .ok (.getfield 37, 3) := by decide +kernel
theorem B58_118_120 : s_dk T58.2.2.1 118 [.iconst 0, .aload_n 0] 120 = true := by decide +kernel
theorem D58_120 : decode T58.2.2.1 120 = .ok (.getfield 37, 3) := by decide +kernel
theorem B58_123_125 : s_dk T58.2.2.1 123 [.iconst 0, .aload_n 0] 125 = true := by decide +kernel
theorem D58_125 : decode T58.2.2.1 125 = .ok (.getfield 37, 3) := by decide +kernel
theorem D58_128 : decode T58.2.2.1 128 = .ok (.arraylength, 1) := by decide +kernel
theorem D58_129 : decode T58.2.2.1 129 = .ok (.invokestatic 70, 3) := by decide +kernel
theorem B58_132_133 : s_dk T58.2.2.1 132 [.aload_n 1] 133 = true := by decide +kernel
theorem D58_133 : decode T58.2.2.1 133 = .ok (.getfield 40, 3) := by decide +kernel
theorem B58_136_138 : s_dk T58.2.2.1 136 [.iconst 0, .aload_n 0] 138 = true := by decide +kernel
theorem D58_138 : decode T58.2.2.1 138 = .ok (.getfield 40, 3) := by decide +kernel
theorem B58_141_143 : s_dk T58.2.2.1 141 [.iconst 0, .aload_n 0] 143 = true := by decide +kernel
theorem D58_143 : decode T58.2.2.1 143 = .ok (.getfield 40, 3) := by decide +kernel
theorem D58_146 : decode T58.2.2.1 146 = .ok (.arraylength, 1) := by decide +kernel
theorem D58_147 : decode T58.2.2.1 147 = .ok (.invokestatic 70, 3) := by decide +kernel
theorem B58_150_152 : s_dk T58.2.2.1 150 [.aload_n 0, .aload_n 1] 152 = true := by decide +kernel
theorem D58_152 : decode T58.2.2.1 152 = .ok (.getfield 43, 3) := by decide +kernel
theorem D58_155 : decode T58.2.2.1 155 = .ok (.putfield 43, 3) := by decide +kernel
theorem B58_184_186 : s_dk T58.2.2.1 184 [.aload_n 0, .aload_n 1] 186 = true := by decide +kernel
theorem D58_186 : decode T58.2.2.1 186 = .ok (.getfield 52, 3) := by decide +kernel
theorem D58_189 : decode T58.2.2.1 189 = .ok (.putfield 52, 3) := by decide +kernel
theorem B58_192_193 : s_dk T58.2.2.1 192 [.aload_n 1] 193 = true := by decide +kernel
theorem D58_193 : decode T58.2.2.1 193 = .ok (.getfield 55, 3) := by decide +kernel
theorem B58_196_198 : s_dk T58.2.2.1 196 [.iconst 0, .aload_n 0] 198 = true := by decide +kernel
theorem D58_198 : decode T58.2.2.1 198 = .ok (.getfield 55, 3) := by decide +kernel
theorem B58_201_203 : s_dk T58.2.2.1 201 [.iconst 0, .aload_n 0] 203 = true := by decide +kernel
theorem D58_203 : decode T58.2.2.1 203 = .ok (.getfield 55, 3) := by decide +kernel
theorem D58_206 : decode T58.2.2.1 206 = .ok (.arraylength, 1) := by decide +kernel
theorem D58_207 : decode T58.2.2.1 207 = .ok (.invokestatic 70, 3) := by decide +kernel
theorem B58_210_212 : s_dk T58.2.2.1 210 [.aload_n 0, .aload_n 1] 212 = true := by decide +kernel
theorem D58_212 : decode T58.2.2.1 212 = .ok (.getfield 58, 3) := by decide +kernel
theorem D58_215 : decode T58.2.2.1 215 = .ok (.putfield 58, 3) := by decide +kernel
theorem B58_218_219 : s_dk T58.2.2.1 218 [.aload_n 1] 219 = true := by decide +kernel
theorem D58_219 : decode T58.2.2.1 219 = .ok (.getfield 61, 3) := by decide +kernel
theorem B58_222_224 : s_dk T58.2.2.1 222 [.iconst 0, .aload_n 0] 224 = true := by decide +kernel
theorem D58_224 : decode T58.2.2.1 224 = .ok (.getfield 61, 3) := by decide +kernel
theorem B58_227_229 : s_dk T58.2.2.1 227 [.iconst 0, .aload_n 0] 229 = true := by decide +kernel
theorem D58_229 : decode T58.2.2.1 229 = .ok (.getfield 61, 3) := by decide +kernel
theorem D58_232 : decode T58.2.2.1 232 = .ok (.arraylength, 1) := by decide +kernel
theorem D58_233 : decode T58.2.2.1 233 = .ok (.invokestatic 70, 3) := by decide +kernel
theorem B58_160_163 : s_dk T58.2.2.1 160 [.iload_n 2, .bipush 8] 163 = true := by decide +kernel
theorem D58_163 : decode T58.2.2.1 163 = .ok (.if_icmp .ge 21, 3) := by decide +kernel
theorem D58_236 : decode T58.2.2.1 236 = .ok (.return_, 1) := by decide +kernel
theorem B58_166_167 : s_dk T58.2.2.1 166 [.aload_n 0] 167 = true := by decide +kernel
theorem D58_167 : decode T58.2.2.1 167 = .ok (.getfield 48, 3) := by decide +kernel
theorem B58_170_172 : s_dk T58.2.2.1 170 [.iload_n 2, .aload_n 1] 172 = true := by decide +kernel
theorem D58_172 : decode T58.2.2.1 172 = .ok (.getfield 48, 3) := by decide +kernel
theorem B58_175_176 : s_dk T58.2.2.1 175 [.iload_n 2] 176 = true := by decide +kernel
theorem D58_176 : decode T58.2.2.1 176 = .ok (.aaload, 1) := by decide +kernel
theorem D58_177 : decode T58.2.2.1 177 = .ok (.aastore, 1) := by decide +kernel
theorem B58_178_181 : s_dk T58.2.2.1 178 [.iinc 2 1] 181 = true := by decide +kernel
theorem D58_181 : decode T58.2.2.1 181 = .ok (.goto (-21), 3) := by decide +kernel
theorem B58_158_160 : s_dk T58.2.2.1 158 [.iconst 0, .istore_n 2] 160 = true := by decide +kernel
noncomputable def cpL : List (Nat × Nat × Nat) := [(10, 0, 60), (0, 14, 15), (9, 0, 18), (0, 12, 13), (8, 0, 8), (0, 10, 11), (7, 0, 64), (6, 0, 48), (5, 0, 16), (4, 0, 128), (0, 5, 6), (0, 4, 5), (3, 0, 36), (0, 2, 3), (2, 0, 9), (1, 0, 90)]
set_option maxRecDepth 4000 in
theorem t58 {base : Nat} {X : Nat → Option mC} {G : Nat → Value} {d : Nat} {M : mH} {cf ct : Nat} (hf : StS base cf M) (ht : StS base ct M) (hdj : cf + 10 < ct ∨ ct + 10 < cf) : ∀ (mz : Nat) (i : Int) (N : mH), CpP cf ct ((8, 0, i.toNat) :: [(0, 10, 11), (7, 0, 64), (6, 0, 48), (5, 0, 16), (4, 0, 128), (0, 5, 6), (0, 4, 5), (3, 0, 36), (0, 2, 3), (2, 0, 9), (1, 0, 90)]) M N → 0 ≤ i ∧ i ≤ 8 → 8 - i < (mz : Int) → sRn base X G d T58 160 [(2, vI i), (0, vR ct), (1, vR cf)] [] N (s_Q base (pV (fun M' => CpP cf ct cpL M M'))) := by
  intro mz
  induction mz with
  | zero => intro i N P hi hm; omega
  | succ mz ih =>
    intro i N P hi hm
    refine s_blx (lv' := [(2, vI i), (0, vR ct), (1, vR cf)]) (st' := [vI 8, vI i]) B58_160_163 rfl ?_
    refine r_icmp (tgt := 184) (pc' := 166) D58_163 rfl rfl (by unfold inR; omega) (fun (c : 8 ≤ i) => ?_) (fun (c : ¬ (8 ≤ i)) => ?_)
    · have ei : i = 8 := by omega
      subst ei
      refine s_blx (lv' := [(2, vI 8), (0, vR ct), (1, vR cf)]) (st' := [vR cf, vR ct]) B58_184_186 rfl ?_
      refine st_gi (pc' := 189) (k := 12) D58_186 rfl (by decide) fi_8_52 (hf.cp (show CpP cf ct [(8, 0, 8), (0, 10, 11), (7, 0, 64), (6, 0, 48), (5, 0, 16), (4, 0, 128), (0, 5, 6), (0, 4, 5), (3, 0, 36), (0, 2, 3), (2, 0, 9), (1, 0, 90)] M N from P) rfl hf hdj (Or.inl rfl)) rfl (by decide) (fun w12 _ e12 => ?_)
      refine c_pi (pc' := 192) (k := 12) D58_189 rfl fi_8_52 rfl rfl (show CpP cf ct [(8, 0, 8), (0, 10, 11), (7, 0, 64), (6, 0, 48), (5, 0, 16), (4, 0, 128), (0, 5, 6), (0, 4, 5), (3, 0, 36), (0, 2, 3), (2, 0, 9), (1, 0, 90)] M N from P) (ht.cp (show CpP cf ct [(8, 0, 8), (0, 10, 11), (7, 0, 64), (6, 0, 48), (5, 0, 16), (4, 0, 128), (0, 5, 6), (0, 4, 5), (3, 0, 36), (0, 2, 3), (2, 0, 9), (1, 0, 90)] M N from P) rfl hf hdj (Or.inr rfl)) (by decide) e12 hdj (fun M12 P12 => ?_)
      refine s_blx (lv' := [(2, vI 8), (0, vR ct), (1, vR cf)]) (st' := [vR cf]) B58_192_193 rfl ?_
      refine st_gf (pc' := 196) (k := 13) (r := 9) D58_193 rfl (by decide) fi_8_55 (hf.cp P12 rfl hf hdj (Or.inl rfl)) rfl (by decide) ?_
      refine s_blx (lv' := [(2, vI 8), (0, vR ct), (1, vR cf)]) (st' := [vR ct, vI 0, vR (cf + 9)]) B58_196_198 rfl ?_
      refine st_gf (pc' := 201) (k := 13) (r := 9) D58_198 rfl (by decide) fi_8_55 (ht.cp P12 rfl hf hdj (Or.inr rfl)) rfl (by decide) ?_
      refine s_blx (lv' := [(2, vI 8), (0, vR ct), (1, vR cf)]) (st' := [vR ct, vI 0, vR (ct + 9), vI 0, vR (cf + 9)]) B58_201_203 rfl ?_
      refine st_gf (pc' := 206) (k := 13) (r := 9) D58_203 rfl (by decide) fi_8_55 (ht.cp P12 rfl hf hdj (Or.inr rfl)) rfl (by decide) ?_
      refine st_len (j := 9) (n := 18) (ni := 18) (pc' := 207) D58_206 rfl (ht.cp P12 rfl hf hdj (Or.inr rfl)) rfl rfl ?_
      refine c_acp (j := 9) (n := 18) (pc' := 210) D58_207 rfl mc_8_static_70 sp_8_70 (Nat.le_of_ble_eq_true rfl) P12 (hf.cp P12 rfl hf hdj (Or.inl rfl)) (ht.cp P12 rfl hf hdj (Or.inr rfl)) rfl rfl (by decide) hdj (fun M13 P13 => ?_)
      refine s_blx (lv' := [(2, vI 8), (0, vR ct), (1, vR cf)]) (st' := [vR cf, vR ct]) B58_210_212 rfl ?_
      refine st_gi (pc' := 215) (k := 14) D58_212 rfl (by decide) fi_8_58 (hf.cp P13 rfl hf hdj (Or.inl rfl)) rfl (by decide) (fun w14 _ e14 => ?_)
      refine c_pi (pc' := 218) (k := 14) D58_215 rfl fi_8_58 rfl rfl P13 (ht.cp P13 rfl hf hdj (Or.inr rfl)) (by decide) e14 hdj (fun M14 P14 => ?_)
      refine s_blx (lv' := [(2, vI 8), (0, vR ct), (1, vR cf)]) (st' := [vR cf]) B58_218_219 rfl ?_
      refine st_gf (pc' := 222) (k := 15) (r := 10) D58_219 rfl (by decide) fi_8_61 (hf.cp P14 rfl hf hdj (Or.inl rfl)) rfl (by decide) ?_
      refine s_blx (lv' := [(2, vI 8), (0, vR ct), (1, vR cf)]) (st' := [vR ct, vI 0, vR (cf + 10)]) B58_222_224 rfl ?_
      refine st_gf (pc' := 227) (k := 15) (r := 10) D58_224 rfl (by decide) fi_8_61 (ht.cp P14 rfl hf hdj (Or.inr rfl)) rfl (by decide) ?_
      refine s_blx (lv' := [(2, vI 8), (0, vR ct), (1, vR cf)]) (st' := [vR ct, vI 0, vR (ct + 10), vI 0, vR (cf + 10)]) B58_227_229 rfl ?_
      refine st_gf (pc' := 232) (k := 15) (r := 10) D58_229 rfl (by decide) fi_8_61 (ht.cp P14 rfl hf hdj (Or.inr rfl)) rfl (by decide) ?_
      refine st_len (j := 10) (n := 60) (ni := 60) (pc' := 233) D58_232 rfl (ht.cp P14 rfl hf hdj (Or.inr rfl)) rfl rfl ?_
      refine c_acp (j := 10) (n := 60) (pc' := 236) D58_233 rfl mc_8_static_70 sp_8_70 (Nat.le_of_ble_eq_true rfl) P14 (hf.cp P14 rfl hf hdj (Or.inl rfl)) (ht.cp P14 rfl hf hdj (Or.inr rfl)) rfl rfl (by decide) hdj (fun M15 P15 => ?_)
      exact r_retV D58_236 rfl P15
    · have ok : cpOk ((8, 0, i.toNat) :: [(0, 10, 11), (7, 0, 64), (6, 0, 48), (5, 0, 16), (4, 0, 128), (0, 5, 6), (0, 4, 5), (3, 0, 36), (0, 2, 3), (2, 0, 9), (1, 0, 90)]) = true := rfl
      refine s_blx (lv' := [(2, vI i), (0, vR ct), (1, vR cf)]) (st' := [vR ct]) B58_166_167 rfl ?_
      refine st_gf (pc' := 170) (k := 11) (r := 8) D58_167 rfl (by decide) fi_8_48 (ht.cp P ok hf hdj (Or.inr rfl)) rfl (by decide) ?_
      refine s_blx (lv' := [(2, vI i), (0, vR ct), (1, vR cf)]) (st' := [vR cf, vI i, vR (ct + 8)]) B58_170_172 rfl ?_
      refine st_gf (pc' := 175) (k := 11) (r := 8) D58_172 rfl (by decide) fi_8_48 (hf.cp P ok hf hdj (Or.inl rfl)) rfl (by decide) ?_
      refine s_blx (lv' := [(2, vI i), (0, vR ct), (1, vR cf)]) (st' := [vI i, vR (cf + 8), vI i, vR (ct + 8)]) B58_175_176 rfl ?_
      refine c_hab (pc1 := 177) (pc2 := 178) D58_176 rfl D58_177 rfl P (hf.cp P ok hf hdj (Or.inl rfl)) (ht.cp P ok hf hdj (Or.inr rfl)) (by omega) hdj (fun M' P' => ?_)
      refine s_blx (lv' := [(2, vI (i + 1)), (0, vR ct), (1, vR cf)]) (st' := []) B58_178_181 rfl ?_
      refine r_goto (tgt := 160) D58_181 rfl ?_
      exact ih (i + 1) M' P' (by omega) (by omega)
set_option maxRecDepth 4000 in
theorem k58 {base : Nat} {X : Nat → Option mC} {G : Nat → Value} {d : Nat} {M : mH} {cf ct : Nat} (hf : StS base cf M) (ht : StS base ct M) (hdj : cf + 10 < ct ∨ ct + 10 < cf) : sOk base X G d T58 [vR ct, vR cf] M (pV (fun M' => CpP cf ct cpL M M')) := by
  refine sOk.of (show sRn base X G d T58 0 [(0, vR ct), (1, vR cf)] [] M _ from ?_)
  have P0 : CpP cf ct [] M M := CpP.nil
  refine s_blx (lv' := [(0, vR ct), (1, vR cf)]) (st' := [vR cf]) B58_0_1 rfl ?_
  refine st_gf (pc' := 4) (k := 0) (r := 1) D58_1 rfl (by decide) fi_8_9 (hf.cp P0 rfl hf hdj (Or.inl rfl)) rfl (by decide) ?_
  refine s_blx (lv' := [(0, vR ct), (1, vR cf)]) (st' := [vR ct, vI 0, vR (cf + 1)]) B58_4_6 rfl ?_
  refine st_gf (pc' := 9) (k := 0) (r := 1) D58_6 rfl (by decide) fi_8_9 (ht.cp P0 rfl hf hdj (Or.inr rfl)) rfl (by decide) ?_
  refine s_blx (lv' := [(0, vR ct), (1, vR cf)]) (st' := [vR ct, vI 0, vR (ct + 1), vI 0, vR (cf + 1)]) B58_9_11 rfl ?_
  refine st_gf (pc' := 14) (k := 0) (r := 1) D58_11 rfl (by decide) fi_8_9 (ht.cp P0 rfl hf hdj (Or.inr rfl)) rfl (by decide) ?_
  refine st_len (j := 1) (n := 90) (ni := 90) (pc' := 15) D58_14 rfl (ht.cp P0 rfl hf hdj (Or.inr rfl)) rfl rfl ?_
  refine c_acp (j := 1) (n := 90) (pc' := 18) D58_15 rfl mc_8_static_70 sp_8_70 (Nat.le_of_ble_eq_true rfl) P0 (hf.cp P0 rfl hf hdj (Or.inl rfl)) (ht.cp P0 rfl hf hdj (Or.inr rfl)) rfl rfl (by decide) hdj (fun M1 P1 => ?_)
  refine s_blx (lv' := [(0, vR ct), (1, vR cf)]) (st' := [vR cf]) B58_18_19 rfl ?_
  refine st_gf (pc' := 22) (k := 1) (r := 2) D58_19 rfl (by decide) fi_8_15 (hf.cp P1 rfl hf hdj (Or.inl rfl)) rfl (by decide) ?_
  refine s_blx (lv' := [(0, vR ct), (1, vR cf)]) (st' := [vR ct, vI 0, vR (cf + 2)]) B58_22_24 rfl ?_
  refine st_gf (pc' := 27) (k := 1) (r := 2) D58_24 rfl (by decide) fi_8_15 (ht.cp P1 rfl hf hdj (Or.inr rfl)) rfl (by decide) ?_
  refine s_blx (lv' := [(0, vR ct), (1, vR cf)]) (st' := [vR ct, vI 0, vR (ct + 2), vI 0, vR (cf + 2)]) B58_27_29 rfl ?_
  refine st_gf (pc' := 32) (k := 1) (r := 2) D58_29 rfl (by decide) fi_8_15 (ht.cp P1 rfl hf hdj (Or.inr rfl)) rfl (by decide) ?_
  refine st_len (j := 2) (n := 9) (ni := 9) (pc' := 33) D58_32 rfl (ht.cp P1 rfl hf hdj (Or.inr rfl)) rfl rfl ?_
  refine c_acp (j := 2) (n := 9) (pc' := 36) D58_33 rfl mc_8_static_70 sp_8_70 (Nat.le_of_ble_eq_true rfl) P1 (hf.cp P1 rfl hf hdj (Or.inl rfl)) (ht.cp P1 rfl hf hdj (Or.inr rfl)) rfl rfl (by decide) hdj (fun M2 P2 => ?_)
  refine s_blx (lv' := [(0, vR ct), (1, vR cf)]) (st' := [vR cf, vR ct]) B58_36_38 rfl ?_
  refine st_gi (pc' := 41) (k := 2) D58_38 rfl (by decide) fi_8_18 (hf.cp P2 rfl hf hdj (Or.inl rfl)) rfl (by decide) (fun w3 _ e3 => ?_)
  refine c_pi (pc' := 44) (k := 2) D58_41 rfl fi_8_18 rfl rfl P2 (ht.cp P2 rfl hf hdj (Or.inr rfl)) (by decide) e3 hdj (fun M3 P3 => ?_)
  refine s_blx (lv' := [(0, vR ct), (1, vR cf)]) (st' := [vR cf]) B58_44_45 rfl ?_
  refine st_gf (pc' := 48) (k := 3) (r := 3) D58_45 rfl (by decide) fi_8_22 (hf.cp P3 rfl hf hdj (Or.inl rfl)) rfl (by decide) ?_
  refine s_blx (lv' := [(0, vR ct), (1, vR cf)]) (st' := [vR ct, vI 0, vR (cf + 3)]) B58_48_50 rfl ?_
  refine st_gf (pc' := 53) (k := 3) (r := 3) D58_50 rfl (by decide) fi_8_22 (ht.cp P3 rfl hf hdj (Or.inr rfl)) rfl (by decide) ?_
  refine s_blx (lv' := [(0, vR ct), (1, vR cf)]) (st' := [vR ct, vI 0, vR (ct + 3), vI 0, vR (cf + 3)]) B58_53_55 rfl ?_
  refine st_gf (pc' := 58) (k := 3) (r := 3) D58_55 rfl (by decide) fi_8_22 (ht.cp P3 rfl hf hdj (Or.inr rfl)) rfl (by decide) ?_
  refine st_len (j := 3) (n := 36) (ni := 36) (pc' := 59) D58_58 rfl (ht.cp P3 rfl hf hdj (Or.inr rfl)) rfl rfl ?_
  refine c_acp (j := 3) (n := 36) (pc' := 62) D58_59 rfl mc_8_static_70 sp_8_70 (Nat.le_of_ble_eq_true rfl) P3 (hf.cp P3 rfl hf hdj (Or.inl rfl)) (ht.cp P3 rfl hf hdj (Or.inr rfl)) rfl rfl (by decide) hdj (fun M4 P4 => ?_)
  refine s_blx (lv' := [(0, vR ct), (1, vR cf)]) (st' := [vR cf, vR ct]) B58_62_64 rfl ?_
  refine st_gi (pc' := 67) (k := 4) D58_64 rfl (by decide) fi_8_25 (hf.cp P4 rfl hf hdj (Or.inl rfl)) rfl (by decide) (fun w5 _ e5 => ?_)
  refine c_pi (pc' := 70) (k := 4) D58_67 rfl fi_8_25 rfl rfl P4 (ht.cp P4 rfl hf hdj (Or.inr rfl)) (by decide) e5 hdj (fun M5 P5 => ?_)
  refine s_blx (lv' := [(0, vR ct), (1, vR cf)]) (st' := [vR cf, vR ct]) B58_70_72 rfl ?_
  refine st_gi (pc' := 75) (k := 5) D58_72 rfl (by decide) fi_8_28 (hf.cp P5 rfl hf hdj (Or.inl rfl)) rfl (by decide) (fun w6 _ e6 => ?_)
  refine c_pi (pc' := 78) (k := 5) D58_75 rfl fi_8_28 rfl rfl P5 (ht.cp P5 rfl hf hdj (Or.inr rfl)) (by decide) e6 hdj (fun M6 P6 => ?_)
  refine s_blx (lv' := [(0, vR ct), (1, vR cf)]) (st' := [vR cf]) B58_78_79 rfl ?_
  refine st_gf (pc' := 82) (k := 6) (r := 4) D58_79 rfl (by decide) fi_8_31 (hf.cp P6 rfl hf hdj (Or.inl rfl)) rfl (by decide) ?_
  refine s_blx (lv' := [(0, vR ct), (1, vR cf)]) (st' := [vR ct, vI 0, vR (cf + 4)]) B58_82_84 rfl ?_
  refine st_gf (pc' := 87) (k := 6) (r := 4) D58_84 rfl (by decide) fi_8_31 (ht.cp P6 rfl hf hdj (Or.inr rfl)) rfl (by decide) ?_
  refine s_blx (lv' := [(0, vR ct), (1, vR cf)]) (st' := [vR ct, vI 0, vR (ct + 4), vI 0, vR (cf + 4)]) B58_87_89 rfl ?_
  refine st_gf (pc' := 92) (k := 6) (r := 4) D58_89 rfl (by decide) fi_8_31 (ht.cp P6 rfl hf hdj (Or.inr rfl)) rfl (by decide) ?_
  refine st_len (j := 4) (n := 128) (ni := 128) (pc' := 93) D58_92 rfl (ht.cp P6 rfl hf hdj (Or.inr rfl)) rfl rfl ?_
  refine c_acp (j := 4) (n := 128) (pc' := 96) D58_93 rfl mc_8_static_70 sp_8_70 (Nat.le_of_ble_eq_true rfl) P6 (hf.cp P6 rfl hf hdj (Or.inl rfl)) (ht.cp P6 rfl hf hdj (Or.inr rfl)) rfl rfl (by decide) hdj (fun M7 P7 => ?_)
  refine s_blx (lv' := [(0, vR ct), (1, vR cf)]) (st' := [vR cf]) B58_96_97 rfl ?_
  refine st_gf (pc' := 100) (k := 7) (r := 5) D58_97 rfl (by decide) fi_8_34 (hf.cp P7 rfl hf hdj (Or.inl rfl)) rfl (by decide) ?_
  refine s_blx (lv' := [(0, vR ct), (1, vR cf)]) (st' := [vR ct, vI 0, vR (cf + 5)]) B58_100_102 rfl ?_
  refine st_gf (pc' := 105) (k := 7) (r := 5) D58_102 rfl (by decide) fi_8_34 (ht.cp P7 rfl hf hdj (Or.inr rfl)) rfl (by decide) ?_
  refine s_blx (lv' := [(0, vR ct), (1, vR cf)]) (st' := [vR ct, vI 0, vR (ct + 5), vI 0, vR (cf + 5)]) B58_105_107 rfl ?_
  refine st_gf (pc' := 110) (k := 7) (r := 5) D58_107 rfl (by decide) fi_8_34 (ht.cp P7 rfl hf hdj (Or.inr rfl)) rfl (by decide) ?_
  refine st_len (j := 5) (n := 16) (ni := 16) (pc' := 111) D58_110 rfl (ht.cp P7 rfl hf hdj (Or.inr rfl)) rfl rfl ?_
  refine c_acp (j := 5) (n := 16) (pc' := 114) D58_111 rfl mc_8_static_70 sp_8_70 (Nat.le_of_ble_eq_true rfl) P7 (hf.cp P7 rfl hf hdj (Or.inl rfl)) (ht.cp P7 rfl hf hdj (Or.inr rfl)) rfl rfl (by decide) hdj (fun M8 P8 => ?_)
  refine s_blx (lv' := [(0, vR ct), (1, vR cf)]) (st' := [vR cf]) B58_114_115 rfl ?_
  refine st_gf (pc' := 118) (k := 8) (r := 6) D58_115 rfl (by decide) fi_8_37 (hf.cp P8 rfl hf hdj (Or.inl rfl)) rfl (by decide) ?_
  refine s_blx (lv' := [(0, vR ct), (1, vR cf)]) (st' := [vR ct, vI 0, vR (cf + 6)]) B58_118_120 rfl ?_
  refine st_gf (pc' := 123) (k := 8) (r := 6) D58_120 rfl (by decide) fi_8_37 (ht.cp P8 rfl hf hdj (Or.inr rfl)) rfl (by decide) ?_
  refine s_blx (lv' := [(0, vR ct), (1, vR cf)]) (st' := [vR ct, vI 0, vR (ct + 6), vI 0, vR (cf + 6)]) B58_123_125 rfl ?_
  refine st_gf (pc' := 128) (k := 8) (r := 6) D58_125 rfl (by decide) fi_8_37 (ht.cp P8 rfl hf hdj (Or.inr rfl)) rfl (by decide) ?_
  refine st_len (j := 6) (n := 48) (ni := 48) (pc' := 129) D58_128 rfl (ht.cp P8 rfl hf hdj (Or.inr rfl)) rfl rfl ?_
  refine c_acp (j := 6) (n := 48) (pc' := 132) D58_129 rfl mc_8_static_70 sp_8_70 (Nat.le_of_ble_eq_true rfl) P8 (hf.cp P8 rfl hf hdj (Or.inl rfl)) (ht.cp P8 rfl hf hdj (Or.inr rfl)) rfl rfl (by decide) hdj (fun M9 P9 => ?_)
  refine s_blx (lv' := [(0, vR ct), (1, vR cf)]) (st' := [vR cf]) B58_132_133 rfl ?_
  refine st_gf (pc' := 136) (k := 9) (r := 7) D58_133 rfl (by decide) fi_8_40 (hf.cp P9 rfl hf hdj (Or.inl rfl)) rfl (by decide) ?_
  refine s_blx (lv' := [(0, vR ct), (1, vR cf)]) (st' := [vR ct, vI 0, vR (cf + 7)]) B58_136_138 rfl ?_
  refine st_gf (pc' := 141) (k := 9) (r := 7) D58_138 rfl (by decide) fi_8_40 (ht.cp P9 rfl hf hdj (Or.inr rfl)) rfl (by decide) ?_
  refine s_blx (lv' := [(0, vR ct), (1, vR cf)]) (st' := [vR ct, vI 0, vR (ct + 7), vI 0, vR (cf + 7)]) B58_141_143 rfl ?_
  refine st_gf (pc' := 146) (k := 9) (r := 7) D58_143 rfl (by decide) fi_8_40 (ht.cp P9 rfl hf hdj (Or.inr rfl)) rfl (by decide) ?_
  refine st_len (j := 7) (n := 64) (ni := 64) (pc' := 147) D58_146 rfl (ht.cp P9 rfl hf hdj (Or.inr rfl)) rfl rfl ?_
  refine c_acp (j := 7) (n := 64) (pc' := 150) D58_147 rfl mc_8_static_70 sp_8_70 (Nat.le_of_ble_eq_true rfl) P9 (hf.cp P9 rfl hf hdj (Or.inl rfl)) (ht.cp P9 rfl hf hdj (Or.inr rfl)) rfl rfl (by decide) hdj (fun M10 P10 => ?_)
  refine s_blx (lv' := [(0, vR ct), (1, vR cf)]) (st' := [vR cf, vR ct]) B58_150_152 rfl ?_
  refine st_gi (pc' := 155) (k := 10) D58_152 rfl (by decide) fi_8_43 (hf.cp P10 rfl hf hdj (Or.inl rfl)) rfl (by decide) (fun w11 _ e11 => ?_)
  refine c_pi (pc' := 158) (k := 10) D58_155 rfl fi_8_43 rfl rfl P10 (ht.cp P10 rfl hf hdj (Or.inr rfl)) (by decide) e11 hdj (fun M11 P11 => ?_)
  refine s_blx (lv' := [(2, vI 0), (0, vR ct), (1, vR cf)]) (st' := []) B58_158_160 rfl ?_
  exact t58 hf ht hdj 9 0 _ (P11.eq (fun j i => (cpD_z (j := 8)).symm)) (by omega) (by omega)
