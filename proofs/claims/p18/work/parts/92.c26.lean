/-! Which moves can be chosen. -/
theorem j32 (z : Int) : ((Int64.ofInt z).toBitVec.toNat : Int) % 32 = z % 32 := by
  have e : (Int64.ofInt z).toBitVec = BitVec.ofInt 64 z := rfl
  rw [e, BitVec.toNat_ofInt]
  omega
theorem j_or {z1 z2 m : Int} (h2 : Int64.ofInt z2 = Int64.ofInt z1 ||| Int64.ofInt m) (h1 : z1 % 32 = 0) (hm : 0 ≤ m ∧ m ≤ 31) : z2 % 32 = m := by
  have a := j32 z2
  rw [h2, Int64.toBitVec_or, BitVec.toNat_or] at a
  have b := j32 z1
  have c := j32 m
  have d := Nat.or_mod_two_pow (a := (Int64.ofInt z1).toBitVec.toNat) (b := (Int64.ofInt m).toBitVec.toNat) (n := 5)
  have b' : (Int64.ofInt z1).toBitVec.toNat % 2 ^ 5 = 0 := by
    have : (Int64.ofInt z1).toBitVec.toNat % 32 = 0 := by omega
    exact this
  rw [b', Nat.zero_or] at d
  have d' : ((Int64.ofInt z1).toBitVec.toNat ||| (Int64.ofInt m).toBitVec.toNat) % 32 = (Int64.ofInt m).toBitVec.toNat % 32 := d
  omega
theorem j_shl {z1 loss : Int} (h1 : Int64.ofInt z1 = Int64.ofInt loss <<< ((Int32.ofInt 5).toInt64 &&& 63)) : z1 % 32 = 0 := by
  have e : ((Int32.ofInt 5).toInt64 &&& 63) = (5 : Int64) := by decide
  rw [e] at h1
  have a := j32 z1
  have s : (Int64.ofInt loss <<< (5 : Int64)).toBitVec = (Int64.ofInt loss).toBitVec <<< 5 := by
    rw [Int64.toBitVec_shiftLeft]
    rfl
  rw [h1, s, BitVec.toNat_shiftLeft, Nat.shiftLeft_eq] at a
  omega
theorem j_and {z v : Int} (hz : inJ z) (h : Int64.ofInt z = Int64.ofInt v &&& Int64.ofInt 31) : z = v % 32 := by
  have a := j32 v
  have e : (Int64.ofInt z).toBitVec.toNat = (Int64.ofInt v).toBitVec.toNat % 32 := by
    rw [h, Int64.toBitVec_and, BitVec.toNat_and]
    exact Nat.and_two_pow_sub_one_eq_mod _ 5
  have q : (Int64.ofInt z).toBitVec = BitVec.ofInt 64 z := rfl
  rw [q, BitVec.toNat_ofInt] at e
  unfold inJ at hz
  omega
theorem r_minE {base : Nat} {X : Nat → Option mC} {G : Nat → Value} {d : Nat} {t : mT} {pc pc' : Nat} {lv : sL} {st : List mV} {M : mH} {Q : Option Value → mH → Prop} {i : Nat} {a b : Int} (hd : decode t.2.2.1 pc = .ok (.invokestatic i, 3)) (hn : pc + 3 = pc') (hk : m_call t.1 (.invokestatic i) = none) (hs : m_sp t.1 i = some 4) (h1 : s_sz st ≤ 8) (h : ∀ e, e = a ∨ e = b → sRn base X G d t pc' lv (vL e :: st) M Q) : sRn base X G d t pc lv (vL b :: vL a :: st) M Q := r_minL hd hn hk hs h1 (h a (Or.inl rfl)) (h b (Or.inr rfl))
theorem chg1 {s g x : Int} (hs : 1 ≤ s ∧ s ≤ 10) (hg : -1 ≤ g ∧ g ≤ 7) (hx : x = g - (s - 1)) : 0 ≤ s + x ∧ s + x ≤ 1110 := by omega
theorem chg2 {s g x : Int} (hs : 11 ≤ s ∧ s ≤ 110) (hg : -1 ≤ g ∧ g ≤ 7) (hx : x = 10 * (g - (s - 11) / 10)) : 0 ≤ s + x ∧ s + x ≤ 1110 := by omega
theorem chg3 {s g x : Int} (hs : 11 ≤ s ∧ s ≤ 110) (hg : -1 ≤ g ∧ g ≤ 7) (hx : x = g - (s - 11) % 10) : 0 ≤ s + x ∧ s + x ≤ 1110 := by omega
theorem chg4 {s g x : Int} (hs : 111 ≤ s ∧ s ≤ 1110) (hg : -1 ≤ g ∧ g ≤ 7) (hx : x = 100 * (g - (s - 111) / 100)) : 0 ≤ s + x ∧ s + x ≤ 1110 := by omega
theorem chg5 {s g x : Int} (hs : 111 ≤ s ∧ s ≤ 1110) (hg : -1 ≤ g ∧ g ≤ 7) (hx : x = 10 * (g - (s - 111) / 10 % 10)) : 0 ≤ s + x ∧ s + x ≤ 1110 := by omega
theorem chg6 {s g x : Int} (hs : 111 ≤ s ∧ s ≤ 1110) (hg : -1 ≤ g ∧ g ≤ 7) (hx : x = g - (s - 111) % 10) : 0 ≤ s + x ∧ s + x ≤ 1110 := by omega
theorem chg0 {s g x : Int} (hs : 0 ≤ s ∧ s ≤ 110) (hg : -1 ≤ g ∧ g ≤ 7) (hx : x = g - -1) : 0 ≤ s + x ∧ s + x ≤ 1110 := by omega
theorem chg {s k a g t x i : Int} (hs : (k = 0 ∧ s = 0) ∨ (k = 1 ∧ 1 ≤ s ∧ s ≤ 10) ∨ (k = 2 ∧ 11 ≤ s ∧ s ≤ 110) ∨ (k = 3 ∧ 111 ≤ s ∧ s ≤ 1110)) (ha : 0 ≤ a ∧ a ≤ 2) (hg : -1 ≤ g ∧ g ≤ 7) (hi : (a ≤ i ∧ i ≤ k - 1) ∨ (i = k - 1 ∧ k ≤ a)) (he : i ≤ a) (h9 : k ≤ a → t = -1)
    (x0 : k - 1 - i = 0 → x = g - t) (x1 : k - 1 - i = 1 → x = 10 * (g - t)) (x2 : k - 1 - i = 2 → x = 100 * (g - t))
    (d1 : k = 1 → a = 0 → t = s - 1) (d2 : k = 2 → a = 0 → t = (s - 11) / 10) (d3 : k = 2 → a = 1 → t = (s - 11) % 10) (d4 : k = 3 → a = 0 → t = (s - 111) / 100) (d5 : k = 3 → a = 1 → t = (s - 111) / 10 % 10) (d6 : k = 3 → a = 2 → t = (s - 111) % 10) : 0 ≤ s + x ∧ s + x ≤ 1110 := by
  by_cases hk : k ≤ a
  · have e : i = k - 1 := by clear x0 x1 x2 d1 d2 d3 d4 d5 d6 h9; omega
    have q := x0 (by rw [e]; clear x0 x1 x2 d1 d2 d3 d4 d5 d6 h9; omega)
    rw [h9 hk] at q
    refine chg0 (g := g) ?_ hg q
    clear x0 x1 x2 d1 d2 d3 d4 d5 d6 h9 q
    omega
  · have e : i = a := by clear x0 x1 x2 d1 d2 d3 d4 d5 d6 h9; omega
    subst e
    rcases hs with ⟨rfl, _⟩ | ⟨rfl, hs⟩ | ⟨rfl, hs⟩ | ⟨rfl, hs⟩
    · exact absurd ha.1 (by clear x0 x1 x2 d1 d2 d3 d4 d5 d6 h9; omega)
    · have z : i = 0 := by clear x0 x1 x2 d1 d2 d3 d4 d5 d6 h9; omega
      subst z
      have q := x0 rfl
      rw [d1 rfl rfl] at q
      exact chg1 hs hg q
    · have z : i = 0 ∨ i = 1 := by clear x0 x1 x2 d1 d2 d3 d4 d5 d6 h9; omega
      rcases z with rfl | rfl
      · have q := x1 rfl
        rw [d2 rfl rfl] at q
        exact chg2 hs hg q
      · have q := x0 rfl
        rw [d3 rfl rfl] at q
        exact chg3 hs hg q
    · have z : i = 0 ∨ i = 1 ∨ i = 2 := by clear x0 x1 x2 d1 d2 d3 d4 d5 d6 h9; omega
      rcases z with rfl | rfl | rfl
      · have q := x2 rfl
        rw [d4 rfl rfl] at q
        exact chg4 hs hg q
      · have q := x1 rfl
        rw [d5 rfl rfl] at q
        exact chg5 hs hg q
      · have q := x0 rfl
        rw [d6 rfl rfl] at q
        exact chg6 hs hg q
noncomputable def DGk (s k a t : Int) : Prop := (k = 1 → a = 0 → t = s - 1) ∧ (k = 2 → a = 0 → t = (s - 11) / 10) ∧ (k = 2 → a = 1 → t = (s - 11) % 10) ∧ (k = 3 → a = 0 → t = (s - 111) / 100) ∧ (k = 3 → a = 1 → t = (s - 111) / 10 % 10) ∧ (k = 3 → a = 2 → t = (s - 111) % 10)

set_option maxRecDepth 4000 in
theorem k51l {base : Nat} {X : Nat → Option mC} {G : Nat → Value} (E : EnvOK base X G) {d : Nat} (hd : 0 ≤ d) {M : mH} (H : HI base M) (loss : Int) (move : Int) (h0 : 0 ≤ move ∧ move ≤ 31) : sOk base X G d T51 [vL loss, vI move] M (pL (fun v M' => M' = M ∧ v % 32 = move)) := by
  refine sOk.of (show sRn base X G d T51 0 [(0, vL loss), (2, vI move)] [] M _ from ?_)
  refine s_blx (lv' := [(0, vL loss), (2, vI move)]) (st' := [vI 5, vL loss]) B51_0_2 rfl ?_
  refine r_binLI (pc' := 3) D51_2 rfl rfl ?_
  intro z1 kq1r kq1
  refine s_blx (lv' := [(0, vL loss), (2, vI move)]) (st' := [vI move, vL z1]) B51_3_4 rfl ?_
  refine r_i2l (pc' := 5) D51_4 rfl (by unfold inR; omega) ?_
  refine r_binL (pc' := 6) D51_5 rfl rfl ?_
  intro z3 kq2r kq2
  exact r_lretL D51_6 rfl (⟨rfl, j_or kq2 (j_shl kq1) (by omega)⟩)
set_option maxRecDepth 4000 in
theorem L_k53_55l {base : Nat} {X : Nat → Option mC} {G : Nat → Value} (E : EnvOK base X G) {d : Nat} (hd : 175 ≤ d) {M : mH} (H : HI base M) (place : Int) (said : Int) (done : Int) (depth : Int) (n : Int) (h0 : RW base 56 n M) (h1 : TR 40 n M) (h2 : 1 ≤ n ∧ n ≤ 145) (h3 : 0 ≤ done ∧ done ≤ 3 ∧ 0 ≤ said ∧ said ≤ 1110) (h4 : 1 ≤ place ∧ place < n) (h5 : (done = 0 ∧ said = 0) ∨ (done = 1 ∧ 1 ≤ said ∧ said ≤ 10) ∨ (done = 2 ∧ 11 ≤ said ∧ said ≤ 110) ∨ (done = 3 ∧ 111 ≤ said ∧ said ≤ 1110)) (h6 : done ≤ 2) (h7 : depth = 0) : ∀ mz : Nat, (∀ (x10 x12 x13 : Int) (N : mH), HI base N → Fq [(57, 0)] M N → (1 ≤ x10 % 32 ∧ x10 % 32 ≤ 17) → ((-2147483648) ≤ x12) → (x12 ≤ 2147483647) → (0 ≤ x13) → (x13 ≤ 8) → (8 - x13) * 1 + 0 < (mz : Int) → sRn base X G d T53 172 [(0, vR 55), (1, vI place), (2, vI said), (3, vI done), (4, vI depth), (10, vL x10), (12, vI x12), (13, vI x13)] [] N (s_Q base (pL (fun v M' => HI base M' ∧ Fq [(57, 0)] M M' ∧ (1 ≤ v % 32 ∧ v % 32 ≤ 17))))) := by
  have f0 : Fq [(57, 0)] M M := Fq.rf
  intro mz
  induction mz with
  | zero => exact fun x10 x12 x13 N _ _ z0 z1 z2 z3 z4 z5 => by omega
  | succ mz ih =>
    intro x10 x12 x13 N HN fN i0 i1 i2 i3 i4 hmu
    refine s_blx (lv' := [(0, vR 55), (1, vI place), (2, vI said), (3, vI done), (4, vI depth), (10, vL x10), (12, vI x12), (13, vI x13)]) (st' := [vI 8, vI x13]) B53_172_176 rfl ?_
    refine r_icmp (tgt := 231) (pc' := 179) D53_176 rfl rfl (by unfold inR; omega) (fun (c66 : 8 ≤ x13) => ?_) (fun (c66 : ¬ (8 ≤ x13)) => ?_)
    · refine s_blx (lv' := [(0, vR 55), (1, vI place), (2, vI said), (3, vI done), (4, vI depth), (10, vL x10), (12, vI x12), (13, vI x13)]) (st' := [vL x10]) B53_231_233 rfl ?_
      exact r_lretL D53_233 rfl (⟨HN, fN, by omega⟩)
    · refine s_blx (lv' := [(0, vR 55), (1, vI place), (2, vI said), (3, vI done), (4, vI depth), (10, vL x10), (12, vI x12), (13, vI x13)]) (st' := [vI x13, vI x12]) B53_179_183 rfl ?_
      refine r_bin (pc' := 184) D53_183 rfl rfl ?_
      intro z67 r68 _; unfold inR at r68
      refine s_blx (lv' := [(0, vR 55), (1, vI place), (2, vI said), (3, vI done), (4, vI depth), (10, vL x10), (12, vI x12), (13, vI x13)]) (st' := [vI 1, vI z67]) B53_184_185 rfl ?_
      refine r_and1 (pc' := 186) D53_185 rfl ?_
      refine s_blx (lv' := [(0, vR 55), (1, vI place), (2, vI said), (3, vI done), (4, vI depth), (10, vL x10), (12, vI x12), (13, vI x13)]) (st' := [vI 1, vI (z67 % 2)]) B53_186_187 rfl ?_
      refine r_icmp (tgt := 225) (pc' := 190) D53_187 rfl rfl (by unfold inR; omega) (fun (c69 : (z67 % 2) ≠ 1) => ?_) (fun (c69 : ¬ ((z67 % 2) ≠ 1)) => ?_)
      · refine s_blx (lv' := [(13, vI (x13 + 1)), (0, vR 55), (1, vI place), (2, vI said), (3, vI done), (4, vI depth), (10, vL x10), (12, vI x12)]) (st' := []) B53_225_228 rfl ?_
        refine r_goto (tgt := 172) D53_228 rfl ?_
        refine r_loc (lv' := [(0, vR 55), (1, vI place), (2, vI said), (3, vI done), (4, vI depth), (10, vL x10), (12, vI x12), (13, vI (x13 + 1))]) ⟨rfl, rfl, rfl, rfl, rfl, rfl, rfl, rfl, trivial⟩ rfl rfl ?_
        exact ih x10 x12 (x13 + 1) N HN fN (by omega) (by omega) (by omega) (by omega) (by omega) (by omega)
      · refine s_blx (lv' := [(0, vR 55), (1, vI place), (2, vI said), (3, vI done), (4, vI depth), (10, vL x10), (12, vI x12), (13, vI x13)]) (st' := [vI x13, vI said, vI place, vR 55]) B53_190_195 rfl ?_
        refine r_sIp (args := [vI said, vI x13]) (rest := [vI place, vR 55]) (pc' := 198) D53_195 rfl ck_7_static_113 TE43 rfl (Nat.le_of_ble_eq_true rfl) ⟨Nat.le_of_ble_eq_true rfl, Nat.le_of_ble_eq_true rfl⟩ (by decide) (dp_0 hd rfl) (k43 E (dp_n hd rfl) HN said x13 (by omega) (by omega)) ?_
        intro v70 q73
        have q72 := q73; clear q73
        refine s_blx (lv' := [(0, vR 55), (1, vI place), (2, vI said), (3, vI done), (4, vI depth), (10, vL x10), (12, vI x12), (13, vI x13)]) (st' := [vI depth, vI (done + 1), vI v70, vI place, vR 55]) B53_198_203 rfl ?_
        refine r_vL (c := 55) (args := [vI place, vI v70, vI (done + 1), vI depth]) (rest := []) (pc' := 206) D53_203 rfl ck_7_virtual_90 TE55 rfl (Nat.le_of_ble_eq_true rfl) ⟨Nat.le_of_ble_eq_true rfl, Nat.le_of_ble_eq_true rfl⟩ sc_55 ⟨rfl, by decide⟩ HN.1 (by omega) (k55_55 E (rr := 41) (k52_55r E 41) (by omega) HN place v70 (done + 1) depth n ((h0.fq fN rfl)) ((h1.fq fN rfl)) (by omega) (by omega) (by omega) (by omega) (by omega)) ?_
        intro v74 M75 q78
        obtain ⟨H76, f77⟩ := q78
        have f79 := fN.tr (f77.up rfl)
        refine s_blx (lv' := [(14, vL v74), (0, vR 55), (1, vI place), (2, vI said), (3, vI done), (4, vI depth), (10, vL x10), (12, vI x12), (13, vI x13)]) (st' := [vI (10 + x13), vL v74, vL x10]) B53_206_217 rfl ?_
        refine r_sLp (args := [vL v74, vI (10 + x13)]) (rest := [vL x10]) (pc' := 220) D53_217 rfl ck_7_static_93 TE51 rfl (Nat.le_of_ble_eq_true rfl) ⟨Nat.le_of_ble_eq_true rfl, Nat.le_of_ble_eq_true rfl⟩ (by decide) (dp_0 hd rfl) (k51l E (dp_n hd rfl) H76 v74 (10 + x13) (by omega)) ?_
        intro v80 q83
        have q82 := q83; clear q83
        refine r_minE (pc' := 223) D53_220 rfl mc_7_static_100 sp_7_100 (Nat.le_of_ble_eq_true rfl) ?_
        intro z84 hm85
        refine s_blx (lv' := [(13, vI (x13 + 1)), (10, vL z84), (14, vL v74), (0, vR 55), (1, vI place), (2, vI said), (3, vI done), (4, vI depth), (12, vI x12)]) (st' := []) B53_223_228 rfl ?_
        refine r_goto (tgt := 172) D53_228 rfl ?_
        refine r_loc (lv' := [(0, vR 55), (1, vI place), (2, vI said), (3, vI done), (4, vI depth), (10, vL z84), (12, vI x12), (13, vI (x13 + 1))]) ⟨rfl, rfl, rfl, rfl, rfl, rfl, rfl, rfl, trivial⟩ rfl rfl ?_
        exact ih z84 x12 (x13 + 1) M75 H76 f79 (by omega) (by omega) (by omega) (by omega) (by omega) (by omega)
set_option maxRecDepth 4000 in
theorem k53_55l {base : Nat} {X : Nat → Option mC} {G : Nat → Value} (E : EnvOK base X G) {d : Nat} (hd : 175 ≤ d) {M : mH} (H : HI base M) (place : Int) (said : Int) (done : Int) (depth : Int) (n : Int) (h0 : RW base 56 n M) (h1 : TR 40 n M) (h2 : 1 ≤ n ∧ n ≤ 145) (h3 : 0 ≤ done ∧ done ≤ 3 ∧ 0 ≤ said ∧ said ≤ 1110) (h4 : 1 ≤ place ∧ place < n) (h5 : (done = 0 ∧ said = 0) ∨ (done = 1 ∧ 1 ≤ said ∧ said ≤ 10) ∨ (done = 2 ∧ 11 ≤ said ∧ said ≤ 110) ∨ (done = 3 ∧ 111 ≤ said ∧ said ≤ 1110)) (h6 : done ≤ 2) (h7 : depth = 0) : sOk base X G d T53 [vR 55, vI place, vI said, vI done, vI depth] M (pL (fun v M' => HI base M' ∧ Fq [(57, 0)] M M' ∧ (1 ≤ v % 32 ∧ v % 32 ≤ 17))) := by
  have f0 : Fq [(57, 0)] M M := Fq.rf
  refine sOk.of (show sRn base X G d T53 0 [(0, vR 55), (1, vI place), (2, vI said), (3, vI done), (4, vI depth)] [] M _ from ?_)
  refine s_blx (lv' := [(0, vR 55), (1, vI place), (2, vI said), (3, vI done), (4, vI depth)]) (st' := [vR 55]) B53_0_1 rfl ?_
  refine r_gfix (r := 39) (pc' := 4) D53_1 rfl gf_7_31_55 H.1 ?_
  refine s_blx (lv' := [(0, vR 55), (1, vI place), (2, vI said), (3, vI done), (4, vI depth)]) (st' := [vI done, vI place, vR 39]) B53_4_6 rfl ?_
  refine r_vIp (c := 39) (args := [vI place, vI done]) (rest := []) (pc' := 9) D53_6 rfl ck_7_virtual_72 TE85 rfl (Nat.le_of_ble_eq_true rfl) ⟨Nat.le_of_ble_eq_true rfl, Nat.le_of_ble_eq_true rfl⟩ sc_39 ⟨rfl, by decide⟩ H.1 (dp_0 hd rfl) (k85_39 E (dp_n hd rfl) H place done (by omega) (by omega)) ?_
  intro v1 q4
  have q3 := q4
  refine s_blx (lv' := [(5, vI v1), (0, vR 55), (1, vI place), (2, vI said), (3, vI done), (4, vI depth)]) (st' := [vR 55]) B53_9_12 rfl ?_
  refine r_gfix (r := 39) (pc' := 15) D53_12 rfl gf_7_31_55 H.1 ?_
  refine r_gfix (r := 42) (pc' := 18) D53_15 rfl gf_7_39_39 H.1 ?_
  refine s_blx (lv' := [(5, vI v1), (0, vR 55), (1, vI place), (2, vI said), (3, vI done), (4, vI depth)]) (st' := [vI place, vR 42]) B53_18_19 rfl ?_
  refine r_iald (pc' := 20) D53_19 rfl sc_42 H.1 (by omega) ?_
  intro w5 e6 r7
  unfold inR at r7
  refine r_i2l (pc' := 21) D53_20 rfl (by unfold inR; omega) ?_
  refine s_blx (lv' := [(6, vL w5), (5, vI v1), (0, vR 55), (1, vI place), (2, vI said), (3, vI done), (4, vI depth)]) (st' := [vI 8, vI said, vI place, vR 55]) B53_21_28 rfl ?_
  refine r_sIp (args := [vI said, vI 8]) (rest := [vI place, vR 55]) (pc' := 31) D53_28 rfl ck_7_static_113 TE43 rfl (Nat.le_of_ble_eq_true rfl) ⟨Nat.le_of_ble_eq_true rfl, Nat.le_of_ble_eq_true rfl⟩ (by decide) (dp_0 hd rfl) (k43 E (dp_n hd rfl) H said 8 (by omega) (by omega)) ?_
  intro v8 q11
  have q10 := q11; clear q11
  refine s_blx (lv' := [(6, vL w5), (5, vI v1), (0, vR 55), (1, vI place), (2, vI said), (3, vI done), (4, vI depth)]) (st' := [vI depth, vI (done + 1), vI v8, vI place, vR 55]) B53_31_36 rfl ?_
  refine r_vL (c := 55) (args := [vI place, vI v8, vI (done + 1), vI depth]) (rest := []) (pc' := 39) D53_36 rfl ck_7_virtual_90 TE55 rfl (Nat.le_of_ble_eq_true rfl) ⟨Nat.le_of_ble_eq_true rfl, Nat.le_of_ble_eq_true rfl⟩ sc_55 ⟨rfl, by decide⟩ H.1 (by omega) (k55_55 E (rr := 41) (k52_55r E 41) (by omega) H place v8 (done + 1) depth n (h0) (h1) (by omega) (by omega) (by omega) (by omega) (by omega)) ?_
  intro v12 M13 q16
  obtain ⟨H14, f15⟩ := q16
  have f17 := f0.tr (f15.up rfl)
  refine s_blx (lv' := [(8, vL v12), (6, vL w5), (5, vI v1), (0, vR 55), (1, vI place), (2, vI said), (3, vI done), (4, vI depth)]) (st' := [vR 55, vL w5, vL v12]) B53_39_46 rfl ?_
  refine r_gfix (r := 39) (pc' := 49) D53_46 rfl gf_7_31_55 H14.1 ?_
  refine r_gfix (r := 53) (pc' := 52) D53_49 rfl gf_7_110_39 H14.1 ?_
  refine s_blx (lv' := [(8, vL v12), (6, vL w5), (5, vI v1), (0, vR 55), (1, vI place), (2, vI said), (3, vI done), (4, vI depth)]) (st' := [vI 5, vR 53, vL w5, vL v12]) B53_52_53 rfl ?_
  refine r_iald (pc' := 54) D53_53 rfl sc_53 H14.1 (by omega) ?_
  intro w18 e19 r20
  have b_w18 := H14.2 53 (5) 0 1000 rfl
  rw [← e19] at b_w18; clear r20
  refine r_i2l (pc' := 55) D53_54 rfl (by unfold inR; omega) ?_
  refine s_blx (lv' := [(8, vL v12), (6, vL w5), (5, vI v1), (0, vR 55), (1, vI place), (2, vI said), (3, vI done), (4, vI depth)]) (st' := [vI 3, vL (v12 + (w5 * w18))]) B53_55_58 rfl ?_
  refine r_sLp (args := [vL (v12 + (w5 * w18)), vI 3]) (rest := []) (pc' := 61) D53_58 rfl ck_7_static_93 TE51 rfl (Nat.le_of_ble_eq_true rfl) ⟨Nat.le_of_ble_eq_true rfl, Nat.le_of_ble_eq_true rfl⟩ (by decide) (dp_0 hd rfl) (k51l E (dp_n hd rfl) H14 (v12 + (w5 * w18)) 3 (by omega)) ?_
  intro v21 q24
  have q23 := q24; clear q24
  refine s_blx (lv' := [(10, vL v21), (8, vL v12), (6, vL w5), (5, vI v1), (0, vR 55), (1, vI place), (2, vI said), (3, vI done), (4, vI depth)]) (st' := [vR 55]) B53_61_64 rfl ?_
  refine r_gfix (r := 39) (pc' := 67) D53_64 rfl gf_7_31_55 H14.1 ?_
  refine r_gfix (r := 47) (pc' := 70) D53_67 rfl gf_7_81_39 H14.1 ?_
  refine s_blx (lv' := [(10, vL v21), (8, vL v12), (6, vL w5), (5, vI v1), (0, vR 55), (1, vI place), (2, vI said), (3, vI done), (4, vI depth)]) (st' := [vI v1, vR 47]) B53_70_72 rfl ?_
  refine r_iald (pc' := 73) D53_72 rfl sc_47 H14.1 (by omega) ?_
  intro w25 e26 r27
  have b_w25 := H14.2 47 (v1) (-1) 7 rfl
  rw [← e26] at b_w25; clear r27
  refine s_blx (lv' := [(10, vL v21), (8, vL v12), (6, vL w5), (5, vI v1), (0, vR 55), (1, vI place), (2, vI said), (3, vI done), (4, vI depth)]) (st' := [vI (-1), vI w25]) B53_73_74 rfl ?_
  refine r_icmp (tgt := 89) (pc' := 77) D53_74 rfl rfl (by unfold inR; omega) (fun (c28 : w25 = (-1)) => ?_) (fun (c28 : ¬ (w25 = (-1))) => ?_)
  · refine s_blx (lv' := [(10, vL v21), (8, vL v12), (6, vL w5), (5, vI v1), (0, vR 55), (1, vI place), (2, vI said), (3, vI done), (4, vI depth)]) (st' := [vR 55]) B53_89_90 rfl ?_
    refine r_gfix (r := 39) (pc' := 93) D53_90 rfl gf_7_31_55 H14.1 ?_
    refine r_gfix (r := 50) (pc' := 96) D53_93 rfl gf_7_116_39 H14.1 ?_
    refine s_blx (lv' := [(10, vL v21), (8, vL v12), (6, vL w5), (5, vI v1), (0, vR 55), (1, vI place), (2, vI said), (3, vI done), (4, vI depth)]) (st' := [vI v1, vR 50]) B53_96_98 rfl ?_
    refine r_iald (pc' := 99) D53_98 rfl sc_50 H14.1 (by omega) ?_
    intro w29 e30 r31
    unfold inR at r31
    refine r_ifc (tgt := 146) (pc' := 102) D53_99 rfl rfl (by unfold inR; omega) (fun (c32 : w29 ≤ 0) => ?_) (fun (c32 : ¬ (w29 ≤ 0)) => ?_)
    · refine s_blx (lv' := [(10, vL v21), (8, vL v12), (6, vL w5), (5, vI v1), (0, vR 55), (1, vI place), (2, vI said), (3, vI done), (4, vI depth)]) (st' := [vR 55]) B53_146_147 rfl ?_
      refine r_gint (ki := 4) (pc' := 150) D53_147 rfl gf_7_27_55 rfl H14.1 ?_
      intro w33 e34 r35
      have b_w33 := H14.2 55 (4) 0 1 rfl
      rw [← e34] at b_w33; clear r35
      refine r_ifc (tgt := 166) (pc' := 153) D53_150 rfl rfl (by unfold inR; omega) (fun (c36 : w33 = 0) => ?_) (fun (c36 : ¬ (w33 = 0)) => ?_)
      · refine s_blx (lv' := [(13, vI 0), (12, vI 0), (10, vL v21), (8, vL v12), (6, vL w5), (5, vI v1), (0, vR 55), (1, vI place), (2, vI said), (3, vI done), (4, vI depth)]) (st' := []) B53_166_172 rfl ?_
        refine r_loc (lv' := [(0, vR 55), (1, vI place), (2, vI said), (3, vI done), (4, vI depth), (10, vL v21), (12, vI 0), (13, vI 0)]) ⟨rfl, rfl, rfl, rfl, rfl, rfl, rfl, rfl, trivial⟩ rfl rfl ?_
        exact (L_k53_55l E hd H place said done depth n h0 h1 h2 h3 h4 h5 h6 h7 (((8 - 0) * 1 + 0 : Int) + 1).toNat) v21 0 0 M13 H14 f17 (by omega) (by omega) (by omega) (by omega) (by omega) (by omega)
      · refine s_blx (lv' := [(10, vL v21), (8, vL v12), (6, vL w5), (5, vI v1), (0, vR 55), (1, vI place), (2, vI said), (3, vI done), (4, vI depth)]) (st' := [vR 55]) B53_153_154 rfl ?_
        refine r_gfix (r := 39) (pc' := 157) D53_154 rfl gf_7_31_55 H14.1 ?_
        refine r_gfix (r := 46) (pc' := 160) D53_157 rfl gf_7_78_39 H14.1 ?_
        refine s_blx (lv' := [(10, vL v21), (8, vL v12), (6, vL w5), (5, vI v1), (0, vR 55), (1, vI place), (2, vI said), (3, vI done), (4, vI depth)]) (st' := [vI v1, vR 46]) B53_160_162 rfl ?_
        refine r_iald (pc' := 163) D53_162 rfl sc_46 H14.1 (by omega) ?_
        intro w37 e38 r39
        unfold inR at r39
        refine r_goto (tgt := 167) D53_163 rfl ?_
        refine s_blx (lv' := [(13, vI 0), (12, vI w37), (10, vL v21), (8, vL v12), (6, vL w5), (5, vI v1), (0, vR 55), (1, vI place), (2, vI said), (3, vI done), (4, vI depth)]) (st' := []) B53_167_172 rfl ?_
        refine r_loc (lv' := [(0, vR 55), (1, vI place), (2, vI said), (3, vI done), (4, vI depth), (10, vL v21), (12, vI w37), (13, vI 0)]) ⟨rfl, rfl, rfl, rfl, rfl, rfl, rfl, rfl, trivial⟩ rfl rfl ?_
        exact (L_k53_55l E hd H place said done depth n h0 h1 h2 h3 h4 h5 h6 h7 (((8 - 0) * 1 + 0 : Int) + 1).toNat) v21 w37 0 M13 H14 f17 (by omega) (by omega) (by omega) (by omega) (by omega) (by omega)
    · refine s_blx (lv' := [(10, vL v21), (8, vL v12), (6, vL w5), (5, vI v1), (0, vR 55), (1, vI place), (2, vI said), (3, vI done), (4, vI depth)]) (st' := [vR 55, vL w5, vL v12]) B53_102_107 rfl ?_
      refine r_gfix (r := 39) (pc' := 110) D53_107 rfl gf_7_31_55 H14.1 ?_
      refine r_gfix (r := 53) (pc' := 113) D53_110 rfl gf_7_110_39 H14.1 ?_
      refine s_blx (lv' := [(10, vL v21), (8, vL v12), (6, vL w5), (5, vI v1), (0, vR 55), (1, vI place), (2, vI said), (3, vI done), (4, vI depth)]) (st' := [vI 7, vR 53, vL w5, vL v12]) B53_113_115 rfl ?_
      refine r_iald (pc' := 116) D53_115 rfl sc_53 H14.1 (by omega) ?_
      intro w40 e41 r42
      have b_w40 := H14.2 53 (7) 0 1000 rfl
      rw [← e41] at b_w40; clear r42
      refine r_i2l (pc' := 117) D53_116 rfl (by unfold inR; omega) ?_
      refine s_blx (lv' := [(10, vL v21), (8, vL v12), (6, vL w5), (5, vI v1), (0, vR 55), (1, vI place), (2, vI said), (3, vI done), (4, vI depth)]) (st' := [vR 55, vL (w5 * w40), vL v12]) B53_117_119 rfl ?_
      refine r_gfix (r := 39) (pc' := 122) D53_119 rfl gf_7_31_55 H14.1 ?_
      refine r_gfix (r := 50) (pc' := 125) D53_122 rfl gf_7_116_39 H14.1 ?_
      refine s_blx (lv' := [(10, vL v21), (8, vL v12), (6, vL w5), (5, vI v1), (0, vR 55), (1, vI place), (2, vI said), (3, vI done), (4, vI depth)]) (st' := [vI v1, vR 50, vL (w5 * w40), vL v12]) B53_125_127 rfl ?_
      refine r_iald (pc' := 128) D53_127 rfl sc_50 H14.1 (by omega) ?_
      intro w43 e44 r45
      have e46 : w29 = w43 := (e44.trans (e30.symm)).symm
      subst e46
      refine r_i2l (pc' := 129) D53_128 rfl (by unfold inR; omega) ?_
      refine s_blx (lv' := [(12, vL (v12 + ((w5 * w40) * w29))), (10, vL v21), (8, vL v12), (6, vL w5), (5, vI v1), (0, vR 55), (1, vI place), (2, vI said), (3, vI done), (4, vI depth)]) (st' := [vI 2, vL (v12 + ((w5 * w40) * w29)), vL v21]) B53_129_138 rfl ?_
      refine r_sLp (args := [vL (v12 + ((w5 * w40) * w29)), vI 2]) (rest := [vL v21]) (pc' := 141) D53_138 rfl ck_7_static_93 TE51 rfl (Nat.le_of_ble_eq_true rfl) ⟨Nat.le_of_ble_eq_true rfl, Nat.le_of_ble_eq_true rfl⟩ (by decide) (dp_0 hd rfl) (k51l E (dp_n hd rfl) H14 (v12 + ((w5 * w40) * w29)) 2 (by omega)) ?_
      intro v47 q50
      have q49 := q50; clear q50
      refine r_minE (pc' := 144) D53_141 rfl mc_7_static_100 sp_7_100 (Nat.le_of_ble_eq_true rfl) ?_
      intro z51 hm52
      refine s_blx (lv' := [(10, vL z51), (12, vL (v12 + ((w5 * w40) * w29))), (8, vL v12), (6, vL w5), (5, vI v1), (0, vR 55), (1, vI place), (2, vI said), (3, vI done), (4, vI depth)]) (st' := [vR 55]) B53_144_147 rfl ?_
      refine r_gint (ki := 4) (pc' := 150) D53_147 rfl gf_7_27_55 rfl H14.1 ?_
      intro w53 e54 r55
      have b_w53 := H14.2 55 (4) 0 1 rfl
      rw [← e54] at b_w53; clear r55
      refine r_ifc (tgt := 166) (pc' := 153) D53_150 rfl rfl (by unfold inR; omega) (fun (c56 : w53 = 0) => ?_) (fun (c56 : ¬ (w53 = 0)) => ?_)
      · refine s_blx (lv' := [(13, vI 0), (12, vI 0), (10, vL z51), (8, vL v12), (6, vL w5), (5, vI v1), (0, vR 55), (1, vI place), (2, vI said), (3, vI done), (4, vI depth)]) (st' := []) B53_166_172 rfl ?_
        refine r_loc (lv' := [(0, vR 55), (1, vI place), (2, vI said), (3, vI done), (4, vI depth), (10, vL z51), (12, vI 0), (13, vI 0)]) ⟨rfl, rfl, rfl, rfl, rfl, rfl, rfl, rfl, trivial⟩ rfl rfl ?_
        exact (L_k53_55l E hd H place said done depth n h0 h1 h2 h3 h4 h5 h6 h7 (((8 - 0) * 1 + 0 : Int) + 1).toNat) z51 0 0 M13 H14 f17 (by omega) (by omega) (by omega) (by omega) (by omega) (by omega)
      · refine s_blx (lv' := [(10, vL z51), (12, vL (v12 + ((w5 * w40) * w29))), (8, vL v12), (6, vL w5), (5, vI v1), (0, vR 55), (1, vI place), (2, vI said), (3, vI done), (4, vI depth)]) (st' := [vR 55]) B53_153_154 rfl ?_
        refine r_gfix (r := 39) (pc' := 157) D53_154 rfl gf_7_31_55 H14.1 ?_
        refine r_gfix (r := 46) (pc' := 160) D53_157 rfl gf_7_78_39 H14.1 ?_
        refine s_blx (lv' := [(10, vL z51), (12, vL (v12 + ((w5 * w40) * w29))), (8, vL v12), (6, vL w5), (5, vI v1), (0, vR 55), (1, vI place), (2, vI said), (3, vI done), (4, vI depth)]) (st' := [vI v1, vR 46]) B53_160_162 rfl ?_
        refine r_iald (pc' := 163) D53_162 rfl sc_46 H14.1 (by omega) ?_
        intro w57 e58 r59
        unfold inR at r59
        refine r_goto (tgt := 167) D53_163 rfl ?_
        refine s_blx (lv' := [(13, vI 0), (12, vI w57), (10, vL z51), (8, vL v12), (6, vL w5), (5, vI v1), (0, vR 55), (1, vI place), (2, vI said), (3, vI done), (4, vI depth)]) (st' := []) B53_167_172 rfl ?_
        refine r_loc (lv' := [(0, vR 55), (1, vI place), (2, vI said), (3, vI done), (4, vI depth), (10, vL z51), (12, vI w57), (13, vI 0)]) ⟨rfl, rfl, rfl, rfl, rfl, rfl, rfl, rfl, trivial⟩ rfl rfl ?_
        exact (L_k53_55l E hd H place said done depth n h0 h1 h2 h3 h4 h5 h6 h7 (((8 - 0) * 1 + 0 : Int) + 1).toNat) z51 w57 0 M13 H14 f17 (by omega) (by omega) (by omega) (by omega) (by omega) (by omega)
  · refine s_blx (lv' := [(10, vL v21), (8, vL v12), (6, vL w5), (5, vI v1), (0, vR 55), (1, vI place), (2, vI said), (3, vI done), (4, vI depth)]) (st' := [vI 1, vL v12, vL v21]) B53_77_82 rfl ?_
    refine r_sLp (args := [vL v12, vI 1]) (rest := [vL v21]) (pc' := 85) D53_82 rfl ck_7_static_93 TE51 rfl (Nat.le_of_ble_eq_true rfl) ⟨Nat.le_of_ble_eq_true rfl, Nat.le_of_ble_eq_true rfl⟩ (by decide) (dp_0 hd rfl) (k51l E (dp_n hd rfl) H14 v12 1 (by omega)) ?_
    intro v60 q63
    have q62 := q63; clear q63
    refine r_minE (pc' := 88) D53_85 rfl mc_7_static_100 sp_7_100 (Nat.le_of_ble_eq_true rfl) ?_
    intro z64 hm65
    exact r_lretL D53_88 rfl (⟨H14, f17, by omega⟩)
set_option maxRecDepth 4000 in
theorem k54_55l {base : Nat} {X : Nat → Option mC} {G : Nat → Value} (E : EnvOK base X G) {d : Nat} (hd : 175 ≤ d) {M : mH} (H : HI base M) (place : Int) (mended : Int) (done : Int) (at_ : Int) (depth : Int) (n : Int) (h0 : RW base 56 n M) (h1 : TR 40 n M) (h2 : 1 ≤ n ∧ n ≤ 145) (h3 : 0 ≤ done ∧ done ≤ 3 ∧ 0 ≤ mended ∧ mended ≤ 1110) (h4 : 1 ≤ place ∧ place < n) (h5 : (done = 0 ∧ mended = 0) ∨ (done = 1 ∧ 1 ≤ mended ∧ mended ≤ 10) ∨ (done = 2 ∧ 11 ≤ mended ∧ mended ≤ 110) ∨ (done = 3 ∧ 111 ≤ mended ∧ mended ≤ 1110)) (h6 : 0 ≤ at_ ∧ at_ ≤ 2) (h7 : depth = 0) : sOk base X G d T54 [vR 55, vI place, vI mended, vI done, vI at_, vI depth] M (pL (fun v M' => HI base M' ∧ Fq [(57, 0)] M M' ∧ (v % 32 = 0 ∨ (20 ≤ v % 32 ∧ v % 32 ≤ 22)))) := by
  have f0 : Fq [(57, 0)] M M := Fq.rf
  refine sOk.of (show sRn base X G d T54 0 [(0, vR 55), (1, vI place), (2, vI mended), (3, vI done), (4, vI at_), (5, vI depth)] [] M _ from ?_)
  refine s_blx (lv' := [(0, vR 55), (1, vI place), (2, vI mended), (3, vI done), (4, vI at_), (5, vI depth)]) (st' := [vR 55]) B54_0_1 rfl ?_
  refine r_gfix (r := 39) (pc' := 4) D54_1 rfl gf_7_31_55 H.1 ?_
  refine s_blx (lv' := [(0, vR 55), (1, vI place), (2, vI mended), (3, vI done), (4, vI at_), (5, vI depth)]) (st' := [vI at_, vI place, vR 39]) B54_4_7 rfl ?_
  refine r_vIp (c := 39) (args := [vI place, vI at_]) (rest := []) (pc' := 10) D54_7 rfl ck_7_virtual_72 TE85 rfl (Nat.le_of_ble_eq_true rfl) ⟨Nat.le_of_ble_eq_true rfl, Nat.le_of_ble_eq_true rfl⟩ sc_39 ⟨rfl, by decide⟩ H.1 (dp_0 hd rfl) (k85_39 E (dp_n hd rfl) H place at_ (by omega) (by omega)) ?_
  intro v1 q4
  have q3 := q4
  refine s_blx (lv' := [(6, vI v1), (0, vR 55), (1, vI place), (2, vI mended), (3, vI done), (4, vI at_), (5, vI depth)]) (st' := [vR 55]) B54_10_13 rfl ?_
  refine r_gfix (r := 39) (pc' := 16) D54_13 rfl gf_7_31_55 H.1 ?_
  refine r_gfix (r := 47) (pc' := 19) D54_16 rfl gf_7_81_39 H.1 ?_
  refine s_blx (lv' := [(6, vI v1), (0, vR 55), (1, vI place), (2, vI mended), (3, vI done), (4, vI at_), (5, vI depth)]) (st' := [vI v1, vR 47]) B54_19_21 rfl ?_
  refine r_iald (pc' := 22) D54_21 rfl sc_47 H.1 (by omega) ?_
  intro w5 e6 r7
  have b_w5 := H.2 47 (v1) (-1) 7 rfl
  rw [← e6] at b_w5; clear r7
  refine s_blx (lv' := [(6, vI v1), (0, vR 55), (1, vI place), (2, vI mended), (3, vI done), (4, vI at_), (5, vI depth)]) (st' := [vI (-1), vI w5]) B54_22_23 rfl ?_
  refine r_icmp (tgt := 30) (pc' := 26) D54_23 rfl rfl (by unfold inR; omega) (fun (c8 : w5 ≠ (-1)) => ?_) (fun (c8 : ¬ (w5 ≠ (-1))) => ?_)
  · refine s_blx (lv' := [(6, vI v1), (0, vR 55), (1, vI place), (2, vI mended), (3, vI done), (4, vI at_), (5, vI depth)]) (st' := [vR 55]) B54_30_31 rfl ?_
    refine r_gfix (r := 39) (pc' := 34) D54_31 rfl gf_7_31_55 H.1 ?_
    refine r_gfix (r := 42) (pc' := 37) D54_34 rfl gf_7_39_39 H.1 ?_
    refine s_blx (lv' := [(6, vI v1), (0, vR 55), (1, vI place), (2, vI mended), (3, vI done), (4, vI at_), (5, vI depth)]) (st' := [vI place, vR 42]) B54_37_38 rfl ?_
    refine r_iald (pc' := 39) D54_38 rfl sc_42 H.1 (by omega) ?_
    intro w9 e10 r11
    unfold inR at r11
    refine r_i2l (pc' := 40) D54_39 rfl (by unfold inR; omega) ?_
    refine s_blx (lv' := [(6, vI v1), (0, vR 55), (1, vI place), (2, vI mended), (3, vI done), (4, vI at_), (5, vI depth)]) (st' := [vR 55, vL w9]) B54_40_41 rfl ?_
    refine r_gfix (r := 39) (pc' := 44) D54_41 rfl gf_7_31_55 H.1 ?_
    refine r_gfix (r := 53) (pc' := 47) D54_44 rfl gf_7_110_39 H.1 ?_
    refine s_blx (lv' := [(6, vI v1), (0, vR 55), (1, vI place), (2, vI mended), (3, vI done), (4, vI at_), (5, vI depth)]) (st' := [vI 6, vR 53, vL w9]) B54_47_49 rfl ?_
    refine r_iald (pc' := 50) D54_49 rfl sc_53 H.1 (by omega) ?_
    intro w12 e13 r14
    have b_w12 := H.2 53 (6) 0 1000 rfl
    rw [← e13] at b_w12; clear r14
    refine r_i2l (pc' := 51) D54_50 rfl (by unfold inR; omega) ?_
    refine s_blx (lv' := [(6, vI v1), (0, vR 55), (1, vI place), (2, vI mended), (3, vI done), (4, vI at_), (5, vI depth)]) (st' := [vI depth, vI done, vI mended, vI place, vR 55, vL (w9 * w12)]) B54_51_58 rfl ?_
    refine r_vL (c := 55) (args := [vI place, vI mended, vI done, vI depth]) (rest := [vL (w9 * w12)]) (pc' := 61) D54_58 rfl ck_7_virtual_90 TE55 rfl (Nat.le_of_ble_eq_true rfl) ⟨Nat.le_of_ble_eq_true rfl, Nat.le_of_ble_eq_true rfl⟩ sc_55 ⟨rfl, by decide⟩ H.1 (by omega) (k55_55 E (rr := 41) (k52_55r E 41) (by omega) H place mended done depth n (h0) (h1) (by omega) (by omega) (by omega) (by omega) (by omega)) ?_
    intro v15 M16 q19
    obtain ⟨H17, f18⟩ := q19
    have f20 := f0.tr (f18.up rfl)
    refine s_blx (lv' := [(7, vL ((w9 * w12) + v15)), (6, vI v1), (0, vR 55), (1, vI place), (2, vI mended), (3, vI done), (4, vI at_), (5, vI depth)]) (st' := [vI ((20 + v1) - (place * 3)), vL ((w9 * w12) + v15)]) B54_61_75 rfl ?_
    refine r_sLp (args := [vL ((w9 * w12) + v15), vI ((20 + v1) - (place * 3))]) (rest := []) (pc' := 78) D54_75 rfl ck_7_static_93 TE51 rfl (Nat.le_of_ble_eq_true rfl) ⟨Nat.le_of_ble_eq_true rfl, Nat.le_of_ble_eq_true rfl⟩ (by decide) (dp_0 hd rfl) (k51l E (dp_n hd rfl) H17 ((w9 * w12) + v15) ((20 + v1) - (place * 3)) (by omega)) ?_
    intro v21 q24
    have q23 := q24; clear q24
    exact r_lretL D54_78 rfl (⟨H17, f20, by omega⟩)
  · refine r_ldc2 (e := 4611686018427387904) (pc' := 29) D54_26 rfl cl_7_88 (by decide) ?_
    exact r_lretL D54_29 rfl (⟨H, f0, by omega⟩)
set_option maxRecDepth 4000 in
theorem L_k52_55l {base : Nat} {X : Nat → Option mC} {G : Nat → Value} (E : EnvOK base X G) {d : Nat} (hd : 176 ≤ d) {M : mH} (H : HI base M) (place : Int) (said : Int) (done : Int) (depth : Int) (n : Int) (h0 : RW base 56 n M) (h1 : TR 40 n M) (h2 : 1 ≤ n ∧ n ≤ 145) (h3 : 0 ≤ done ∧ done ≤ 3 ∧ 0 ≤ said ∧ said ≤ 1110) (h4 : 1 ≤ place ∧ place < n) (h5 : (done = 0 ∧ said = 0) ∨ (done = 1 ∧ 1 ≤ said ∧ said ≤ 10) ∨ (done = 2 ∧ 11 ≤ said ∧ said ≤ 110) ∨ (done = 3 ∧ 111 ≤ said ∧ said ≤ 1110)) (h6 : depth = 0) : ∀ mz : Nat, (∀ (x5 x7 x8 x9 x10 : Int) (N : mH), HI base N → Fq [(57, 0)] M N → ((done - 1 - x10 = 0 ∧ x9 = 1 ∧ said = x8) ∨ (done - 1 - x10 = 1 ∧ x9 = 10 ∧ 1 ≤ said - 10 * x8 ∧ said - 10 * x8 ≤ 10) ∨ (done - 1 - x10 = 2 ∧ x9 = 100 ∧ 11 ≤ said - 100 * x8 ∧ said - 100 * x8 ≤ 110) ∨ (done - 1 - x10 = 3 ∧ x9 = 1000 ∧ 111 ≤ said - 1000 * x8 ∧ said - 1000 * x8 ≤ 1110)) → (((x10 + 1) = 0 ∧ x8 = 0) ∨ ((x10 + 1) = 1 ∧ 1 ≤ x8 ∧ x8 ≤ 10) ∨ ((x10 + 1) = 2 ∧ 11 ≤ x8 ∧ x8 ≤ 110) ∨ ((x10 + 1) = 3 ∧ 111 ≤ x8 ∧ x8 ≤ 1110)) → (0 ≤ x8 ∧ x8 ≤ 1110) → (1 ≤ x9 ∧ x9 ≤ 1000) → (-1 ≤ x10 ∧ x10 ≤ 2) → ((x5 % 32 = 0 ∨ x5 % 32 = 4 ∨ (20 ≤ x5 % 32 ∧ x5 % 32 ≤ 22)) ∨ (done ≤ 2 ∧ 1 ≤ x5 % 32 ∧ x5 % 32 ≤ 17)) → (0 ≤ x7) → ((-1) ≤ x8) → (x8 ≤ 1110) → (1 ≤ x9) → (x9 ≤ 10000) → ((-1) ≤ x10) → (x10 ≤ 2) → (x10 + 1) * 1 + 0 < (mz : Int) → sRn base X G d T52 77 [(0, vR 55), (1, vI place), (2, vI said), (3, vI done), (4, vI depth), (5, vL x5), (7, vI x7), (8, vI x8), (9, vI x9), (10, vI x10)] [] N (s_Q base (pL (fun v M' => HI base M' ∧ Fq [(57, 0)] M M' ∧ ((v % 32 = 0 ∨ v % 32 = 4 ∨ (20 ≤ v % 32 ∧ v % 32 ≤ 22)) ∨ (done ≤ 2 ∧ 1 ≤ v % 32 ∧ v % 32 ≤ 17)))))) := by
  have f0 : Fq [(57, 0)] M M := Fq.rf
  intro mz
  induction mz with
  | zero => exact fun x5 x7 x8 x9 x10 N _ _ z0 z1 z2 z3 z4 z5 z6 z7 z8 z9 z10 z11 z12 z13 => by omega
  | succ mz ih =>
    intro x5 x7 x8 x9 x10 N HN fN i0 i1 i2 i3 i4 i5 i6 i7 i8 i9 i10 i11 i12 hmu
    refine s_blx (lv' := [(0, vR 55), (1, vI place), (2, vI said), (3, vI done), (4, vI depth), (5, vL x5), (7, vI x7), (8, vI x8), (9, vI x9), (10, vI x10)]) (st' := [vI x10]) B52_77_79 rfl ?_
    refine r_ifc (tgt := 140) (pc' := 82) D52_79 rfl rfl (by unfold inR; omega) (fun (c36 : x10 < 0) => ?_) (fun (c36 : ¬ (x10 < 0)) => ?_)
    · refine s_blx (lv' := [(0, vR 55), (1, vI place), (2, vI said), (3, vI done), (4, vI depth), (5, vL x5), (7, vI x7), (8, vI x8), (9, vI x9), (10, vI x10)]) (st' := [vI 3, vI done]) B52_140_142 rfl ?_
      refine r_icmp (tgt := 197) (pc' := 145) D52_142 rfl rfl (by unfold inR; omega) (fun (c37 : done ≠ 3) => ?_) (fun (c37 : ¬ (done ≠ 3)) => ?_)
      · refine s_blx (lv' := [(0, vR 55), (1, vI place), (2, vI said), (3, vI done), (4, vI depth), (5, vL x5), (7, vI x7), (8, vI x8), (9, vI x9), (10, vI x10)]) (st' := [vL x5]) B52_197_199 rfl ?_
        exact r_lretL D52_199 rfl (⟨HN, fN, by omega⟩)
      · refine s_blx (lv' := [(0, vR 55), (1, vI place), (2, vI said), (3, vI done), (4, vI depth), (5, vL x5), (7, vI x7), (8, vI x8), (9, vI x9), (10, vI x10)]) (st' := [vR 55]) B52_145_146 rfl ?_
        refine r_gfix (r := 39) (pc' := 149) D52_146 rfl gf_7_31_55 HN.1 ?_
        refine r_gfix (r := 44) (pc' := 152) D52_149 rfl gf_7_84_39 HN.1 ?_
        refine s_blx (lv' := [(0, vR 55), (1, vI place), (2, vI said), (3, vI done), (4, vI depth), (5, vL x5), (7, vI x7), (8, vI x8), (9, vI x9), (10, vI x10)]) (st' := [vI place, vR 44]) B52_152_153 rfl ?_
        refine r_bald (pc' := 154) D52_153 rfl sc_44 (by decide) HN.1 (by omega) ?_
        intro w38 e39 r40
        have b_w38 := HN.2 44 (place) 0 1 rfl
        rw [← e39] at b_w38; clear r40
        refine r_ifc (tgt := 197) (pc' := 157) D52_154 rfl rfl (by unfold inR; omega) (fun (c41 : w38 = 0) => ?_) (fun (c41 : ¬ (w38 = 0)) => ?_)
        · refine s_blx (lv' := [(0, vR 55), (1, vI place), (2, vI said), (3, vI done), (4, vI depth), (5, vL x5), (7, vI x7), (8, vI x8), (9, vI x9), (10, vI x10)]) (st' := [vL x5]) B52_197_199 rfl ?_
          exact r_lretL D52_199 rfl (⟨HN, fN, by omega⟩)
        · refine s_blx (lv' := [(0, vR 55), (1, vI place), (2, vI said), (3, vI done), (4, vI depth), (5, vL x5), (7, vI x7), (8, vI x8), (9, vI x9), (10, vI x10)]) (st' := [vR 55]) B52_157_158 rfl ?_
          refine r_gfix (r := 39) (pc' := 161) D52_158 rfl gf_7_31_55 HN.1 ?_
          refine r_gfix (r := 42) (pc' := 164) D52_161 rfl gf_7_39_39 HN.1 ?_
          refine s_blx (lv' := [(0, vR 55), (1, vI place), (2, vI said), (3, vI done), (4, vI depth), (5, vL x5), (7, vI x7), (8, vI x8), (9, vI x9), (10, vI x10)]) (st' := [vI place, vR 42]) B52_164_165 rfl ?_
          refine r_iald (pc' := 166) D52_165 rfl sc_42 HN.1 (by omega) ?_
          intro w42 e43 r44
          unfold inR at r44
          refine r_i2l (pc' := 167) D52_166 rfl (by unfold inR; omega) ?_
          refine s_blx (lv' := [(0, vR 55), (1, vI place), (2, vI said), (3, vI done), (4, vI depth), (5, vL x5), (7, vI x7), (8, vI x8), (9, vI x9), (10, vI x10)]) (st' := [vR 55, vL w42]) B52_167_168 rfl ?_
          refine r_gfix (r := 39) (pc' := 171) D52_168 rfl gf_7_31_55 HN.1 ?_
          refine r_gfix (r := 53) (pc' := 174) D52_171 rfl gf_7_110_39 HN.1 ?_
          refine s_blx (lv' := [(0, vR 55), (1, vI place), (2, vI said), (3, vI done), (4, vI depth), (5, vL x5), (7, vI x7), (8, vI x8), (9, vI x9), (10, vI x10)]) (st' := [vI 4, vR 53, vL w42]) B52_174_175 rfl ?_
          refine r_iald (pc' := 176) D52_175 rfl sc_53 HN.1 (by omega) ?_
          intro w45 e46 r47
          have b_w45 := HN.2 53 (4) 0 1000 rfl
          rw [← e46] at b_w45; clear r47
          refine r_i2l (pc' := 177) D52_176 rfl (by unfold inR; omega) ?_
          refine s_blx (lv' := [(0, vR 55), (1, vI place), (2, vI said), (3, vI done), (4, vI depth), (5, vL x5), (7, vI x7), (8, vI x8), (9, vI x9), (10, vI x10)]) (st' := [vI x7, vL (w42 * w45)]) B52_177_180 rfl ?_
          refine r_norm ?_
          intro z48 r49 _; unfold inR at r49
          refine r_i2l (pc' := 181) D52_180 rfl (by unfold inR; omega) ?_
          refine s_blx (lv' := [(10, vL ((w42 * w45) * z48)), (0, vR 55), (1, vI place), (2, vI said), (3, vI done), (4, vI depth), (5, vL x5), (7, vI x7), (8, vI x8), (9, vI x9)]) (st' := [vI 4, vL ((w42 * w45) * z48), vL x5]) B52_181_189 rfl ?_
          refine r_sLp (args := [vL ((w42 * w45) * z48), vI 4]) (rest := [vL x5]) (pc' := 192) D52_189 rfl ck_7_static_93 TE51 rfl (Nat.le_of_ble_eq_true rfl) ⟨Nat.le_of_ble_eq_true rfl, Nat.le_of_ble_eq_true rfl⟩ (by decide) (dp_0 hd rfl) (k51l E (dp_n hd rfl) HN ((w42 * w45) * z48) 4 (by omega)) ?_
          intro v50 q53
          have q52 := q53; clear q53
          refine r_minE (pc' := 195) D52_192 rfl mc_7_static_100 sp_7_100 (Nat.le_of_ble_eq_true rfl) ?_
          intro z54 hm55
          refine s_blx (lv' := [(5, vL z54), (10, vL ((w42 * w45) * z48)), (0, vR 55), (1, vI place), (2, vI said), (3, vI done), (4, vI depth), (7, vI x7), (8, vI x8), (9, vI x9)]) (st' := [vL z54]) B52_195_199 rfl ?_
          exact r_lretL D52_199 rfl (⟨HN, fN, by omega⟩)
    · refine s_blx (lv' := [(0, vR 55), (1, vI place), (2, vI said), (3, vI done), (4, vI depth), (5, vL x5), (7, vI x7), (8, vI x8), (9, vI x9), (10, vI x10)]) (st' := [vI 10, vI (x8 - 1)]) B52_82_88 rfl ?_
      refine r_irem (pc' := 89) D52_88 rfl (by omega) ?_
      refine s_blx (lv' := [(0, vR 55), (1, vI place), (2, vI said), (3, vI done), (4, vI depth), (5, vL x5), (7, vI x7), (8, vI x8), (9, vI x9), (10, vI x10)]) (st' := [vI 9, vI ((x8 - 1) % 10)]) B52_89_91 rfl ?_
      refine r_icmp (tgt := 118) (pc' := 94) D52_91 rfl rfl (by unfold inR; omega) (fun (c56 : ((x8 - 1) % 10) ≠ 9) => ?_) (fun (c56 : ¬ (((x8 - 1) % 10) ≠ 9)) => ?_)
      · refine s_blx (lv' := [(0, vR 55), (1, vI place), (2, vI said), (3, vI done), (4, vI depth), (5, vL x5), (7, vI x7), (8, vI x8), (9, vI x9), (10, vI x10)]) (st' := [vI 10, vI (x8 - 1)]) B52_118_124 rfl ?_
        refine r_idiv (pc' := 125) D52_124 rfl (by omega) ?_
        refine s_blx (lv' := [(10, vI (x10 + (-1))), (9, vI (x9 * 10)), (8, vI ((x8 - 1) / 10)), (0, vR 55), (1, vI place), (2, vI said), (3, vI done), (4, vI depth), (5, vL x5), (7, vI x7)]) (st' := []) B52_125_137 rfl ?_
        refine r_goto (tgt := 77) D52_137 rfl ?_
        refine r_loc (lv' := [(0, vR 55), (1, vI place), (2, vI said), (3, vI done), (4, vI depth), (5, vL x5), (7, vI x7), (8, vI ((x8 - 1) / 10)), (9, vI (x9 * 10)), (10, vI (x10 + (-1)))]) ⟨rfl, rfl, rfl, rfl, rfl, rfl, rfl, rfl, rfl, rfl, trivial⟩ rfl rfl ?_
        exact ih x5 x7 ((x8 - 1) / 10) (x9 * 10) (x10 + (-1)) N HN fN (by rcases i0 with ⟨z1, rfl, z2⟩ | ⟨z1, rfl, z2⟩ | ⟨z1, rfl, z2⟩ | ⟨z1, rfl, z2⟩ <;> omega) (by omega) (by omega) (by omega) (by omega) (by omega) (by omega) (by omega) (by omega) (by omega) (by omega) (by omega) (by omega) (by omega)
      · refine s_blx (lv' := [(7, vI (x7 + 1)), (0, vR 55), (1, vI place), (2, vI said), (3, vI done), (4, vI depth), (5, vL x5), (8, vI x8), (9, vI x9), (10, vI x10)]) (st' := [vI depth, vI x10, vI done, vI (said - x9), vI place, vR 55, vL x5]) B52_94_110 rfl ?_
        refine r_vL (c := 55) (args := [vI place, vI (said - x9), vI done, vI x10, vI depth]) (rest := [vL x5]) (pc' := 113) D52_110 rfl ck_7_virtual_106 TE54 rfl (Nat.le_of_ble_eq_true rfl) ⟨Nat.le_of_ble_eq_true rfl, Nat.le_of_ble_eq_true rfl⟩ sc_55 ⟨rfl, by decide⟩ HN.1 (dp_0 hd rfl) (k54_55l E (dp_n hd rfl) HN place (said - x9) done x10 depth n ((h0.fq fN rfl)) ((h1.fq fN rfl)) (by omega) (by rcases i0 with ⟨z1, rfl, z2⟩ | ⟨z1, rfl, z2⟩ | ⟨z1, rfl, z2⟩ | ⟨z1, rfl, z2⟩ <;> omega) (by omega) (by rcases i0 with ⟨z1, rfl, z2⟩ | ⟨z1, rfl, z2⟩ | ⟨z1, rfl, z2⟩ | ⟨z1, rfl, z2⟩ <;> omega) (by omega) (by omega)) ?_
        intro v57 M58 q62
        obtain ⟨H59, f60, q61⟩ := q62
        have f63 := fN.tr (f60.up rfl)
        refine r_minE (pc' := 116) D52_113 rfl mc_7_static_100 sp_7_100 (Nat.le_of_ble_eq_true rfl) ?_
        intro z64 hm65
        refine s_blx (lv' := [(5, vL z64), (7, vI (x7 + 1)), (0, vR 55), (1, vI place), (2, vI said), (3, vI done), (4, vI depth), (8, vI x8), (9, vI x9), (10, vI x10)]) (st' := [vI 10, vI (x8 - 1)]) B52_116_124 rfl ?_
        refine r_idiv (pc' := 125) D52_124 rfl (by omega) ?_
        refine s_blx (lv' := [(10, vI (x10 + (-1))), (9, vI (x9 * 10)), (8, vI ((x8 - 1) / 10)), (5, vL z64), (7, vI (x7 + 1)), (0, vR 55), (1, vI place), (2, vI said), (3, vI done), (4, vI depth)]) (st' := []) B52_125_137 rfl ?_
        refine r_goto (tgt := 77) D52_137 rfl ?_
        refine r_loc (lv' := [(0, vR 55), (1, vI place), (2, vI said), (3, vI done), (4, vI depth), (5, vL z64), (7, vI (x7 + 1)), (8, vI ((x8 - 1) / 10)), (9, vI (x9 * 10)), (10, vI (x10 + (-1)))]) ⟨rfl, rfl, rfl, rfl, rfl, rfl, rfl, rfl, rfl, rfl, trivial⟩ rfl rfl ?_
        exact ih z64 (x7 + 1) ((x8 - 1) / 10) (x9 * 10) (x10 + (-1)) M58 H59 f63 (by rcases i0 with ⟨z1, rfl, z2⟩ | ⟨z1, rfl, z2⟩ | ⟨z1, rfl, z2⟩ | ⟨z1, rfl, z2⟩ <;> omega) (by omega) (by omega) (by omega) (by omega) (by omega) (by omega) (by omega) (by omega) (by omega) (by omega) (by omega) (by omega) (by omega)
set_option maxRecDepth 4000 in
theorem k52_55l {base : Nat} {X : Nat → Option mC} {G : Nat → Value} (E : EnvOK base X G) {d : Nat} (hd : 176 ≤ d) {M : mH} (H : HI base M) (place : Int) (said : Int) (done : Int) (depth : Int) (n : Int) (h0 : RW base 56 n M) (h1 : TR 40 n M) (h2 : 1 ≤ n ∧ n ≤ 145) (h3 : 0 ≤ done ∧ done ≤ 3 ∧ 0 ≤ said ∧ said ≤ 1110) (h4 : 1 ≤ place ∧ place < n) (h5 : (done = 0 ∧ said = 0) ∨ (done = 1 ∧ 1 ≤ said ∧ said ≤ 10) ∨ (done = 2 ∧ 11 ≤ said ∧ said ≤ 110) ∨ (done = 3 ∧ 111 ≤ said ∧ said ≤ 1110)) (h6 : depth = 0) : sOk base X G d T52 [vR 55, vI place, vI said, vI done, vI depth] M (pL (fun v M' => HI base M' ∧ Fq [(57, 0)] M M' ∧ ((v % 32 = 0 ∨ v % 32 = 4 ∨ (20 ≤ v % 32 ∧ v % 32 ≤ 22)) ∨ (done ≤ 2 ∧ 1 ≤ v % 32 ∧ v % 32 ≤ 17)))) := by
  have f0 : Fq [(57, 0)] M M := Fq.rf
  refine sOk.of (show sRn base X G d T52 0 [(0, vR 55), (1, vI place), (2, vI said), (3, vI done), (4, vI depth)] [] M _ from ?_)
  refine s_blx (lv' := [(0, vR 55), (1, vI place), (2, vI said), (3, vI done), (4, vI depth)]) (st' := [vI 40, vI depth]) B52_0_4 rfl ?_
  refine r_icmp (tgt := 9) (pc' := 7) D52_4 rfl rfl (by unfold inR; omega) (fun (c1 : depth ≤ 40) => ?_) (fun (c1 : ¬ (depth ≤ 40)) => ?_)
  · refine s_blx (lv' := [(0, vR 55), (1, vI place), (2, vI said), (3, vI done), (4, vI depth)]) (st' := [vR 55]) B52_9_10 rfl ?_
    refine r_gfix (r := 39) (pc' := 13) D52_10 rfl gf_7_31_55 H.1 ?_
    refine r_gfix (r := 44) (pc' := 16) D52_13 rfl gf_7_84_39 H.1 ?_
    refine s_blx (lv' := [(0, vR 55), (1, vI place), (2, vI said), (3, vI done), (4, vI depth)]) (st' := [vI place, vR 44]) B52_16_17 rfl ?_
    refine r_bald (pc' := 18) D52_17 rfl sc_44 (by decide) H.1 (by omega) ?_
    intro w2 e3 r4
    have b_w2 := H.2 44 (place) 0 1 rfl
    rw [← e3] at b_w2; clear r4
    refine r_ifc (tgt := 27) (pc' := 21) D52_18 rfl rfl (by unfold inR; omega) (fun (c5 : w2 = 0) => ?_) (fun (c5 : ¬ (w2 = 0)) => ?_)
    · refine s_blx (lv' := [(0, vR 55), (1, vI place), (2, vI said), (3, vI done), (4, vI depth)]) (st' := [vI depth, vI done, vI said, vI place, vR 55]) B52_27_33 rfl ?_
      refine r_vL (c := 55) (args := [vI place, vI said, vI done, vI depth]) (rest := []) (pc' := 36) D52_33 rfl ck_7_virtual_90 TE55 rfl (Nat.le_of_ble_eq_true rfl) ⟨Nat.le_of_ble_eq_true rfl, Nat.le_of_ble_eq_true rfl⟩ sc_55 ⟨rfl, by decide⟩ H.1 (by omega) (k55_55 E (rr := 41) (k52_55r E 41) (by omega) H place said done depth n (h0) (h1) (by omega) (by omega) (by omega) (by omega) (by omega)) ?_
      intro v6 M7 q10
      obtain ⟨H8, f9⟩ := q10
      have f11 := f0.tr (f9.up rfl)
      refine s_blx (lv' := [(0, vR 55), (1, vI place), (2, vI said), (3, vI done), (4, vI depth)]) (st' := [vI 0, vL v6]) B52_36_37 rfl ?_
      refine r_sLp (args := [vL v6, vI 0]) (rest := []) (pc' := 40) D52_37 rfl ck_7_static_93 TE51 rfl (Nat.le_of_ble_eq_true rfl) ⟨Nat.le_of_ble_eq_true rfl, Nat.le_of_ble_eq_true rfl⟩ (by decide) (dp_0 hd rfl) (k51l E (dp_n hd rfl) H8 v6 0 (by omega)) ?_
      intro v12 q15
      have q14 := q15; clear q15
      refine s_blx (lv' := [(5, vL v12), (0, vR 55), (1, vI place), (2, vI said), (3, vI done), (4, vI depth)]) (st' := [vI 3, vI done]) B52_40_44 rfl ?_
      refine r_icmp (tgt := 63) (pc' := 47) D52_44 rfl rfl (by unfold inR; omega) (fun (c16 : 3 ≤ done) => ?_) (fun (c16 : ¬ (3 ≤ done)) => ?_)
      · refine s_blx (lv' := [(10, vI (done - 1)), (9, vI 1), (8, vI said), (7, vI 0), (5, vL v12), (0, vR 55), (1, vI place), (2, vI said), (3, vI done), (4, vI depth)]) (st' := []) B52_63_77 rfl ?_
        refine r_loc (lv' := [(0, vR 55), (1, vI place), (2, vI said), (3, vI done), (4, vI depth), (5, vL v12), (7, vI 0), (8, vI said), (9, vI 1), (10, vI (done - 1))]) ⟨rfl, rfl, rfl, rfl, rfl, rfl, rfl, rfl, rfl, rfl, trivial⟩ rfl rfl ?_
        exact (L_k52_55l E hd H place said done depth n h0 h1 h2 h3 h4 h5 h6 ((((done - 1) + 1) * 1 + 0 : Int) + 1).toNat) v12 0 said 1 (done - 1) M7 H8 f11 (by omega) (by omega) (by omega) (by omega) (by omega) (by omega) (by omega) (by omega) (by omega) (by omega) (by omega) (by omega) (by omega) (by omega)
      · refine s_blx (lv' := [(5, vL v12), (0, vR 55), (1, vI place), (2, vI said), (3, vI done), (4, vI depth)]) (st' := [vI depth, vI done, vI said, vI place, vR 55, vL v12]) B52_47_55 rfl ?_
        refine r_vL (c := 55) (args := [vI place, vI said, vI done, vI depth]) (rest := [vL v12]) (pc' := 58) D52_55 rfl ck_7_virtual_97 TE53 rfl (Nat.le_of_ble_eq_true rfl) ⟨Nat.le_of_ble_eq_true rfl, Nat.le_of_ble_eq_true rfl⟩ sc_55 ⟨rfl, by decide⟩ H8.1 (dp_0 hd rfl) (k53_55l E (dp_n hd rfl) H8 place said done depth n ((h0.fq f11 rfl)) ((h1.fq f11 rfl)) (by omega) (by omega) (by omega) (by omega) (by omega) (by omega)) ?_
        intro v17 M18 q22
        obtain ⟨H19, f20, q21⟩ := q22
        have f23 := f11.tr (f20.up rfl)
        refine r_minE (pc' := 61) D52_58 rfl mc_7_static_100 sp_7_100 (Nat.le_of_ble_eq_true rfl) ?_
        intro z24 hm25
        refine s_blx (lv' := [(10, vI (done - 1)), (9, vI 1), (8, vI said), (7, vI 0), (5, vL z24), (0, vR 55), (1, vI place), (2, vI said), (3, vI done), (4, vI depth)]) (st' := []) B52_61_77 rfl ?_
        refine r_loc (lv' := [(0, vR 55), (1, vI place), (2, vI said), (3, vI done), (4, vI depth), (5, vL z24), (7, vI 0), (8, vI said), (9, vI 1), (10, vI (done - 1))]) ⟨rfl, rfl, rfl, rfl, rfl, rfl, rfl, rfl, rfl, rfl, trivial⟩ rfl rfl ?_
        exact (L_k52_55l E hd H place said done depth n h0 h1 h2 h3 h4 h5 h6 ((((done - 1) + 1) * 1 + 0 : Int) + 1).toNat) z24 0 said 1 (done - 1) M18 H19 f23 (by omega) (by omega) (by omega) (by omega) (by omega) (by omega) (by omega) (by omega) (by omega) (by omega) (by omega) (by omega) (by omega) (by omega)
    · refine r_ldc2 (e := 4611686018427387904) (pc' := 24) D52_21 rfl cl_7_88 (by decide) ?_
      refine r_goto (tgt := 40) D52_24 rfl ?_
      refine s_blx (lv' := [(5, vL 4611686018427387904), (0, vR 55), (1, vI place), (2, vI said), (3, vI done), (4, vI depth)]) (st' := [vI 3, vI done]) B52_40_44 rfl ?_
      refine r_icmp (tgt := 63) (pc' := 47) D52_44 rfl rfl (by unfold inR; omega) (fun (c26 : 3 ≤ done) => ?_) (fun (c26 : ¬ (3 ≤ done)) => ?_)
      · refine s_blx (lv' := [(10, vI (done - 1)), (9, vI 1), (8, vI said), (7, vI 0), (5, vL 4611686018427387904), (0, vR 55), (1, vI place), (2, vI said), (3, vI done), (4, vI depth)]) (st' := []) B52_63_77 rfl ?_
        refine r_loc (lv' := [(0, vR 55), (1, vI place), (2, vI said), (3, vI done), (4, vI depth), (5, vL 4611686018427387904), (7, vI 0), (8, vI said), (9, vI 1), (10, vI (done - 1))]) ⟨rfl, rfl, rfl, rfl, rfl, rfl, rfl, rfl, rfl, rfl, trivial⟩ rfl rfl ?_
        exact (L_k52_55l E hd H place said done depth n h0 h1 h2 h3 h4 h5 h6 ((((done - 1) + 1) * 1 + 0 : Int) + 1).toNat) 4611686018427387904 0 said 1 (done - 1) M H f0 (by omega) (by omega) (by omega) (by omega) (by omega) (by omega) (by omega) (by omega) (by omega) (by omega) (by omega) (by omega) (by omega) (by omega)
      · refine s_blx (lv' := [(5, vL 4611686018427387904), (0, vR 55), (1, vI place), (2, vI said), (3, vI done), (4, vI depth)]) (st' := [vI depth, vI done, vI said, vI place, vR 55, vL 4611686018427387904]) B52_47_55 rfl ?_
        refine r_vL (c := 55) (args := [vI place, vI said, vI done, vI depth]) (rest := [vL 4611686018427387904]) (pc' := 58) D52_55 rfl ck_7_virtual_97 TE53 rfl (Nat.le_of_ble_eq_true rfl) ⟨Nat.le_of_ble_eq_true rfl, Nat.le_of_ble_eq_true rfl⟩ sc_55 ⟨rfl, by decide⟩ H.1 (dp_0 hd rfl) (k53_55l E (dp_n hd rfl) H place said done depth n (h0) (h1) (by omega) (by omega) (by omega) (by omega) (by omega) (by omega)) ?_
        intro v27 M28 q32
        obtain ⟨H29, f30, q31⟩ := q32
        have f33 := f0.tr (f30.up rfl)
        refine r_minE (pc' := 61) D52_58 rfl mc_7_static_100 sp_7_100 (Nat.le_of_ble_eq_true rfl) ?_
        intro z34 hm35
        refine s_blx (lv' := [(10, vI (done - 1)), (9, vI 1), (8, vI said), (7, vI 0), (5, vL z34), (0, vR 55), (1, vI place), (2, vI said), (3, vI done), (4, vI depth)]) (st' := []) B52_61_77 rfl ?_
        refine r_loc (lv' := [(0, vR 55), (1, vI place), (2, vI said), (3, vI done), (4, vI depth), (5, vL z34), (7, vI 0), (8, vI said), (9, vI 1), (10, vI (done - 1))]) ⟨rfl, rfl, rfl, rfl, rfl, rfl, rfl, rfl, rfl, rfl, trivial⟩ rfl rfl ?_
        exact (L_k52_55l E hd H place said done depth n h0 h1 h2 h3 h4 h5 h6 ((((done - 1) + 1) * 1 + 0 : Int) + 1).toNat) z34 0 said 1 (done - 1) M28 H29 f33 (by omega) (by omega) (by omega) (by omega) (by omega) (by omega) (by omega) (by omega) (by omega) (by omega) (by omega) (by omega) (by omega) (by omega)
  · exfalso; omega
set_option maxRecDepth 4000 in
theorem L_k48_55l {base : Nat} {X : Nat → Option mC} {G : Nat → Value} (E : EnvOK base X G) {d : Nat} (hd : 177 ≤ d) {M : mH} (H : HI base M) (place : Int) (said : Int) (n : Int) (h0 : RW base 56 n M) (h1 : TR 40 n M) (h2 : 1 ≤ n ∧ n ≤ 145) (h3 : 1 ≤ place ∧ place < n) (h4 : 0 ≤ said ∧ said ≤ 1110) : ∀ mz : Nat, (∀ (x3 x4 x5 : Int), (0 ≤ x5 ∧ x5 ≤ x3) → (0 ≤ x3 ∧ x3 ≤ 3) → (SDk said x3) → (SDk x4 x3) → (PLk said x4 x3 x5) → (0 ≤ x4 ∧ x4 ≤ 1110) → (0 ≤ x3) → (x3 ≤ 3) → ((-1000) ≤ x4) → (x4 ≤ 3000) → (0 ≤ x5) → (x5 ≤ 3) → (3 - x5) * 1 + 0 < (mz : Int) → sRn base X G d T48 11 [(0, vR 55), (1, vI place), (2, vI said), (3, vI x3), (4, vI x4), (5, vI x5)] [] M (s_Q base (pI (fun v M' => HI base M' ∧ Fq [(57, 0)] M M' ∧ (0 ≤ v ∧ v ≤ 31) ∧ ((v = 0 ∨ v = 4 ∨ (20 ≤ v ∧ v ≤ 22)) ∨ (said ≤ 110 ∧ 1 ≤ v ∧ v ≤ 17)))))) := by
  have f0 : Fq [(57, 0)] M M := Fq.rf
  intro mz
  induction mz with
  | zero => exact fun x3 x4 x5 z0 z1 z2 z3 z4 z5 z6 z7 z8 z9 z10 z11 z12 => by omega
  | succ mz ih =>
    intro x3 x4 x5 i0 i1 i2 i3 i4 i5 i6 i7 i8 i9 i10 i11 hmu
    refine s_blx (lv' := [(0, vR 55), (1, vI place), (2, vI said), (3, vI x3), (4, vI x4), (5, vI x5)]) (st' := [vI x3, vI x5]) B48_11_14 rfl ?_
    refine r_icmp (tgt := 47) (pc' := 17) D48_14 rfl rfl (by unfold inR; omega) (fun (c9 : x3 ≤ x5) => ?_) (fun (c9 : ¬ (x3 ≤ x5)) => ?_)
    · refine s_blx (lv' := [(0, vR 55), (1, vI place), (2, vI said), (3, vI x3), (4, vI x4), (5, vI x5)]) (st' := [vI x3, vI x4, vI place, vR 55, vI place, vR 55]) B48_47_54 rfl ?_
      refine r_vIp (c := 55) (args := [vI place, vI x4, vI x3]) (rest := [vI place, vR 55]) (pc' := 57) D48_54 rfl ck_7_virtual_64 TE49 rfl (Nat.le_of_ble_eq_true rfl) ⟨Nat.le_of_ble_eq_true rfl, Nat.le_of_ble_eq_true rfl⟩ sc_55 ⟨rfl, by decide⟩ H.1 (dp_0 hd rfl) (k49_55 E (dp_n hd rfl) H place x4 x3 (by omega) (i3) (by omega) (by omega)) ?_
      intro v10 q14
      obtain ⟨q12, q13⟩ := q14
      have kq := q12; clear q12
      refine s_blx (lv' := [(0, vR 55), (1, vI place), (2, vI said), (3, vI x3), (4, vI x4), (5, vI x5)]) (st' := [vI 0, vI x3, vI v10, vI place, vR 55]) B48_57_59 rfl ?_
      refine r_vL (c := 55) (args := [vI place, vI v10, vI x3, vI 0]) (rest := []) (pc' := 62) D48_59 rfl ck_7_virtual_67 TE52 rfl (Nat.le_of_ble_eq_true rfl) ⟨Nat.le_of_ble_eq_true rfl, Nat.le_of_ble_eq_true rfl⟩ sc_55 ⟨rfl, by decide⟩ H.1 (dp_0 hd rfl) (k52_55l E (dp_n hd rfl) H place v10 x3 0 n (h0) (h1) (by omega) (by omega) (by omega) (kq) (by omega)) ?_
      intro v15 M16 q20
      obtain ⟨H17, f18, q19⟩ := q20
      have f21 := f0.tr (f18.up rfl)
      have klm := q19; clear q19
      have kv := v15
      refine r_ldc2 (e := 31) (pc' := 65) D48_62 rfl cl_7_70 (by decide) ?_
      refine r_binL (pc' := 66) D48_65 rfl rfl ?_
      intro z22 kq3r kq3
      have kz := j_and kq3r kq3
      have ksd2 := i2
      unfold SDk at ksd2
      refine r_l2i (pc' := 67) D48_66 rfl ?_
      exact r_iretI D48_67 rfl (⟨H17, f21, by omega, by omega⟩)
    · refine s_blx (lv' := [(0, vR 55), (1, vI place), (2, vI said), (3, vI x3), (4, vI x4), (5, vI x5)]) (st' := [vI x5, vI x3, vI said]) B48_17_21 rfl ?_
      refine r_sIp (args := [vI said, vI x3, vI x5]) (rest := []) (pc' := 24) D48_21 rfl ck_7_static_56 TE44 rfl (Nat.le_of_ble_eq_true rfl) ⟨Nat.le_of_ble_eq_true rfl, Nat.le_of_ble_eq_true rfl⟩ (by decide) (dp_0 hd rfl) (k44x E (dp_n hd rfl) H said x3 x5 (by omega) (i2) (by omega)) ?_
      intro v24 q33
      obtain ⟨q26, q27, q28, q29, q30, q31, q32⟩ := q33
      have e1 := q27
      have e2 := q28
      have e3 := q29
      have e4 := q30
      have e5 := q31
      have e6 := q32
      clear q27 q28 q29 q30 q31 q32
      refine s_blx (lv' := [(0, vR 55), (1, vI place), (2, vI said), (3, vI x3), (4, vI x4), (5, vI x5)]) (st' := [vI 9, vI v24]) B48_24_26 rfl ?_
      refine r_icmp (tgt := 41) (pc' := 29) D48_26 rfl rfl (by unfold inR; omega) (fun (c34 : v24 ≠ 9) => ?_) (fun (c34 : ¬ (v24 ≠ 9)) => ?_)
      · refine s_blx (lv' := [(5, vI (x5 + 1)), (0, vR 55), (1, vI place), (2, vI said), (3, vI x3), (4, vI x4)]) (st' := []) B48_41_44 rfl ?_
        refine r_goto (tgt := 11) D48_44 rfl ?_
        refine r_loc (lv' := [(0, vR 55), (1, vI place), (2, vI said), (3, vI x3), (4, vI x4), (5, vI (x5 + 1))]) ⟨rfl, rfl, rfl, rfl, rfl, rfl, trivial⟩ rfl rfl ?_
        exact ih x3 x4 (x5 + 1) (by omega) (by omega) (i2) (by first | exact kpl.1 | exact i3) (by first | exact kpl.2 | exact pl_skip i4 (by omega)) (by first | (have q := kpl.1; unfold SDk at q; omega) | omega) (by omega) (by omega) (by omega) (by omega) (by omega) (by omega) (by omega)
      · refine s_blx (lv' := [(0, vR 55), (1, vI place), (2, vI said), (3, vI x3), (4, vI x4), (5, vI x5)]) (st' := [vI 8, vI x5, vI x3, vI x4]) B48_29_36 rfl ?_
        have kd9 : v24 = 9 := by omega
        refine r_sIp (args := [vI x4, vI x3, vI x5, vI 8]) (rest := []) (pc' := 39) D48_36 rfl ck_7_static_60 TE45 rfl (Nat.le_of_ble_eq_true rfl) ⟨Nat.le_of_ble_eq_true rfl, Nat.le_of_ble_eq_true rfl⟩ (by decide) (dp_0 hd rfl) (k45x E (dp_n hd rfl) H x4 x3 x5 8 (by omega) (i3) (by omega) (by omega)) ?_
        intro v35 q44
        obtain ⟨q37, q38, q39, q40, q41, q42, q43⟩ := q44
        have kpl := pl_step i2 i3 i4 (by omega) kd9 e1 e2 e3 e4 e5 e6 q38 q39 q40 q41 q42 q43
        clear q38 q39 q40 q41 q42 q43 e1 e2 e3 e4 e5 e6
        refine s_blx (lv' := [(5, vI (x5 + 1)), (4, vI v35), (0, vR 55), (1, vI place), (2, vI said), (3, vI x3)]) (st' := []) B48_39_44 rfl ?_
        refine r_goto (tgt := 11) D48_44 rfl ?_
        refine r_loc (lv' := [(0, vR 55), (1, vI place), (2, vI said), (3, vI x3), (4, vI v35), (5, vI (x5 + 1))]) ⟨rfl, rfl, rfl, rfl, rfl, rfl, trivial⟩ rfl rfl ?_
        exact ih x3 v35 (x5 + 1) (by omega) (by omega) (i2) (by first | exact kpl.1 | exact i3) (by first | exact kpl.2 | exact pl_skip i4 (by omega)) (by first | (have q := kpl.1; unfold SDk at q; omega) | omega) (by omega) (by omega) (by omega) (by omega) (by omega) (by omega) (by omega)
set_option maxRecDepth 4000 in
theorem k48_55l {base : Nat} {X : Nat → Option mC} {G : Nat → Value} (E : EnvOK base X G) {d : Nat} (hd : 177 ≤ d) {M : mH} (H : HI base M) (place : Int) (said : Int) (n : Int) (h0 : RW base 56 n M) (h1 : TR 40 n M) (h2 : 1 ≤ n ∧ n ≤ 145) (h3 : 1 ≤ place ∧ place < n) (h4 : 0 ≤ said ∧ said ≤ 1110) : sOk base X G d T48 [vR 55, vI place, vI said] M (pI (fun v M' => HI base M' ∧ Fq [(57, 0)] M M' ∧ (0 ≤ v ∧ v ≤ 31) ∧ ((v = 0 ∨ v = 4 ∨ (20 ≤ v ∧ v ≤ 22)) ∨ (said ≤ 110 ∧ 1 ≤ v ∧ v ≤ 17)))) := by
  have f0 : Fq [(57, 0)] M M := Fq.rf
  refine sOk.of (show sRn base X G d T48 0 [(0, vR 55), (1, vI place), (2, vI said)] [] M _ from ?_)
  refine s_blx (lv' := [(0, vR 55), (1, vI place), (2, vI said)]) (st' := [vI said]) B48_0_1 rfl ?_
  refine r_sIp (args := [vI said]) (rest := []) (pc' := 4) D48_1 rfl ck_7_static_50 TE42 rfl (Nat.le_of_ble_eq_true rfl) ⟨Nat.le_of_ble_eq_true rfl, Nat.le_of_ble_eq_true rfl⟩ (by decide) (dp_0 hd rfl) (k42 E (dp_n hd rfl) H said (by omega)) ?_
  intro v1 q8
  obtain ⟨q3, q4, q5, q6, q7⟩ := q8
  have ksd : SDk said v1 := by unfold SDk; omega
  refine s_blx (lv' := [(5, vI 0), (4, vI said), (3, vI v1), (0, vR 55), (1, vI place), (2, vI said)]) (st' := []) B48_4_11 rfl ?_
  refine r_loc (lv' := [(0, vR 55), (1, vI place), (2, vI said), (3, vI v1), (4, vI said), (5, vI 0)]) ⟨rfl, rfl, rfl, rfl, rfl, rfl, trivial⟩ rfl rfl ?_
  exact (L_k48_55l E hd H place said n h0 h1 h2 h3 h4 (((3 - 0) * 1 + 0 : Int) + 1).toNat) v1 said 0 (by omega) (by omega) (ksd) (ksd) (⟨fun _ => rfl, by omega, by omega, by omega⟩) (by omega) (by omega) (by omega) (by omega) (by omega) (by omega) (by omega) (by omega)
