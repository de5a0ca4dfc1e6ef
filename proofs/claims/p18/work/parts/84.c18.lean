/-! A digit that is dropped is let stand as settled. -/
noncomputable def SDk (x k : Int) : Prop := (k = 0 ∧ x = 0) ∨ (k = 1 ∧ 1 ≤ x ∧ x ≤ 10) ∨ (k = 2 ∧ 11 ≤ x ∧ x ≤ 110) ∨ (k = 3 ∧ 111 ≤ x ∧ x ≤ 1110)
/-- the digits from here on are alike -/
noncomputable def PLk (s p k a : Int) : Prop := (a = 0 → p = s) ∧ (k = 2 → a = 1 → (p - 11) % 10 = (s - 11) % 10) ∧ (k = 3 → a = 1 → (p - 111) % 100 = (s - 111) % 100) ∧ (k = 3 → a = 2 → (p - 111) % 10 = (s - 111) % 10)
theorem dg0' {x y : Int} (h : x % 100 = y % 100) : x % 10 = y % 10 := by omega
theorem pl_skip {s p k a : Int} (h : PLk s p k a) (ha : 0 ≤ a ∧ a < k ∧ k ≤ 3) : PLk s p k (a + 1) := by
  obtain ⟨h0, h1, h2, h3⟩ := h
  refine ⟨fun q => by omega, fun q1 q2 => ?_, fun q1 q2 => ?_, fun q1 q2 => ?_⟩
  · rw [h0 (by omega)]
  · rw [h0 (by omega)]
  · exact dg0' (h2 q1 (by omega))
theorem dg1 {x y : Int} (h : x % 100 = y % 100) : x / 10 % 10 = y / 10 % 10 := by omega
theorem dg0 {x y : Int} (h : x % 100 = y % 100) : x % 10 = y % 10 := by omega
theorem ch100 {v p : Int} (hp : 111 ≤ p ∧ p ≤ 1110) (h : (p - 111) / 100 = 9) (hv : v = p - 100) : (111 ≤ v ∧ v ≤ 1110) ∧ (v - 111) % 100 = (p - 111) % 100 := by omega
theorem ch10 {v p : Int} (hp : 111 ≤ p ∧ p ≤ 1110) (h : (p - 111) / 10 % 10 = 9) (hv : v = p - 10) : (111 ≤ v ∧ v ≤ 1110) ∧ (v - 111) % 10 = (p - 111) % 10 := by omega
theorem ch1 {v p : Int} (hp : 111 ≤ p ∧ p ≤ 1110) (h : (p - 111) % 10 = 9) (hv : v = p - 1) : 111 ≤ v ∧ v ≤ 1110 := by omega
theorem cg10 {v p : Int} (hp : 11 ≤ p ∧ p ≤ 110) (h : (p - 11) / 10 = 9) (hv : v = p - 10) : (11 ≤ v ∧ v ≤ 110) ∧ (v - 11) % 10 = (p - 11) % 10 := by omega
theorem cg1 {v p : Int} (hp : 11 ≤ p ∧ p ≤ 110) (h : (p - 11) % 10 = 9) (hv : v = p - 1) : 11 ≤ v ∧ v ≤ 110 := by omega
theorem pl_end {s v k a : Int} (h0 : a ≠ 0) (h1 : k = 2 → a ≠ 1) (h2 : k = 3 → a ≠ 1 ∧ a ≠ 2) : PLk s v k a := ⟨fun q => absurd q h0, fun q1 q2 => absurd q2 (h1 q1), fun q1 q2 => absurd q2 (h2 q1).1, fun q1 q2 => absurd q2 (h2 q1).2⟩
theorem pl_step {s p v k a d : Int} (hs : SDk s k) (hp : SDk p k) (h : PLk s p k a) (ha : 0 ≤ a ∧ a < k) (hd : d = 9)
    (d1 : k = 1 → a = 0 → d = s - 1) (d2 : k = 2 → a = 0 → d = (s - 11) / 10) (d3 : k = 2 → a = 1 → d = (s - 11) % 10) (d4 : k = 3 → a = 0 → d = (s - 111) / 100) (d5 : k = 3 → a = 1 → d = (s - 111) / 10 % 10) (d6 : k = 3 → a = 2 → d = (s - 111) % 10)
    (v1 : k = 1 → a = 0 → v = 1 + 8) (v2 : k = 2 → a = 0 → v = p + 10 * (8 - (p - 11) / 10)) (v3 : k = 2 → a = 1 → v = p + (8 - (p - 11) % 10)) (v4 : k = 3 → a = 0 → v = p + 100 * (8 - (p - 111) / 100)) (v5 : k = 3 → a = 1 → v = p + 10 * (8 - (p - 111) / 10 % 10)) (v6 : k = 3 → a = 2 → v = p + (8 - (p - 111) % 10)) :
    SDk v k ∧ PLk s v k (a + 1) := by
  obtain ⟨h0, h1, h2, h3⟩ := h
  have hk : k = 1 ∨ k = 2 ∨ k = 3 := by
    rcases hs with ⟨q, _⟩ | ⟨q, _⟩ | ⟨q, _⟩ | ⟨q, _⟩
    · exfalso; rw [q] at ha; exact absurd ha.2 (by have := ha.1; intro z; exact absurd (Int.lt_of_le_of_lt this z) (by decide))
    · exact Or.inl q
    · exact Or.inr (Or.inl q)
    · exact Or.inr (Or.inr q)
  rcases hk with rfl | rfl | rfl
  · have e : a = 0 := by obtain ⟨x, y⟩ := ha; clear d1 d2 d3 d4 d5 d6 v1 v2 v3 v4 v5 v6 h0 h1 h2 h3 hs hp hd; omega
    subst e
    have q := v1 rfl rfl
    rw [q]
    exact ⟨Or.inr (Or.inl ⟨rfl, by decide, by decide⟩), pl_end (by decide) (by decide) (by decide)⟩
  · have hp2 : 11 ≤ p ∧ p ≤ 110 := by
      rcases hp with ⟨q, _⟩ | ⟨q, _⟩ | ⟨_, q⟩ | ⟨q, _⟩
      · exact absurd q (by decide)
      · exact absurd q (by decide)
      · exact q
      · exact absurd q (by decide)
    have e : a = 0 ∨ a = 1 := by obtain ⟨x, y⟩ := ha; clear d1 d2 d3 d4 d5 d6 v1 v2 v3 v4 v5 v6 h0 h1 h2 h3 hs hp hd; omega
    rcases e with rfl | rfl
    · have q := v2 rfl rfl
      have w := d2 rfl rfl
      rw [← h0 rfl, hd] at w
      rw [← w] at q
      obtain ⟨r1, r2⟩ := cg10 hp2 w.symm (show v = p - 10 by rw [q]; clear q w d1 d2 d3 d4 d5 d6 v1 v2 v3 v4 v5 v6 h0 h1 h2 h3 hs hp hd; omega)
      refine ⟨Or.inr (Or.inr (Or.inl ⟨rfl, r1⟩)), fun z => absurd z (by decide), fun _ _ => by rw [r2, h0 rfl], fun z => absurd z (by decide), fun z => absurd z (by decide)⟩
    · have q := v3 rfl rfl
      have w := d3 rfl rfl
      rw [← h1 rfl rfl, hd] at w
      rw [← w] at q
      have r1 := cg1 hp2 w.symm (show v = p - 1 by rw [q]; clear q w d1 d2 d3 d4 d5 d6 v1 v2 v3 v4 v5 v6 h0 h1 h2 h3 hs hp hd; omega)
      exact ⟨Or.inr (Or.inr (Or.inl ⟨rfl, r1⟩)), pl_end (by decide) (by decide) (by decide)⟩
  · have hp3 : 111 ≤ p ∧ p ≤ 1110 := by
      rcases hp with ⟨q, _⟩ | ⟨q, _⟩ | ⟨q, _⟩ | ⟨_, q⟩
      · exact absurd q (by decide)
      · exact absurd q (by decide)
      · exact absurd q (by decide)
      · exact q
    have e : a = 0 ∨ a = 1 ∨ a = 2 := by obtain ⟨x, y⟩ := ha; clear d1 d2 d3 d4 d5 d6 v1 v2 v3 v4 v5 v6 h0 h1 h2 h3 hs hp hd; omega
    rcases e with rfl | rfl | rfl
    · have q := v4 rfl rfl
      have w := d4 rfl rfl
      rw [← h0 rfl, hd] at w
      rw [← w] at q
      obtain ⟨r1, r2⟩ := ch100 hp3 w.symm (show v = p - 100 by rw [q]; clear q w d1 d2 d3 d4 d5 d6 v1 v2 v3 v4 v5 v6 h0 h1 h2 h3 hs hp hd; omega)
      refine ⟨Or.inr (Or.inr (Or.inr ⟨rfl, r1⟩)), fun z => absurd z (by decide), fun z => absurd z (by decide), fun _ _ => by rw [r2, h0 rfl], fun _ z => absurd z (by decide)⟩
    · have q := v5 rfl rfl
      have w := d5 rfl rfl
      have z := h2 rfl rfl
      rw [← dg1 z, hd] at w
      rw [← w] at q
      obtain ⟨r1, r2⟩ := ch10 hp3 w.symm (show v = p - 10 by rw [q]; clear q w z d1 d2 d3 d4 d5 d6 v1 v2 v3 v4 v5 v6 h0 h1 h2 h3 hs hp hd; omega)
      refine ⟨Or.inr (Or.inr (Or.inr ⟨rfl, r1⟩)), fun z => absurd z (by decide), fun z => absurd z (by decide), fun _ z => absurd z (by decide), fun _ _ => by rw [r2]; exact dg0 z⟩
    · have q := v6 rfl rfl
      have w := d6 rfl rfl
      rw [← h3 rfl rfl, hd] at w
      rw [← w] at q
      have r1 := ch1 hp3 w.symm (show v = p - 1 by rw [q]; clear q w d1 d2 d3 d4 d5 d6 v1 v2 v3 v4 v5 v6 h0 h1 h2 h3 hs hp hd; omega)
      exact ⟨Or.inr (Or.inr (Or.inr ⟨rfl, r1⟩)), pl_end (by decide) (by decide) (by decide)⟩
noncomputable def T48 : mT := (7, yX7_moveAt, cX7_moveAt, 6, (some .int))
set_option maxRecDepth 10000 in
theorem TE48 : sy_m[48]? = some T48 := rfl
theorem B48_0_1 : s_dk T48.2.2.1 0 [.iload_n 2] 1 = true := by decide +kernel
theorem D48_1 : decode T48.2.2.1 1 = .ok (.invokestatic 50, 3) := by decide +kernel
theorem ck_7_static_50 : m_call 7 (.invokestatic 50) = some (1, 42, 1) := by decide +kernel
theorem B48_4_11 : s_dk T48.2.2.1 4 [.istore_n 3, .iload_n 2, .istore 4, .iconst 0, .istore 5] 11 = true := by decide +kernel
theorem B48_11_14 : s_dk T48.2.2.1 11 [.iload 5, .iload_n 3] 14 = true := by decide +kernel
theorem D48_14 : decode T48.2.2.1 14 = .ok (.if_icmp .ge 33, 3) := by decide +kernel
theorem B48_47_54 : s_dk T48.2.2.1 47 [.aload_n 0, .iload_n 1, .aload_n 0, .iload_n 1, .iload 4, .iload_n 3] 54 = true := by decide +kernel
theorem D48_54 : decode T48.2.2.1 54 = .ok (.invokevirtual 64, 3) := by decide +kernel
theorem B48_57_59 : s_dk T48.2.2.1 57 [.iload_n 3, .iconst 0] 59 = true := by decide +kernel
theorem D48_59 : decode T48.2.2.1 59 = .ok (.invokevirtual 67, 3) := by decide +kernel
theorem cl_7_70 : m_cl 7 70 = some (31) := by decide +kernel
theorem D48_62 : decode T48.2.2.1 62 = .ok (.ldc2_w 70, 3) := by decide +kernel
theorem D48_65 : decode T48.2.2.1 65 = .ok (.land, 1) := by decide +kernel
theorem D48_66 : decode T48.2.2.1 66 = .ok (.l2i, 1) := by decide +kernel
theorem D48_67 : decode T48.2.2.1 67 = .ok (.ireturn, 1) := by decide +kernel
theorem B48_17_21 : s_dk T48.2.2.1 17 [.iload_n 2, .iload_n 3, .iload 5] 21 = true := by decide +kernel
theorem D48_21 : decode T48.2.2.1 21 = .ok (.invokestatic 56, 3) := by decide +kernel
theorem ck_7_static_56 : m_call 7 (.invokestatic 56) = some (1, 44, 3) := by decide +kernel
theorem B48_24_26 : s_dk T48.2.2.1 24 [.bipush 9] 26 = true := by decide +kernel
theorem D48_26 : decode T48.2.2.1 26 = .ok (.if_icmp .ne 15, 3) := by decide +kernel
theorem B48_41_44 : s_dk T48.2.2.1 41 [.iinc 5 1] 44 = true := by decide +kernel
theorem D48_44 : decode T48.2.2.1 44 = .ok (.goto (-33), 3) := by decide +kernel
theorem B48_29_36 : s_dk T48.2.2.1 29 [.iload 4, .iload_n 3, .iload 5, .bipush 8] 36 = true := by decide +kernel
theorem D48_36 : decode T48.2.2.1 36 = .ok (.invokestatic 60, 3) := by decide +kernel
theorem ck_7_static_60 : m_call 7 (.invokestatic 60) = some (1, 45, 4) := by decide +kernel
theorem B48_39_44 : s_dk T48.2.2.1 39 [.istore 4, .iinc 5 1] 44 = true := by decide +kernel
set_option maxRecDepth 4000 in
theorem L_k48_36x {base : Nat} {X : Nat → Option mC} {G : Nat → Value} (E : EnvOK base X G) {d : Nat} (hd : 177 ≤ d) {M : mH} (H : HI base M) (place : Int) (said : Int) (n : Int) (h0 : RW base 37 n M) (h1 : TR 21 n M) (h2 : 1 ≤ n ∧ n ≤ 145) (h3 : 1 ≤ place ∧ place < n) (h4 : 0 ≤ said ∧ said ≤ 1110) : ∀ mz : Nat, (∀ (x3 x4 x5 : Int), (0 ≤ x5 ∧ x5 ≤ x3) → (0 ≤ x3 ∧ x3 ≤ 3) → (SDk said x3) → (SDk x4 x3) → (PLk said x4 x3 x5) → (0 ≤ x4 ∧ x4 ≤ 1110) → (0 ≤ x3) → (x3 ≤ 3) → ((-1000) ≤ x4) → (x4 ≤ 3000) → (0 ≤ x5) → (x5 ≤ 3) → (3 - x5) * 1 + 0 < (mz : Int) → sRn base X G d T48 11 [(0, vR 36), (1, vI place), (2, vI said), (3, vI x3), (4, vI x4), (5, vI x5)] [] M (s_Q base (pI (fun v M' => HI base M' ∧ Fq [(38, 0)] M M' ∧ (-2147483648 ≤ v ∧ v ≤ 2147483647))))) := by
  have f0 : Fq [(38, 0)] M M := Fq.rf
  intro mz
  induction mz with
  | zero => exact fun x3 x4 x5 z0 z1 z2 z3 z4 z5 z6 z7 z8 z9 z10 z11 z12 => by omega
  | succ mz ih =>
    intro x3 x4 x5 i0 i1 i2 i3 i4 i5 i6 i7 i8 i9 i10 i11 hmu
    refine s_blx (lv' := [(0, vR 36), (1, vI place), (2, vI said), (3, vI x3), (4, vI x4), (5, vI x5)]) (st' := [vI x3, vI x5]) B48_11_14 rfl ?_
    refine r_icmp (tgt := 47) (pc' := 17) D48_14 rfl rfl (by unfold inR; omega) (fun (c9 : x3 ≤ x5) => ?_) (fun (c9 : ¬ (x3 ≤ x5)) => ?_)
    · refine s_blx (lv' := [(0, vR 36), (1, vI place), (2, vI said), (3, vI x3), (4, vI x4), (5, vI x5)]) (st' := [vI x3, vI x4, vI place, vR 36, vI place, vR 36]) B48_47_54 rfl ?_
      refine r_vIp (c := 36) (args := [vI place, vI x4, vI x3]) (rest := [vI place, vR 36]) (pc' := 57) D48_54 rfl ck_7_virtual_64 TE49 rfl (Nat.le_of_ble_eq_true rfl) ⟨Nat.le_of_ble_eq_true rfl, Nat.le_of_ble_eq_true rfl⟩ sc_36 ⟨rfl, by decide⟩ H.1 (dp_0 hd rfl) (k49_36 E (dp_n hd rfl) H place x4 x3 (by omega) (i3) (by omega) (by omega)) ?_
      intro v10 q14
      obtain ⟨q12, q13⟩ := q14
      have kq := q12; clear q12
      refine s_blx (lv' := [(0, vR 36), (1, vI place), (2, vI said), (3, vI x3), (4, vI x4), (5, vI x5)]) (st' := [vI 0, vI x3, vI v10, vI place, vR 36]) B48_57_59 rfl ?_
      refine r_vL (c := 36) (args := [vI place, vI v10, vI x3, vI 0]) (rest := []) (pc' := 62) D48_59 rfl ck_7_virtual_67 TE52 rfl (Nat.le_of_ble_eq_true rfl) ⟨Nat.le_of_ble_eq_true rfl, Nat.le_of_ble_eq_true rfl⟩ sc_36 ⟨rfl, by decide⟩ H.1 (dp_0 hd rfl) (k52_36 E (dp_n hd rfl) H place v10 x3 0 n (h0) (h1) (by omega) (by omega) (by omega) (kq) (by omega)) ?_
      intro v15 M16 q19
      obtain ⟨H17, f18⟩ := q19
      have f20 := f0.tr (f18.up rfl)
      refine r_ldc2 (e := 31) (pc' := 65) D48_62 rfl cl_7_70 (by decide) ?_
      refine r_binL (pc' := 66) D48_65 rfl rfl ?_
      intro z21 _ _
      refine r_l2i (pc' := 67) D48_66 rfl ?_
      refine r_norm ?_
      intro z23 r24 _; unfold inR at r24
      exact r_iretI D48_67 rfl (⟨H17, f20, by omega⟩)
    · refine s_blx (lv' := [(0, vR 36), (1, vI place), (2, vI said), (3, vI x3), (4, vI x4), (5, vI x5)]) (st' := [vI x5, vI x3, vI said]) B48_17_21 rfl ?_
      refine r_sIp (args := [vI said, vI x3, vI x5]) (rest := []) (pc' := 24) D48_21 rfl ck_7_static_56 TE44 rfl (Nat.le_of_ble_eq_true rfl) ⟨Nat.le_of_ble_eq_true rfl, Nat.le_of_ble_eq_true rfl⟩ (by decide) (dp_0 hd rfl) (k44x E (dp_n hd rfl) H said x3 x5 (by omega) (i2) (by omega)) ?_
      intro v25 q34
      obtain ⟨q27, q28, q29, q30, q31, q32, q33⟩ := q34
      have e1 := q28
      have e2 := q29
      have e3 := q30
      have e4 := q31
      have e5 := q32
      have e6 := q33
      clear q28 q29 q30 q31 q32 q33
      refine s_blx (lv' := [(0, vR 36), (1, vI place), (2, vI said), (3, vI x3), (4, vI x4), (5, vI x5)]) (st' := [vI 9, vI v25]) B48_24_26 rfl ?_
      refine r_icmp (tgt := 41) (pc' := 29) D48_26 rfl rfl (by unfold inR; omega) (fun (c35 : v25 ≠ 9) => ?_) (fun (c35 : ¬ (v25 ≠ 9)) => ?_)
      · refine s_blx (lv' := [(5, vI (x5 + 1)), (0, vR 36), (1, vI place), (2, vI said), (3, vI x3), (4, vI x4)]) (st' := []) B48_41_44 rfl ?_
        refine r_goto (tgt := 11) D48_44 rfl ?_
        refine r_loc (lv' := [(0, vR 36), (1, vI place), (2, vI said), (3, vI x3), (4, vI x4), (5, vI (x5 + 1))]) ⟨rfl, rfl, rfl, rfl, rfl, rfl, trivial⟩ rfl rfl ?_
        exact ih x3 x4 (x5 + 1) (by omega) (by omega) (i2) (by first | exact kpl.1 | exact i3) (by first | exact kpl.2 | exact pl_skip i4 (by omega)) (by first | (have q := kpl.1; unfold SDk at q; omega) | omega) (by omega) (by omega) (by omega) (by omega) (by omega) (by omega) (by omega)
      · refine s_blx (lv' := [(0, vR 36), (1, vI place), (2, vI said), (3, vI x3), (4, vI x4), (5, vI x5)]) (st' := [vI 8, vI x5, vI x3, vI x4]) B48_29_36 rfl ?_
        have kd9 : v25 = 9 := by omega
        refine r_sIp (args := [vI x4, vI x3, vI x5, vI 8]) (rest := []) (pc' := 39) D48_36 rfl ck_7_static_60 TE45 rfl (Nat.le_of_ble_eq_true rfl) ⟨Nat.le_of_ble_eq_true rfl, Nat.le_of_ble_eq_true rfl⟩ (by decide) (dp_0 hd rfl) (k45x E (dp_n hd rfl) H x4 x3 x5 8 (by omega) (i3) (by omega) (by omega)) ?_
        intro v36 q45
        obtain ⟨q38, q39, q40, q41, q42, q43, q44⟩ := q45
        have kpl := pl_step i2 i3 i4 (by omega) kd9 e1 e2 e3 e4 e5 e6 q39 q40 q41 q42 q43 q44
        clear q39 q40 q41 q42 q43 q44 e1 e2 e3 e4 e5 e6
        refine s_blx (lv' := [(5, vI (x5 + 1)), (4, vI v36), (0, vR 36), (1, vI place), (2, vI said), (3, vI x3)]) (st' := []) B48_39_44 rfl ?_
        refine r_goto (tgt := 11) D48_44 rfl ?_
        refine r_loc (lv' := [(0, vR 36), (1, vI place), (2, vI said), (3, vI x3), (4, vI v36), (5, vI (x5 + 1))]) ⟨rfl, rfl, rfl, rfl, rfl, rfl, trivial⟩ rfl rfl ?_
        exact ih x3 v36 (x5 + 1) (by omega) (by omega) (i2) (by first | exact kpl.1 | exact i3) (by first | exact kpl.2 | exact pl_skip i4 (by omega)) (by first | (have q := kpl.1; unfold SDk at q; omega) | omega) (by omega) (by omega) (by omega) (by omega) (by omega) (by omega) (by omega)
set_option maxRecDepth 4000 in
theorem k48_36x {base : Nat} {X : Nat → Option mC} {G : Nat → Value} (E : EnvOK base X G) {d : Nat} (hd : 177 ≤ d) {M : mH} (H : HI base M) (place : Int) (said : Int) (n : Int) (h0 : RW base 37 n M) (h1 : TR 21 n M) (h2 : 1 ≤ n ∧ n ≤ 145) (h3 : 1 ≤ place ∧ place < n) (h4 : 0 ≤ said ∧ said ≤ 1110) : sOk base X G d T48 [vR 36, vI place, vI said] M (pI (fun v M' => HI base M' ∧ Fq [(38, 0)] M M' ∧ (-2147483648 ≤ v ∧ v ≤ 2147483647))) := by
  have f0 : Fq [(38, 0)] M M := Fq.rf
  refine sOk.of (show sRn base X G d T48 0 [(0, vR 36), (1, vI place), (2, vI said)] [] M _ from ?_)
  refine s_blx (lv' := [(0, vR 36), (1, vI place), (2, vI said)]) (st' := [vI said]) B48_0_1 rfl ?_
  refine r_sIp (args := [vI said]) (rest := []) (pc' := 4) D48_1 rfl ck_7_static_50 TE42 rfl (Nat.le_of_ble_eq_true rfl) ⟨Nat.le_of_ble_eq_true rfl, Nat.le_of_ble_eq_true rfl⟩ (by decide) (dp_0 hd rfl) (k42 E (dp_n hd rfl) H said (by omega)) ?_
  intro v1 q8
  obtain ⟨q3, q4, q5, q6, q7⟩ := q8
  have ksd : SDk said v1 := by unfold SDk; omega
  refine s_blx (lv' := [(5, vI 0), (4, vI said), (3, vI v1), (0, vR 36), (1, vI place), (2, vI said)]) (st' := []) B48_4_11 rfl ?_
  refine r_loc (lv' := [(0, vR 36), (1, vI place), (2, vI said), (3, vI v1), (4, vI said), (5, vI 0)]) ⟨rfl, rfl, rfl, rfl, rfl, rfl, trivial⟩ rfl rfl ?_
  exact (L_k48_36x E hd H place said n h0 h1 h2 h3 h4 (((3 - 0) * 1 + 0 : Int) + 1).toNat) v1 said 0 (by omega) (by omega) (ksd) (ksd) (⟨fun _ => rfl, by omega, by omega, by omega⟩) (by omega) (by omega) (by omega) (by omega) (by omega) (by omega) (by omega) (by omega)
set_option maxRecDepth 4000 in
theorem L_k48_55x {base : Nat} {X : Nat → Option mC} {G : Nat → Value} (E : EnvOK base X G) {d : Nat} (hd : 177 ≤ d) {M : mH} (H : HI base M) (place : Int) (said : Int) (n : Int) (h0 : RW base 56 n M) (h1 : TR 40 n M) (h2 : 1 ≤ n ∧ n ≤ 145) (h3 : 1 ≤ place ∧ place < n) (h4 : 0 ≤ said ∧ said ≤ 1110) : ∀ mz : Nat, (∀ (x3 x4 x5 : Int), (0 ≤ x5 ∧ x5 ≤ x3) → (0 ≤ x3 ∧ x3 ≤ 3) → (SDk said x3) → (SDk x4 x3) → (PLk said x4 x3 x5) → (0 ≤ x4 ∧ x4 ≤ 1110) → (0 ≤ x3) → (x3 ≤ 3) → ((-1000) ≤ x4) → (x4 ≤ 3000) → (0 ≤ x5) → (x5 ≤ 3) → (3 - x5) * 1 + 0 < (mz : Int) → sRn base X G d T48 11 [(0, vR 55), (1, vI place), (2, vI said), (3, vI x3), (4, vI x4), (5, vI x5)] [] M (s_Q base (pI (fun v M' => HI base M' ∧ Fq [(57, 0)] M M' ∧ (-2147483648 ≤ v ∧ v ≤ 2147483647))))) := by
  have f0 : Fq [(57, 0)] M M := Fq.rf
  intro mz
  induction mz with
  | zero => exact fun x3 x4 x5 z0 z1 z2 z3 z4 z5 z6 z7 z8 z9 z10 z11 z12 => by omega
  | succ mz ih =>
    intro x3 x4 x5 i0 i1 i2 i3 i4 i5 i6 i7 i8 i9 i10 i11 hmu
    refine s_blx (lv' := [(0, vR 55), (1, vI place), (2, vI said), (3, vI x3), (4, vI x4), (5, vI x5)]) (st' := [vI x3, vI x5]) B48_11_14 rfl ?_
    refine r_icmp (tgt := 47) (pc' := 17) D48_14 rfl rfl (by unfold inR; omega) (fun (c9 : x3 ≤ x5) => ?_) (fun (c9 : ¬ (x3 ≤ x5)) => ?_)
    · refine s_blx (lv' := [(0, vR 55), (1, vI place), (2, vI said), (3, vI x3), (4, vI x4), (5, vI x5)]) (st' := [vI x3, vI x4, vI place, vR 55, vI place, vR 55]) B48_47_54 rfl ?_
      refine r_vIp (c := 55) (args := [vI place, vI x4, vI x3]) (rest := [vI place, vR 55]) (pc' := 57) D48_54 rfl ck_7_virtual_64 TE49 rfl (Nat.le_of_ble_eq_true rfl) ⟨Nat.le_of_ble_eq_true rfl, Nat.le_of_ble_eq_true rfl⟩ sc_55 ⟨rfl, by decide⟩ H.1 (dp_0 hd rfl) (k49_55 E (dp_n hd rfl) H place x4 x3 (by omega) (i3) (by omega) (by omega)) ?_
      intro v10 q14
      obtain ⟨q12, q13⟩ := q14
      have kq := q12; clear q12
      refine s_blx (lv' := [(0, vR 55), (1, vI place), (2, vI said), (3, vI x3), (4, vI x4), (5, vI x5)]) (st' := [vI 0, vI x3, vI v10, vI place, vR 55]) B48_57_59 rfl ?_
      refine r_vL (c := 55) (args := [vI place, vI v10, vI x3, vI 0]) (rest := []) (pc' := 62) D48_59 rfl ck_7_virtual_67 TE52 rfl (Nat.le_of_ble_eq_true rfl) ⟨Nat.le_of_ble_eq_true rfl, Nat.le_of_ble_eq_true rfl⟩ sc_55 ⟨rfl, by decide⟩ H.1 (dp_0 hd rfl) (k52_55 E (dp_n hd rfl) H place v10 x3 0 n (h0) (h1) (by omega) (by omega) (by omega) (kq) (by omega)) ?_
      intro v15 M16 q19
      obtain ⟨H17, f18⟩ := q19
      have f20 := f0.tr (f18.up rfl)
      refine r_ldc2 (e := 31) (pc' := 65) D48_62 rfl cl_7_70 (by decide) ?_
      refine r_binL (pc' := 66) D48_65 rfl rfl ?_
      intro z21 _ _
      refine r_l2i (pc' := 67) D48_66 rfl ?_
      refine r_norm ?_
      intro z23 r24 _; unfold inR at r24
      exact r_iretI D48_67 rfl (⟨H17, f20, by omega⟩)
    · refine s_blx (lv' := [(0, vR 55), (1, vI place), (2, vI said), (3, vI x3), (4, vI x4), (5, vI x5)]) (st' := [vI x5, vI x3, vI said]) B48_17_21 rfl ?_
      refine r_sIp (args := [vI said, vI x3, vI x5]) (rest := []) (pc' := 24) D48_21 rfl ck_7_static_56 TE44 rfl (Nat.le_of_ble_eq_true rfl) ⟨Nat.le_of_ble_eq_true rfl, Nat.le_of_ble_eq_true rfl⟩ (by decide) (dp_0 hd rfl) (k44x E (dp_n hd rfl) H said x3 x5 (by omega) (i2) (by omega)) ?_
      intro v25 q34
      obtain ⟨q27, q28, q29, q30, q31, q32, q33⟩ := q34
      have e1 := q28
      have e2 := q29
      have e3 := q30
      have e4 := q31
      have e5 := q32
      have e6 := q33
      clear q28 q29 q30 q31 q32 q33
      refine s_blx (lv' := [(0, vR 55), (1, vI place), (2, vI said), (3, vI x3), (4, vI x4), (5, vI x5)]) (st' := [vI 9, vI v25]) B48_24_26 rfl ?_
      refine r_icmp (tgt := 41) (pc' := 29) D48_26 rfl rfl (by unfold inR; omega) (fun (c35 : v25 ≠ 9) => ?_) (fun (c35 : ¬ (v25 ≠ 9)) => ?_)
      · refine s_blx (lv' := [(5, vI (x5 + 1)), (0, vR 55), (1, vI place), (2, vI said), (3, vI x3), (4, vI x4)]) (st' := []) B48_41_44 rfl ?_
        refine r_goto (tgt := 11) D48_44 rfl ?_
        refine r_loc (lv' := [(0, vR 55), (1, vI place), (2, vI said), (3, vI x3), (4, vI x4), (5, vI (x5 + 1))]) ⟨rfl, rfl, rfl, rfl, rfl, rfl, trivial⟩ rfl rfl ?_
        exact ih x3 x4 (x5 + 1) (by omega) (by omega) (i2) (by first | exact kpl.1 | exact i3) (by first | exact kpl.2 | exact pl_skip i4 (by omega)) (by first | (have q := kpl.1; unfold SDk at q; omega) | omega) (by omega) (by omega) (by omega) (by omega) (by omega) (by omega) (by omega)
      · refine s_blx (lv' := [(0, vR 55), (1, vI place), (2, vI said), (3, vI x3), (4, vI x4), (5, vI x5)]) (st' := [vI 8, vI x5, vI x3, vI x4]) B48_29_36 rfl ?_
        have kd9 : v25 = 9 := by omega
        refine r_sIp (args := [vI x4, vI x3, vI x5, vI 8]) (rest := []) (pc' := 39) D48_36 rfl ck_7_static_60 TE45 rfl (Nat.le_of_ble_eq_true rfl) ⟨Nat.le_of_ble_eq_true rfl, Nat.le_of_ble_eq_true rfl⟩ (by decide) (dp_0 hd rfl) (k45x E (dp_n hd rfl) H x4 x3 x5 8 (by omega) (i3) (by omega) (by omega)) ?_
        intro v36 q45
        obtain ⟨q38, q39, q40, q41, q42, q43, q44⟩ := q45
        have kpl := pl_step i2 i3 i4 (by omega) kd9 e1 e2 e3 e4 e5 e6 q39 q40 q41 q42 q43 q44
        clear q39 q40 q41 q42 q43 q44 e1 e2 e3 e4 e5 e6
        refine s_blx (lv' := [(5, vI (x5 + 1)), (4, vI v36), (0, vR 55), (1, vI place), (2, vI said), (3, vI x3)]) (st' := []) B48_39_44 rfl ?_
        refine r_goto (tgt := 11) D48_44 rfl ?_
        refine r_loc (lv' := [(0, vR 55), (1, vI place), (2, vI said), (3, vI x3), (4, vI v36), (5, vI (x5 + 1))]) ⟨rfl, rfl, rfl, rfl, rfl, rfl, trivial⟩ rfl rfl ?_
        exact ih x3 v36 (x5 + 1) (by omega) (by omega) (i2) (by first | exact kpl.1 | exact i3) (by first | exact kpl.2 | exact pl_skip i4 (by omega)) (by first | (have q := kpl.1; unfold SDk at q; omega) | omega) (by omega) (by omega) (by omega) (by omega) (by omega) (by omega) (by omega)
set_option maxRecDepth 4000 in
theorem k48_55x {base : Nat} {X : Nat → Option mC} {G : Nat → Value} (E : EnvOK base X G) {d : Nat} (hd : 177 ≤ d) {M : mH} (H : HI base M) (place : Int) (said : Int) (n : Int) (h0 : RW base 56 n M) (h1 : TR 40 n M) (h2 : 1 ≤ n ∧ n ≤ 145) (h3 : 1 ≤ place ∧ place < n) (h4 : 0 ≤ said ∧ said ≤ 1110) : sOk base X G d T48 [vR 55, vI place, vI said] M (pI (fun v M' => HI base M' ∧ Fq [(57, 0)] M M' ∧ (-2147483648 ≤ v ∧ v ≤ 2147483647))) := by
  have f0 : Fq [(57, 0)] M M := Fq.rf
  refine sOk.of (show sRn base X G d T48 0 [(0, vR 55), (1, vI place), (2, vI said)] [] M _ from ?_)
  refine s_blx (lv' := [(0, vR 55), (1, vI place), (2, vI said)]) (st' := [vI said]) B48_0_1 rfl ?_
  refine r_sIp (args := [vI said]) (rest := []) (pc' := 4) D48_1 rfl ck_7_static_50 TE42 rfl (Nat.le_of_ble_eq_true rfl) ⟨Nat.le_of_ble_eq_true rfl, Nat.le_of_ble_eq_true rfl⟩ (by decide) (dp_0 hd rfl) (k42 E (dp_n hd rfl) H said (by omega)) ?_
  intro v1 q8
  obtain ⟨q3, q4, q5, q6, q7⟩ := q8
  have ksd : SDk said v1 := by unfold SDk; omega
  refine s_blx (lv' := [(5, vI 0), (4, vI said), (3, vI v1), (0, vR 55), (1, vI place), (2, vI said)]) (st' := []) B48_4_11 rfl ?_
  refine r_loc (lv' := [(0, vR 55), (1, vI place), (2, vI said), (3, vI v1), (4, vI said), (5, vI 0)]) ⟨rfl, rfl, rfl, rfl, rfl, rfl, trivial⟩ rfl rfl ?_
  exact (L_k48_55x E hd H place said n h0 h1 h2 h3 h4 (((3 - 0) * 1 + 0 : Int) + 1).toNat) v1 said 0 (by omega) (by omega) (ksd) (ksd) (⟨fun _ => rfl, by omega, by omega, by omega⟩) (by omega) (by omega) (by omega) (by omega) (by omega) (by omega) (by omega) (by omega)
