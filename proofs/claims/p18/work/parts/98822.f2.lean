/-! What sets the reference's state, exactly. -/
noncomputable def KN (f : Int → Int) (M : mH) : Prop := ∀ j : Int, dAs j → gi M 78 j = f j
theorem KN.rf {M : mH} : KN (gi M 78) M := fun _ _ => rfl
theorem KN.wr {f : Int → Int} {M M' : mH} {c i : Nat} {v : Value} (h : KN f M) (u : Wr M c i v M') (hc : c ≠ 78) : KN f M' := fun j hj => by rw [show gi M' 78 j = gi M 78 j by unfold gi; rw [u.ne (Or.inl (Ne.symm hc))]]; exact h j hj
theorem KN.fr {f : Int → Int} {L : List (Nat × Nat)} {M M' : mH} (h : KN f M) (k : Fr L M M') (hc : s_al L (fun c => c != 78) = true) : KN f M' := fun j hj => by rw [k.g (s_al_ok hc (by simp))]; exact h j hj
theorem KN.out {base : Nat} {f : Int → Int} {M M' : mH} {i : Int} {v : Value} (h : KN f M) (u : Wr M 78 i.toNat v M') (hi : i = 471 ∨ 475 ≤ i) (_ : HI base M) : KN f M' := fun j hj => by rw [u.gi_ne (by omega) (Or.inr (fun e => by unfold dAs at hj; omega))]; exact h j hj
theorem KN.set {f : Int → Int} {M M' : mH} {j0 x : Int} {v : Value} (h : KN f M) (u : Wr M 78 j0.toNat v M') (h0 : 0 ≤ j0) (hx : gi M' 78 j0 = x) : KN (updN f j0 x) M' := fun j hj => by
  unfold updN
  split
  · next e => rw [e]; exact hx
  · next e => rw [u.gi_ne h0 (Or.inr e)]; exact h j hj
theorem KN.back {f : Int → Int} {M M' : mH} {j0 x : Int} {v : Value} (h : KN (updN f j0 x) M) (u : Wr M 78 j0.toNat v M') (h0 : 0 ≤ j0) (hx : gi M' 78 j0 = f j0) : KN f M' := fun j hj => by
  by_cases e : j = j0
  · rw [e]; exact hx
  · rw [u.gi_ne h0 (Or.inr e), h j hj]
    unfold updN
    rw [if_neg e]
theorem fv5 {f : Int → Int} {a b c d e i w : Int} (h0 : f 0 = a) (h1 : f 1 = b) (h2 : f 2 = c) (h3 : f 3 = d) (h4 : f 4 = e) (hw : w = f (i / 4)) (hi : 0 ≤ i ∧ i < 20) : w = fvS a b c d e i := by
  by_cases c1 : i < 4
  · rw [fvS1 c1, hw, show i / 4 = 0 by omega]; exact h0
  by_cases c2 : i < 8
  · rw [fvS2 (by omega), hw, show i / 4 = 1 by omega]; exact h1
  by_cases c3 : i < 12
  · rw [fvS3 (by omega), hw, show i / 4 = 2 by omega]; exact h2
  by_cases c4 : i < 16
  · rw [fvS4 (by omega), hw, show i / 4 = 3 by omega]; exact h3
  rw [fvS5 (by omega), hw, show i / 4 = 4 by omega]; exact h4
theorem fd_step {N N1 : mH} {T : Int → Int} {s a b c d e n k y : Int} {v : Value} (h : ∀ i : Int, 0 ≤ i → gi N 95 i % 256 = fdN T s a b c d e n i) (u : Wr N 95 k.toNat v N1) (p : gi N1 95 k = y) (hk : k = s + n) (h0 : 0 ≤ k) (hn : 0 ≤ n) (hy : y % 256 = byF (fvS a b c d e n) (n % 4)) : ∀ i : Int, 0 ≤ i → gi N1 95 i % 256 = fdN T s a b c d e (n + 1) i := by
  intro i hi
  by_cases q : i = k
  · rw [q, p, fdN_in (by omega), show k - s = n by omega]; exact hy
  rw [u.gi_ne h0 (Or.inr q), h i hi]
  by_cases q2 : s ≤ i ∧ i < s + n
  · rw [fdN_in q2, fdN_in (by omega)]
  · rw [fdN_out q2, fdN_out (by omega)]
noncomputable def TRi (K : Int → Int) (s n : Int) (M : mH) : Prop := ∀ i : Int, 0 ≤ i → i < n → K (135 + 16 * s + 1 + i) = gi M 95 i
theorem TRi.zero {K : Int → Int} {s : Int} {M : mH} : TRi K s 0 M := fun i h1 h2 => by omega
theorem TRi.next {K : Int → Int} {s k : Int} {M : mH} (h : TRi K s k M) (e : K (135 + 16 * s + 1 + k) = gi M 95 k) : TRi K s (k + 1) M := fun i h1 h2 => if q : i = k then (by rw [q]; exact e) else h i h1 (by omega)
theorem TRi.mono {K : Int → Int} {s k n : Int} {M : mH} (h : TRi K s k M) (hn : n ≤ k) : TRi K s n M := fun i h1 h2 => h i h1 (by omega)
noncomputable def TRr (K : Int → Int) (s n : Int) (M : mH) : Prop := K (135 + 16 * s) = n ∧ TRi K s n M
theorem TRr.of {K K' : Int → Int} {s n : Int} {M M' : mH} (h : TRr K s n M) (e : ∀ i : Int, K' i = K i) (e2 : ∀ i : Int, gi M' 95 i = gi M 95 i) : TRr K' s n M' := ⟨by rw [e]; exact h.1, fun i a b => by rw [e, e2]; exact h.2 i a b⟩
noncomputable def HRr (len : Int) (M : mH) : Prop := ∃ k : Int, 0 ≤ k ∧ k < gi M 78 469 ∧ TRr (gi M 78) k len M
noncomputable def NRr (K : Int → Int) (len n : Int) (M : mH) : Prop := ∀ k : Int, 0 ≤ k → k < n → ¬ TRr K k len M
theorem NRr.zero {K : Int → Int} {len : Int} {M : mH} : NRr K len 0 M := fun i h1 h2 => by omega
theorem NRr.next {K : Int → Int} {len n : Int} {M : mH} (h : NRr K len n M) (e : ¬ TRr K n len M) : NRr K len (n + 1) M := fun i h1 h2 => if q : i = n then (by rw [q]; exact e) else h i h1 (by omega)
noncomputable def RWr (len : Int) (M : mH) : Prop := 1 ≤ len ∧ len ≤ 8 ∧ TA len M
noncomputable def seP (K T : Int → Int) (len n m j : Int) : Int := if j = 135 + 16 * n then len else if 136 + 16 * n ≤ j ∧ j < 136 + 16 * n + m then (if j - (136 + 16 * n) < len then T (j - (136 + 16 * n)) else 0) else K j
noncomputable def seQ (K T : Int → Int) (len n a b c m j : Int) : Int := if j = 144 + 16 * n then a else if j = 145 + 16 * n then b else if j = 146 + 16 * n then c else if 147 + 16 * n ≤ j ∧ j < 147 + 16 * n + m then 1 else seP K T len n 8 j
noncomputable def seR (K T : Int → Int) (len a b c j : Int) : Int := if j = 469 then K 469 + 1 else seQ K T len (K 469) a b c 4 j
theorem seP_0 {N N1 : mH} {K T : Int → Int} {len n k : Int} {v : Value} (h : ∀ i : Int, gi N 78 i = K i) (u : Wr N 78 k.toNat v N1) (p : gi N1 78 k = len) (hk : k = 135 + 16 * n) (h0 : 0 ≤ k) : ∀ j : Int, gi N1 78 j = seP K T len n 0 j := by
  intro j
  unfold seP
  by_cases e : j = k
  · rw [if_pos (by omega), e]; exact p
  · rw [if_neg (by omega), if_neg (by omega), u.gi_ne h0 (Or.inr e)]; exact h j
theorem seP_step {N N1 : mH} {K T : Int → Int} {len n m k y : Int} {v : Value} (h : ∀ j : Int, gi N 78 j = seP K T len n m j) (u : Wr N 78 k.toNat v N1) (p : gi N1 78 k = y) (hk : k = 136 + 16 * n + m) (h0 : 0 ≤ k ∧ 0 ≤ m) (hy : y = if m < len then T m else 0) : ∀ j : Int, gi N1 78 j = seP K T len n (m + 1) j := by
  intro j
  by_cases e : j = k
  · rw [e, p, hy]
    unfold seP
    rw [if_neg (show ¬ k = 135 + 16 * n by omega), if_pos (show 136 + 16 * n ≤ k ∧ k < 136 + 16 * n + (m + 1) by omega), show k - (136 + 16 * n) = m by omega]
  · rw [u.gi_ne h0.1 (Or.inr e), h j]
    unfold seP
    by_cases c1 : j = 135 + 16 * n
    · rw [if_pos c1, if_pos c1]
    rw [if_neg c1, if_neg c1]
    by_cases c2 : 136 + 16 * n ≤ j ∧ j < 136 + 16 * n + m
    · rw [if_pos c2, if_pos (show 136 + 16 * n ≤ j ∧ j < 136 + 16 * n + (m + 1) by omega)]
    · rw [if_neg c2, if_neg (show ¬ (136 + 16 * n ≤ j ∧ j < 136 + 16 * n + (m + 1)) by omega)]
theorem seQ_0 {N N1 N2 N3 : mH} {K T : Int → Int} {len n a b c m : Int} {v1 v2 v3 : Value} (h : ∀ j : Int, gi N 78 j = seP K T len n m j) (hm : m = 8) (h0 : 0 ≤ n) (u1 : Wr N 78 (144 + 16 * n).toNat v1 N1) (p1 : gi N1 78 (144 + 16 * n) = a) (u2 : Wr N1 78 (145 + 16 * n).toNat v2 N2) (p2 : gi N2 78 (145 + 16 * n) = b) (u3 : Wr N2 78 (146 + 16 * n).toNat v3 N3) (p3 : gi N3 78 (146 + 16 * n) = c) : ∀ j : Int, gi N3 78 j = seQ K T len n a b c 0 j := by
  subst hm
  intro j
  unfold seQ
  by_cases e3 : j = 146 + 16 * n
  · rw [if_neg (by omega), if_neg (by omega), if_pos e3, e3]; exact p3
  rw [u3.gi_ne (by omega) (Or.inr e3)]
  by_cases e2 : j = 145 + 16 * n
  · rw [if_neg (by omega), if_pos e2, e2]; exact p2
  rw [u2.gi_ne (by omega) (Or.inr e2)]
  by_cases e1 : j = 144 + 16 * n
  · rw [if_pos e1, e1]; exact p1
  rw [u1.gi_ne (by omega) (Or.inr e1), if_neg e1, if_neg e2, if_neg e3, if_neg (by omega)]
  exact h j
theorem seQ_step {N N1 : mH} {K T : Int → Int} {len n a b c m k : Int} {v : Value} (h : ∀ j : Int, gi N 78 j = seQ K T len n a b c m j) (u : Wr N 78 k.toNat v N1) (p : gi N1 78 k = 1) (hk : k = 147 + 16 * n + m) (h0 : 0 ≤ k ∧ 0 ≤ m) : ∀ j : Int, gi N1 78 j = seQ K T len n a b c (m + 1) j := by
  intro j
  by_cases e : j = k
  · rw [e, p]
    unfold seQ
    rw [if_neg (by omega), if_neg (by omega), if_neg (by omega), if_pos (by omega)]
  · rw [u.gi_ne h0.1 (Or.inr e), h j]
    unfold seQ
    by_cases c1 : j = 144 + 16 * n
    · rw [if_pos c1, if_pos c1]
    rw [if_neg c1, if_neg c1]
    by_cases c2 : j = 145 + 16 * n
    · rw [if_pos c2, if_pos c2]
    rw [if_neg c2, if_neg c2]
    by_cases c3 : j = 146 + 16 * n
    · rw [if_pos c3, if_pos c3]
    rw [if_neg c3, if_neg c3]
    by_cases c4 : 147 + 16 * n ≤ j ∧ j < 147 + 16 * n + m
    · rw [if_pos c4, if_pos (by omega)]
    · rw [if_neg c4, if_neg (by omega)]
theorem seR_of {N N1 N2 : mH} {K T : Int → Int} {len n a b c m w : Int} {v : Value} (h : ∀ j : Int, gi N 78 j = seQ K T len n a b c m j) (hm : m = 4) (hn : n = K 469) (hb : 0 ≤ n ∧ n ≤ 15) (hw : w = gi N 78 469) (u : Wr N 78 (469 : Int).toNat v N1) (p : gi N1 78 469 = w + 1) (f : ∀ j : Int, gi N2 78 j = gi N1 78 j) : ∀ j : Int, gi N2 78 j = seR K T len a b c j := by
  subst hm
  have e9 : w = K 469 := by
    rw [hw, h 469]
    unfold seQ seP
    rw [if_neg (by omega), if_neg (by omega), if_neg (by omega), if_neg (by omega), if_neg (by omega), if_neg (by omega)]
  subst hn
  intro j
  rw [f]
  unfold seR
  by_cases e : j = 469
  · rw [if_pos e, e, p, e9]
  · rw [if_neg e, u.gi_ne (by decide) (Or.inr e)]; exact h j
noncomputable def SnR (v a b c : Int) (M M' : mH) : Prop := (¬ AB a b c ∧ v = -1 ∧ ∀ i : Int, gi M' 78 i = gi M 78 i) ∨ (AB a b c ∧ ¬ RWr (gi M 77 31) M ∧ v = -6 ∧ ∀ i : Int, gi M' 78 i = gi M 78 i) ∨ (AB a b c ∧ RWr (gi M 77 31) M ∧ HRr (gi M 77 31) M ∧ v = -4 ∧ ∀ i : Int, gi M' 78 i = gi M 78 i) ∨ (AB a b c ∧ RWr (gi M 77 31) M ∧ ¬ HRr (gi M 77 31) M ∧ 16 ≤ gi M 78 469 ∧ v = -5 ∧ ∀ i : Int, gi M' 78 i = gi M 78 i) ∨ (AB a b c ∧ RWr (gi M 77 31) M ∧ ¬ HRr (gi M 77 31) M ∧ gi M 78 469 ≤ 15 ∧ v = gi M 78 469 ∧ ∀ j : Int, gi M' 78 j = seR (gi M 78) (gi M 95) (gi M 77 31) a b c j)
theorem NRr.no {len n : Int} {M : mH} (h : NRr (gi M 78) len n M) (hn : gi M 78 469 ≤ n) : ¬ HRr len M := fun q => by
  obtain ⟨k, a, b, c⟩ := q
  exact h k a (by omega) c

set_option maxRecDepth 4000 in
theorem k153n {base : Nat} {X : Nat → Option mC} {G : Nat → Value} (E : EnvOK base X G) {d : Nat} (hd : 0 ≤ d) {M : mH} (H : HI base M) (what : Int) (h0 : 0 ≤ what ∧ what ≤ 8) : sOk base X G d T153 [vR 77, vI what] M (pI (fun v M' => M' = M ∧ (0 ≤ v ∧ v ≤ 1000) ∧ v = gi M 78 (90 + what))) := by
  refine sOk.of (show sRn base X G d T153 0 [(0, vR 77), (1, vI what)] [] M _ from ?_)
  refine s_blx (lv' := [(0, vR 77), (1, vI what)]) (st' := [vR 77]) B153_0_1 rfl ?_
  refine r_gfix (r := 78) (pc' := 4) D153_1 rfl gf_11_13_77 H.1 ?_
  refine s_blx (lv' := [(0, vR 77), (1, vI what)]) (st' := [vI (90 + what), vR 78]) B153_4_8 rfl ?_
  refine r_iald (pc' := 9) D153_8 rfl sc_78 H.1 (by omega) ?_
  intro w1 e2 r3
  have b_w1 := H.2 78 (90 + what) 0 1000 (rk_term (by omega))
  rw [← e2] at b_w1; clear r3
  exact r_iretI D153_9 rfl (⟨rfl, by omega, by omega⟩)
set_option maxRecDepth 4000 in
theorem k161n {base : Nat} {X : Nat → Option mC} {G : Nat → Value} (E : EnvOK base X G) {d : Nat} (hd : 1 ≤ d) {M : mH} (H : HI base M) (w : Int) (what : Int) (value : Int) (h0 : LN M) (h1 : GK M) (h2 : -2147483648 ≤ w ∧ w ≤ 2147483647) (h3 : -2147483648 ≤ what ∧ what ≤ 2147483647) (h4 : -2147483648 ≤ value ∧ value ≤ 2147483647) : sOk base X G d T161 [vR 77, vI w, vI what, vI value] M (pI (fun v M' => HI base M' ∧ Fr [(77, 1), (78, 0)] M M' ∧ (LN M') ∧ (GK M') ∧ ((WV w what value ∧ v = gi M 78 (30 * what + w) ∧ ∃ M1, Wr M 78 (30 * what + w).toNat (.int (Int32.ofInt value)) M1 ∧ Fr [(77, 1)] M1 M') ∨ (¬ WV w what value ∧ (v = -1) ∧ Fr [(77, 1)] M M')))) := by
  have f0 : Fr [(77, 1), (78, 0)] M M := Fr.rf
  refine sOk.of (show sRn base X G d T161 0 [(0, vR 77), (1, vI w), (2, vI what), (3, vI value)] [] M _ from ?_)
  refine s_blx (lv' := [(0, vR 77), (1, vI w), (2, vI what), (3, vI value)]) (st' := [vI 29, vI 0, vI w]) B161_0_4 rfl ?_
  refine r_sIp (args := [vI w, vI 0, vI 29]) (rest := []) (pc' := 7) D161_4 rfl ck_11_static_123 TE147 rfl (Nat.le_of_ble_eq_true rfl) ⟨Nat.le_of_ble_eq_true rfl, Nat.le_of_ble_eq_true rfl⟩ (by decide) (dp_0 hd rfl) (k147 E (dp_n hd rfl) H w 0 29 (by omega) (by omega) (by omega)) ?_
  intro v1 q6
  obtain ⟨q3, q4, q5⟩ := q6
  refine r_ifc (tgt := 48) (pc' := 10) D161_7 rfl rfl (by unfold inR; omega) (fun (c7 : v1 = 0) => ?_) (fun (c7 : ¬ (v1 = 0)) => ?_)
  · refine s_blx (lv' := [(0, vR 77), (1, vI w), (2, vI what), (3, vI value)]) (st' := [vI (-1), vR 77]) B161_48_50 rfl ?_
    refine r_vI (c := 77) (args := [vI (-1)]) (rest := []) (pc' := 53) D161_50 rfl ck_11_virtual_127 TE148 rfl (Nat.le_of_ble_eq_true rfl) ⟨Nat.le_of_ble_eq_true rfl, Nat.le_of_ble_eq_true rfl⟩ sc_77 ⟨rfl, by decide⟩ H.1 (dp_0 hd rfl) (k148 E (dp_n hd rfl) H (-1) (by omega)) ?_
    intro v8 M9 q13
    obtain ⟨H10, f11, q12⟩ := q13
    have f14 := f0.tr (f11.up rfl)
    have hp15 := h0.fr f11 (by decide)
    have hp16 := h1.fr f11 (by decide)
    have kfr := f11
    exact r_iretI D161_53 rfl (⟨H10, f14, hp15, hp16, Or.inr ⟨fun h => by unfold WV at h; omega, by omega, kfr⟩⟩)
  · refine s_blx (lv' := [(0, vR 77), (1, vI w), (2, vI what), (3, vI value)]) (st' := [vI 2, vI 0, vI what]) B161_10_13 rfl ?_
    refine r_sIp (args := [vI what, vI 0, vI 2]) (rest := []) (pc' := 16) D161_13 rfl ck_11_static_123 TE147 rfl (Nat.le_of_ble_eq_true rfl) ⟨Nat.le_of_ble_eq_true rfl, Nat.le_of_ble_eq_true rfl⟩ (by decide) (dp_0 hd rfl) (k147 E (dp_n hd rfl) H what 0 2 (by omega) (by omega) (by omega)) ?_
    intro v17 q22
    obtain ⟨q19, q20, q21⟩ := q22
    refine r_ifc (tgt := 48) (pc' := 19) D161_16 rfl rfl (by unfold inR; omega) (fun (c23 : v17 = 0) => ?_) (fun (c23 : ¬ (v17 = 0)) => ?_)
    · refine s_blx (lv' := [(0, vR 77), (1, vI w), (2, vI what), (3, vI value)]) (st' := [vI (-1), vR 77]) B161_48_50 rfl ?_
      refine r_vI (c := 77) (args := [vI (-1)]) (rest := []) (pc' := 53) D161_50 rfl ck_11_virtual_127 TE148 rfl (Nat.le_of_ble_eq_true rfl) ⟨Nat.le_of_ble_eq_true rfl, Nat.le_of_ble_eq_true rfl⟩ sc_77 ⟨rfl, by decide⟩ H.1 (dp_0 hd rfl) (k148 E (dp_n hd rfl) H (-1) (by omega)) ?_
      intro v24 M25 q29
      obtain ⟨H26, f27, q28⟩ := q29
      have f30 := f0.tr (f27.up rfl)
      have hp31 := h0.fr f27 (by decide)
      have hp32 := h1.fr f27 (by decide)
      have kfr := f27
      exact r_iretI D161_53 rfl (⟨H26, f30, hp31, hp32, Or.inr ⟨fun h => by unfold WV at h; omega, by omega, kfr⟩⟩)
    · refine s_blx (lv' := [(0, vR 77), (1, vI w), (2, vI what), (3, vI value)]) (st' := [vI 1, vI what, vI value]) B161_19_22 rfl ?_
      refine r_icmp (tgt := 29) (pc' := 25) D161_22 rfl rfl (by unfold inR; omega) (fun (c33 : what ≠ 1) => ?_) (fun (c33 : ¬ (what ≠ 1)) => ?_)
      · refine s_blx (lv' := [(0, vR 77), (1, vI w), (2, vI what), (3, vI value)]) (st' := [vI 1, vI what, vI 0, vI value]) B161_29_32 rfl ?_
        refine r_icmp (tgt := 40) (pc' := 35) D161_32 rfl rfl (by unfold inR; omega) (fun (c34 : what ≠ 1) => ?_) (fun (c34 : ¬ (what ≠ 1)) => ?_)
        · refine s_blx (lv' := [(0, vR 77), (1, vI w), (2, vI what), (3, vI value)]) (st' := [vI 9, vI 0, vI value]) B161_40_42 rfl ?_
          refine r_sIp (args := [vI value, vI 0, vI 9]) (rest := []) (pc' := 45) D161_42 rfl ck_11_static_123 TE147 rfl (Nat.le_of_ble_eq_true rfl) ⟨Nat.le_of_ble_eq_true rfl, Nat.le_of_ble_eq_true rfl⟩ (by decide) (dp_0 hd rfl) (k147 E (dp_n hd rfl) H value 0 9 (by omega) (by omega) (by omega)) ?_
          intro v35 q40
          obtain ⟨q37, q38, q39⟩ := q40
          refine r_ifc (tgt := 54) (pc' := 48) D161_45 rfl rfl (by unfold inR; omega) (fun (c41 : v35 ≠ 0) => ?_) (fun (c41 : ¬ (v35 ≠ 0)) => ?_)
          · refine s_blx (lv' := [(0, vR 77), (1, vI w), (2, vI what), (3, vI value)]) (st' := [vI what]) B161_54_55 rfl ?_
            refine r_ifc (tgt := 62) (pc' := 58) D161_55 rfl rfl (by unfold inR; omega) (fun (c42 : what ≠ 0) => ?_) (fun (c42 : ¬ (what ≠ 0)) => ?_)
            · refine s_blx (lv' := [(0, vR 77), (1, vI w), (2, vI what), (3, vI value)]) (st' := [vI 1, vI what]) B161_62_64 rfl ?_
              refine r_icmp (tgt := 72) (pc' := 67) D161_64 rfl rfl (by unfold inR; omega) (fun (c43 : what ≠ 1) => ?_) (fun (c43 : ¬ (what ≠ 1)) => ?_)
              · refine s_blx (lv' := [(4, vI (60 + w)), (0, vR 77), (1, vI w), (2, vI what), (3, vI value)]) (st' := [vR 77]) B161_72_79 rfl ?_
                refine r_gfix (r := 78) (pc' := 82) D161_79 rfl gf_11_13_77 H.1 ?_
                refine s_blx (lv' := [(4, vI (60 + w)), (0, vR 77), (1, vI w), (2, vI what), (3, vI value)]) (st' := [vI (60 + w), vR 78]) B161_82_84 rfl ?_
                refine r_iald (pc' := 85) D161_84 rfl sc_78 H.1 (by omega) ?_
                intro w44 e45 r46
                have b_w44 := H.2 78 (60 + w) 0 9 (rk_spare (by omega))
                rw [← e45] at b_w44; clear r46
                have kgv : w44 = gi M 78 (30 * what + w) := by first | (rw [e45]; congr 1; omega) | rw [e45]
                refine s_blx (lv' := [(5, vI w44), (4, vI (60 + w)), (0, vR 77), (1, vI w), (2, vI what), (3, vI value)]) (st' := [vR 77]) B161_85_88 rfl ?_
                refine r_gfix (r := 78) (pc' := 91) D161_88 rfl gf_11_13_77 H.1 ?_
                refine s_blx (lv' := [(5, vI w44), (4, vI (60 + w)), (0, vR 77), (1, vI w), (2, vI what), (3, vI value)]) (st' := [vI value, vI (60 + w), vR 78]) B161_91_94 rfl ?_
                refine r_iast (pc' := 95) D161_94 rfl sc_78 H (by omega) (by unfold inR; omega) (by show s_in (rgK _) _; rw [rk_spare (by omega)]; show 0 ≤ value ∧ value ≤ 9; omega) ?_
                intro M47 u48 H49 p50
                have f51 := f0.wr u48 rfl
                have hp52 := h0.w u48 (by omega) H
                have hp53 := h1.w u48 (by omega) H
                have ku0 := u48
                refine s_blx (lv' := [(5, vI w44), (4, vI (60 + w)), (0, vR 77), (1, vI w), (2, vI what), (3, vI value)]) (st' := [vI w44, vR 77]) B161_95_98 rfl ?_
                refine r_vI (c := 77) (args := [vI w44]) (rest := []) (pc' := 101) D161_98 rfl ck_11_virtual_131 TE149 rfl (Nat.le_of_ble_eq_true rfl) ⟨Nat.le_of_ble_eq_true rfl, Nat.le_of_ble_eq_true rfl⟩ sc_77 ⟨rfl, by decide⟩ H49.1 (dp_0 hd rfl) (k149 E (dp_n hd rfl) H49 w44 (by omega)) ?_
                intro v54 M55 q59
                obtain ⟨H56, f57, q58⟩ := q59
                have f60 := f51.tr (f57.up rfl)
                have hp61 := hp52.fr f57 (by decide)
                have hp62 := hp53.fr f57 (by decide)
                have kfa := f57
                exact r_iretI D161_101 rfl (⟨H56, f60, hp61, hp62, Or.inl ⟨by unfold WV; omega, by omega, ⟨_, (kuw ku0 (by omega)), kfa⟩⟩⟩)
              · refine s_blx (lv' := [(0, vR 77), (1, vI w), (2, vI what), (3, vI value)]) (st' := [vI 30]) B161_67_69 rfl ?_
                refine r_goto (tgt := 74) D161_69 rfl ?_
                refine s_blx (lv' := [(4, vI (30 + w)), (0, vR 77), (1, vI w), (2, vI what), (3, vI value)]) (st' := [vR 77]) B161_74_79 rfl ?_
                refine r_gfix (r := 78) (pc' := 82) D161_79 rfl gf_11_13_77 H.1 ?_
                refine s_blx (lv' := [(4, vI (30 + w)), (0, vR 77), (1, vI w), (2, vI what), (3, vI value)]) (st' := [vI (30 + w), vR 78]) B161_82_84 rfl ?_
                refine r_iald (pc' := 85) D161_84 rfl sc_78 H.1 (by omega) ?_
                intro w63 e64 r65
                have b_w63 := H.2 78 (30 + w) 0 60 (rk_look (by omega))
                rw [← e64] at b_w63; clear r65
                have kgv : w63 = gi M 78 (30 * what + w) := by first | (rw [e64]; congr 1; omega) | rw [e64]
                refine s_blx (lv' := [(5, vI w63), (4, vI (30 + w)), (0, vR 77), (1, vI w), (2, vI what), (3, vI value)]) (st' := [vR 77]) B161_85_88 rfl ?_
                refine r_gfix (r := 78) (pc' := 91) D161_88 rfl gf_11_13_77 H.1 ?_
                refine s_blx (lv' := [(5, vI w63), (4, vI (30 + w)), (0, vR 77), (1, vI w), (2, vI what), (3, vI value)]) (st' := [vI value, vI (30 + w), vR 78]) B161_91_94 rfl ?_
                refine r_iast (pc' := 95) D161_94 rfl sc_78 H (by omega) (by unfold inR; omega) (by show s_in (rgK _) _; rw [rk_look (by omega)]; show 0 ≤ value ∧ value ≤ 60; omega) ?_
                intro M66 u67 H68 p69
                have f70 := f0.wr u67 rfl
                have hp71 := h0.w u67 (by omega) H
                have hp72 := h1.w u67 (by omega) H
                have ku0 := u67
                refine s_blx (lv' := [(5, vI w63), (4, vI (30 + w)), (0, vR 77), (1, vI w), (2, vI what), (3, vI value)]) (st' := [vI w63, vR 77]) B161_95_98 rfl ?_
                refine r_vI (c := 77) (args := [vI w63]) (rest := []) (pc' := 101) D161_98 rfl ck_11_virtual_131 TE149 rfl (Nat.le_of_ble_eq_true rfl) ⟨Nat.le_of_ble_eq_true rfl, Nat.le_of_ble_eq_true rfl⟩ sc_77 ⟨rfl, by decide⟩ H68.1 (dp_0 hd rfl) (k149 E (dp_n hd rfl) H68 w63 (by omega)) ?_
                intro v73 M74 q78
                obtain ⟨H75, f76, q77⟩ := q78
                have f79 := f70.tr (f76.up rfl)
                have hp80 := hp71.fr f76 (by decide)
                have hp81 := hp72.fr f76 (by decide)
                have kfa := f76
                exact r_iretI D161_101 rfl (⟨H75, f79, hp80, hp81, Or.inl ⟨by unfold WV; omega, by omega, ⟨_, (kuw ku0 (by omega)), kfa⟩⟩⟩)
            · refine s_blx (lv' := [(0, vR 77), (1, vI w), (2, vI what), (3, vI value)]) (st' := [vI 0]) B161_58_59 rfl ?_
              refine r_goto (tgt := 74) D161_59 rfl ?_
              refine s_blx (lv' := [(4, vI (0 + w)), (0, vR 77), (1, vI w), (2, vI what), (3, vI value)]) (st' := [vR 77]) B161_74_79 rfl ?_
              refine r_gfix (r := 78) (pc' := 82) D161_79 rfl gf_11_13_77 H.1 ?_
              refine s_blx (lv' := [(4, vI (0 + w)), (0, vR 77), (1, vI w), (2, vI what), (3, vI value)]) (st' := [vI (0 + w), vR 78]) B161_82_84 rfl ?_
              refine r_iald (pc' := 85) D161_84 rfl sc_78 H.1 (by omega) ?_
              intro w82 e83 r84
              have b_w82 := H.2 78 (0 + w) 0 9 (rk_load (by omega))
              rw [← e83] at b_w82; clear r84
              have kgv : w82 = gi M 78 (30 * what + w) := by first | (rw [e83]; congr 1; omega) | rw [e83]
              refine s_blx (lv' := [(5, vI w82), (4, vI (0 + w)), (0, vR 77), (1, vI w), (2, vI what), (3, vI value)]) (st' := [vR 77]) B161_85_88 rfl ?_
              refine r_gfix (r := 78) (pc' := 91) D161_88 rfl gf_11_13_77 H.1 ?_
              refine s_blx (lv' := [(5, vI w82), (4, vI (0 + w)), (0, vR 77), (1, vI w), (2, vI what), (3, vI value)]) (st' := [vI value, vI (0 + w), vR 78]) B161_91_94 rfl ?_
              refine r_iast (pc' := 95) D161_94 rfl sc_78 H (by omega) (by unfold inR; omega) (by show s_in (rgK _) _; rw [rk_load (by omega)]; show 0 ≤ value ∧ value ≤ 9; omega) ?_
              intro M85 u86 H87 p88
              have f89 := f0.wr u86 rfl
              have hp90 := h0.w u86 (by omega) H
              have hp91 := h1.w u86 (by omega) H
              have ku0 := u86
              refine s_blx (lv' := [(5, vI w82), (4, vI (0 + w)), (0, vR 77), (1, vI w), (2, vI what), (3, vI value)]) (st' := [vI w82, vR 77]) B161_95_98 rfl ?_
              refine r_vI (c := 77) (args := [vI w82]) (rest := []) (pc' := 101) D161_98 rfl ck_11_virtual_131 TE149 rfl (Nat.le_of_ble_eq_true rfl) ⟨Nat.le_of_ble_eq_true rfl, Nat.le_of_ble_eq_true rfl⟩ sc_77 ⟨rfl, by decide⟩ H87.1 (dp_0 hd rfl) (k149 E (dp_n hd rfl) H87 w82 (by omega)) ?_
              intro v92 M93 q97
              obtain ⟨H94, f95, q96⟩ := q97
              have f98 := f89.tr (f95.up rfl)
              have hp99 := hp90.fr f95 (by decide)
              have hp100 := hp91.fr f95 (by decide)
              have kfa := f95
              exact r_iretI D161_101 rfl (⟨H94, f98, hp99, hp100, Or.inl ⟨by unfold WV; omega, by omega, ⟨_, (kuw ku0 (by omega)), kfa⟩⟩⟩)
          · refine s_blx (lv' := [(0, vR 77), (1, vI w), (2, vI what), (3, vI value)]) (st' := [vI (-1), vR 77]) B161_48_50 rfl ?_
            refine r_vI (c := 77) (args := [vI (-1)]) (rest := []) (pc' := 53) D161_50 rfl ck_11_virtual_127 TE148 rfl (Nat.le_of_ble_eq_true rfl) ⟨Nat.le_of_ble_eq_true rfl, Nat.le_of_ble_eq_true rfl⟩ sc_77 ⟨rfl, by decide⟩ H.1 (dp_0 hd rfl) (k148 E (dp_n hd rfl) H (-1) (by omega)) ?_
            intro v101 M102 q106
            obtain ⟨H103, f104, q105⟩ := q106
            have f107 := f0.tr (f104.up rfl)
            have hp108 := h0.fr f104 (by decide)
            have hp109 := h1.fr f104 (by decide)
            have kfr := f104
            exact r_iretI D161_53 rfl (⟨H103, f107, hp108, hp109, Or.inr ⟨fun h => by unfold WV at h; omega, by omega, kfr⟩⟩)
        · refine s_blx (lv' := [(0, vR 77), (1, vI w), (2, vI what), (3, vI value)]) (st' := [vI 60, vI 0, vI value]) B161_35_37 rfl ?_
          refine r_goto (tgt := 42) D161_37 rfl ?_
          refine r_sIp (args := [vI value, vI 0, vI 60]) (rest := []) (pc' := 45) D161_42 rfl ck_11_static_123 TE147 rfl (Nat.le_of_ble_eq_true rfl) ⟨Nat.le_of_ble_eq_true rfl, Nat.le_of_ble_eq_true rfl⟩ (by decide) (dp_0 hd rfl) (k147 E (dp_n hd rfl) H value 0 60 (by omega) (by omega) (by omega)) ?_
          intro v110 q115
          obtain ⟨q112, q113, q114⟩ := q115
          refine r_ifc (tgt := 54) (pc' := 48) D161_45 rfl rfl (by unfold inR; omega) (fun (c116 : v110 ≠ 0) => ?_) (fun (c116 : ¬ (v110 ≠ 0)) => ?_)
          · refine s_blx (lv' := [(0, vR 77), (1, vI w), (2, vI what), (3, vI value)]) (st' := [vI what]) B161_54_55 rfl ?_
            refine r_ifc (tgt := 62) (pc' := 58) D161_55 rfl rfl (by unfold inR; omega) (fun (c117 : what ≠ 0) => ?_) (fun (c117 : ¬ (what ≠ 0)) => ?_)
            · refine s_blx (lv' := [(0, vR 77), (1, vI w), (2, vI what), (3, vI value)]) (st' := [vI 1, vI what]) B161_62_64 rfl ?_
              refine r_icmp (tgt := 72) (pc' := 67) D161_64 rfl rfl (by unfold inR; omega) (fun (c118 : what ≠ 1) => ?_) (fun (c118 : ¬ (what ≠ 1)) => ?_)
              · exfalso; omega
              · refine s_blx (lv' := [(0, vR 77), (1, vI w), (2, vI what), (3, vI value)]) (st' := [vI 30]) B161_67_69 rfl ?_
                refine r_goto (tgt := 74) D161_69 rfl ?_
                refine s_blx (lv' := [(4, vI (30 + w)), (0, vR 77), (1, vI w), (2, vI what), (3, vI value)]) (st' := [vR 77]) B161_74_79 rfl ?_
                refine r_gfix (r := 78) (pc' := 82) D161_79 rfl gf_11_13_77 H.1 ?_
                refine s_blx (lv' := [(4, vI (30 + w)), (0, vR 77), (1, vI w), (2, vI what), (3, vI value)]) (st' := [vI (30 + w), vR 78]) B161_82_84 rfl ?_
                refine r_iald (pc' := 85) D161_84 rfl sc_78 H.1 (by omega) ?_
                intro w119 e120 r121
                have b_w119 := H.2 78 (30 + w) 0 60 (rk_look (by omega))
                rw [← e120] at b_w119; clear r121
                have kgv : w119 = gi M 78 (30 * what + w) := by first | (rw [e120]; congr 1; omega) | rw [e120]
                refine s_blx (lv' := [(5, vI w119), (4, vI (30 + w)), (0, vR 77), (1, vI w), (2, vI what), (3, vI value)]) (st' := [vR 77]) B161_85_88 rfl ?_
                refine r_gfix (r := 78) (pc' := 91) D161_88 rfl gf_11_13_77 H.1 ?_
                refine s_blx (lv' := [(5, vI w119), (4, vI (30 + w)), (0, vR 77), (1, vI w), (2, vI what), (3, vI value)]) (st' := [vI value, vI (30 + w), vR 78]) B161_91_94 rfl ?_
                refine r_iast (pc' := 95) D161_94 rfl sc_78 H (by omega) (by unfold inR; omega) (by show s_in (rgK _) _; rw [rk_look (by omega)]; show 0 ≤ value ∧ value ≤ 60; omega) ?_
                intro M122 u123 H124 p125
                have f126 := f0.wr u123 rfl
                have hp127 := h0.w u123 (by omega) H
                have hp128 := h1.w u123 (by omega) H
                have ku0 := u123
                refine s_blx (lv' := [(5, vI w119), (4, vI (30 + w)), (0, vR 77), (1, vI w), (2, vI what), (3, vI value)]) (st' := [vI w119, vR 77]) B161_95_98 rfl ?_
                refine r_vI (c := 77) (args := [vI w119]) (rest := []) (pc' := 101) D161_98 rfl ck_11_virtual_131 TE149 rfl (Nat.le_of_ble_eq_true rfl) ⟨Nat.le_of_ble_eq_true rfl, Nat.le_of_ble_eq_true rfl⟩ sc_77 ⟨rfl, by decide⟩ H124.1 (dp_0 hd rfl) (k149 E (dp_n hd rfl) H124 w119 (by omega)) ?_
                intro v129 M130 q134
                obtain ⟨H131, f132, q133⟩ := q134
                have f135 := f126.tr (f132.up rfl)
                have hp136 := hp127.fr f132 (by decide)
                have hp137 := hp128.fr f132 (by decide)
                have kfa := f132
                exact r_iretI D161_101 rfl (⟨H131, f135, hp136, hp137, Or.inl ⟨by unfold WV; omega, by omega, ⟨_, (kuw ku0 (by omega)), kfa⟩⟩⟩)
            · exfalso; omega
          · refine s_blx (lv' := [(0, vR 77), (1, vI w), (2, vI what), (3, vI value)]) (st' := [vI (-1), vR 77]) B161_48_50 rfl ?_
            refine r_vI (c := 77) (args := [vI (-1)]) (rest := []) (pc' := 53) D161_50 rfl ck_11_virtual_127 TE148 rfl (Nat.le_of_ble_eq_true rfl) ⟨Nat.le_of_ble_eq_true rfl, Nat.le_of_ble_eq_true rfl⟩ sc_77 ⟨rfl, by decide⟩ H.1 (dp_0 hd rfl) (k148 E (dp_n hd rfl) H (-1) (by omega)) ?_
            intro v138 M139 q143
            obtain ⟨H140, f141, q142⟩ := q143
            have f144 := f0.tr (f141.up rfl)
            have hp145 := h0.fr f141 (by decide)
            have hp146 := h1.fr f141 (by decide)
            have kfr := f141
            exact r_iretI D161_53 rfl (⟨H140, f144, hp145, hp146, Or.inr ⟨fun h => by unfold WV at h; omega, by omega, kfr⟩⟩)
      · refine s_blx (lv' := [(0, vR 77), (1, vI w), (2, vI what), (3, vI value)]) (st' := [vI 1, vI value]) B161_25_26 rfl ?_
        refine r_goto (tgt := 30) D161_26 rfl ?_
        refine s_blx (lv' := [(0, vR 77), (1, vI w), (2, vI what), (3, vI value)]) (st' := [vI 1, vI what, vI 1, vI value]) B161_30_32 rfl ?_
        refine r_icmp (tgt := 40) (pc' := 35) D161_32 rfl rfl (by unfold inR; omega) (fun (c147 : what ≠ 1) => ?_) (fun (c147 : ¬ (what ≠ 1)) => ?_)
        · exfalso; omega
        · refine s_blx (lv' := [(0, vR 77), (1, vI w), (2, vI what), (3, vI value)]) (st' := [vI 60, vI 1, vI value]) B161_35_37 rfl ?_
          refine r_goto (tgt := 42) D161_37 rfl ?_
          refine r_sIp (args := [vI value, vI 1, vI 60]) (rest := []) (pc' := 45) D161_42 rfl ck_11_static_123 TE147 rfl (Nat.le_of_ble_eq_true rfl) ⟨Nat.le_of_ble_eq_true rfl, Nat.le_of_ble_eq_true rfl⟩ (by decide) (dp_0 hd rfl) (k147 E (dp_n hd rfl) H value 1 60 (by omega) (by omega) (by omega)) ?_
          intro v148 q153
          obtain ⟨q150, q151, q152⟩ := q153
          refine r_ifc (tgt := 54) (pc' := 48) D161_45 rfl rfl (by unfold inR; omega) (fun (c154 : v148 ≠ 0) => ?_) (fun (c154 : ¬ (v148 ≠ 0)) => ?_)
          · refine s_blx (lv' := [(0, vR 77), (1, vI w), (2, vI what), (3, vI value)]) (st' := [vI what]) B161_54_55 rfl ?_
            refine r_ifc (tgt := 62) (pc' := 58) D161_55 rfl rfl (by unfold inR; omega) (fun (c155 : what ≠ 0) => ?_) (fun (c155 : ¬ (what ≠ 0)) => ?_)
            · refine s_blx (lv' := [(0, vR 77), (1, vI w), (2, vI what), (3, vI value)]) (st' := [vI 1, vI what]) B161_62_64 rfl ?_
              refine r_icmp (tgt := 72) (pc' := 67) D161_64 rfl rfl (by unfold inR; omega) (fun (c156 : what ≠ 1) => ?_) (fun (c156 : ¬ (what ≠ 1)) => ?_)
              · exfalso; omega
              · refine s_blx (lv' := [(0, vR 77), (1, vI w), (2, vI what), (3, vI value)]) (st' := [vI 30]) B161_67_69 rfl ?_
                refine r_goto (tgt := 74) D161_69 rfl ?_
                refine s_blx (lv' := [(4, vI (30 + w)), (0, vR 77), (1, vI w), (2, vI what), (3, vI value)]) (st' := [vR 77]) B161_74_79 rfl ?_
                refine r_gfix (r := 78) (pc' := 82) D161_79 rfl gf_11_13_77 H.1 ?_
                refine s_blx (lv' := [(4, vI (30 + w)), (0, vR 77), (1, vI w), (2, vI what), (3, vI value)]) (st' := [vI (30 + w), vR 78]) B161_82_84 rfl ?_
                refine r_iald (pc' := 85) D161_84 rfl sc_78 H.1 (by omega) ?_
                intro w157 e158 r159
                have b_w157 := H.2 78 (30 + w) 0 60 (rk_look (by omega))
                rw [← e158] at b_w157; clear r159
                have kgv : w157 = gi M 78 (30 * what + w) := by first | (rw [e158]; congr 1; omega) | rw [e158]
                refine s_blx (lv' := [(5, vI w157), (4, vI (30 + w)), (0, vR 77), (1, vI w), (2, vI what), (3, vI value)]) (st' := [vR 77]) B161_85_88 rfl ?_
                refine r_gfix (r := 78) (pc' := 91) D161_88 rfl gf_11_13_77 H.1 ?_
                refine s_blx (lv' := [(5, vI w157), (4, vI (30 + w)), (0, vR 77), (1, vI w), (2, vI what), (3, vI value)]) (st' := [vI value, vI (30 + w), vR 78]) B161_91_94 rfl ?_
                refine r_iast (pc' := 95) D161_94 rfl sc_78 H (by omega) (by unfold inR; omega) (by show s_in (rgK _) _; rw [rk_look (by omega)]; show 0 ≤ value ∧ value ≤ 60; omega) ?_
                intro M160 u161 H162 p163
                have f164 := f0.wr u161 rfl
                have hp165 := h0.w u161 (by omega) H
                have hp166 := h1.w u161 (by omega) H
                have ku0 := u161
                refine s_blx (lv' := [(5, vI w157), (4, vI (30 + w)), (0, vR 77), (1, vI w), (2, vI what), (3, vI value)]) (st' := [vI w157, vR 77]) B161_95_98 rfl ?_
                refine r_vI (c := 77) (args := [vI w157]) (rest := []) (pc' := 101) D161_98 rfl ck_11_virtual_131 TE149 rfl (Nat.le_of_ble_eq_true rfl) ⟨Nat.le_of_ble_eq_true rfl, Nat.le_of_ble_eq_true rfl⟩ sc_77 ⟨rfl, by decide⟩ H162.1 (dp_0 hd rfl) (k149 E (dp_n hd rfl) H162 w157 (by omega)) ?_
                intro v167 M168 q172
                obtain ⟨H169, f170, q171⟩ := q172
                have f173 := f164.tr (f170.up rfl)
                have hp174 := hp165.fr f170 (by decide)
                have hp175 := hp166.fr f170 (by decide)
                have kfa := f170
                exact r_iretI D161_101 rfl (⟨H169, f173, hp174, hp175, Or.inl ⟨by unfold WV; omega, by omega, ⟨_, (kuw ku0 (by omega)), kfa⟩⟩⟩)
            · exfalso; omega
          · refine s_blx (lv' := [(0, vR 77), (1, vI w), (2, vI what), (3, vI value)]) (st' := [vI (-1), vR 77]) B161_48_50 rfl ?_
            refine r_vI (c := 77) (args := [vI (-1)]) (rest := []) (pc' := 53) D161_50 rfl ck_11_virtual_127 TE148 rfl (Nat.le_of_ble_eq_true rfl) ⟨Nat.le_of_ble_eq_true rfl, Nat.le_of_ble_eq_true rfl⟩ sc_77 ⟨rfl, by decide⟩ H.1 (dp_0 hd rfl) (k148 E (dp_n hd rfl) H (-1) (by omega)) ?_
            intro v176 M177 q181
            obtain ⟨H178, f179, q180⟩ := q181
            have f182 := f0.tr (f179.up rfl)
            have hp183 := h0.fr f179 (by decide)
            have hp184 := h1.fr f179 (by decide)
            have kfr := f179
            exact r_iretI D161_53 rfl (⟨H178, f182, hp183, hp184, Or.inr ⟨fun h => by unfold WV at h; omega, by omega, kfr⟩⟩)
set_option maxRecDepth 4000 in
theorem k162n {base : Nat} {X : Nat → Option mC} {G : Nat → Value} (E : EnvOK base X G) {d : Nat} (hd : 1 ≤ d) {M : mH} (H : HI base M) (what : Int) (value : Int) (h0 : LN M) (h1 : GK M) (h2 : -2147483648 ≤ what ∧ what ≤ 2147483647) (h3 : -2147483648 ≤ value ∧ value ≤ 2147483647) : sOk base X G d T162 [vR 77, vI what, vI value] M (pI (fun v M' => HI base M' ∧ Fr [(77, 1), (78, 0)] M M' ∧ (LN M') ∧ (GK M') ∧ ((TV what value ∧ v = gi M 78 (90 + what) ∧ ∃ M1, Wr M 78 (90 + what).toNat (.int (Int32.ofInt value)) M1 ∧ Fr [(77, 1)] M1 M') ∨ (¬ TV what value ∧ (v = -1) ∧ Fr [(77, 1)] M M')))) := by
  have f0 : Fr [(77, 1), (78, 0)] M M := Fr.rf
  refine sOk.of (show sRn base X G d T162 0 [(0, vR 77), (1, vI what), (2, vI value)] [] M _ from ?_)
  refine s_blx (lv' := [(0, vR 77), (1, vI what), (2, vI value)]) (st' := [vI 8, vI 0, vI what]) B162_0_4 rfl ?_
  refine r_sIp (args := [vI what, vI 0, vI 8]) (rest := []) (pc' := 7) D162_4 rfl ck_11_static_123 TE147 rfl (Nat.le_of_ble_eq_true rfl) ⟨Nat.le_of_ble_eq_true rfl, Nat.le_of_ble_eq_true rfl⟩ (by decide) (dp_0 hd rfl) (k147 E (dp_n hd rfl) H what 0 8 (by omega) (by omega) (by omega)) ?_
  intro v1 q6
  obtain ⟨q3, q4, q5⟩ := q6
  refine r_ifc (tgt := 16) (pc' := 10) D162_7 rfl rfl (by unfold inR; omega) (fun (c7 : v1 ≠ 0) => ?_) (fun (c7 : ¬ (v1 ≠ 0)) => ?_)
  · refine s_blx (lv' := [(0, vR 77), (1, vI what), (2, vI value)]) (st' := [vI 2, vI what]) B162_16_18 rfl ?_
    refine r_icmp (tgt := 26) (pc' := 21) D162_18 rfl rfl (by unfold inR; omega) (fun (c8 : 2 ≤ what) => ?_) (fun (c8 : ¬ (2 ≤ what)) => ?_)
    · refine s_blx (lv' := [(0, vR 77), (1, vI what), (2, vI value)]) (st' := [vI 4, vI what]) B162_26_28 rfl ?_
      refine r_icmp (tgt := 37) (pc' := 31) D162_28 rfl rfl (by unfold inR; omega) (fun (c9 : what < 4) => ?_) (fun (c9 : ¬ (what < 4)) => ?_)
      · refine s_blx (lv' := [(0, vR 77), (1, vI what), (2, vI value)]) (st' := [vI 100]) B162_37_39 rfl ?_
        refine r_goto (tgt := 45) D162_39 rfl ?_
        refine s_blx (lv' := [(3, vI 100), (0, vR 77), (1, vI what), (2, vI value)]) (st' := [vI 100, vI 0, vI value]) B162_45_49 rfl ?_
        refine r_sIp (args := [vI value, vI 0, vI 100]) (rest := []) (pc' := 52) D162_49 rfl ck_11_static_123 TE147 rfl (Nat.le_of_ble_eq_true rfl) ⟨Nat.le_of_ble_eq_true rfl, Nat.le_of_ble_eq_true rfl⟩ (by decide) (dp_0 hd rfl) (k147 E (dp_n hd rfl) H value 0 100 (by omega) (by omega) (by omega)) ?_
        intro v10 q15
        obtain ⟨q12, q13, q14⟩ := q15
        refine r_ifc (tgt := 61) (pc' := 55) D162_52 rfl rfl (by unfold inR; omega) (fun (c16 : v10 ≠ 0) => ?_) (fun (c16 : ¬ (v10 ≠ 0)) => ?_)
        · refine s_blx (lv' := [(3, vI 100), (0, vR 77), (1, vI what), (2, vI value)]) (st' := [vI what, vR 77]) B162_61_63 rfl ?_
          refine r_vIp (c := 77) (args := [vI what]) (rest := []) (pc' := 66) D162_63 rfl ck_11_virtual_141 TE153 rfl (Nat.le_of_ble_eq_true rfl) ⟨Nat.le_of_ble_eq_true rfl, Nat.le_of_ble_eq_true rfl⟩ sc_77 ⟨rfl, by decide⟩ H.1 (dp_0 hd rfl) (k153n E (dp_n hd rfl) H what (by omega)) ?_
          intro v17 q21
          obtain ⟨q19, q20⟩ := q21
          refine s_blx (lv' := [(4, vI v17), (3, vI 100), (0, vR 77), (1, vI what), (2, vI value)]) (st' := [vR 77]) B162_66_69 rfl ?_
          refine r_gfix (r := 78) (pc' := 72) D162_69 rfl gf_11_13_77 H.1 ?_
          refine s_blx (lv' := [(4, vI v17), (3, vI 100), (0, vR 77), (1, vI what), (2, vI value)]) (st' := [vI value, vI (90 + what), vR 78]) B162_72_77 rfl ?_
          refine r_iast (pc' := 78) D162_77 rfl sc_78 H (by omega) (by unfold inR; omega) (by show s_in (rgK _) _; rw [rk_term (by omega)]; show 0 ≤ value ∧ value ≤ 1000; omega) ?_
          intro M22 u23 H24 p25
          have f26 := f0.wr u23 rfl
          have hp27 := h0.w u23 (by omega) H
          have hp28 := h1.w u23 (by omega) H
          have ku0 := u23
          refine s_blx (lv' := [(4, vI v17), (3, vI 100), (0, vR 77), (1, vI what), (2, vI value)]) (st' := [vI v17, vR 77]) B162_78_81 rfl ?_
          refine r_vI (c := 77) (args := [vI v17]) (rest := []) (pc' := 84) D162_81 rfl ck_11_virtual_131 TE149 rfl (Nat.le_of_ble_eq_true rfl) ⟨Nat.le_of_ble_eq_true rfl, Nat.le_of_ble_eq_true rfl⟩ sc_77 ⟨rfl, by decide⟩ H24.1 (dp_0 hd rfl) (k149 E (dp_n hd rfl) H24 v17 (by omega)) ?_
          intro v29 M30 q34
          obtain ⟨H31, f32, q33⟩ := q34
          have f35 := f26.tr (f32.up rfl)
          have hp36 := hp27.fr f32 (by decide)
          have hp37 := hp28.fr f32 (by decide)
          have kfa := f32
          exact r_iretI D162_84 rfl (⟨H31, f35, hp36, hp37, Or.inl ⟨by unfold TV; omega, by omega, ⟨_, (kuw ku0 (by omega)), kfa⟩⟩⟩)
        · refine s_blx (lv' := [(3, vI 100), (0, vR 77), (1, vI what), (2, vI value)]) (st' := [vI (-1), vR 77]) B162_55_57 rfl ?_
          refine r_vI (c := 77) (args := [vI (-1)]) (rest := []) (pc' := 60) D162_57 rfl ck_11_virtual_127 TE148 rfl (Nat.le_of_ble_eq_true rfl) ⟨Nat.le_of_ble_eq_true rfl, Nat.le_of_ble_eq_true rfl⟩ sc_77 ⟨rfl, by decide⟩ H.1 (dp_0 hd rfl) (k148 E (dp_n hd rfl) H (-1) (by omega)) ?_
          intro v38 M39 q43
          obtain ⟨H40, f41, q42⟩ := q43
          have f44 := f0.tr (f41.up rfl)
          have hp45 := h0.fr f41 (by decide)
          have hp46 := h1.fr f41 (by decide)
          have kfr := f41
          exact r_iretI D162_60 rfl (⟨H40, f44, hp45, hp46, Or.inr ⟨fun h => by unfold TV at h; omega, by omega, kfr⟩⟩)
      · refine s_blx (lv' := [(0, vR 77), (1, vI what), (2, vI value)]) (st' := [vI 7, vI what]) B162_31_34 rfl ?_
        refine r_icmp (tgt := 42) (pc' := 37) D162_34 rfl rfl (by unfold inR; omega) (fun (c47 : what ≠ 7) => ?_) (fun (c47 : ¬ (what ≠ 7)) => ?_)
        · refine s_blx (lv' := [(3, vI 1000), (0, vR 77), (1, vI what), (2, vI value)]) (st' := [vI 1000, vI 0, vI value]) B162_42_49 rfl ?_
          refine r_sIp (args := [vI value, vI 0, vI 1000]) (rest := []) (pc' := 52) D162_49 rfl ck_11_static_123 TE147 rfl (Nat.le_of_ble_eq_true rfl) ⟨Nat.le_of_ble_eq_true rfl, Nat.le_of_ble_eq_true rfl⟩ (by decide) (dp_0 hd rfl) (k147 E (dp_n hd rfl) H value 0 1000 (by omega) (by omega) (by omega)) ?_
          intro v48 q53
          obtain ⟨q50, q51, q52⟩ := q53
          refine r_ifc (tgt := 61) (pc' := 55) D162_52 rfl rfl (by unfold inR; omega) (fun (c54 : v48 ≠ 0) => ?_) (fun (c54 : ¬ (v48 ≠ 0)) => ?_)
          · refine s_blx (lv' := [(3, vI 1000), (0, vR 77), (1, vI what), (2, vI value)]) (st' := [vI what, vR 77]) B162_61_63 rfl ?_
            refine r_vIp (c := 77) (args := [vI what]) (rest := []) (pc' := 66) D162_63 rfl ck_11_virtual_141 TE153 rfl (Nat.le_of_ble_eq_true rfl) ⟨Nat.le_of_ble_eq_true rfl, Nat.le_of_ble_eq_true rfl⟩ sc_77 ⟨rfl, by decide⟩ H.1 (dp_0 hd rfl) (k153n E (dp_n hd rfl) H what (by omega)) ?_
            intro v55 q59
            obtain ⟨q57, q58⟩ := q59
            refine s_blx (lv' := [(4, vI v55), (3, vI 1000), (0, vR 77), (1, vI what), (2, vI value)]) (st' := [vR 77]) B162_66_69 rfl ?_
            refine r_gfix (r := 78) (pc' := 72) D162_69 rfl gf_11_13_77 H.1 ?_
            refine s_blx (lv' := [(4, vI v55), (3, vI 1000), (0, vR 77), (1, vI what), (2, vI value)]) (st' := [vI value, vI (90 + what), vR 78]) B162_72_77 rfl ?_
            refine r_iast (pc' := 78) D162_77 rfl sc_78 H (by omega) (by unfold inR; omega) (by show s_in (rgK _) _; rw [rk_term (by omega)]; show 0 ≤ value ∧ value ≤ 1000; omega) ?_
            intro M60 u61 H62 p63
            have f64 := f0.wr u61 rfl
            have hp65 := h0.w u61 (by omega) H
            have hp66 := h1.w u61 (by omega) H
            have ku0 := u61
            refine s_blx (lv' := [(4, vI v55), (3, vI 1000), (0, vR 77), (1, vI what), (2, vI value)]) (st' := [vI v55, vR 77]) B162_78_81 rfl ?_
            refine r_vI (c := 77) (args := [vI v55]) (rest := []) (pc' := 84) D162_81 rfl ck_11_virtual_131 TE149 rfl (Nat.le_of_ble_eq_true rfl) ⟨Nat.le_of_ble_eq_true rfl, Nat.le_of_ble_eq_true rfl⟩ sc_77 ⟨rfl, by decide⟩ H62.1 (dp_0 hd rfl) (k149 E (dp_n hd rfl) H62 v55 (by omega)) ?_
            intro v67 M68 q72
            obtain ⟨H69, f70, q71⟩ := q72
            have f73 := f64.tr (f70.up rfl)
            have hp74 := hp65.fr f70 (by decide)
            have hp75 := hp66.fr f70 (by decide)
            have kfa := f70
            exact r_iretI D162_84 rfl (⟨H69, f73, hp74, hp75, Or.inl ⟨by unfold TV; omega, by omega, ⟨_, (kuw ku0 (by omega)), kfa⟩⟩⟩)
          · refine s_blx (lv' := [(3, vI 1000), (0, vR 77), (1, vI what), (2, vI value)]) (st' := [vI (-1), vR 77]) B162_55_57 rfl ?_
            refine r_vI (c := 77) (args := [vI (-1)]) (rest := []) (pc' := 60) D162_57 rfl ck_11_virtual_127 TE148 rfl (Nat.le_of_ble_eq_true rfl) ⟨Nat.le_of_ble_eq_true rfl, Nat.le_of_ble_eq_true rfl⟩ sc_77 ⟨rfl, by decide⟩ H.1 (dp_0 hd rfl) (k148 E (dp_n hd rfl) H (-1) (by omega)) ?_
            intro v76 M77 q81
            obtain ⟨H78, f79, q80⟩ := q81
            have f82 := f0.tr (f79.up rfl)
            have hp83 := h0.fr f79 (by decide)
            have hp84 := h1.fr f79 (by decide)
            have kfr := f79
            exact r_iretI D162_60 rfl (⟨H78, f82, hp83, hp84, Or.inr ⟨fun h => by unfold TV at h; omega, by omega, kfr⟩⟩)
        · refine s_blx (lv' := [(0, vR 77), (1, vI what), (2, vI value)]) (st' := [vI 100]) B162_37_39 rfl ?_
          refine r_goto (tgt := 45) D162_39 rfl ?_
          refine s_blx (lv' := [(3, vI 100), (0, vR 77), (1, vI what), (2, vI value)]) (st' := [vI 100, vI 0, vI value]) B162_45_49 rfl ?_
          refine r_sIp (args := [vI value, vI 0, vI 100]) (rest := []) (pc' := 52) D162_49 rfl ck_11_static_123 TE147 rfl (Nat.le_of_ble_eq_true rfl) ⟨Nat.le_of_ble_eq_true rfl, Nat.le_of_ble_eq_true rfl⟩ (by decide) (dp_0 hd rfl) (k147 E (dp_n hd rfl) H value 0 100 (by omega) (by omega) (by omega)) ?_
          intro v85 q90
          obtain ⟨q87, q88, q89⟩ := q90
          refine r_ifc (tgt := 61) (pc' := 55) D162_52 rfl rfl (by unfold inR; omega) (fun (c91 : v85 ≠ 0) => ?_) (fun (c91 : ¬ (v85 ≠ 0)) => ?_)
          · refine s_blx (lv' := [(3, vI 100), (0, vR 77), (1, vI what), (2, vI value)]) (st' := [vI what, vR 77]) B162_61_63 rfl ?_
            refine r_vIp (c := 77) (args := [vI what]) (rest := []) (pc' := 66) D162_63 rfl ck_11_virtual_141 TE153 rfl (Nat.le_of_ble_eq_true rfl) ⟨Nat.le_of_ble_eq_true rfl, Nat.le_of_ble_eq_true rfl⟩ sc_77 ⟨rfl, by decide⟩ H.1 (dp_0 hd rfl) (k153n E (dp_n hd rfl) H what (by omega)) ?_
            intro v92 q96
            obtain ⟨q94, q95⟩ := q96
            refine s_blx (lv' := [(4, vI v92), (3, vI 100), (0, vR 77), (1, vI what), (2, vI value)]) (st' := [vR 77]) B162_66_69 rfl ?_
            refine r_gfix (r := 78) (pc' := 72) D162_69 rfl gf_11_13_77 H.1 ?_
            refine s_blx (lv' := [(4, vI v92), (3, vI 100), (0, vR 77), (1, vI what), (2, vI value)]) (st' := [vI value, vI (90 + what), vR 78]) B162_72_77 rfl ?_
            refine r_iast (pc' := 78) D162_77 rfl sc_78 H (by omega) (by unfold inR; omega) (by show s_in (rgK _) _; rw [rk_term (by omega)]; show 0 ≤ value ∧ value ≤ 1000; omega) ?_
            intro M97 u98 H99 p100
            have f101 := f0.wr u98 rfl
            have hp102 := h0.w u98 (by omega) H
            have hp103 := h1.w u98 (by omega) H
            have ku0 := u98
            refine s_blx (lv' := [(4, vI v92), (3, vI 100), (0, vR 77), (1, vI what), (2, vI value)]) (st' := [vI v92, vR 77]) B162_78_81 rfl ?_
            refine r_vI (c := 77) (args := [vI v92]) (rest := []) (pc' := 84) D162_81 rfl ck_11_virtual_131 TE149 rfl (Nat.le_of_ble_eq_true rfl) ⟨Nat.le_of_ble_eq_true rfl, Nat.le_of_ble_eq_true rfl⟩ sc_77 ⟨rfl, by decide⟩ H99.1 (dp_0 hd rfl) (k149 E (dp_n hd rfl) H99 v92 (by omega)) ?_
            intro v104 M105 q109
            obtain ⟨H106, f107, q108⟩ := q109
            have f110 := f101.tr (f107.up rfl)
            have hp111 := hp102.fr f107 (by decide)
            have hp112 := hp103.fr f107 (by decide)
            have kfa := f107
            exact r_iretI D162_84 rfl (⟨H106, f110, hp111, hp112, Or.inl ⟨by unfold TV; omega, by omega, ⟨_, (kuw ku0 (by omega)), kfa⟩⟩⟩)
          · refine s_blx (lv' := [(3, vI 100), (0, vR 77), (1, vI what), (2, vI value)]) (st' := [vI (-1), vR 77]) B162_55_57 rfl ?_
            refine r_vI (c := 77) (args := [vI (-1)]) (rest := []) (pc' := 60) D162_57 rfl ck_11_virtual_127 TE148 rfl (Nat.le_of_ble_eq_true rfl) ⟨Nat.le_of_ble_eq_true rfl, Nat.le_of_ble_eq_true rfl⟩ sc_77 ⟨rfl, by decide⟩ H.1 (dp_0 hd rfl) (k148 E (dp_n hd rfl) H (-1) (by omega)) ?_
            intro v113 M114 q118
            obtain ⟨H115, f116, q117⟩ := q118
            have f119 := f0.tr (f116.up rfl)
            have hp120 := h0.fr f116 (by decide)
            have hp121 := h1.fr f116 (by decide)
            have kfr := f116
            exact r_iretI D162_60 rfl (⟨H115, f119, hp120, hp121, Or.inr ⟨fun h => by unfold TV at h; omega, by omega, kfr⟩⟩)
    · refine s_blx (lv' := [(0, vR 77), (1, vI what), (2, vI value)]) (st' := [vI 60]) B162_21_23 rfl ?_
      refine r_goto (tgt := 45) D162_23 rfl ?_
      refine s_blx (lv' := [(3, vI 60), (0, vR 77), (1, vI what), (2, vI value)]) (st' := [vI 60, vI 0, vI value]) B162_45_49 rfl ?_
      refine r_sIp (args := [vI value, vI 0, vI 60]) (rest := []) (pc' := 52) D162_49 rfl ck_11_static_123 TE147 rfl (Nat.le_of_ble_eq_true rfl) ⟨Nat.le_of_ble_eq_true rfl, Nat.le_of_ble_eq_true rfl⟩ (by decide) (dp_0 hd rfl) (k147 E (dp_n hd rfl) H value 0 60 (by omega) (by omega) (by omega)) ?_
      intro v122 q127
      obtain ⟨q124, q125, q126⟩ := q127
      refine r_ifc (tgt := 61) (pc' := 55) D162_52 rfl rfl (by unfold inR; omega) (fun (c128 : v122 ≠ 0) => ?_) (fun (c128 : ¬ (v122 ≠ 0)) => ?_)
      · refine s_blx (lv' := [(3, vI 60), (0, vR 77), (1, vI what), (2, vI value)]) (st' := [vI what, vR 77]) B162_61_63 rfl ?_
        refine r_vIp (c := 77) (args := [vI what]) (rest := []) (pc' := 66) D162_63 rfl ck_11_virtual_141 TE153 rfl (Nat.le_of_ble_eq_true rfl) ⟨Nat.le_of_ble_eq_true rfl, Nat.le_of_ble_eq_true rfl⟩ sc_77 ⟨rfl, by decide⟩ H.1 (dp_0 hd rfl) (k153n E (dp_n hd rfl) H what (by omega)) ?_
        intro v129 q133
        obtain ⟨q131, q132⟩ := q133
        refine s_blx (lv' := [(4, vI v129), (3, vI 60), (0, vR 77), (1, vI what), (2, vI value)]) (st' := [vR 77]) B162_66_69 rfl ?_
        refine r_gfix (r := 78) (pc' := 72) D162_69 rfl gf_11_13_77 H.1 ?_
        refine s_blx (lv' := [(4, vI v129), (3, vI 60), (0, vR 77), (1, vI what), (2, vI value)]) (st' := [vI value, vI (90 + what), vR 78]) B162_72_77 rfl ?_
        refine r_iast (pc' := 78) D162_77 rfl sc_78 H (by omega) (by unfold inR; omega) (by show s_in (rgK _) _; rw [rk_term (by omega)]; show 0 ≤ value ∧ value ≤ 1000; omega) ?_
        intro M134 u135 H136 p137
        have f138 := f0.wr u135 rfl
        have hp139 := h0.w u135 (by omega) H
        have hp140 := h1.w u135 (by omega) H
        have ku0 := u135
        refine s_blx (lv' := [(4, vI v129), (3, vI 60), (0, vR 77), (1, vI what), (2, vI value)]) (st' := [vI v129, vR 77]) B162_78_81 rfl ?_
        refine r_vI (c := 77) (args := [vI v129]) (rest := []) (pc' := 84) D162_81 rfl ck_11_virtual_131 TE149 rfl (Nat.le_of_ble_eq_true rfl) ⟨Nat.le_of_ble_eq_true rfl, Nat.le_of_ble_eq_true rfl⟩ sc_77 ⟨rfl, by decide⟩ H136.1 (dp_0 hd rfl) (k149 E (dp_n hd rfl) H136 v129 (by omega)) ?_
        intro v141 M142 q146
        obtain ⟨H143, f144, q145⟩ := q146
        have f147 := f138.tr (f144.up rfl)
        have hp148 := hp139.fr f144 (by decide)
        have hp149 := hp140.fr f144 (by decide)
        have kfa := f144
        exact r_iretI D162_84 rfl (⟨H143, f147, hp148, hp149, Or.inl ⟨by unfold TV; omega, by omega, ⟨_, (kuw ku0 (by omega)), kfa⟩⟩⟩)
      · refine s_blx (lv' := [(3, vI 60), (0, vR 77), (1, vI what), (2, vI value)]) (st' := [vI (-1), vR 77]) B162_55_57 rfl ?_
        refine r_vI (c := 77) (args := [vI (-1)]) (rest := []) (pc' := 60) D162_57 rfl ck_11_virtual_127 TE148 rfl (Nat.le_of_ble_eq_true rfl) ⟨Nat.le_of_ble_eq_true rfl, Nat.le_of_ble_eq_true rfl⟩ sc_77 ⟨rfl, by decide⟩ H.1 (dp_0 hd rfl) (k148 E (dp_n hd rfl) H (-1) (by omega)) ?_
        intro v150 M151 q155
        obtain ⟨H152, f153, q154⟩ := q155
        have f156 := f0.tr (f153.up rfl)
        have hp157 := h0.fr f153 (by decide)
        have hp158 := h1.fr f153 (by decide)
        have kfr := f153
        exact r_iretI D162_60 rfl (⟨H152, f156, hp157, hp158, Or.inr ⟨fun h => by unfold TV at h; omega, by omega, kfr⟩⟩)
  · refine s_blx (lv' := [(0, vR 77), (1, vI what), (2, vI value)]) (st' := [vI (-1), vR 77]) B162_10_12 rfl ?_
    refine r_vI (c := 77) (args := [vI (-1)]) (rest := []) (pc' := 15) D162_12 rfl ck_11_virtual_127 TE148 rfl (Nat.le_of_ble_eq_true rfl) ⟨Nat.le_of_ble_eq_true rfl, Nat.le_of_ble_eq_true rfl⟩ sc_77 ⟨rfl, by decide⟩ H.1 (dp_0 hd rfl) (k148 E (dp_n hd rfl) H (-1) (by omega)) ?_
    intro v159 M160 q164
    obtain ⟨H161, f162, q163⟩ := q164
    have f165 := f0.tr (f162.up rfl)
    have hp166 := h0.fr f162 (by decide)
    have hp167 := h1.fr f162 (by decide)
    have kfr := f162
    exact r_iretI D162_15 rfl (⟨H161, f165, hp166, hp167, Or.inr ⟨fun h => by unfold TV at h; omega, by omega, kfr⟩⟩)
set_option maxRecDepth 4000 in
theorem k256n {base : Nat} {X : Nat → Option mC} {G : Nat → Value} (E : EnvOK base X G) {d : Nat} (hd : 1 ≤ d) {M : mH} (H : HI base M) (minute : Int) (cost : Int) (h0 : LN M) (h1 : GK M) (h2 : -2147483648 ≤ minute ∧ minute ≤ 2147483647) (h3 : -2147483648 ≤ cost ∧ cost ≤ 2147483647) : sOk base X G d T256 [vR 77, vI minute, vI cost] M (pI (fun v M' => HI base M' ∧ Fr [(77, 1), (78, 0)] M M' ∧ (LN M') ∧ (GK M') ∧ ((MV minute cost ∧ v = gi M 78 (409 + minute) ∧ ∃ M1, Wr M 78 (409 + minute).toNat (.int (Int32.ofInt cost)) M1 ∧ Fr [(77, 1)] M1 M') ∨ (¬ MV minute cost ∧ (v = -1) ∧ Fr [(77, 1)] M M')))) := by
  have f0 : Fr [(77, 1), (78, 0)] M M := Fr.rf
  refine sOk.of (show sRn base X G d T256 0 [(0, vR 77), (1, vI minute), (2, vI cost)] [] M _ from ?_)
  refine s_blx (lv' := [(0, vR 77), (1, vI minute), (2, vI cost)]) (st' := [vI 59, vI 0, vI minute]) B256_0_4 rfl ?_
  refine r_sIp (args := [vI minute, vI 0, vI 59]) (rest := []) (pc' := 7) D256_4 rfl ck_11_static_123 TE147 rfl (Nat.le_of_ble_eq_true rfl) ⟨Nat.le_of_ble_eq_true rfl, Nat.le_of_ble_eq_true rfl⟩ (by decide) (dp_0 hd rfl) (k147 E (dp_n hd rfl) H minute 0 59 (by omega) (by omega) (by omega)) ?_
  intro v1 q6
  obtain ⟨q3, q4, q5⟩ := q6
  refine r_ifc (tgt := 21) (pc' := 10) D256_7 rfl rfl (by unfold inR; omega) (fun (c7 : v1 = 0) => ?_) (fun (c7 : ¬ (v1 = 0)) => ?_)
  · refine s_blx (lv' := [(0, vR 77), (1, vI minute), (2, vI cost)]) (st' := [vI (-1), vR 77]) B256_21_23 rfl ?_
    refine r_vI (c := 77) (args := [vI (-1)]) (rest := []) (pc' := 26) D256_23 rfl ck_11_virtual_127 TE148 rfl (Nat.le_of_ble_eq_true rfl) ⟨Nat.le_of_ble_eq_true rfl, Nat.le_of_ble_eq_true rfl⟩ sc_77 ⟨rfl, by decide⟩ H.1 (dp_0 hd rfl) (k148 E (dp_n hd rfl) H (-1) (by omega)) ?_
    intro v8 M9 q13
    obtain ⟨H10, f11, q12⟩ := q13
    have f14 := f0.tr (f11.up rfl)
    have hp15 := h0.fr f11 (by decide)
    have hp16 := h1.fr f11 (by decide)
    have kfr := f11
    exact r_iretI D256_26 rfl (⟨H10, f14, hp15, hp16, Or.inr ⟨fun h => by unfold MV at h; omega, by omega, kfr⟩⟩)
  · refine s_blx (lv' := [(0, vR 77), (1, vI minute), (2, vI cost)]) (st' := [vI 1000, vI 0, vI cost]) B256_10_15 rfl ?_
    refine r_sIp (args := [vI cost, vI 0, vI 1000]) (rest := []) (pc' := 18) D256_15 rfl ck_11_static_123 TE147 rfl (Nat.le_of_ble_eq_true rfl) ⟨Nat.le_of_ble_eq_true rfl, Nat.le_of_ble_eq_true rfl⟩ (by decide) (dp_0 hd rfl) (k147 E (dp_n hd rfl) H cost 0 1000 (by omega) (by omega) (by omega)) ?_
    intro v17 q22
    obtain ⟨q19, q20, q21⟩ := q22
    refine r_ifc (tgt := 27) (pc' := 21) D256_18 rfl rfl (by unfold inR; omega) (fun (c23 : v17 ≠ 0) => ?_) (fun (c23 : ¬ (v17 ≠ 0)) => ?_)
    · refine s_blx (lv' := [(0, vR 77), (1, vI minute), (2, vI cost)]) (st' := [vR 77]) B256_27_28 rfl ?_
      refine r_gfix (r := 78) (pc' := 31) D256_28 rfl gf_11_13_77 H.1 ?_
      refine s_blx (lv' := [(0, vR 77), (1, vI minute), (2, vI cost)]) (st' := [vI (409 + minute), vR 78]) B256_31_36 rfl ?_
      refine r_iald (pc' := 37) D256_36 rfl sc_78 H.1 (by omega) ?_
      intro w24 e25 r26
      have b_w24 := H.2 78 (409 + minute) 0 1000 (rk_tired (by omega))
      rw [← e25] at b_w24; clear r26
      have kgv : w24 = gi M 78 (409 + minute) := by first | (rw [e25]; congr 1; omega) | rw [e25]
      refine s_blx (lv' := [(3, vI w24), (0, vR 77), (1, vI minute), (2, vI cost)]) (st' := [vR 77]) B256_37_39 rfl ?_
      refine r_gfix (r := 78) (pc' := 42) D256_39 rfl gf_11_13_77 H.1 ?_
      refine s_blx (lv' := [(3, vI w24), (0, vR 77), (1, vI minute), (2, vI cost)]) (st' := [vI cost, vI (409 + minute), vR 78]) B256_42_48 rfl ?_
      refine r_iast (pc' := 49) D256_48 rfl sc_78 H (by omega) (by unfold inR; omega) (by show s_in (rgK _) _; rw [rk_tired (by omega)]; show 0 ≤ cost ∧ cost ≤ 1000; omega) ?_
      intro M27 u28 H29 p30
      have f31 := f0.wr u28 rfl
      have hp32 := h0.w u28 (by omega) H
      have hp33 := h1.w u28 (by omega) H
      have ku0 := u28
      refine s_blx (lv' := [(3, vI w24), (0, vR 77), (1, vI minute), (2, vI cost)]) (st' := [vI w24, vR 77]) B256_49_51 rfl ?_
      refine r_vI (c := 77) (args := [vI w24]) (rest := []) (pc' := 54) D256_51 rfl ck_11_virtual_131 TE149 rfl (Nat.le_of_ble_eq_true rfl) ⟨Nat.le_of_ble_eq_true rfl, Nat.le_of_ble_eq_true rfl⟩ sc_77 ⟨rfl, by decide⟩ H29.1 (dp_0 hd rfl) (k149 E (dp_n hd rfl) H29 w24 (by omega)) ?_
      intro v34 M35 q39
      obtain ⟨H36, f37, q38⟩ := q39
      have f40 := f31.tr (f37.up rfl)
      have hp41 := hp32.fr f37 (by decide)
      have hp42 := hp33.fr f37 (by decide)
      have kfa := f37
      exact r_iretI D256_54 rfl (⟨H36, f40, hp41, hp42, Or.inl ⟨by unfold MV; omega, by omega, ⟨_, (kuw ku0 (by omega)), kfa⟩⟩⟩)
    · refine s_blx (lv' := [(0, vR 77), (1, vI minute), (2, vI cost)]) (st' := [vI (-1), vR 77]) B256_21_23 rfl ?_
      refine r_vI (c := 77) (args := [vI (-1)]) (rest := []) (pc' := 26) D256_23 rfl ck_11_virtual_127 TE148 rfl (Nat.le_of_ble_eq_true rfl) ⟨Nat.le_of_ble_eq_true rfl, Nat.le_of_ble_eq_true rfl⟩ sc_77 ⟨rfl, by decide⟩ H.1 (dp_0 hd rfl) (k148 E (dp_n hd rfl) H (-1) (by omega)) ?_
      intro v43 M44 q48
      obtain ⟨H45, f46, q47⟩ := q48
      have f49 := f0.tr (f46.up rfl)
      have hp50 := h0.fr f46 (by decide)
      have hp51 := h1.fr f46 (by decide)
      have kfr := f46
      exact r_iretI D256_26 rfl (⟨H45, f49, hp50, hp51, Or.inr ⟨fun h => by unfold MV at h; omega, by omega, kfr⟩⟩)
set_option maxRecDepth 4000 in
theorem k163n {base : Nat} {X : Nat → Option mC} {G : Nat → Value} (E : EnvOK base X G) {d : Nat} (hd : 1 ≤ d) {M : mH} (H : HI base M) (order : Int) (h0 : LN M) (h1 : GK M) (h2 : -2147483648 ≤ order ∧ order ≤ 2147483647) : sOk base X G d T163 [vR 77, vI order] M (pI (fun v M' => HI base M' ∧ Fr [(77, 1), (78, 0)] M M' ∧ (LN M') ∧ (GK M') ∧ ((OV order ∧ v = gi M 78 ((473 : Int)) ∧ ∃ M1, Wr M 78 ((473 : Int)).toNat (.int (Int32.ofInt order)) M1 ∧ Fr [(77, 1)] M1 M') ∨ (¬ OV order ∧ (v = -1) ∧ Fr [(77, 1)] M M')))) := by
  have f0 : Fr [(77, 1), (78, 0)] M M := Fr.rf
  refine sOk.of (show sRn base X G d T163 0 [(0, vR 77), (1, vI order)] [] M _ from ?_)
  refine s_blx (lv' := [(0, vR 77), (1, vI order)]) (st' := [vI 5, vI 0, vI order]) B163_0_3 rfl ?_
  refine r_sIp (args := [vI order, vI 0, vI 5]) (rest := []) (pc' := 6) D163_3 rfl ck_11_static_123 TE147 rfl (Nat.le_of_ble_eq_true rfl) ⟨Nat.le_of_ble_eq_true rfl, Nat.le_of_ble_eq_true rfl⟩ (by decide) (dp_0 hd rfl) (k147 E (dp_n hd rfl) H order 0 5 (by omega) (by omega) (by omega)) ?_
  intro v1 q6
  obtain ⟨q3, q4, q5⟩ := q6
  refine r_ifc (tgt := 15) (pc' := 9) D163_6 rfl rfl (by unfold inR; omega) (fun (c7 : v1 ≠ 0) => ?_) (fun (c7 : ¬ (v1 ≠ 0)) => ?_)
  · refine s_blx (lv' := [(0, vR 77), (1, vI order)]) (st' := [vR 77]) B163_15_16 rfl ?_
    refine r_gfix (r := 78) (pc' := 19) D163_16 rfl gf_11_13_77 H.1 ?_
    refine s_blx (lv' := [(0, vR 77), (1, vI order)]) (st' := [vI 473, vR 78]) B163_19_22 rfl ?_
    refine r_iald (pc' := 23) D163_22 rfl sc_78 H.1 (by omega) ?_
    intro w8 e9 r10
    have b_w8 := H.2 78 (473) 0 5 (rk_order (by omega))
    rw [← e9] at b_w8; clear r10
    have kgv : w8 = gi M 78 ((473 : Int)) := by first | (rw [e9]; congr 1; omega) | rw [e9]
    refine s_blx (lv' := [(2, vI w8), (0, vR 77), (1, vI order)]) (st' := [vR 77]) B163_23_25 rfl ?_
    refine r_gfix (r := 78) (pc' := 28) D163_25 rfl gf_11_13_77 H.1 ?_
    refine s_blx (lv' := [(2, vI w8), (0, vR 77), (1, vI order)]) (st' := [vI order, vI 473, vR 78]) B163_28_32 rfl ?_
    refine r_iast (pc' := 33) D163_32 rfl sc_78 H (by omega) (by unfold inR; omega) (by show s_in (rgK _) _; rw [rk_order (by omega)]; show 0 ≤ order ∧ order ≤ 5; omega) ?_
    intro M11 u12 H13 p14
    have f15 := f0.wr u12 rfl
    have hp16 := h0.w u12 (by omega) H
    have hp17 := h1.w u12 (by omega) H
    have ku0 := u12
    refine s_blx (lv' := [(2, vI w8), (0, vR 77), (1, vI order)]) (st' := [vI w8, vR 77]) B163_33_35 rfl ?_
    refine r_vI (c := 77) (args := [vI w8]) (rest := []) (pc' := 38) D163_35 rfl ck_11_virtual_131 TE149 rfl (Nat.le_of_ble_eq_true rfl) ⟨Nat.le_of_ble_eq_true rfl, Nat.le_of_ble_eq_true rfl⟩ sc_77 ⟨rfl, by decide⟩ H13.1 (dp_0 hd rfl) (k149 E (dp_n hd rfl) H13 w8 (by omega)) ?_
    intro v18 M19 q23
    obtain ⟨H20, f21, q22⟩ := q23
    have f24 := f15.tr (f21.up rfl)
    have hp25 := hp16.fr f21 (by decide)
    have hp26 := hp17.fr f21 (by decide)
    have kfa := f21
    exact r_iretI D163_38 rfl (⟨H20, f24, hp25, hp26, Or.inl ⟨by unfold OV; omega, by omega, ⟨_, (kuw ku0 (by omega)), kfa⟩⟩⟩)
  · refine s_blx (lv' := [(0, vR 77), (1, vI order)]) (st' := [vI (-1), vR 77]) B163_9_11 rfl ?_
    refine r_vI (c := 77) (args := [vI (-1)]) (rest := []) (pc' := 14) D163_11 rfl ck_11_virtual_127 TE148 rfl (Nat.le_of_ble_eq_true rfl) ⟨Nat.le_of_ble_eq_true rfl, Nat.le_of_ble_eq_true rfl⟩ sc_77 ⟨rfl, by decide⟩ H.1 (dp_0 hd rfl) (k148 E (dp_n hd rfl) H (-1) (by omega)) ?_
    intro v27 M28 q32
    obtain ⟨H29, f30, q31⟩ := q32
    have f33 := f0.tr (f30.up rfl)
    have hp34 := h0.fr f30 (by decide)
    have hp35 := h1.fr f30 (by decide)
    have kfr := f30
    exact r_iretI D163_14 rfl (⟨H29, f33, hp34, hp35, Or.inr ⟨fun h => by unfold OV at h; omega, by omega, kfr⟩⟩)
set_option maxRecDepth 4000 in
theorem k165n {base : Nat} {X : Nat → Option mC} {G : Nat → Value} (E : EnvOK base X G) {d : Nat} (hd : 1 ≤ d) {M : mH} (H : HI base M) (speaker : Int) (h0 : LN M) (h1 : GK M) (h2 : -2147483648 ≤ speaker ∧ speaker ≤ 2147483647) : sOk base X G d T165 [vR 77, vI speaker] M (pI (fun v M' => HI base M' ∧ Fr [(77, 1), (78, 0)] M M' ∧ (LN M') ∧ (GK M') ∧ ((PV speaker ∧ v = gi M 78 ((474 : Int)) ∧ ∃ M1, Wr M 78 ((474 : Int)).toNat (.int (Int32.ofInt speaker)) M1 ∧ Fr [(77, 1)] M1 M') ∨ (¬ PV speaker ∧ (v = -1) ∧ Fr [(77, 1)] M M')))) := by
  have f0 : Fr [(77, 1), (78, 0)] M M := Fr.rf
  refine sOk.of (show sRn base X G d T165 0 [(0, vR 77), (1, vI speaker)] [] M _ from ?_)
  refine s_blx (lv' := [(0, vR 77), (1, vI speaker)]) (st' := [vI 3, vI 0, vI speaker]) B165_0_3 rfl ?_
  refine r_sIp (args := [vI speaker, vI 0, vI 3]) (rest := []) (pc' := 6) D165_3 rfl ck_11_static_123 TE147 rfl (Nat.le_of_ble_eq_true rfl) ⟨Nat.le_of_ble_eq_true rfl, Nat.le_of_ble_eq_true rfl⟩ (by decide) (dp_0 hd rfl) (k147 E (dp_n hd rfl) H speaker 0 3 (by omega) (by omega) (by omega)) ?_
  intro v1 q6
  obtain ⟨q3, q4, q5⟩ := q6
  refine r_ifc (tgt := 15) (pc' := 9) D165_6 rfl rfl (by unfold inR; omega) (fun (c7 : v1 ≠ 0) => ?_) (fun (c7 : ¬ (v1 ≠ 0)) => ?_)
  · refine s_blx (lv' := [(0, vR 77), (1, vI speaker)]) (st' := [vR 77]) B165_15_16 rfl ?_
    refine r_gfix (r := 78) (pc' := 19) D165_16 rfl gf_11_13_77 H.1 ?_
    refine s_blx (lv' := [(0, vR 77), (1, vI speaker)]) (st' := [vI 474, vR 78]) B165_19_22 rfl ?_
    refine r_iald (pc' := 23) D165_22 rfl sc_78 H.1 (by omega) ?_
    intro w8 e9 r10
    have b_w8 := H.2 78 (474) 0 3 (rk_who (by omega))
    rw [← e9] at b_w8; clear r10
    have kgv : w8 = gi M 78 ((474 : Int)) := by first | (rw [e9]; congr 1; omega) | rw [e9]
    refine s_blx (lv' := [(2, vI w8), (0, vR 77), (1, vI speaker)]) (st' := [vR 77]) B165_23_25 rfl ?_
    refine r_gfix (r := 78) (pc' := 28) D165_25 rfl gf_11_13_77 H.1 ?_
    refine s_blx (lv' := [(2, vI w8), (0, vR 77), (1, vI speaker)]) (st' := [vI speaker, vI 474, vR 78]) B165_28_32 rfl ?_
    refine r_iast (pc' := 33) D165_32 rfl sc_78 H (by omega) (by unfold inR; omega) (by show s_in (rgK _) _; rw [rk_who (by omega)]; show 0 ≤ speaker ∧ speaker ≤ 3; omega) ?_
    intro M11 u12 H13 p14
    have f15 := f0.wr u12 rfl
    have hp16 := h0.w u12 (by omega) H
    have hp17 := h1.w u12 (by omega) H
    have ku0 := u12
    refine s_blx (lv' := [(2, vI w8), (0, vR 77), (1, vI speaker)]) (st' := [vI w8, vR 77]) B165_33_35 rfl ?_
    refine r_vI (c := 77) (args := [vI w8]) (rest := []) (pc' := 38) D165_35 rfl ck_11_virtual_131 TE149 rfl (Nat.le_of_ble_eq_true rfl) ⟨Nat.le_of_ble_eq_true rfl, Nat.le_of_ble_eq_true rfl⟩ sc_77 ⟨rfl, by decide⟩ H13.1 (dp_0 hd rfl) (k149 E (dp_n hd rfl) H13 w8 (by omega)) ?_
    intro v18 M19 q23
    obtain ⟨H20, f21, q22⟩ := q23
    have f24 := f15.tr (f21.up rfl)
    have hp25 := hp16.fr f21 (by decide)
    have hp26 := hp17.fr f21 (by decide)
    have kfa := f21
    exact r_iretI D165_38 rfl (⟨H20, f24, hp25, hp26, Or.inl ⟨by unfold PV; omega, by omega, ⟨_, (kuw ku0 (by omega)), kfa⟩⟩⟩)
  · refine s_blx (lv' := [(0, vR 77), (1, vI speaker)]) (st' := [vI (-1), vR 77]) B165_9_11 rfl ?_
    refine r_vI (c := 77) (args := [vI (-1)]) (rest := []) (pc' := 14) D165_11 rfl ck_11_virtual_127 TE148 rfl (Nat.le_of_ble_eq_true rfl) ⟨Nat.le_of_ble_eq_true rfl, Nat.le_of_ble_eq_true rfl⟩ sc_77 ⟨rfl, by decide⟩ H.1 (dp_0 hd rfl) (k148 E (dp_n hd rfl) H (-1) (by omega)) ?_
    intro v27 M28 q32
    obtain ⟨H29, f30, q31⟩ := q32
    have f33 := f0.tr (f30.up rfl)
    have hp34 := h0.fr f30 (by decide)
    have hp35 := h1.fr f30 (by decide)
    have kfr := f30
    exact r_iretI D165_14 rfl (⟨H29, f33, hp34, hp35, Or.inr ⟨fun h => by unfold PV at h; omega, by omega, kfr⟩⟩)
set_option maxRecDepth 4000 in
set_option maxHeartbeats 4000000 in
theorem k154n {base : Nat} {X : Nat → Option mC} {G : Nat → Value} (E : EnvOK base X G) {d : Nat} (hd : 1 ≤ d) {M : mH} (H : HI base M) (s : Int) (K : Int → Int) (h0 : KK K M) (h1 : -2147483648 ≤ s ∧ s ≤ 2147483647) : sOk base X G d T154 [vR 77, vI s] M (pI (fun v M' => M' = M ∧ (v = 0 ∨ v = 1) ∧ (v = 1 → 0 ≤ s ∧ s < K 469 ∧ s ≤ 15) ∧ (v = 0 → s < 0 ∨ K 469 ≤ s))) := by
  refine sOk.of (show sRn base X G d T154 0 [(0, vR 77), (1, vI s)] [] M _ from ?_)
  refine s_blx (lv' := [(0, vR 77), (1, vI s)]) (st' := [vR 77, vI 0, vI s]) B154_0_3 rfl ?_
  refine r_gfix (r := 78) (pc' := 6) D154_3 rfl gf_11_13_77 H.1 ?_
  refine s_blx (lv' := [(0, vR 77), (1, vI s)]) (st' := [vI 469, vR 78, vI 0, vI s]) B154_6_9 rfl ?_
  refine r_iald (pc' := 10) D154_9 rfl sc_78 H.1 (by omega) ?_
  intro w1 e2 r3
  have kk_w1 := (h0) (469)
  have b_w1 := H.2 78 (469) 0 16 (rk_many (by omega))
  rw [← e2] at b_w1; clear r3
  refine s_blx (lv' := [(0, vR 77), (1, vI s)]) (st' := [vI (w1 - 1), vI 0, vI s]) B154_10_12 rfl ?_
  refine r_sIp (args := [vI s, vI 0, vI (w1 - 1)]) (rest := []) (pc' := 15) D154_12 rfl ck_11_static_123 TE147 rfl (Nat.le_of_ble_eq_true rfl) ⟨Nat.le_of_ble_eq_true rfl, Nat.le_of_ble_eq_true rfl⟩ (by decide) (dp_0 hd rfl) (k147 E (dp_n hd rfl) H s 0 (w1 - 1) (by omega) (by omega) (by omega)) ?_
  intro v4 q9
  obtain ⟨q6, q7, q8⟩ := q9
  exact r_zretI D154_15 rfl (by omega) (⟨rfl, by omega, by omega, by omega⟩)
set_option maxRecDepth 4000 in
theorem k168n {base : Nat} {X : Nat → Option mC} {G : Nat → Value} (E : EnvOK base X G) {d : Nat} (hd : 2 ≤ d) {M : mH} (H : HI base M) (s : Int) (speaker : Int) (weight : Int) (h0 : LN M) (h1 : GK M) (h2 : -2147483648 ≤ s ∧ s ≤ 2147483647) (h3 : -2147483648 ≤ speaker ∧ speaker ≤ 2147483647) (h4 : -2147483648 ≤ weight ∧ weight ≤ 2147483647) : sOk base X G d T168 [vR 77, vI s, vI speaker, vI weight] M (pI (fun v M' => HI base M' ∧ Fr [(77, 1), (78, 0)] M M' ∧ (LN M') ∧ (GK M') ∧ ((GV (gi M 78 469) s speaker weight ∧ v = gi M 78 (147 + 16 * s + speaker) ∧ ∃ M1, Wr M 78 (147 + 16 * s + speaker).toNat (.int (Int32.ofInt weight)) M1 ∧ Fr [(77, 1)] M1 M') ∨ (¬ GV (gi M 78 469) s speaker weight ∧ (v = -1 ∨ v = -2) ∧ Fr [(77, 1)] M M')))) := by
  have f0 : Fr [(77, 1), (78, 0)] M M := Fr.rf
  refine sOk.of (show sRn base X G d T168 0 [(0, vR 77), (1, vI s), (2, vI speaker), (3, vI weight)] [] M _ from ?_)
  refine s_blx (lv' := [(0, vR 77), (1, vI s), (2, vI speaker), (3, vI weight)]) (st' := [vI 3, vI 0, vI speaker]) B168_0_3 rfl ?_
  refine r_sIp (args := [vI speaker, vI 0, vI 3]) (rest := []) (pc' := 6) D168_3 rfl ck_11_static_123 TE147 rfl (Nat.le_of_ble_eq_true rfl) ⟨Nat.le_of_ble_eq_true rfl, Nat.le_of_ble_eq_true rfl⟩ (by decide) (dp_0 hd rfl) (k147 E (dp_n hd rfl) H speaker 0 3 (by omega) (by omega) (by omega)) ?_
  intro v1 q6
  obtain ⟨q3, q4, q5⟩ := q6
  refine r_ifc (tgt := 19) (pc' := 9) D168_6 rfl rfl (by unfold inR; omega) (fun (c7 : v1 = 0) => ?_) (fun (c7 : ¬ (v1 = 0)) => ?_)
  · refine s_blx (lv' := [(0, vR 77), (1, vI s), (2, vI speaker), (3, vI weight)]) (st' := [vI (-1), vR 77]) B168_19_21 rfl ?_
    refine r_vI (c := 77) (args := [vI (-1)]) (rest := []) (pc' := 24) D168_21 rfl ck_11_virtual_127 TE148 rfl (Nat.le_of_ble_eq_true rfl) ⟨Nat.le_of_ble_eq_true rfl, Nat.le_of_ble_eq_true rfl⟩ sc_77 ⟨rfl, by decide⟩ H.1 (dp_0 hd rfl) (k148 E (dp_n hd rfl) H (-1) (by omega)) ?_
    intro v8 M9 q13
    obtain ⟨H10, f11, q12⟩ := q13
    have f14 := f0.tr (f11.up rfl)
    have hp15 := h0.fr f11 (by decide)
    have hp16 := h1.fr f11 (by decide)
    have kfr := f11
    exact r_iretI D168_24 rfl (⟨H10, f14, hp15, hp16, Or.inr ⟨fun h => by unfold GV at h; omega, by omega, kfr⟩⟩)
  · refine s_blx (lv' := [(0, vR 77), (1, vI s), (2, vI speaker), (3, vI weight)]) (st' := [vI 100, vI 0, vI weight]) B168_9_13 rfl ?_
    refine r_sIp (args := [vI weight, vI 0, vI 100]) (rest := []) (pc' := 16) D168_13 rfl ck_11_static_123 TE147 rfl (Nat.le_of_ble_eq_true rfl) ⟨Nat.le_of_ble_eq_true rfl, Nat.le_of_ble_eq_true rfl⟩ (by decide) (dp_0 hd rfl) (k147 E (dp_n hd rfl) H weight 0 100 (by omega) (by omega) (by omega)) ?_
    intro v17 q22
    obtain ⟨q19, q20, q21⟩ := q22
    refine r_ifc (tgt := 25) (pc' := 19) D168_16 rfl rfl (by unfold inR; omega) (fun (c23 : v17 ≠ 0) => ?_) (fun (c23 : ¬ (v17 ≠ 0)) => ?_)
    · refine s_blx (lv' := [(0, vR 77), (1, vI s), (2, vI speaker), (3, vI weight)]) (st' := [vI s, vR 77]) B168_25_27 rfl ?_
      refine r_vIp (c := 77) (args := [vI s]) (rest := []) (pc' := 30) D168_27 rfl ck_11_virtual_134 TE154 rfl (Nat.le_of_ble_eq_true rfl) ⟨Nat.le_of_ble_eq_true rfl, Nat.le_of_ble_eq_true rfl⟩ sc_77 ⟨rfl, by decide⟩ H.1 (dp_0 hd rfl) (k154n E (dp_n hd rfl) H s (gi M 78) ((fun _ => rfl)) (by omega)) ?_
      intro v24 q29
      obtain ⟨q26, q27, q28⟩ := q29
      refine r_ifc (tgt := 40) (pc' := 33) D168_30 rfl rfl (by unfold inR; omega) (fun (c30 : v24 ≠ 0) => ?_) (fun (c30 : ¬ (v24 ≠ 0)) => ?_)
      · refine s_blx (lv' := [(4, vI (((135 + (16 * s)) + 12) + speaker)), (0, vR 77), (1, vI s), (2, vI speaker), (3, vI weight)]) (st' := [vR 77]) B168_40_56 rfl ?_
        refine r_gfix (r := 78) (pc' := 59) D168_56 rfl gf_11_13_77 H.1 ?_
        refine s_blx (lv' := [(4, vI (((135 + (16 * s)) + 12) + speaker)), (0, vR 77), (1, vI s), (2, vI speaker), (3, vI weight)]) (st' := [vI (((135 + (16 * s)) + 12) + speaker), vR 78]) B168_59_61 rfl ?_
        refine r_iald (pc' := 62) D168_61 rfl sc_78 H.1 (by omega) ?_
        intro w31 e32 r33
        have b_w31 := H.2 78 (((135 + (16 * s)) + 12) + speaker) 0 100 (rk_wgt (by omega))
        rw [← e32] at b_w31; clear r33
        have kgv : w31 = gi M 78 (147 + 16 * s + speaker) := by first | (rw [e32]; congr 1; omega) | rw [e32]
        refine s_blx (lv' := [(5, vI w31), (4, vI (((135 + (16 * s)) + 12) + speaker)), (0, vR 77), (1, vI s), (2, vI speaker), (3, vI weight)]) (st' := [vR 77]) B168_62_65 rfl ?_
        refine r_gfix (r := 78) (pc' := 68) D168_65 rfl gf_11_13_77 H.1 ?_
        refine s_blx (lv' := [(5, vI w31), (4, vI (((135 + (16 * s)) + 12) + speaker)), (0, vR 77), (1, vI s), (2, vI speaker), (3, vI weight)]) (st' := [vI weight, vI (((135 + (16 * s)) + 12) + speaker), vR 78]) B168_68_71 rfl ?_
        refine r_iast (pc' := 72) D168_71 rfl sc_78 H (by omega) (by unfold inR; omega) (by show s_in (rgK _) _; rw [rk_wgt (by omega)]; show 0 ≤ weight ∧ weight ≤ 100; omega) ?_
        intro M34 u35 H36 p37
        have f38 := f0.wr u35 rfl
        have hp39 := h0.w u35 (by omega) H
        have hp40 := h1.w u35 (by omega) H
        have ku0 := u35
        refine s_blx (lv' := [(5, vI w31), (4, vI (((135 + (16 * s)) + 12) + speaker)), (0, vR 77), (1, vI s), (2, vI speaker), (3, vI weight)]) (st' := [vI w31, vR 77]) B168_72_75 rfl ?_
        refine r_vI (c := 77) (args := [vI w31]) (rest := []) (pc' := 78) D168_75 rfl ck_11_virtual_131 TE149 rfl (Nat.le_of_ble_eq_true rfl) ⟨Nat.le_of_ble_eq_true rfl, Nat.le_of_ble_eq_true rfl⟩ sc_77 ⟨rfl, by decide⟩ H36.1 (dp_0 hd rfl) (k149 E (dp_n hd rfl) H36 w31 (by omega)) ?_
        intro v41 M42 q46
        obtain ⟨H43, f44, q45⟩ := q46
        have f47 := f38.tr (f44.up rfl)
        have hp48 := hp39.fr f44 (by decide)
        have hp49 := hp40.fr f44 (by decide)
        have kfa := f44
        exact r_iretI D168_78 rfl (⟨H43, f47, hp48, hp49, Or.inl ⟨by unfold GV; omega, by omega, ⟨_, (kuw ku0 (by omega)), kfa⟩⟩⟩)
      · refine s_blx (lv' := [(0, vR 77), (1, vI s), (2, vI speaker), (3, vI weight)]) (st' := [vI (-2), vR 77]) B168_33_36 rfl ?_
        refine r_vI (c := 77) (args := [vI (-2)]) (rest := []) (pc' := 39) D168_36 rfl ck_11_virtual_127 TE148 rfl (Nat.le_of_ble_eq_true rfl) ⟨Nat.le_of_ble_eq_true rfl, Nat.le_of_ble_eq_true rfl⟩ sc_77 ⟨rfl, by decide⟩ H.1 (dp_0 hd rfl) (k148 E (dp_n hd rfl) H (-2) (by omega)) ?_
        intro v50 M51 q55
        obtain ⟨H52, f53, q54⟩ := q55
        have f56 := f0.tr (f53.up rfl)
        have hp57 := h0.fr f53 (by decide)
        have hp58 := h1.fr f53 (by decide)
        have kfr := f53
        exact r_iretI D168_39 rfl (⟨H52, f56, hp57, hp58, Or.inr ⟨fun h => by unfold GV at h; omega, by omega, kfr⟩⟩)
    · refine s_blx (lv' := [(0, vR 77), (1, vI s), (2, vI speaker), (3, vI weight)]) (st' := [vI (-1), vR 77]) B168_19_21 rfl ?_
      refine r_vI (c := 77) (args := [vI (-1)]) (rest := []) (pc' := 24) D168_21 rfl ck_11_virtual_127 TE148 rfl (Nat.le_of_ble_eq_true rfl) ⟨Nat.le_of_ble_eq_true rfl, Nat.le_of_ble_eq_true rfl⟩ sc_77 ⟨rfl, by decide⟩ H.1 (dp_0 hd rfl) (k148 E (dp_n hd rfl) H (-1) (by omega)) ?_
      intro v59 M60 q64
      obtain ⟨H61, f62, q63⟩ := q64
      have f65 := f0.tr (f62.up rfl)
      have hp66 := h0.fr f62 (by decide)
      have hp67 := h1.fr f62 (by decide)
      have kfr := f62
      exact r_iretI D168_24 rfl (⟨H61, f65, hp66, hp67, Or.inr ⟨fun h => by unfold GV at h; omega, by omega, kfr⟩⟩)
set_option maxRecDepth 4000 in
theorem k251n {base : Nat} {X : Nat → Option mC} {G : Nat → Value} (E : EnvOK base X G) {d : Nat} (hd : 1 ≤ d) {M : mH} (H : HI base M) (lag : Int) (keeps0 : Int) (limit : Int) (h0 : LN M) (h1 : GK M) (h2 : -2147483648 ≤ lag ∧ lag ≤ 2147483647) (h3 : -2147483648 ≤ keeps0 ∧ keeps0 ≤ 2147483647) (h4 : -2147483648 ≤ limit ∧ limit ≤ 2147483647) : sOk base X G d T251 [vR 77, vI lag, vI keeps0, vI limit] M (pI (fun v M' => HI base M' ∧ Fr [(77, 1), (78, 0)] M M' ∧ (LN M') ∧ (GK M') ∧ ((BV lag keeps0 limit ∧ gi M 78 472 ≤ 5 ∧ v = gi M 78 472 ∧ ∃ M1, W4 78 (391 + 3 * gi M 78 472) 78 472 lag keeps0 limit (gi M 78 472 + 1) M M1 ∧ Fr [(77, 1)] M1 M') ∨ (BV lag keeps0 limit ∧ 6 ≤ gi M 78 472 ∧ v = -5 ∧ Fr [(77, 1)] M M') ∨ (¬ BV lag keeps0 limit ∧ v = -1 ∧ Fr [(77, 1)] M M')))) := by
  have f0 : Fr [(77, 1), (78, 0)] M M := Fr.rf
  refine sOk.of (show sRn base X G d T251 0 [(0, vR 77), (1, vI lag), (2, vI keeps0), (3, vI limit)] [] M _ from ?_)
  refine s_blx (lv' := [(0, vR 77), (1, vI lag), (2, vI keeps0), (3, vI limit)]) (st' := [vI 60, vI 0, vI lag]) B251_0_4 rfl ?_
  refine r_sIp (args := [vI lag, vI 0, vI 60]) (rest := []) (pc' := 7) D251_4 rfl ck_11_static_123 TE147 rfl (Nat.le_of_ble_eq_true rfl) ⟨Nat.le_of_ble_eq_true rfl, Nat.le_of_ble_eq_true rfl⟩ (by decide) (dp_0 hd rfl) (k147 E (dp_n hd rfl) H lag 0 60 (by omega) (by omega) (by omega)) ?_
  intro v1 q6
  obtain ⟨q3, q4, q5⟩ := q6
  refine r_ifc (tgt := 31) (pc' := 10) D251_7 rfl rfl (by unfold inR; omega) (fun (c7 : v1 = 0) => ?_) (fun (c7 : ¬ (v1 = 0)) => ?_)
  · refine s_blx (lv' := [(0, vR 77), (1, vI lag), (2, vI keeps0), (3, vI limit)]) (st' := [vI (-1), vR 77]) B251_31_33 rfl ?_
    refine r_vI (c := 77) (args := [vI (-1)]) (rest := []) (pc' := 36) D251_33 rfl ck_11_virtual_127 TE148 rfl (Nat.le_of_ble_eq_true rfl) ⟨Nat.le_of_ble_eq_true rfl, Nat.le_of_ble_eq_true rfl⟩ sc_77 ⟨rfl, by decide⟩ H.1 (dp_0 hd rfl) (k148 E (dp_n hd rfl) H (-1) (by omega)) ?_
    intro v8 M9 q13
    obtain ⟨H10, f11, q12⟩ := q13
    have f14 := f0.tr (f11.up rfl)
    have hp15 := h0.fr f11 (by decide)
    have hp16 := h1.fr f11 (by decide)
    have kfr := f11
    exact r_iretI D251_36 rfl (⟨H10, f14, hp15, hp16, Or.inr (Or.inr ⟨fun h => by unfold BV at h; omega, by omega, kfr⟩)⟩)
  · refine s_blx (lv' := [(0, vR 77), (1, vI lag), (2, vI keeps0), (3, vI limit)]) (st' := [vI 100, vI 0, vI keeps0]) B251_10_14 rfl ?_
    refine r_sIp (args := [vI keeps0, vI 0, vI 100]) (rest := []) (pc' := 17) D251_14 rfl ck_11_static_123 TE147 rfl (Nat.le_of_ble_eq_true rfl) ⟨Nat.le_of_ble_eq_true rfl, Nat.le_of_ble_eq_true rfl⟩ (by decide) (dp_0 hd rfl) (k147 E (dp_n hd rfl) H keeps0 0 100 (by omega) (by omega) (by omega)) ?_
    intro v17 q22
    obtain ⟨q19, q20, q21⟩ := q22
    refine r_ifc (tgt := 31) (pc' := 20) D251_17 rfl rfl (by unfold inR; omega) (fun (c23 : v17 = 0) => ?_) (fun (c23 : ¬ (v17 = 0)) => ?_)
    · refine s_blx (lv' := [(0, vR 77), (1, vI lag), (2, vI keeps0), (3, vI limit)]) (st' := [vI (-1), vR 77]) B251_31_33 rfl ?_
      refine r_vI (c := 77) (args := [vI (-1)]) (rest := []) (pc' := 36) D251_33 rfl ck_11_virtual_127 TE148 rfl (Nat.le_of_ble_eq_true rfl) ⟨Nat.le_of_ble_eq_true rfl, Nat.le_of_ble_eq_true rfl⟩ sc_77 ⟨rfl, by decide⟩ H.1 (dp_0 hd rfl) (k148 E (dp_n hd rfl) H (-1) (by omega)) ?_
      intro v24 M25 q29
      obtain ⟨H26, f27, q28⟩ := q29
      have f30 := f0.tr (f27.up rfl)
      have hp31 := h0.fr f27 (by decide)
      have hp32 := h1.fr f27 (by decide)
      have kfr := f27
      exact r_iretI D251_36 rfl (⟨H26, f30, hp31, hp32, Or.inr (Or.inr ⟨fun h => by unfold BV at h; omega, by omega, kfr⟩)⟩)
    · refine s_blx (lv' := [(0, vR 77), (1, vI lag), (2, vI keeps0), (3, vI limit)]) (st' := [vI 300, vI 0, vI limit]) B251_20_25 rfl ?_
      refine r_sIp (args := [vI limit, vI 0, vI 300]) (rest := []) (pc' := 28) D251_25 rfl ck_11_static_123 TE147 rfl (Nat.le_of_ble_eq_true rfl) ⟨Nat.le_of_ble_eq_true rfl, Nat.le_of_ble_eq_true rfl⟩ (by decide) (dp_0 hd rfl) (k147 E (dp_n hd rfl) H limit 0 300 (by omega) (by omega) (by omega)) ?_
      intro v33 q38
      obtain ⟨q35, q36, q37⟩ := q38
      refine r_ifc (tgt := 37) (pc' := 31) D251_28 rfl rfl (by unfold inR; omega) (fun (c39 : v33 ≠ 0) => ?_) (fun (c39 : ¬ (v33 ≠ 0)) => ?_)
      · refine s_blx (lv' := [(0, vR 77), (1, vI lag), (2, vI keeps0), (3, vI limit)]) (st' := [vR 77]) B251_37_38 rfl ?_
        refine r_gfix (r := 78) (pc' := 41) D251_38 rfl gf_11_13_77 H.1 ?_
        refine s_blx (lv' := [(0, vR 77), (1, vI lag), (2, vI keeps0), (3, vI limit)]) (st' := [vI 472, vR 78]) B251_41_44 rfl ?_
        refine r_iald (pc' := 45) D251_44 rfl sc_78 H.1 (by omega) ?_
        intro w40 e41 r42
        have b_w40 := H.2 78 (472) 0 6 (rk_boxmany (by omega))
        rw [← e41] at b_w40; clear r42
        have ke := e41
        refine s_blx (lv' := [(4, vI w40), (0, vR 77), (1, vI lag), (2, vI keeps0), (3, vI limit)]) (st' := [vI 6, vI w40]) B251_45_51 rfl ?_
        refine r_icmp (tgt := 61) (pc' := 54) D251_51 rfl rfl (by unfold inR; omega) (fun (c43 : w40 ≠ 6) => ?_) (fun (c43 : ¬ (w40 ≠ 6)) => ?_)
        · refine s_blx (lv' := [(4, vI w40), (0, vR 77), (1, vI lag), (2, vI keeps0), (3, vI limit)]) (st' := [vR 77]) B251_61_62 rfl ?_
          refine r_gfix (r := 78) (pc' := 65) D251_62 rfl gf_11_13_77 H.1 ?_
          refine s_blx (lv' := [(4, vI w40), (0, vR 77), (1, vI lag), (2, vI keeps0), (3, vI limit)]) (st' := [vI lag, vI (391 + (3 * w40)), vR 78]) B251_65_74 rfl ?_
          refine r_iast (pc' := 75) D251_74 rfl sc_78 H (by omega) (by unfold inR; omega) (by show s_in (rgK _) _; rw [rk_box (by omega)]; show 0 ≤ lag ∧ lag ≤ 300; omega) ?_
          intro M44 u45 H46 p47
          have f48 := f0.wr u45 rfl
          have hp49 := h0.w u45 (by omega) H
          have hp50 := h1.w u45 (by omega) H
          have ku1 := u45
          refine s_blx (lv' := [(4, vI w40), (0, vR 77), (1, vI lag), (2, vI keeps0), (3, vI limit)]) (st' := [vR 77]) B251_75_76 rfl ?_
          refine r_gfix (r := 78) (pc' := 79) D251_76 rfl gf_11_13_77 H46.1 ?_
          refine s_blx (lv' := [(4, vI w40), (0, vR 77), (1, vI lag), (2, vI keeps0), (3, vI limit)]) (st' := [vI keeps0, vI ((391 + (3 * w40)) + 1), vR 78]) B251_79_90 rfl ?_
          refine r_iast (pc' := 91) D251_90 rfl sc_78 H46 (by omega) (by unfold inR; omega) (by show s_in (rgK _) _; rw [rk_box (by omega)]; show 0 ≤ keeps0 ∧ keeps0 ≤ 300; omega) ?_
          intro M51 u52 H53 p54
          have f55 := f48.wr u52 rfl
          have hp56 := hp49.w u52 (by omega) H46
          have hp57 := hp50.w u52 (by omega) H46
          have ku2 := u52
          refine s_blx (lv' := [(4, vI w40), (0, vR 77), (1, vI lag), (2, vI keeps0), (3, vI limit)]) (st' := [vR 77]) B251_91_92 rfl ?_
          refine r_gfix (r := 78) (pc' := 95) D251_92 rfl gf_11_13_77 H53.1 ?_
          refine s_blx (lv' := [(4, vI w40), (0, vR 77), (1, vI lag), (2, vI keeps0), (3, vI limit)]) (st' := [vI limit, vI ((391 + (3 * w40)) + 2), vR 78]) B251_95_106 rfl ?_
          refine r_iast (pc' := 107) D251_106 rfl sc_78 H53 (by omega) (by unfold inR; omega) (by show s_in (rgK _) _; rw [rk_box (by omega)]; show 0 ≤ limit ∧ limit ≤ 300; omega) ?_
          intro M58 u59 H60 p61
          have f62 := f55.wr u59 rfl
          have hp63 := hp56.w u59 (by omega) H53
          have hp64 := hp57.w u59 (by omega) H53
          have ku3 := u59
          refine s_blx (lv' := [(4, vI w40), (0, vR 77), (1, vI lag), (2, vI keeps0), (3, vI limit)]) (st' := [vR 77]) B251_107_108 rfl ?_
          refine r_gfix (r := 78) (pc' := 111) D251_108 rfl gf_11_13_77 H60.1 ?_
          refine s_blx (lv' := [(4, vI w40), (0, vR 77), (1, vI lag), (2, vI keeps0), (3, vI limit)]) (st' := [vI 472, vR 78, vI 472, vR 78]) B251_111_115 rfl ?_
          refine r_iald (pc' := 116) D251_115 rfl sc_78 H60.1 (by omega) ?_
          intro w65 e66 r67
          have e68 : w40 = w65 := (e66.trans ((u59.gi_ne (by omega) (Or.inr (by omega))).trans ((u52.gi_ne (by omega) (Or.inr (by omega))).trans ((u45.gi_ne (by omega) (Or.inr (by omega))).trans (e41.symm))))).symm
          subst e68
          refine s_blx (lv' := [(4, vI w40), (0, vR 77), (1, vI lag), (2, vI keeps0), (3, vI limit)]) (st' := [vI (w40 + 1), vI 472, vR 78]) B251_116_118 rfl ?_
          refine r_iast (pc' := 119) D251_118 rfl sc_78 H60 (by omega) (by unfold inR; omega) (by show s_in (rgK _) _; rw [rk_boxmany (by omega)]; show 0 ≤ (w40 + 1) ∧ (w40 + 1) ≤ 6; omega) ?_
          intro M69 u70 H71 p72
          have f73 := f62.wr u70 rfl
          have hp74 := hp63.w u70 (by omega) H60
          have hp75 := hp64.w u70 (by omega) H60
          have ku4 := u70
          refine s_blx (lv' := [(4, vI w40), (0, vR 77), (1, vI lag), (2, vI keeps0), (3, vI limit)]) (st' := [vI w40, vR 77]) B251_119_122 rfl ?_
          refine r_vI (c := 77) (args := [vI w40]) (rest := []) (pc' := 125) D251_122 rfl ck_11_virtual_131 TE149 rfl (Nat.le_of_ble_eq_true rfl) ⟨Nat.le_of_ble_eq_true rfl, Nat.le_of_ble_eq_true rfl⟩ sc_77 ⟨rfl, by decide⟩ H71.1 (dp_0 hd rfl) (k149 E (dp_n hd rfl) H71 w40 (by omega)) ?_
          intro v76 M77 q81
          obtain ⟨H78, f79, q80⟩ := q81
          have f82 := f73.tr (f79.up rfl)
          have hp83 := hp74.fr f79 (by decide)
          have hp84 := hp75.fr f79 (by decide)
          have kfa := f79
          exact r_iretI D251_125 rfl (⟨H78, f82, hp83, hp84, Or.inl ⟨by unfold BV; omega, by omega, by omega, ⟨_, ⟨_, _, _, kuv ku1 (by omega) rfl, kuv ku2 (by omega) rfl, kuv ku3 (by omega) rfl, kuv ku4 rfl (by omega)⟩, kfa⟩⟩⟩)
        · refine s_blx (lv' := [(4, vI w40), (0, vR 77), (1, vI lag), (2, vI keeps0), (3, vI limit)]) (st' := [vI (-5), vR 77]) B251_54_57 rfl ?_
          refine r_vI (c := 77) (args := [vI (-5)]) (rest := []) (pc' := 60) D251_57 rfl ck_11_virtual_127 TE148 rfl (Nat.le_of_ble_eq_true rfl) ⟨Nat.le_of_ble_eq_true rfl, Nat.le_of_ble_eq_true rfl⟩ sc_77 ⟨rfl, by decide⟩ H.1 (dp_0 hd rfl) (k148 E (dp_n hd rfl) H (-5) (by omega)) ?_
          intro v85 M86 q90
          obtain ⟨H87, f88, q89⟩ := q90
          have f91 := f0.tr (f88.up rfl)
          have hp92 := h0.fr f88 (by decide)
          have hp93 := h1.fr f88 (by decide)
          have kfr := f88
          exact r_iretI D251_60 rfl (⟨H87, f91, hp92, hp93, Or.inr (Or.inl ⟨by unfold BV; omega, by omega, by omega, kfr⟩)⟩)
      · refine s_blx (lv' := [(0, vR 77), (1, vI lag), (2, vI keeps0), (3, vI limit)]) (st' := [vI (-1), vR 77]) B251_31_33 rfl ?_
        refine r_vI (c := 77) (args := [vI (-1)]) (rest := []) (pc' := 36) D251_33 rfl ck_11_virtual_127 TE148 rfl (Nat.le_of_ble_eq_true rfl) ⟨Nat.le_of_ble_eq_true rfl, Nat.le_of_ble_eq_true rfl⟩ sc_77 ⟨rfl, by decide⟩ H.1 (dp_0 hd rfl) (k148 E (dp_n hd rfl) H (-1) (by omega)) ?_
        intro v94 M95 q99
        obtain ⟨H96, f97, q98⟩ := q99
        have f100 := f0.tr (f97.up rfl)
        have hp101 := h0.fr f97 (by decide)
        have hp102 := h1.fr f97 (by decide)
        have kfr := f97
        exact r_iretI D251_36 rfl (⟨H96, f100, hp101, hp102, Or.inr (Or.inr ⟨fun h => by unfold BV at h; omega, by omega, kfr⟩)⟩)
set_option maxRecDepth 4000 in
theorem k164n {base : Nat} {X : Nat → Option mC} {G : Nat → Value} (E : EnvOK base X G) {d : Nat} (hd : 1 ≤ d) {M : mH} (H : HI base M) (slot : Int) (values : Int) (length : Int) (h0 : LN M) (h1 : GK M) (h2 : -2147483648 ≤ slot ∧ slot ≤ 2147483647) (h3 : -2147483648 ≤ values ∧ values ≤ 2147483647) (h4 : -2147483648 ≤ length ∧ length ≤ 2147483647) : sOk base X G d T164 [vR 77, vI slot, vI values, vI length] M (pI (fun v M' => HI base M' ∧ Fr [(77, 1), (78, 0)] M M' ∧ (LN M') ∧ (GK M') ∧ ((NV slot values length ∧ gi M 78 470 ≤ 11 ∧ v = gi M 78 470 ∧ ∃ M1, W4 78 (99 + 3 * gi M 78 470) 78 470 slot values length (gi M 78 470 + 1) M M1 ∧ Fr [(77, 1)] M1 M') ∨ (NV slot values length ∧ 12 ≤ gi M 78 470 ∧ v = -5 ∧ Fr [(77, 1)] M M') ∨ (¬ NV slot values length ∧ v = -1 ∧ Fr [(77, 1)] M M')))) := by
  have f0 : Fr [(77, 1), (78, 0)] M M := Fr.rf
  refine sOk.of (show sRn base X G d T164 0 [(0, vR 77), (1, vI slot), (2, vI values), (3, vI length)] [] M _ from ?_)
  refine s_blx (lv' := [(0, vR 77), (1, vI slot), (2, vI values), (3, vI length)]) (st' := [vI 2, vI 0, vI slot]) B164_0_3 rfl ?_
  refine r_sIp (args := [vI slot, vI 0, vI 2]) (rest := []) (pc' := 6) D164_3 rfl ck_11_static_123 TE147 rfl (Nat.le_of_ble_eq_true rfl) ⟨Nat.le_of_ble_eq_true rfl, Nat.le_of_ble_eq_true rfl⟩ (by decide) (dp_0 hd rfl) (k147 E (dp_n hd rfl) H slot 0 2 (by omega) (by omega) (by omega)) ?_
  intro v1 q6
  obtain ⟨q3, q4, q5⟩ := q6
  refine r_ifc (tgt := 30) (pc' := 9) D164_6 rfl rfl (by unfold inR; omega) (fun (c7 : v1 = 0) => ?_) (fun (c7 : ¬ (v1 = 0)) => ?_)
  · refine s_blx (lv' := [(0, vR 77), (1, vI slot), (2, vI values), (3, vI length)]) (st' := [vI (-1), vR 77]) B164_30_32 rfl ?_
    refine r_vI (c := 77) (args := [vI (-1)]) (rest := []) (pc' := 35) D164_32 rfl ck_11_virtual_127 TE148 rfl (Nat.le_of_ble_eq_true rfl) ⟨Nat.le_of_ble_eq_true rfl, Nat.le_of_ble_eq_true rfl⟩ sc_77 ⟨rfl, by decide⟩ H.1 (dp_0 hd rfl) (k148 E (dp_n hd rfl) H (-1) (by omega)) ?_
    intro v8 M9 q13
    obtain ⟨H10, f11, q12⟩ := q13
    have f14 := f0.tr (f11.up rfl)
    have hp15 := h0.fr f11 (by decide)
    have hp16 := h1.fr f11 (by decide)
    have kfr := f11
    exact r_iretI D164_35 rfl (⟨H10, f14, hp15, hp16, Or.inr (Or.inr ⟨fun h => by unfold NV at h; omega, by omega, kfr⟩)⟩)
  · refine s_blx (lv' := [(0, vR 77), (1, vI slot), (2, vI values), (3, vI length)]) (st' := [vI 255, vI 1, vI values]) B164_9_14 rfl ?_
    refine r_sIp (args := [vI values, vI 1, vI 255]) (rest := []) (pc' := 17) D164_14 rfl ck_11_static_123 TE147 rfl (Nat.le_of_ble_eq_true rfl) ⟨Nat.le_of_ble_eq_true rfl, Nat.le_of_ble_eq_true rfl⟩ (by decide) (dp_0 hd rfl) (k147 E (dp_n hd rfl) H values 1 255 (by omega) (by omega) (by omega)) ?_
    intro v17 q22
    obtain ⟨q19, q20, q21⟩ := q22
    refine r_ifc (tgt := 30) (pc' := 20) D164_17 rfl rfl (by unfold inR; omega) (fun (c23 : v17 = 0) => ?_) (fun (c23 : ¬ (v17 = 0)) => ?_)
    · refine s_blx (lv' := [(0, vR 77), (1, vI slot), (2, vI values), (3, vI length)]) (st' := [vI (-1), vR 77]) B164_30_32 rfl ?_
      refine r_vI (c := 77) (args := [vI (-1)]) (rest := []) (pc' := 35) D164_32 rfl ck_11_virtual_127 TE148 rfl (Nat.le_of_ble_eq_true rfl) ⟨Nat.le_of_ble_eq_true rfl, Nat.le_of_ble_eq_true rfl⟩ sc_77 ⟨rfl, by decide⟩ H.1 (dp_0 hd rfl) (k148 E (dp_n hd rfl) H (-1) (by omega)) ?_
      intro v24 M25 q29
      obtain ⟨H26, f27, q28⟩ := q29
      have f30 := f0.tr (f27.up rfl)
      have hp31 := h0.fr f27 (by decide)
      have hp32 := h1.fr f27 (by decide)
      have kfr := f27
      exact r_iretI D164_35 rfl (⟨H26, f30, hp31, hp32, Or.inr (Or.inr ⟨fun h => by unfold NV at h; omega, by omega, kfr⟩)⟩)
    · refine s_blx (lv' := [(0, vR 77), (1, vI slot), (2, vI values), (3, vI length)]) (st' := [vI 9, vI 1, vI length]) B164_20_24 rfl ?_
      refine r_sIp (args := [vI length, vI 1, vI 9]) (rest := []) (pc' := 27) D164_24 rfl ck_11_static_123 TE147 rfl (Nat.le_of_ble_eq_true rfl) ⟨Nat.le_of_ble_eq_true rfl, Nat.le_of_ble_eq_true rfl⟩ (by decide) (dp_0 hd rfl) (k147 E (dp_n hd rfl) H length 1 9 (by omega) (by omega) (by omega)) ?_
      intro v33 q38
      obtain ⟨q35, q36, q37⟩ := q38
      refine r_ifc (tgt := 36) (pc' := 30) D164_27 rfl rfl (by unfold inR; omega) (fun (c39 : v33 ≠ 0) => ?_) (fun (c39 : ¬ (v33 ≠ 0)) => ?_)
      · refine s_blx (lv' := [(0, vR 77), (1, vI slot), (2, vI values), (3, vI length)]) (st' := [vR 77]) B164_36_37 rfl ?_
        refine r_gfix (r := 78) (pc' := 40) D164_37 rfl gf_11_13_77 H.1 ?_
        refine s_blx (lv' := [(0, vR 77), (1, vI slot), (2, vI values), (3, vI length)]) (st' := [vI 470, vR 78]) B164_40_43 rfl ?_
        refine r_iald (pc' := 44) D164_43 rfl sc_78 H.1 (by omega) ?_
        intro w40 e41 r42
        have b_w40 := H.2 78 (470) 0 12 (rk_openmany (by omega))
        rw [← e41] at b_w40; clear r42
        have ke := e41
        refine s_blx (lv' := [(4, vI w40), (0, vR 77), (1, vI slot), (2, vI values), (3, vI length)]) (st' := [vI 12, vI w40]) B164_44_50 rfl ?_
        refine r_icmp (tgt := 60) (pc' := 53) D164_50 rfl rfl (by unfold inR; omega) (fun (c43 : w40 ≠ 12) => ?_) (fun (c43 : ¬ (w40 ≠ 12)) => ?_)
        · refine s_blx (lv' := [(4, vI w40), (0, vR 77), (1, vI slot), (2, vI values), (3, vI length)]) (st' := [vR 77]) B164_60_61 rfl ?_
          refine r_gfix (r := 78) (pc' := 64) D164_61 rfl gf_11_13_77 H.1 ?_
          refine s_blx (lv' := [(4, vI w40), (0, vR 77), (1, vI slot), (2, vI values), (3, vI length)]) (st' := [vI slot, vI (99 + (3 * w40)), vR 78]) B164_64_72 rfl ?_
          refine r_iast (pc' := 73) D164_72 rfl sc_78 H (by omega) (by unfold inR; omega) (by show s_in (rgK _) _; rw [rk_opening (by omega)]; show 0 ≤ slot ∧ slot ≤ 255; omega) ?_
          intro M44 u45 H46 p47
          have f48 := f0.wr u45 rfl
          have hp49 := h0.w u45 (by omega) H
          have hp50 := h1.w u45 (by omega) H
          have ku1 := u45
          refine s_blx (lv' := [(4, vI w40), (0, vR 77), (1, vI slot), (2, vI values), (3, vI length)]) (st' := [vR 77]) B164_73_74 rfl ?_
          refine r_gfix (r := 78) (pc' := 77) D164_74 rfl gf_11_13_77 H46.1 ?_
          refine s_blx (lv' := [(4, vI w40), (0, vR 77), (1, vI slot), (2, vI values), (3, vI length)]) (st' := [vI values, vI ((99 + (3 * w40)) + 1), vR 78]) B164_77_87 rfl ?_
          refine r_iast (pc' := 88) D164_87 rfl sc_78 H46 (by omega) (by unfold inR; omega) (by show s_in (rgK _) _; rw [rk_opening (by omega)]; show 0 ≤ values ∧ values ≤ 255; omega) ?_
          intro M51 u52 H53 p54
          have f55 := f48.wr u52 rfl
          have hp56 := hp49.w u52 (by omega) H46
          have hp57 := hp50.w u52 (by omega) H46
          have ku2 := u52
          refine s_blx (lv' := [(4, vI w40), (0, vR 77), (1, vI slot), (2, vI values), (3, vI length)]) (st' := [vR 77]) B164_88_89 rfl ?_
          refine r_gfix (r := 78) (pc' := 92) D164_89 rfl gf_11_13_77 H53.1 ?_
          refine s_blx (lv' := [(4, vI w40), (0, vR 77), (1, vI slot), (2, vI values), (3, vI length)]) (st' := [vI length, vI ((99 + (3 * w40)) + 2), vR 78]) B164_92_102 rfl ?_
          refine r_iast (pc' := 103) D164_102 rfl sc_78 H53 (by omega) (by unfold inR; omega) (by show s_in (rgK _) _; rw [rk_opening (by omega)]; show 0 ≤ length ∧ length ≤ 255; omega) ?_
          intro M58 u59 H60 p61
          have f62 := f55.wr u59 rfl
          have hp63 := hp56.w u59 (by omega) H53
          have hp64 := hp57.w u59 (by omega) H53
          have ku3 := u59
          refine s_blx (lv' := [(4, vI w40), (0, vR 77), (1, vI slot), (2, vI values), (3, vI length)]) (st' := [vR 77]) B164_103_104 rfl ?_
          refine r_gfix (r := 78) (pc' := 107) D164_104 rfl gf_11_13_77 H60.1 ?_
          refine s_blx (lv' := [(4, vI w40), (0, vR 77), (1, vI slot), (2, vI values), (3, vI length)]) (st' := [vI 470, vR 78, vI 470, vR 78]) B164_107_111 rfl ?_
          refine r_iald (pc' := 112) D164_111 rfl sc_78 H60.1 (by omega) ?_
          intro w65 e66 r67
          have e68 : w40 = w65 := (e66.trans ((u59.gi_ne (by omega) (Or.inr (by omega))).trans ((u52.gi_ne (by omega) (Or.inr (by omega))).trans ((u45.gi_ne (by omega) (Or.inr (by omega))).trans (e41.symm))))).symm
          subst e68
          refine s_blx (lv' := [(4, vI w40), (0, vR 77), (1, vI slot), (2, vI values), (3, vI length)]) (st' := [vI (w40 + 1), vI 470, vR 78]) B164_112_114 rfl ?_
          refine r_iast (pc' := 115) D164_114 rfl sc_78 H60 (by omega) (by unfold inR; omega) (by show s_in (rgK _) _; rw [rk_openmany (by omega)]; show 0 ≤ (w40 + 1) ∧ (w40 + 1) ≤ 12; omega) ?_
          intro M69 u70 H71 p72
          have f73 := f62.wr u70 rfl
          have hp74 := hp63.w u70 (by omega) H60
          have hp75 := hp64.w u70 (by omega) H60
          have ku4 := u70
          refine s_blx (lv' := [(4, vI w40), (0, vR 77), (1, vI slot), (2, vI values), (3, vI length)]) (st' := [vI w40, vR 77]) B164_115_118 rfl ?_
          refine r_vI (c := 77) (args := [vI w40]) (rest := []) (pc' := 121) D164_118 rfl ck_11_virtual_131 TE149 rfl (Nat.le_of_ble_eq_true rfl) ⟨Nat.le_of_ble_eq_true rfl, Nat.le_of_ble_eq_true rfl⟩ sc_77 ⟨rfl, by decide⟩ H71.1 (dp_0 hd rfl) (k149 E (dp_n hd rfl) H71 w40 (by omega)) ?_
          intro v76 M77 q81
          obtain ⟨H78, f79, q80⟩ := q81
          have f82 := f73.tr (f79.up rfl)
          have hp83 := hp74.fr f79 (by decide)
          have hp84 := hp75.fr f79 (by decide)
          have kfa := f79
          exact r_iretI D164_121 rfl (⟨H78, f82, hp83, hp84, Or.inl ⟨by unfold NV; omega, by omega, by omega, ⟨_, ⟨_, _, _, kuv ku1 (by omega) rfl, kuv ku2 (by omega) rfl, kuv ku3 (by omega) rfl, kuv ku4 rfl (by omega)⟩, kfa⟩⟩⟩)
        · refine s_blx (lv' := [(4, vI w40), (0, vR 77), (1, vI slot), (2, vI values), (3, vI length)]) (st' := [vI (-5), vR 77]) B164_53_56 rfl ?_
          refine r_vI (c := 77) (args := [vI (-5)]) (rest := []) (pc' := 59) D164_56 rfl ck_11_virtual_127 TE148 rfl (Nat.le_of_ble_eq_true rfl) ⟨Nat.le_of_ble_eq_true rfl, Nat.le_of_ble_eq_true rfl⟩ sc_77 ⟨rfl, by decide⟩ H.1 (dp_0 hd rfl) (k148 E (dp_n hd rfl) H (-5) (by omega)) ?_
          intro v85 M86 q90
          obtain ⟨H87, f88, q89⟩ := q90
          have f91 := f0.tr (f88.up rfl)
          have hp92 := h0.fr f88 (by decide)
          have hp93 := h1.fr f88 (by decide)
          have kfr := f88
          exact r_iretI D164_59 rfl (⟨H87, f91, hp92, hp93, Or.inr (Or.inl ⟨by unfold NV; omega, by omega, by omega, kfr⟩)⟩)
      · refine s_blx (lv' := [(0, vR 77), (1, vI slot), (2, vI values), (3, vI length)]) (st' := [vI (-1), vR 77]) B164_30_32 rfl ?_
        refine r_vI (c := 77) (args := [vI (-1)]) (rest := []) (pc' := 35) D164_32 rfl ck_11_virtual_127 TE148 rfl (Nat.le_of_ble_eq_true rfl) ⟨Nat.le_of_ble_eq_true rfl, Nat.le_of_ble_eq_true rfl⟩ sc_77 ⟨rfl, by decide⟩ H.1 (dp_0 hd rfl) (k148 E (dp_n hd rfl) H (-1) (by omega)) ?_
        intro v94 M95 q99
        obtain ⟨H96, f97, q98⟩ := q99
        have f100 := f0.tr (f97.up rfl)
        have hp101 := h0.fr f97 (by decide)
        have hp102 := h1.fr f97 (by decide)
        have kfr := f97
        exact r_iretI D164_35 rfl (⟨H96, f100, hp101, hp102, Or.inr (Or.inr ⟨fun h => by unfold NV at h; omega, by omega, kfr⟩)⟩)
set_option maxRecDepth 4000 in
theorem L_k210n {base : Nat} {X : Nat → Option mC} {G : Nat → Value} (E : EnvOK base X G) {d : Nat} (hd : 0 ≤ d) {M : mH} (H : HI base M) (a : Int) (b : Int) (c : Int) (d_ : Int) (e : Int) (h0 : -2147483648 ≤ a ∧ a ≤ 2147483647) (h1 : -2147483648 ≤ b ∧ b ≤ 2147483647) (h2 : -2147483648 ≤ c ∧ c ≤ 2147483647) (h3 : -2147483648 ≤ d_ ∧ d_ ≤ 2147483647) (h4 : -2147483648 ≤ e ∧ e ≤ 2147483647) : ∀ mz : Nat, (∀ (x6 : Int) (N : mH), HI base N → Fr [(77, 32), (95, 0), (96, 0)] M N → (gi N 77 31 ≤ 380) → (gi N 77 31 = gi M 77 31) → (gi N 96 0 = a) → (gi N 96 1 = b) → (gi N 96 2 = c) → (gi N 96 3 = d_) → (gi N 96 4 = e) → (∀ i : Int, 0 ≤ i → gi N 95 i % 256 = fdN (fun q => gi M 95 q % 256) (gi M 77 31) a b c d_ e x6 i) → (0 ≤ x6) → (x6 ≤ 20) → (20 - x6) * 1 + 0 < (mz : Int) → sRn base X G d T210 55 [(0, vR 77), (6, vI x6)] [] N (s_Q base (pI (fun v M' => HI base M' ∧ Fr [(77, 32), (95, 0), (96, 0)] M M' ∧ (-2147483648 ≤ v ∧ v ≤ 2147483647) ∧ (gi M 77 31 ≤ 380 → v = gi M 77 31 + 20 ∧ gi M' 77 31 = gi M 77 31 + 20) ∧ (380 < gi M 77 31 → v = -1 ∧ gi M' 77 31 = gi M 77 31) ∧ (gi M 77 31 ≤ 380 → ∀ i : Int, 0 ≤ i → gi M' 95 i % 256 = fdN (fun q => gi M 95 q % 256) (gi M 77 31) a b c d_ e 20 i) ∧ (380 < gi M 77 31 → ∀ i : Int, gi M' 95 i = gi M 95 i))))) := by
  have f0 : Fr [(77, 32), (95, 0), (96, 0)] M M := Fr.rf
  intro mz
  induction mz with
  | zero => exact fun x6 N _ _ z0 z1 z2 z3 z4 z5 z6 z7 z8 z9 z10 => by omega
  | succ mz ih =>
    intro x6 N HN fN i0 i1 i2 i3 i4 i5 i6 i7 i8 i9 hmu
    refine s_blx (lv' := [(0, vR 77), (6, vI x6)]) (st' := [vI 20, vI x6]) B210_55_59 rfl ?_
    refine r_icmp (tgt := 101) (pc' := 62) D210_59 rfl rfl (by unfold inR; omega) (fun (c37 : 20 ≤ x6) => ?_) (fun (c37 : ¬ (20 ≤ x6)) => ?_)
    · refine s_blx (lv' := [(0, vR 77), (6, vI x6)]) (st' := [vR 77, vR 77]) B210_101_103 rfl ?_
      refine r_gint (ki := 31) (pc' := 106) D210_103 rfl gf_11_151_77 rfl HN.1 ?_
      intro w38 e39 r40
      have b_w38 := HN.2 77 (31) 0 400 rfl
      rw [← e39] at b_w38; clear r40
      refine s_blx (lv' := [(0, vR 77), (6, vI x6)]) (st' := [vI (w38 + 20), vR 77]) B210_106_109 rfl ?_
      refine r_pint (ki := 31) (pc' := 112) D210_109 rfl pf_11_151_77 rfl HN (by unfold inR; omega) (show 0 ≤ (w38 + 20) ∧ (w38 + 20) ≤ 400 by omega) ?_
      intro M41 u42 H43 p44
      have f45 := fN.wr u42 rfl
      have kz := u42
      refine s_blx (lv' := [(0, vR 77), (6, vI x6)]) (st' := [vR 77]) B210_112_113 rfl ?_
      refine r_gint (ki := 31) (pc' := 116) D210_113 rfl gf_11_151_77 rfl H43.1 ?_
      intro w46 e47 r48
      have e49 : w38 + 20 = w46 := (e47.trans (p44)).symm
      subst e49
      have g50 : gi M41 77 31 = w38 + 20 := p44
      exact r_iretI D210_116 rfl (⟨H43, f45, by omega, by omega, by omega, fun _ i hi => by rw [kz.gi_ne (by decide) (Or.inl (by decide)), i7 i hi, show x6 = 20 by omega], fun h => by exfalso; omega⟩)
    · refine s_blx (lv' := [(0, vR 77), (6, vI x6)]) (st' := [vR 77]) B210_62_63 rfl ?_
      refine r_gfix (r := 95) (pc' := 66) D210_63 rfl gf_11_69_77 HN.1 ?_
      refine s_blx (lv' := [(0, vR 77), (6, vI x6)]) (st' := [vR 77, vR 95]) B210_66_67 rfl ?_
      refine r_gint (ki := 31) (pc' := 70) D210_67 rfl gf_11_151_77 rfl HN.1 ?_
      intro w51 e52 r53
      have b_w51 := HN.2 77 (31) 0 400 rfl
      rw [← e52] at b_w51; clear r53
      refine s_blx (lv' := [(0, vR 77), (6, vI x6)]) (st' := [vR 77, vI (w51 + x6), vR 95]) B210_70_74 rfl ?_
      refine r_gfix (r := 96) (pc' := 77) D210_74 rfl gf_11_72_77 HN.1 ?_
      refine s_blx (lv' := [(0, vR 77), (6, vI x6)]) (st' := [vI 4, vI x6, vR 96, vI (w51 + x6), vR 95]) B210_77_80 rfl ?_
      refine r_idiv (pc' := 81) D210_80 rfl (by omega) ?_
      refine r_iald (pc' := 82) D210_81 rfl sc_96 HN.1 (by omega) ?_
      intro w54 e55 r56
      unfold inR at r56
      have kw : w54 = fvS a b c d_ e x6 := fv5 (f := gi N 96) i2 i3 i4 i5 i6 e55 (by omega)
      refine s_blx (lv' := [(0, vR 77), (6, vI x6)]) (st' := [vI 4, vI x6, vI 8, vI 24, vI w54, vI (w51 + x6), vR 95]) B210_82_89 rfl ?_
      refine r_irem (pc' := 90) D210_89 rfl (by omega) ?_
      refine s_blx (lv' := [(0, vR 77), (6, vI x6)]) (st' := [vI (24 - (8 * (x6 % 4))), vI w54, vI (w51 + x6), vR 95]) B210_90_92 rfl ?_
      refine r_bin (pc' := 93) D210_92 rfl rfl ?_
      intro z57 r58 kq; unfold inR at r58
      refine r_i2bE (pc' := 94) D210_93 rfl (by unfold inR; omega) ?_
      intro z59 r60 r61 kb
      refine r_byast (pc' := 95) D210_94 rfl sc_95 HN (by omega) (by omega) (show (-128) ≤ z59 ∧ z59 ≤ 127 by omega) ?_
      intro M62 u63 H64 p65
      have f66 := fN.wr u63 rfl
      have kA := fd_step i7 u63 p65 (by omega) (by omega) (by omega) (by rw [kb, sarB kq (by omega) (by unfold inR; omega) (by unfold inR; omega), kw]; congr 1; omega)
      refine s_blx (lv' := [(6, vI (x6 + 1)), (0, vR 77)]) (st' := []) B210_95_98 rfl ?_
      refine r_goto (tgt := 55) D210_98 rfl ?_
      refine r_loc (lv' := [(0, vR 77), (6, vI (x6 + 1))]) ⟨rfl, rfl, trivial⟩ rfl rfl ?_
      have g67 : gi M62 77 31 = w51 := (u63.gi_ne (by omega) (Or.inl (by decide))).trans (e52.symm)
      have g68 : gi M62 96 0 = gi N 96 0 := (u63.gi_ne (by omega) (Or.inl (by decide))).trans (rfl)
      have g69 : gi M62 96 1 = gi N 96 1 := (u63.gi_ne (by omega) (Or.inl (by decide))).trans (rfl)
      have g70 : gi M62 96 2 = gi N 96 2 := (u63.gi_ne (by omega) (Or.inl (by decide))).trans (rfl)
      have g71 : gi M62 96 3 = gi N 96 3 := (u63.gi_ne (by omega) (Or.inl (by decide))).trans (rfl)
      have g72 : gi M62 96 4 = gi N 96 4 := (u63.gi_ne (by omega) (Or.inl (by decide))).trans (rfl)
      exact ih (x6 + 1) M62 H64 f66 (by omega) (by omega) (by omega) (by omega) (by omega) (by omega) (by omega) (kA) (by omega) (by omega) (by omega)
set_option maxRecDepth 4000 in
theorem k210n {base : Nat} {X : Nat → Option mC} {G : Nat → Value} (E : EnvOK base X G) {d : Nat} (hd : 0 ≤ d) {M : mH} (H : HI base M) (a : Int) (b : Int) (c : Int) (d_ : Int) (e : Int) (h0 : -2147483648 ≤ a ∧ a ≤ 2147483647) (h1 : -2147483648 ≤ b ∧ b ≤ 2147483647) (h2 : -2147483648 ≤ c ∧ c ≤ 2147483647) (h3 : -2147483648 ≤ d_ ∧ d_ ≤ 2147483647) (h4 : -2147483648 ≤ e ∧ e ≤ 2147483647) : sOk base X G d T210 [vR 77, vI a, vI b, vI c, vI d_, vI e] M (pI (fun v M' => HI base M' ∧ Fr [(77, 32), (95, 0), (96, 0)] M M' ∧ (-2147483648 ≤ v ∧ v ≤ 2147483647) ∧ (gi M 77 31 ≤ 380 → v = gi M 77 31 + 20 ∧ gi M' 77 31 = gi M 77 31 + 20) ∧ (380 < gi M 77 31 → v = -1 ∧ gi M' 77 31 = gi M 77 31) ∧ (gi M 77 31 ≤ 380 → ∀ i : Int, 0 ≤ i → gi M' 95 i % 256 = fdN (fun q => gi M 95 q % 256) (gi M 77 31) a b c d_ e 20 i) ∧ (380 < gi M 77 31 → ∀ i : Int, gi M' 95 i = gi M 95 i))) := by
  have f0 : Fr [(77, 32), (95, 0), (96, 0)] M M := Fr.rf
  refine sOk.of (show sRn base X G d T210 0 [(0, vR 77), (1, vI a), (2, vI b), (3, vI c), (4, vI d_), (5, vI e)] [] M _ from ?_)
  refine s_blx (lv' := [(0, vR 77), (1, vI a), (2, vI b), (3, vI c), (4, vI d_), (5, vI e)]) (st' := [vR 77]) B210_0_1 rfl ?_
  refine r_gint (ki := 31) (pc' := 4) D210_1 rfl gf_11_151_77 rfl H.1 ?_
  intro w1 e2 r3
  have b_w1 := H.2 77 (31) 0 400 rfl
  rw [← e2] at b_w1; clear r3
  refine s_blx (lv' := [(0, vR 77), (1, vI a), (2, vI b), (3, vI c), (4, vI d_), (5, vI e)]) (st' := [vI 400, vI (w1 + 20)]) B210_4_10 rfl ?_
  refine r_icmp (tgt := 15) (pc' := 13) D210_10 rfl rfl (by unfold inR; omega) (fun (c4 : (w1 + 20) ≤ 400) => ?_) (fun (c4 : ¬ ((w1 + 20) ≤ 400)) => ?_)
  · refine s_blx (lv' := [(0, vR 77), (1, vI a), (2, vI b), (3, vI c), (4, vI d_), (5, vI e)]) (st' := [vR 77]) B210_15_16 rfl ?_
    refine r_gfix (r := 96) (pc' := 19) D210_16 rfl gf_11_72_77 H.1 ?_
    refine s_blx (lv' := [(0, vR 77), (1, vI a), (2, vI b), (3, vI c), (4, vI d_), (5, vI e)]) (st' := [vI a, vI 0, vR 96]) B210_19_21 rfl ?_
    refine r_iast (pc' := 22) D210_21 rfl sc_96 H (by omega) (by unfold inR; omega) trivial ?_
    intro M5 u6 H7 p8
    have f9 := f0.wr u6 rfl
    have kf1 := u6
    refine s_blx (lv' := [(0, vR 77), (1, vI a), (2, vI b), (3, vI c), (4, vI d_), (5, vI e)]) (st' := [vR 77]) B210_22_23 rfl ?_
    refine r_gfix (r := 96) (pc' := 26) D210_23 rfl gf_11_72_77 H7.1 ?_
    refine s_blx (lv' := [(0, vR 77), (1, vI a), (2, vI b), (3, vI c), (4, vI d_), (5, vI e)]) (st' := [vI b, vI 1, vR 96]) B210_26_28 rfl ?_
    refine r_iast (pc' := 29) D210_28 rfl sc_96 H7 (by omega) (by unfold inR; omega) trivial ?_
    intro M10 u11 H12 p13
    have f14 := f9.wr u11 rfl
    have kf2 := u11
    refine s_blx (lv' := [(0, vR 77), (1, vI a), (2, vI b), (3, vI c), (4, vI d_), (5, vI e)]) (st' := [vR 77]) B210_29_30 rfl ?_
    refine r_gfix (r := 96) (pc' := 33) D210_30 rfl gf_11_72_77 H12.1 ?_
    refine s_blx (lv' := [(0, vR 77), (1, vI a), (2, vI b), (3, vI c), (4, vI d_), (5, vI e)]) (st' := [vI c, vI 2, vR 96]) B210_33_35 rfl ?_
    refine r_iast (pc' := 36) D210_35 rfl sc_96 H12 (by omega) (by unfold inR; omega) trivial ?_
    intro M15 u16 H17 p18
    have f19 := f14.wr u16 rfl
    have kf3 := u16
    refine s_blx (lv' := [(0, vR 77), (1, vI a), (2, vI b), (3, vI c), (4, vI d_), (5, vI e)]) (st' := [vR 77]) B210_36_37 rfl ?_
    refine r_gfix (r := 96) (pc' := 40) D210_37 rfl gf_11_72_77 H17.1 ?_
    refine s_blx (lv' := [(0, vR 77), (1, vI a), (2, vI b), (3, vI c), (4, vI d_), (5, vI e)]) (st' := [vI d_, vI 3, vR 96]) B210_40_43 rfl ?_
    refine r_iast (pc' := 44) D210_43 rfl sc_96 H17 (by omega) (by unfold inR; omega) trivial ?_
    intro M20 u21 H22 p23
    have f24 := f19.wr u21 rfl
    have kf4 := u21
    refine s_blx (lv' := [(0, vR 77), (1, vI a), (2, vI b), (3, vI c), (4, vI d_), (5, vI e)]) (st' := [vR 77]) B210_44_45 rfl ?_
    refine r_gfix (r := 96) (pc' := 48) D210_45 rfl gf_11_72_77 H22.1 ?_
    refine s_blx (lv' := [(0, vR 77), (1, vI a), (2, vI b), (3, vI c), (4, vI d_), (5, vI e)]) (st' := [vI e, vI 4, vR 96]) B210_48_51 rfl ?_
    refine r_iast (pc' := 52) D210_51 rfl sc_96 H22 (by omega) (by unfold inR; omega) trivial ?_
    intro M25 u26 H27 p28
    have f29 := f24.wr u26 rfl
    have kf5 := u26
    refine s_blx (lv' := [(6, vI 0), (0, vR 77), (1, vI a), (2, vI b), (3, vI c), (4, vI d_), (5, vI e)]) (st' := []) B210_52_55 rfl ?_
    refine r_loc (lv' := [(0, vR 77), (6, vI 0)]) ⟨rfl, rfl, trivial⟩ rfl rfl ?_
    have g30 : gi M25 77 31 = w1 := (u26.gi_ne (by decide) (Or.inl (by decide))).trans ((u21.gi_ne (by decide) (Or.inl (by decide))).trans ((u16.gi_ne (by decide) (Or.inl (by decide))).trans ((u11.gi_ne (by decide) (Or.inl (by decide))).trans ((u6.gi_ne (by decide) (Or.inl (by decide))).trans (e2.symm)))))
    have g31 : gi M25 96 0 = a := (u26.gi_ne (by decide) (Or.inr (by decide))).trans ((u21.gi_ne (by decide) (Or.inr (by decide))).trans ((u16.gi_ne (by decide) (Or.inr (by decide))).trans ((u11.gi_ne (by decide) (Or.inr (by decide))).trans (p8))))
    have g32 : gi M25 96 1 = b := (u26.gi_ne (by decide) (Or.inr (by decide))).trans ((u21.gi_ne (by decide) (Or.inr (by decide))).trans ((u16.gi_ne (by decide) (Or.inr (by decide))).trans (p13)))
    have g33 : gi M25 96 2 = c := (u26.gi_ne (by decide) (Or.inr (by decide))).trans ((u21.gi_ne (by decide) (Or.inr (by decide))).trans (p18))
    have g34 : gi M25 96 3 = d_ := (u26.gi_ne (by decide) (Or.inr (by decide))).trans (p23)
    have g35 : gi M25 96 4 = e := p28
    exact (L_k210n E hd H a b c d_ e h0 h1 h2 h3 h4 (((20 - 0) * 1 + 0 : Int) + 1).toNat) 0 M25 H27 f29 (by omega) (by omega) (by omega) (by omega) (by omega) (by omega) (by omega) (fun i _ => by rw [kf5.gi_ne (by decide) (Or.inl (by decide)), kf4.gi_ne (by decide) (Or.inl (by decide)), kf3.gi_ne (by decide) (Or.inl (by decide)), kf2.gi_ne (by decide) (Or.inl (by decide)), kf1.gi_ne (by decide) (Or.inl (by decide))]; exact (fdN_0 (T := fun q => gi M 95 q % 256) (i := i)).symm) (by omega) (by omega) (by omega)
  · refine s_blx (lv' := [(0, vR 77), (1, vI a), (2, vI b), (3, vI c), (4, vI d_), (5, vI e)]) (st' := [vI (-1)]) B210_13_14 rfl ?_
    have g36 : gi M 77 31 = w1 := e2.symm
    exact r_iretI D210_14 rfl (⟨H, f0, by omega, by omega, by omega, fun h => by exfalso; omega, fun _ i => rfl⟩)
set_option maxRecDepth 4000 in
theorem L_k166n {base : Nat} {X : Nat → Option mC} {G : Nat → Value} (E : EnvOK base X G) {d : Nat} (hd : 1 ≤ d) {M : mH} (H : HI base M) (s : Int) (size : Int) (K : Int → Int) (h0 : KK K M) (h1 : 0 ≤ s ∧ s ≤ 15) (h2 : 0 ≤ size ∧ size ≤ 8) : ∀ mz : Nat, (∀ (x3 x4 : Int), (x3 = 1 → K (135 + 16 * s) = size) → (x3 = 1 → TRi K s x4 M) → (x3 = 0 → ¬ TRr K s size M) → (0 ≤ x3 ∧ x3 ≤ 1) → (0 ≤ x4 ∧ x4 ≤ 8) → (0 ≤ x3) → (x3 ≤ 1) → (0 ≤ x4) → (x4 ≤ 8) → (8 - x4) * 1 + 0 < (mz : Int) → sRn base X G d T166 18 [(0, vR 77), (1, vI s), (2, vI size), (3, vI x3), (4, vI x4)] [] M (s_Q base (pI (fun v M' => M' = M ∧ (v = 0 ∨ v = 1) ∧ (v = 1 → TRr K s size M) ∧ (v = 0 → ¬ TRr K s size M))))) := by
  intro mz
  induction mz with
  | zero => exact fun x3 x4 z0 z1 z2 z3 z4 z5 z6 z7 z8 z9 => by omega
  | succ mz ih =>
    intro x3 x4 i0 i1 i2 i3 i4 i5 i6 i7 i8 hmu
    refine s_blx (lv' := [(0, vR 77), (1, vI s), (2, vI size), (3, vI x3), (4, vI x4)]) (st' := [vI size, vI x4]) B166_18_21 rfl ?_
    refine r_icmp (tgt := 57) (pc' := 24) D166_21 rfl rfl (by unfold inR; omega) (fun (c7 : size ≤ x4) => ?_) (fun (c7 : ¬ (size ≤ x4)) => ?_)
    · refine s_blx (lv' := [(0, vR 77), (1, vI s), (2, vI size), (3, vI x3), (4, vI x4)]) (st' := [vI x3]) B166_57_58 rfl ?_
      exact r_zretI D166_58 rfl (by omega) (⟨rfl, by omega, fun h => ⟨i0 (by omega), (i1 (by omega)).mono (by omega)⟩, i2⟩)
    · refine s_blx (lv' := [(0, vR 77), (1, vI s), (2, vI size), (3, vI x3), (4, vI x4)]) (st' := [vI x3]) B166_24_25 rfl ?_
      refine r_ifc (tgt := 57) (pc' := 28) D166_25 rfl rfl (by unfold inR; omega) (fun (c8 : x3 = 0) => ?_) (fun (c8 : ¬ (x3 = 0)) => ?_)
      · refine s_blx (lv' := [(0, vR 77), (1, vI s), (2, vI size), (3, vI x3), (4, vI x4)]) (st' := [vI x3]) B166_57_58 rfl ?_
        exact r_zretI D166_58 rfl (by omega) (⟨rfl, by omega, fun h => ⟨i0 (by omega), (i1 (by omega)).mono (by omega)⟩, i2⟩)
      · refine s_blx (lv' := [(0, vR 77), (1, vI s), (2, vI size), (3, vI x3), (4, vI x4)]) (st' := [vI x4, vI s, vR 77]) B166_28_32 rfl ?_
        refine r_vIp (c := 77) (args := [vI s, vI x4]) (rest := []) (pc' := 35) D166_32 rfl ck_11_virtual_147 TE157 rfl (Nat.le_of_ble_eq_true rfl) ⟨Nat.le_of_ble_eq_true rfl, Nat.le_of_ble_eq_true rfl⟩ sc_77 ⟨rfl, by decide⟩ H.1 (dp_0 hd rfl) (k157f E (dp_n hd rfl) H s x4 K (h0) (by omega) (by omega)) ?_
        intro v9 q13
        obtain ⟨q11, q12⟩ := q13
        refine s_blx (lv' := [(0, vR 77), (1, vI s), (2, vI size), (3, vI x3), (4, vI x4)]) (st' := [vR 77, vI v9]) B166_35_36 rfl ?_
        refine r_gfix (r := 95) (pc' := 39) D166_36 rfl gf_11_69_77 H.1 ?_
        refine s_blx (lv' := [(0, vR 77), (1, vI s), (2, vI size), (3, vI x3), (4, vI x4)]) (st' := [vI x4, vR 95, vI v9]) B166_39_41 rfl ?_
        refine r_bald (pc' := 42) D166_41 rfl sc_95 (by decide) H.1 (by omega) ?_
        intro w14 e15 r16
        have b_w14 := H.2 95 (x4) (-128) 127 rfl
        rw [← e15] at b_w14; clear r16
        refine r_icmp (tgt := 49) (pc' := 45) D166_42 rfl rfl (by unfold inR; omega) (fun (c17 : v9 ≠ w14) => ?_) (fun (c17 : ¬ (v9 ≠ w14)) => ?_)
        · refine s_blx (lv' := [(4, vI (x4 + 1)), (3, vI 0), (0, vR 77), (1, vI s), (2, vI size)]) (st' := []) B166_49_54 rfl ?_
          refine r_goto (tgt := 18) D166_54 rfl ?_
          refine r_loc (lv' := [(0, vR 77), (1, vI s), (2, vI size), (3, vI 0), (4, vI (x4 + 1))]) ⟨rfl, rfl, rfl, rfl, rfl, trivial⟩ rfl rfl ?_
          exact ih 0 (x4 + 1) (by omega) (by first | exact fun h => absurd h (by omega) | exact fun h => (i1 (by omega)).next (by omega)) (by first | exact fun h => absurd h (by omega) | exact fun _ h => by have q := h.2 x4 (by omega) (by omega); omega) (by omega) (by omega) (by omega) (by omega) (by omega) (by omega) (by omega)
        · refine s_blx (lv' := [(0, vR 77), (1, vI s), (2, vI size), (3, vI x3), (4, vI x4)]) (st' := [vI 1]) B166_45_46 rfl ?_
          refine r_goto (tgt := 50) D166_46 rfl ?_
          refine s_blx (lv' := [(4, vI (x4 + 1)), (3, vI 1), (0, vR 77), (1, vI s), (2, vI size)]) (st' := []) B166_50_54 rfl ?_
          refine r_goto (tgt := 18) D166_54 rfl ?_
          refine r_loc (lv' := [(0, vR 77), (1, vI s), (2, vI size), (3, vI 1), (4, vI (x4 + 1))]) ⟨rfl, rfl, rfl, rfl, rfl, trivial⟩ rfl rfl ?_
          exact ih 1 (x4 + 1) (by omega) (by first | exact fun h => absurd h (by omega) | exact fun h => (i1 (by omega)).next (by omega)) (by first | exact fun h => absurd h (by omega) | exact fun _ h => by have q := h.2 x4 (by omega) (by omega); omega) (by omega) (by omega) (by omega) (by omega) (by omega) (by omega) (by omega)
set_option maxRecDepth 4000 in
theorem k166n {base : Nat} {X : Nat → Option mC} {G : Nat → Value} (E : EnvOK base X G) {d : Nat} (hd : 1 ≤ d) {M : mH} (H : HI base M) (s : Int) (size : Int) (K : Int → Int) (h0 : KK K M) (h1 : 0 ≤ s ∧ s ≤ 15) (h2 : 0 ≤ size ∧ size ≤ 8) : sOk base X G d T166 [vR 77, vI s, vI size] M (pI (fun v M' => M' = M ∧ (v = 0 ∨ v = 1) ∧ (v = 1 → TRr K s size M) ∧ (v = 0 → ¬ TRr K s size M))) := by
  refine sOk.of (show sRn base X G d T166 0 [(0, vR 77), (1, vI s), (2, vI size)] [] M _ from ?_)
  refine s_blx (lv' := [(0, vR 77), (1, vI s), (2, vI size)]) (st' := [vI s, vR 77]) B166_0_2 rfl ?_
  refine r_vIp (c := 77) (args := [vI s]) (rest := []) (pc' := 5) D166_2 rfl ck_11_virtual_144 TE156 rfl (Nat.le_of_ble_eq_true rfl) ⟨Nat.le_of_ble_eq_true rfl, Nat.le_of_ble_eq_true rfl⟩ sc_77 ⟨rfl, by decide⟩ H.1 (dp_0 hd rfl) (k156f E (dp_n hd rfl) H s K (h0) (by omega)) ?_
  intro v1 q5
  obtain ⟨q3, q4⟩ := q5
  refine s_blx (lv' := [(0, vR 77), (1, vI s), (2, vI size)]) (st' := [vI size, vI v1]) B166_5_6 rfl ?_
  refine r_icmp (tgt := 13) (pc' := 9) D166_6 rfl rfl (by unfold inR; omega) (fun (c6 : v1 ≠ size) => ?_) (fun (c6 : ¬ (v1 ≠ size)) => ?_)
  · refine s_blx (lv' := [(4, vI 0), (3, vI 0), (0, vR 77), (1, vI s), (2, vI size)]) (st' := []) B166_13_18 rfl ?_
    refine r_loc (lv' := [(0, vR 77), (1, vI s), (2, vI size), (3, vI 0), (4, vI 0)]) ⟨rfl, rfl, rfl, rfl, rfl, trivial⟩ rfl rfl ?_
    exact (L_k166n E hd H s size K h0 h1 h2 (((8 - 0) * 1 + 0 : Int) + 1).toNat) 0 0 (by omega) (fun _ => TRi.zero) (by first | exact fun h => absurd h (by omega) | exact fun _ h => by have q := h.1; omega) (by omega) (by omega) (by omega) (by omega) (by omega) (by omega) (by omega)
  · refine s_blx (lv' := [(0, vR 77), (1, vI s), (2, vI size)]) (st' := [vI 1]) B166_9_10 rfl ?_
    refine r_goto (tgt := 14) D166_10 rfl ?_
    refine s_blx (lv' := [(4, vI 0), (3, vI 1), (0, vR 77), (1, vI s), (2, vI size)]) (st' := []) B166_14_18 rfl ?_
    refine r_loc (lv' := [(0, vR 77), (1, vI s), (2, vI size), (3, vI 1), (4, vI 0)]) ⟨rfl, rfl, rfl, rfl, rfl, trivial⟩ rfl rfl ?_
    exact (L_k166n E hd H s size K h0 h1 h2 (((8 - 0) * 1 + 0 : Int) + 1).toNat) 1 0 (by omega) (fun _ => TRi.zero) (by first | exact fun h => absurd h (by omega) | exact fun _ h => by have q := h.1; omega) (by omega) (by omega) (by omega) (by omega) (by omega) (by omega) (by omega)
set_option maxRecDepth 4000 in
set_option maxHeartbeats 4000000 in
theorem L_k167n {base : Nat} {X : Nat → Option mC} {G : Nat → Value} (E : EnvOK base X G) {d : Nat} (hd : 2 ≤ d) {M : mH} (H : HI base M) (a : Int) (b : Int) (c : Int) (h0 : LN M) (h1 : GK M) (h2 : -2147483648 ≤ a ∧ a ≤ 2147483647) (h3 : -2147483648 ≤ b ∧ b ≤ 2147483647) (h4 : -2147483648 ≤ c ∧ c ≤ 2147483647) : ∀ mz : Nat, (∀ (x4 x5 x6 : Int) (N : mH), HI base N → Fr [(77, 1), (77, 32), (78, 0)] M N → (x5 = 1 → TA x6 N) → (x5 = 1 → 1 ≤ x4 ∧ x4 ≤ 8) → (0 ≤ x4 ∧ x4 ≤ 400) → (0 ≤ x5 ∧ x5 ≤ 1) → (0 ≤ x6 ∧ x6 ≤ 400) → (LN N) → (GK N) → (0 ≤ a ∧ a ≤ 7) → (0 ≤ b ∧ b ≤ 7) → (0 ≤ c ∧ c ≤ 7) → (gi N 77 31 = 0) → (x5 = 0 → ¬ RWr x4 M) → (x4 = gi M 77 31) → (∀ i : Int, gi N 95 i = gi M 95 i) → (∀ i : Int, gi N 78 i = gi M 78 i) → (0 ≤ x4) → (x4 ≤ 400) → (0 ≤ x5) → (x5 ≤ 1) → (0 ≤ x6) → (x6 ≤ 400) → (0 ≤ a) → (a ≤ 7) → (0 ≤ b) → (b ≤ 7) → (0 ≤ c) → (c ≤ 7) → (400 - x6) * 1 + 31 < (mz : Int) → sRn base X G d T167 60 [(0, vR 77), (1, vI a), (2, vI b), (3, vI c), (4, vI x4), (5, vI x5), (6, vI x6)] [] N (s_Q base (pI (fun v M' => HI base M' ∧ Fr [(77, 1), (77, 32), (78, 0)] M M' ∧ (LN M') ∧ (GK M') ∧ (gi M' 77 31 = 0) ∧ (SnR v a b c M M'))))) ∧ (∀ (x4 x6 x7 : Int) (N : mH), HI base N → Fr [(77, 1), (77, 32), (78, 0)] M N → (TA x4 N) → (1 ≤ x4 ∧ x4 ≤ 8) → (LN N) → (GK N) → (gi N 78 469 = x6) → (0 ≤ x6 ∧ x6 ≤ 16) → (0 ≤ x7 ∧ x7 ≤ x6) → (0 ≤ a ∧ a ≤ 7) → (0 ≤ b ∧ b ≤ 7) → (0 ≤ c ∧ c ≤ 7) → (gi N 77 31 = 0) → (x4 = gi M 77 31) → (∀ i : Int, gi N 95 i = gi M 95 i) → (∀ i : Int, gi N 78 i = gi M 78 i) → (NRr (gi M 78) x4 x7 M) → (0 ≤ x4) → (x4 ≤ 400) → (0 ≤ x6) → (x6 ≤ 16) → (0 ≤ x7) → (x7 ≤ 16) → (0 ≤ a) → (a ≤ 7) → (0 ≤ b) → (b ≤ 7) → (0 ≤ c) → (c ≤ 7) → (16 - x7) * 1 + 14 < (mz : Int) → sRn base X G d T167 118 [(0, vR 77), (1, vI a), (2, vI b), (3, vI c), (4, vI x4), (6, vI x6), (7, vI x7)] [] N (s_Q base (pI (fun v M' => HI base M' ∧ Fr [(77, 1), (77, 32), (78, 0)] M M' ∧ (LN M') ∧ (GK M') ∧ (gi M' 77 31 = 0) ∧ (SnR v a b c M M'))))) ∧ (∀ (x4 x6 x7 x8 : Int) (N : mH), HI base N → Fr [(77, 1), (77, 32), (78, 0)] M N → (TA x4 N) → (1 ≤ x4 ∧ x4 ≤ 8) → (LM (x6 + 1) N) → (GK N) → (gi N 78 469 = x6) → (0 ≤ x6 ∧ x6 ≤ 15) → (x7 = 135 + 16 * x6) → (0 ≤ x8 ∧ x8 ≤ 8) → (0 ≤ a ∧ a ≤ 7) → (0 ≤ b ∧ b ≤ 7) → (0 ≤ c ∧ c ≤ 7) → (gi N 77 31 = 0) → (x4 = gi M 77 31) → (∀ i : Int, gi N 95 i = gi M 95 i) → (∀ j : Int, gi N 78 j = seP (gi M 78) (gi M 95) x4 x6 x8 j) → (x6 = gi M 78 469) → (NRr (gi M 78) x4 x6 M) → (1 ≤ x4) → (x4 ≤ 8) → (0 ≤ x6) → (x6 ≤ 15) → (135 ≤ x7) → (x7 ≤ 375) → (0 ≤ x8) → (x8 ≤ 8) → (0 ≤ a) → (a ≤ 7) → (0 ≤ b) → (b ≤ 7) → (0 ≤ c) → (c ≤ 7) → (8 - x8) * 1 + 5 < (mz : Int) → sRn base X G d T167 186 [(0, vR 77), (1, vI a), (2, vI b), (3, vI c), (4, vI x4), (6, vI x6), (7, vI x7), (8, vI x8)] [] N (s_Q base (pI (fun v M' => HI base M' ∧ Fr [(77, 1), (77, 32), (78, 0)] M M' ∧ (LN M') ∧ (GK M') ∧ (gi M' 77 31 = 0) ∧ (SnR v a b c M M'))))) ∧ (∀ (x6 x7 x8 : Int) (N : mH), HI base N → Fr [(77, 1), (77, 32), (78, 0)] M N → (LM (x6 + 1) N) → (GK N) → (gi N 78 469 = x6) → (0 ≤ x6 ∧ x6 ≤ 15) → (x7 = 135 + 16 * x6) → (0 ≤ x8 ∧ x8 ≤ 4) → (gi N 77 31 = 0) → (∀ j : Int, gi N 78 j = seQ (gi M 78) (gi M 95) (gi M 77 31) x6 a b c x8 j) → (x6 = gi M 78 469) → (RWr (gi M 77 31) M) → (NRr (gi M 78) (gi M 77 31) x6 M) → (0 ≤ a ∧ a ≤ 7) → (0 ≤ b ∧ b ≤ 7) → (0 ≤ c ∧ c ≤ 7) → (0 ≤ x6) → (x6 ≤ 15) → (135 ≤ x7) → (x7 ≤ 375) → (0 ≤ x8) → (x8 ≤ 4) → (0 ≤ a) → (a ≤ 7) → (0 ≤ b) → (b ≤ 7) → (0 ≤ c) → (c ≤ 7) → (4 - x8) * 1 + 0 < (mz : Int) → sRn base X G d T167 265 [(0, vR 77), (6, vI x6), (7, vI x7), (8, vI x8)] [] N (s_Q base (pI (fun v M' => HI base M' ∧ Fr [(77, 1), (77, 32), (78, 0)] M M' ∧ (LN M') ∧ (GK M') ∧ (gi M' 77 31 = 0) ∧ (SnR v a b c M M'))))) := by
  have f0 : Fr [(77, 1), (77, 32), (78, 0)] M M := Fr.rf
  intro mz
  induction mz with
  | zero => exact ⟨fun x4 x5 x6 N _ _ z0 z1 z2 z3 z4 z5 z6 z7 z8 z9 z10 z11 z12 z13 z14 z15 z16 z17 z18 z19 z20 z21 z22 z23 z24 z25 z26 z27 => by omega, fun x4 x6 x7 N _ _ z0 z1 z2 z3 z4 z5 z6 z7 z8 z9 z10 z11 z12 z13 z14 z15 z16 z17 z18 z19 z20 z21 z22 z23 z24 z25 z26 z27 => by omega, fun x4 x6 x7 x8 N _ _ z0 z1 z2 z3 z4 z5 z6 z7 z8 z9 z10 z11 z12 z13 z14 z15 z16 z17 z18 z19 z20 z21 z22 z23 z24 z25 z26 z27 z28 z29 z30 z31 => by omega, fun x6 x7 x8 N _ _ z0 z1 z2 z3 z4 z5 z6 z7 z8 z9 z10 z11 z12 z13 z14 z15 z16 z17 z18 z19 z20 z21 z22 z23 z24 z25 z26 => by omega⟩
  | succ mz ih =>
    refine ⟨?_, ?_, ?_, ?_⟩
    · intro x4 x5 x6 N HN fN i0 i1 i2 i3 i4 i5 i6 i7 i8 i9 i10 i11 i12 i13 i14 i15 i16 i17 i18 i19 i20 i21 i22 i23 i24 i25 i26 hmu
      refine s_blx (lv' := [(0, vR 77), (1, vI a), (2, vI b), (3, vI c), (4, vI x4), (5, vI x5), (6, vI x6)]) (st' := [vI x4, vI x6]) B167_60_64 rfl ?_
      refine r_icmp (tgt := 93) (pc' := 67) D167_64 rfl rfl (by unfold inR; omega) (fun (c69 : x4 ≤ x6) => ?_) (fun (c69 : ¬ (x4 ≤ x6)) => ?_)
      · refine s_blx (lv' := [(0, vR 77), (1, vI a), (2, vI b), (3, vI c), (4, vI x4), (5, vI x5), (6, vI x6)]) (st' := [vI x5]) B167_93_95 rfl ?_
        refine r_ifc (tgt := 105) (pc' := 98) D167_95 rfl rfl (by unfold inR; omega) (fun (c70 : x5 ≠ 0) => ?_) (fun (c70 : ¬ (x5 ≠ 0)) => ?_)
        · refine s_blx (lv' := [(0, vR 77), (1, vI a), (2, vI b), (3, vI c), (4, vI x4), (5, vI x5), (6, vI x6)]) (st' := [vR 77]) B167_105_106 rfl ?_
          refine r_gfix (r := 78) (pc' := 109) D167_106 rfl gf_11_13_77 HN.1 ?_
          refine s_blx (lv' := [(0, vR 77), (1, vI a), (2, vI b), (3, vI c), (4, vI x4), (5, vI x5), (6, vI x6)]) (st' := [vI 469, vR 78]) B167_109_112 rfl ?_
          refine r_iald (pc' := 113) D167_112 rfl sc_78 HN.1 (by omega) ?_
          intro w71 e72 r73
          have b_w71 := HN.2 78 (469) 0 16 (rk_many (by omega))
          rw [← e72] at b_w71; clear r73
          refine s_blx (lv' := [(7, vI 0), (6, vI w71), (0, vR 77), (1, vI a), (2, vI b), (3, vI c), (4, vI x4), (5, vI x5)]) (st' := []) B167_113_118 rfl ?_
          refine r_loc (lv' := [(0, vR 77), (1, vI a), (2, vI b), (3, vI c), (4, vI x4), (6, vI w71), (7, vI 0)]) ⟨rfl, rfl, rfl, rfl, rfl, rfl, rfl, trivial⟩ rfl rfl ?_
          exact ih.2.1 x4 w71 0 N HN fN ((i0 (by omega)).mono (by omega)) (by omega) (i5) (i6) (by omega) (by omega) (by omega) (by omega) (by omega) (by omega) (by omega) (by omega) (i13) (i14) (NRr.zero) (by omega) (by omega) (by omega) (by omega) (by omega) (by omega) (by omega) (by omega) (by omega) (by omega) (by omega) (by omega) (by omega)
        · refine s_blx (lv' := [(0, vR 77), (1, vI a), (2, vI b), (3, vI c), (4, vI x4), (5, vI x5), (6, vI x6)]) (st' := [vI (-6), vR 77]) B167_98_101 rfl ?_
          refine r_vI (c := 77) (args := [vI (-6)]) (rest := []) (pc' := 104) D167_101 rfl ck_11_virtual_127 TE148 rfl (Nat.le_of_ble_eq_true rfl) ⟨Nat.le_of_ble_eq_true rfl, Nat.le_of_ble_eq_true rfl⟩ sc_77 ⟨rfl, by decide⟩ HN.1 (dp_0 hd rfl) (k148 E (dp_n hd rfl) HN (-6) (by omega)) ?_
          intro v74 M75 q79
          obtain ⟨H76, f77, q78⟩ := q79
          have f80 := fN.tr (f77.up rfl)
          have hp81 := i5.fr f77 (by decide)
          have hp82 := i6.fr f77 (by decide)
          have kr := f77
          have g83 : gi M75 77 31 = gi N 77 31 := (f77.g rfl).trans (rfl)
          exact r_iretI D167_104 rfl (⟨H76, f80, hp81, hp82, by first | (rw [g83]; omega) | rw [g83], Or.inr (Or.inl ⟨(by unfold AB; omega), (by rw [← i12]; exact i11 (by omega)), by omega, fun i => (kr.g rfl).trans (i14 i)⟩)⟩)
      · refine s_blx (lv' := [(0, vR 77), (1, vI a), (2, vI b), (3, vI c), (4, vI x4), (5, vI x5), (6, vI x6)]) (st' := [vI x5]) B167_67_69 rfl ?_
        refine r_ifc (tgt := 93) (pc' := 72) D167_69 rfl rfl (by unfold inR; omega) (fun (c84 : x5 = 0) => ?_) (fun (c84 : ¬ (x5 = 0)) => ?_)
        · refine s_blx (lv' := [(0, vR 77), (1, vI a), (2, vI b), (3, vI c), (4, vI x4), (5, vI x5), (6, vI x6)]) (st' := [vI x5]) B167_93_95 rfl ?_
          refine r_ifc (tgt := 105) (pc' := 98) D167_95 rfl rfl (by unfold inR; omega) (fun (c85 : x5 ≠ 0) => ?_) (fun (c85 : ¬ (x5 ≠ 0)) => ?_)
          · exfalso; omega
          · refine s_blx (lv' := [(0, vR 77), (1, vI a), (2, vI b), (3, vI c), (4, vI x4), (5, vI x5), (6, vI x6)]) (st' := [vI (-6), vR 77]) B167_98_101 rfl ?_
            refine r_vI (c := 77) (args := [vI (-6)]) (rest := []) (pc' := 104) D167_101 rfl ck_11_virtual_127 TE148 rfl (Nat.le_of_ble_eq_true rfl) ⟨Nat.le_of_ble_eq_true rfl, Nat.le_of_ble_eq_true rfl⟩ sc_77 ⟨rfl, by decide⟩ HN.1 (dp_0 hd rfl) (k148 E (dp_n hd rfl) HN (-6) (by omega)) ?_
            intro v86 M87 q91
            obtain ⟨H88, f89, q90⟩ := q91
            have f92 := fN.tr (f89.up rfl)
            have hp93 := i5.fr f89 (by decide)
            have hp94 := i6.fr f89 (by decide)
            have kr := f89
            have g95 : gi M87 77 31 = gi N 77 31 := (f89.g rfl).trans (rfl)
            exact r_iretI D167_104 rfl (⟨H88, f92, hp93, hp94, by first | (rw [g95]; omega) | rw [g95], Or.inr (Or.inl ⟨(by unfold AB; omega), (by rw [← i12]; exact i11 (by omega)), by omega, fun i => (kr.g rfl).trans (i14 i)⟩)⟩)
        · refine s_blx (lv' := [(0, vR 77), (1, vI a), (2, vI b), (3, vI c), (4, vI x4), (5, vI x5), (6, vI x6)]) (st' := [vR 77]) B167_72_73 rfl ?_
          refine r_gfix (r := 95) (pc' := 76) D167_73 rfl gf_11_69_77 HN.1 ?_
          refine s_blx (lv' := [(0, vR 77), (1, vI a), (2, vI b), (3, vI c), (4, vI x4), (5, vI x5), (6, vI x6)]) (st' := [vI x6, vR 95]) B167_76_78 rfl ?_
          refine r_bald (pc' := 79) D167_78 rfl sc_95 (by decide) HN.1 (by omega) ?_
          intro w96 e97 r98
          have b_w96 := HN.2 95 (x6) (-128) 127 rfl
          rw [← e97] at b_w96; clear r98
          have ke := e97
          refine s_blx (lv' := [(0, vR 77), (1, vI a), (2, vI b), (3, vI c), (4, vI x4), (5, vI x5), (6, vI x6)]) (st' := [vI 29, vI 0, vI w96]) B167_79_82 rfl ?_
          refine r_sIp (args := [vI w96, vI 0, vI 29]) (rest := []) (pc' := 85) D167_82 rfl ck_11_static_123 TE147 rfl (Nat.le_of_ble_eq_true rfl) ⟨Nat.le_of_ble_eq_true rfl, Nat.le_of_ble_eq_true rfl⟩ (by decide) (dp_0 hd rfl) (k147 E (dp_n hd rfl) HN w96 0 29 (by omega) (by omega) (by omega)) ?_
          intro v99 q104
          obtain ⟨q101, q102, q103⟩ := q104
          have kiv : v99 = 1 → 0 ≤ gi N 95 x6 ∧ gi N 95 x6 ≤ 29 := fun h => by rw [← ke]; exact q102 h
          refine s_blx (lv' := [(6, vI (x6 + 1)), (5, vI v99), (0, vR 77), (1, vI a), (2, vI b), (3, vI c), (4, vI x4)]) (st' := []) B167_85_90 rfl ?_
          refine r_goto (tgt := 60) D167_90 rfl ?_
          refine r_loc (lv' := [(0, vR 77), (1, vI a), (2, vI b), (3, vI c), (4, vI x4), (5, vI v99), (6, vI (x6 + 1))]) ⟨rfl, rfl, rfl, rfl, rfl, rfl, rfl, trivial⟩ rfl rfl ?_
          exact ih.1 x4 v99 (x6 + 1) N HN fN (fun h => (i0 (by omega)).next (by have kin := kiv h; omega)) (by omega) (by omega) (by omega) (by omega) (i5) (i6) (by omega) (by omega) (by omega) (by omega) (fun h hr => by have q := hr.2.2 x6 (by omega) (by omega); rw [← i13 x6] at q; omega) (by omega) (i13) (i14) (by omega) (by omega) (by omega) (by omega) (by omega) (by omega) (by omega) (by omega) (by omega) (by omega) (by omega) (by omega) (by omega)
    · intro x4 x6 x7 N HN fN i0 i1 i2 i3 i4 i5 i6 i7 i8 i9 i10 i11 i12 i13 i14 i15 i16 i17 i18 i19 i20 i21 i22 i23 i24 i25 i26 hmu
      refine s_blx (lv' := [(0, vR 77), (1, vI a), (2, vI b), (3, vI c), (4, vI x4), (6, vI x6), (7, vI x7)]) (st' := [vI x6, vI x7]) B167_118_122 rfl ?_
      refine r_icmp (tgt := 149) (pc' := 125) D167_122 rfl rfl (by unfold inR; omega) (fun (c105 : x6 ≤ x7) => ?_) (fun (c105 : ¬ (x6 ≤ x7)) => ?_)
      · refine s_blx (lv' := [(0, vR 77), (1, vI a), (2, vI b), (3, vI c), (4, vI x4), (6, vI x6), (7, vI x7)]) (st' := [vI 16, vI x6]) B167_149_153 rfl ?_
        refine r_icmp (tgt := 163) (pc' := 156) D167_153 rfl rfl (by unfold inR; omega) (fun (c106 : x6 ≠ 16) => ?_) (fun (c106 : ¬ (x6 ≠ 16)) => ?_)
        · refine s_blx (lv' := [(7, vI (135 + (16 * x6))), (0, vR 77), (1, vI a), (2, vI b), (3, vI c), (4, vI x4), (6, vI x6)]) (st' := [vR 77]) B167_163_175 rfl ?_
          refine r_gfix (r := 78) (pc' := 178) D167_175 rfl gf_11_13_77 HN.1 ?_
          refine s_blx (lv' := [(7, vI (135 + (16 * x6))), (0, vR 77), (1, vI a), (2, vI b), (3, vI c), (4, vI x4), (6, vI x6)]) (st' := [vI x4, vI (135 + (16 * x6)), vR 78]) B167_178_182 rfl ?_
          refine r_iast (pc' := 183) D167_182 rfl sc_78 HN (by omega) (by unfold inR; omega) (by show s_in (rgK _) _; rw [rk_len (by omega)]; show 0 ≤ x4 ∧ x4 ≤ 8; omega) ?_
          intro M107 u108 H109 p110
          have f111 := fN.wr u108 rfl
          have hp112 := i0.wr u108 (by decide)
          have hp113 := i3.w u108 (by omega) HN
          have klm := i2.grow i4 (by omega) u108 p110 (by omega)
          have ku182 := u108
          have kp182 := p110
          refine s_blx (lv' := [(8, vI 0), (7, vI (135 + (16 * x6))), (0, vR 77), (1, vI a), (2, vI b), (3, vI c), (4, vI x4), (6, vI x6)]) (st' := []) B167_183_186 rfl ?_
          refine r_loc (lv' := [(0, vR 77), (1, vI a), (2, vI b), (3, vI c), (4, vI x4), (6, vI x6), (7, vI (135 + (16 * x6))), (8, vI 0)]) ⟨rfl, rfl, rfl, rfl, rfl, rfl, rfl, rfl, trivial⟩ rfl rfl ?_
          have g114 : gi M107 78 469 = gi N 78 469 := (u108.gi_ne (by omega) (Or.inr (by omega))).trans (rfl)
          have g115 : gi M107 77 31 = gi N 77 31 := (u108.gi_ne (by omega) (Or.inl (by decide))).trans (rfl)
          exact ih.2.2.1 x4 x6 (135 + (16 * x6)) 0 M107 H109 f111 (hp112) (by omega) (klm) (hp113) (by omega) (by omega) (by omega) (by omega) (by omega) (by omega) (by omega) (by omega) (by omega) (fun i => by rw [ku182.gi_ne (by omega) (Or.inl (by decide))]; exact i12 i) (seP_0 i13 ku182 kp182 (by omega) (by omega)) (by have q := i13 469; omega) (by have q := i14; rw [show x7 = x6 by omega] at q; exact q) (by omega) (by omega) (by omega) (by omega) (by omega) (by omega) (by omega) (by omega) (by omega) (by omega) (by omega) (by omega) (by omega) (by omega) (by omega)
        · refine s_blx (lv' := [(0, vR 77), (1, vI a), (2, vI b), (3, vI c), (4, vI x4), (6, vI x6), (7, vI x7)]) (st' := [vI (-5), vR 77]) B167_156_159 rfl ?_
          refine r_vI (c := 77) (args := [vI (-5)]) (rest := []) (pc' := 162) D167_159 rfl ck_11_virtual_127 TE148 rfl (Nat.le_of_ble_eq_true rfl) ⟨Nat.le_of_ble_eq_true rfl, Nat.le_of_ble_eq_true rfl⟩ sc_77 ⟨rfl, by decide⟩ HN.1 (dp_0 hd rfl) (k148 E (dp_n hd rfl) HN (-5) (by omega)) ?_
          intro v116 M117 q121
          obtain ⟨H118, f119, q120⟩ := q121
          have f122 := fN.tr (f119.up rfl)
          have hp123 := i0.fr f119 (by decide)
          have hp124 := i2.fr f119 (by decide)
          have hp125 := i3.fr f119 (by decide)
          have kr := f119
          have g126 : gi M117 77 31 = gi N 77 31 := (f119.g rfl).trans (rfl)
          exact r_iretI D167_162 rfl (⟨H118, f122, hp124, hp125, by first | (rw [g126]; omega) | rw [g126], Or.inr (Or.inr (Or.inr (Or.inl ⟨(by unfold AB; omega), ⟨by omega, by omega, by rw [← i11]; exact (hp123).of (fun j => ((kr.g rfl).trans (i12 j)).symm)⟩, (by rw [← i11]; exact i14.no (by rw [← i13]; omega)), by rw [← i13]; omega, by omega, fun i => (kr.g rfl).trans (i13 i)⟩)))⟩)
      · refine s_blx (lv' := [(0, vR 77), (1, vI a), (2, vI b), (3, vI c), (4, vI x4), (6, vI x6), (7, vI x7)]) (st' := [vI x4, vI x7, vR 77]) B167_125_130 rfl ?_
        refine r_vIp (c := 77) (args := [vI x7, vI x4]) (rest := []) (pc' := 133) D167_130 rfl ck_11_virtual_154 TE166 rfl (Nat.le_of_ble_eq_true rfl) ⟨Nat.le_of_ble_eq_true rfl, Nat.le_of_ble_eq_true rfl⟩ sc_77 ⟨rfl, by decide⟩ HN.1 (dp_0 hd rfl) (k166n E (dp_n hd rfl) HN x7 x4 (gi N 78) (fun _ => rfl) (by omega) (by omega)) ?_
        intro v127 q132
        obtain ⟨q129, q130, q131⟩ := q132
        have kb1 := q130; clear q130
        have kb0 := q131; clear q131
        refine r_ifc (tgt := 143) (pc' := 136) D167_133 rfl rfl (by unfold inR; omega) (fun (c133 : v127 = 0) => ?_) (fun (c133 : ¬ (v127 = 0)) => ?_)
        · refine s_blx (lv' := [(7, vI (x7 + 1)), (0, vR 77), (1, vI a), (2, vI b), (3, vI c), (4, vI x4), (6, vI x6)]) (st' := []) B167_143_146 rfl ?_
          refine r_goto (tgt := 118) D167_146 rfl ?_
          refine r_loc (lv' := [(0, vR 77), (1, vI a), (2, vI b), (3, vI c), (4, vI x4), (6, vI x6), (7, vI (x7 + 1))]) ⟨rfl, rfl, rfl, rfl, rfl, rfl, rfl, trivial⟩ rfl rfl ?_
          exact ih.2.1 x4 x6 (x7 + 1) N HN fN (i0) (by omega) (i2) (i3) (by omega) (by omega) (by omega) (by omega) (by omega) (by omega) (by omega) (by omega) (i12) (i13) (i14.next (fun h => kb0 (by omega) (h.of i13 i12))) (by omega) (by omega) (by omega) (by omega) (by omega) (by omega) (by omega) (by omega) (by omega) (by omega) (by omega) (by omega) (by omega)
        · refine s_blx (lv' := [(0, vR 77), (1, vI a), (2, vI b), (3, vI c), (4, vI x4), (6, vI x6), (7, vI x7)]) (st' := [vI (-4), vR 77]) B167_136_139 rfl ?_
          refine r_vI (c := 77) (args := [vI (-4)]) (rest := []) (pc' := 142) D167_139 rfl ck_11_virtual_127 TE148 rfl (Nat.le_of_ble_eq_true rfl) ⟨Nat.le_of_ble_eq_true rfl, Nat.le_of_ble_eq_true rfl⟩ sc_77 ⟨rfl, by decide⟩ HN.1 (dp_0 hd rfl) (k148 E (dp_n hd rfl) HN (-4) (by omega)) ?_
          intro v134 M135 q139
          obtain ⟨H136, f137, q138⟩ := q139
          have f140 := fN.tr (f137.up rfl)
          have hp141 := i0.fr f137 (by decide)
          have hp142 := i2.fr f137 (by decide)
          have hp143 := i3.fr f137 (by decide)
          have kr := f137
          have g144 : gi M135 77 31 = gi N 77 31 := (f137.g rfl).trans (rfl)
          exact r_iretI D167_142 rfl (⟨H136, f140, hp142, hp143, by first | (rw [g144]; omega) | rw [g144], Or.inr (Or.inr (Or.inl ⟨(by unfold AB; omega), ⟨by omega, by omega, by rw [← i11]; exact (hp141).of (fun j => ((kr.g rfl).trans (i12 j)).symm)⟩, ⟨x7, by omega, by rw [← i13]; omega, by rw [← i11]; exact (kb1 (by omega)).of (fun i => (i13 i).symm) (fun i => (i12 i).symm)⟩, by omega, fun i => (kr.g rfl).trans (i13 i)⟩))⟩)
    · intro x4 x6 x7 x8 N HN fN i0 i1 i2 i3 i4 i5 i6 i7 i8 i9 i10 i11 i12 i13 i14 i15 i16 i17 i18 i19 i20 i21 i22 i23 i24 i25 i26 i27 i28 i29 i30 hmu
      refine s_blx (lv' := [(0, vR 77), (1, vI a), (2, vI b), (3, vI c), (4, vI x4), (6, vI x6), (7, vI x7), (8, vI x8)]) (st' := [vI 8, vI x8]) B167_186_190 rfl ?_
      refine r_icmp (tgt := 229) (pc' := 193) D167_190 rfl rfl (by unfold inR; omega) (fun (c145 : 8 ≤ x8) => ?_) (fun (c145 : ¬ (8 ≤ x8)) => ?_)
      · refine s_blx (lv' := [(0, vR 77), (1, vI a), (2, vI b), (3, vI c), (4, vI x4), (6, vI x6), (7, vI x7), (8, vI x8)]) (st' := [vR 77]) B167_229_230 rfl ?_
        refine r_gfix (r := 78) (pc' := 233) D167_230 rfl gf_11_13_77 HN.1 ?_
        refine s_blx (lv' := [(0, vR 77), (1, vI a), (2, vI b), (3, vI c), (4, vI x4), (6, vI x6), (7, vI x7), (8, vI x8)]) (st' := [vI a, vI (x7 + 9), vR 78]) B167_233_239 rfl ?_
        refine r_iast (pc' := 240) D167_239 rfl sc_78 HN (by omega) (by unfold inR; omega) (by show s_in (rgK _) _; rw [rk_val (by omega)]; show 0 ≤ a ∧ a ≤ 7; omega) ?_
        intro M146 u147 H148 p149
        have f150 := fN.wr u147 rfl
        have hp151 := i0.wr u147 (by decide)
        have hp152 := i2.w u147 (by omega) HN
        have hp153 := i3.w u147 (by omega) HN
        have kv1 := kuw (j := 144 + 16 * x6) u147 (by omega)
        have kw1 : gi M146 78 (144 + 16 * x6) = a := by rw [show 144 + 16 * x6 = x7 + 9 by omega]; exact p149
        refine s_blx (lv' := [(0, vR 77), (1, vI a), (2, vI b), (3, vI c), (4, vI x4), (6, vI x6), (7, vI x7), (8, vI x8)]) (st' := [vR 77]) B167_240_241 rfl ?_
        refine r_gfix (r := 78) (pc' := 244) D167_241 rfl gf_11_13_77 H148.1 ?_
        refine s_blx (lv' := [(0, vR 77), (1, vI a), (2, vI b), (3, vI c), (4, vI x4), (6, vI x6), (7, vI x7), (8, vI x8)]) (st' := [vI b, vI (x7 + 10), vR 78]) B167_244_250 rfl ?_
        refine r_iast (pc' := 251) D167_250 rfl sc_78 H148 (by omega) (by unfold inR; omega) (by show s_in (rgK _) _; rw [rk_val (by omega)]; show 0 ≤ b ∧ b ≤ 7; omega) ?_
        intro M154 u155 H156 p157
        have f158 := f150.wr u155 rfl
        have hp159 := hp151.wr u155 (by decide)
        have hp160 := hp152.w u155 (by omega) H148
        have hp161 := hp153.w u155 (by omega) H148
        have kv2 := kuw (j := 145 + 16 * x6) u155 (by omega)
        have kw2 : gi M154 78 (145 + 16 * x6) = b := by rw [show 145 + 16 * x6 = x7 + 10 by omega]; exact p157
        refine s_blx (lv' := [(0, vR 77), (1, vI a), (2, vI b), (3, vI c), (4, vI x4), (6, vI x6), (7, vI x7), (8, vI x8)]) (st' := [vR 77]) B167_251_252 rfl ?_
        refine r_gfix (r := 78) (pc' := 255) D167_252 rfl gf_11_13_77 H156.1 ?_
        refine s_blx (lv' := [(0, vR 77), (1, vI a), (2, vI b), (3, vI c), (4, vI x4), (6, vI x6), (7, vI x7), (8, vI x8)]) (st' := [vI c, vI (x7 + 11), vR 78]) B167_255_261 rfl ?_
        refine r_iast (pc' := 262) D167_261 rfl sc_78 H156 (by omega) (by unfold inR; omega) (by show s_in (rgK _) _; rw [rk_val (by omega)]; show 0 ≤ c ∧ c ≤ 7; omega) ?_
        intro M162 u163 H164 p165
        have f166 := f158.wr u163 rfl
        have hp167 := hp159.wr u163 (by decide)
        have hp168 := hp160.w u163 (by omega) H156
        have hp169 := hp161.w u163 (by omega) H156
        have kv3 := kuw (j := 146 + 16 * x6) u163 (by omega)
        have kw3 : gi M162 78 (146 + 16 * x6) = c := by rw [show 146 + 16 * x6 = x7 + 11 by omega]; exact p165
        have kQ := seQ_0 i14 (by omega) (by omega) kv1 kw1 kv2 kw2 kv3 kw3
        rw [i12] at kQ
        refine s_blx (lv' := [(8, vI 0), (0, vR 77), (1, vI a), (2, vI b), (3, vI c), (4, vI x4), (6, vI x6), (7, vI x7)]) (st' := []) B167_262_265 rfl ?_
        refine r_loc (lv' := [(0, vR 77), (6, vI x6), (7, vI x7), (8, vI 0)]) ⟨rfl, rfl, rfl, rfl, trivial⟩ rfl rfl ?_
        have g170 : gi M162 78 469 = gi N 78 469 := (u163.gi_ne (by omega) (Or.inr (by omega))).trans ((u155.gi_ne (by omega) (Or.inr (by omega))).trans ((u147.gi_ne (by omega) (Or.inr (by omega))).trans (rfl)))
        have g171 : gi M162 77 31 = gi N 77 31 := (u163.gi_ne (by omega) (Or.inl (by decide))).trans ((u155.gi_ne (by omega) (Or.inl (by decide))).trans ((u147.gi_ne (by omega) (Or.inl (by decide))).trans (rfl)))
        exact ih.2.2.2 x6 x7 0 M162 H164 f166 (hp168) (hp169) (by omega) (by omega) (by omega) (by omega) (by omega) (kQ) (by omega) (⟨by omega, by omega, by rw [← i12]; exact i0.of (fun j => (i13 j).symm)⟩) (by rw [← i12]; exact i16) (by omega) (by omega) (by omega) (by omega) (by omega) (by omega) (by omega) (by omega) (by omega) (by omega) (by omega) (by omega) (by omega) (by omega) (by omega) (by omega)
      · refine s_blx (lv' := [(0, vR 77), (1, vI a), (2, vI b), (3, vI c), (4, vI x4), (6, vI x6), (7, vI x7), (8, vI x8)]) (st' := [vR 77]) B167_193_194 rfl ?_
        refine r_gfix (r := 78) (pc' := 197) D167_194 rfl gf_11_13_77 HN.1 ?_
        refine s_blx (lv' := [(0, vR 77), (1, vI a), (2, vI b), (3, vI c), (4, vI x4), (6, vI x6), (7, vI x7), (8, vI x8)]) (st' := [vI x4, vI x8, vI ((x7 + 1) + x8), vR 78]) B167_197_208 rfl ?_
        refine r_icmp (tgt := 221) (pc' := 211) D167_208 rfl rfl (by unfold inR; omega) (fun (c172 : x4 ≤ x8) => ?_) (fun (c172 : ¬ (x4 ≤ x8)) => ?_)
        · refine s_blx (lv' := [(0, vR 77), (1, vI a), (2, vI b), (3, vI c), (4, vI x4), (6, vI x6), (7, vI x7), (8, vI x8)]) (st' := [vI 0, vI ((x7 + 1) + x8), vR 78]) B167_221_222 rfl ?_
          refine r_iast (pc' := 223) D167_222 rfl sc_78 HN (by omega) (by unfold inR; omega) (by show s_in (rgK _) _; rw [rk_word (by omega)]; show 0 ≤ 0 ∧ 0 ≤ 29; omega) ?_
          intro M173 u174 H175 p176
          have f177 := fN.wr u174 rfl
          have hp178 := i0.wr u174 (by decide)
          have hp179 := i2.w u174 (by omega) HN
          have hp180 := i3.w u174 (by omega) HN
          have ku222 := u174
          have kS := seP_step i14 u174 p176 (by omega) (by omega) (by first | (rw [if_pos (by omega)]; exact ke217.trans (i13 x8)) | rw [if_neg (by omega)])
          refine s_blx (lv' := [(8, vI (x8 + 1)), (0, vR 77), (1, vI a), (2, vI b), (3, vI c), (4, vI x4), (6, vI x6), (7, vI x7)]) (st' := []) B167_223_226 rfl ?_
          refine r_goto (tgt := 186) D167_226 rfl ?_
          refine r_loc (lv' := [(0, vR 77), (1, vI a), (2, vI b), (3, vI c), (4, vI x4), (6, vI x6), (7, vI x7), (8, vI (x8 + 1))]) ⟨rfl, rfl, rfl, rfl, rfl, rfl, rfl, rfl, trivial⟩ rfl rfl ?_
          have g181 : gi M173 78 469 = gi N 78 469 := (u174.gi_ne (by omega) (Or.inr (by omega))).trans (rfl)
          have g182 : gi M173 77 31 = gi N 77 31 := (u174.gi_ne (by omega) (Or.inl (by decide))).trans (rfl)
          exact ih.2.2.1 x4 x6 x7 (x8 + 1) M173 H175 f177 (hp178) (by omega) (hp179) (hp180) (by omega) (by omega) (by omega) (by omega) (by omega) (by omega) (by omega) (by omega) (by omega) (fun i => by rw [ku222.gi_ne (by omega) (Or.inl (by decide))]; exact i13 i) (kS) (by omega) (i16) (by omega) (by omega) (by omega) (by omega) (by omega) (by omega) (by omega) (by omega) (by omega) (by omega) (by omega) (by omega) (by omega) (by omega) (by omega)
        · refine s_blx (lv' := [(0, vR 77), (1, vI a), (2, vI b), (3, vI c), (4, vI x4), (6, vI x6), (7, vI x7), (8, vI x8)]) (st' := [vR 77, vI ((x7 + 1) + x8), vR 78]) B167_211_212 rfl ?_
          refine r_gfix (r := 95) (pc' := 215) D167_212 rfl gf_11_69_77 HN.1 ?_
          refine s_blx (lv' := [(0, vR 77), (1, vI a), (2, vI b), (3, vI c), (4, vI x4), (6, vI x6), (7, vI x7), (8, vI x8)]) (st' := [vI x8, vR 95, vI ((x7 + 1) + x8), vR 78]) B167_215_217 rfl ?_
          refine r_bald (pc' := 218) D167_217 rfl sc_95 (by decide) HN.1 (by omega) ?_
          intro w183 e184 r185
          have b_w183 := HN.2 95 (x8) (-128) 127 rfl
          rw [← e184] at b_w183; clear r185
          have kta := i0 x8 (by omega) (by omega)
          rw [← e184] at kta
          have ke217 := e184
          refine r_goto (tgt := 222) D167_218 rfl ?_
          refine r_iast (pc' := 223) D167_222 rfl sc_78 HN (by omega) (by unfold inR; omega) (by show s_in (rgK _) _; rw [rk_word (by omega)]; show 0 ≤ w183 ∧ w183 ≤ 29; omega) ?_
          intro M186 u187 H188 p189
          have f190 := fN.wr u187 rfl
          have hp191 := i0.wr u187 (by decide)
          have hp192 := i2.w u187 (by omega) HN
          have hp193 := i3.w u187 (by omega) HN
          have ku222 := u187
          have kS := seP_step i14 u187 p189 (by omega) (by omega) (by first | (rw [if_pos (by omega)]; exact ke217.trans (i13 x8)) | rw [if_neg (by omega)])
          refine s_blx (lv' := [(8, vI (x8 + 1)), (0, vR 77), (1, vI a), (2, vI b), (3, vI c), (4, vI x4), (6, vI x6), (7, vI x7)]) (st' := []) B167_223_226 rfl ?_
          refine r_goto (tgt := 186) D167_226 rfl ?_
          refine r_loc (lv' := [(0, vR 77), (1, vI a), (2, vI b), (3, vI c), (4, vI x4), (6, vI x6), (7, vI x7), (8, vI (x8 + 1))]) ⟨rfl, rfl, rfl, rfl, rfl, rfl, rfl, rfl, trivial⟩ rfl rfl ?_
          have g194 : gi M186 78 469 = gi N 78 469 := (u187.gi_ne (by omega) (Or.inr (by omega))).trans (rfl)
          have g195 : gi M186 77 31 = gi N 77 31 := (u187.gi_ne (by omega) (Or.inl (by decide))).trans (rfl)
          exact ih.2.2.1 x4 x6 x7 (x8 + 1) M186 H188 f190 (hp191) (by omega) (hp192) (hp193) (by omega) (by omega) (by omega) (by omega) (by omega) (by omega) (by omega) (by omega) (by omega) (fun i => by rw [ku222.gi_ne (by omega) (Or.inl (by decide))]; exact i13 i) (kS) (by omega) (i16) (by omega) (by omega) (by omega) (by omega) (by omega) (by omega) (by omega) (by omega) (by omega) (by omega) (by omega) (by omega) (by omega) (by omega) (by omega)
    · intro x6 x7 x8 N HN fN i0 i1 i2 i3 i4 i5 i6 i7 i8 i9 i10 i11 i12 i13 i14 i15 i16 i17 i18 i19 i20 i21 i22 i23 i24 i25 hmu
      refine s_blx (lv' := [(0, vR 77), (6, vI x6), (7, vI x7), (8, vI x8)]) (st' := [vI 4, vI x8]) B167_265_268 rfl ?_
      refine r_icmp (tgt := 291) (pc' := 271) D167_268 rfl rfl (by unfold inR; omega) (fun (c196 : 4 ≤ x8) => ?_) (fun (c196 : ¬ (4 ≤ x8)) => ?_)
      · refine s_blx (lv' := [(0, vR 77), (6, vI x6), (7, vI x7), (8, vI x8)]) (st' := [vR 77]) B167_291_292 rfl ?_
        refine r_gfix (r := 78) (pc' := 295) D167_292 rfl gf_11_13_77 HN.1 ?_
        refine s_blx (lv' := [(0, vR 77), (6, vI x6), (7, vI x7), (8, vI x8)]) (st' := [vI 469, vR 78, vI 469, vR 78]) B167_295_299 rfl ?_
        refine r_iald (pc' := 300) D167_299 rfl sc_78 HN.1 (by omega) ?_
        intro w197 e198 r199
        have b_w197 := HN.2 78 (469) 0 16 (rk_many (by omega))
        rw [← e198] at b_w197; clear r199
        have ke299 := e198
        refine s_blx (lv' := [(0, vR 77), (6, vI x6), (7, vI x7), (8, vI x8)]) (st' := [vI (w197 + 1), vI 469, vR 78]) B167_300_302 rfl ?_
        refine r_iast (pc' := 303) D167_302 rfl sc_78 HN (by omega) (by unfold inR; omega) (by show s_in (rgK _) _; rw [rk_many (by omega)]; show 0 ≤ (w197 + 1) ∧ (w197 + 1) ≤ 16; omega) ?_
        intro M200 u201 H202 p203
        have f204 := fN.wr u201 rfl
        have hp205 := i0.w u201 (by omega) HN
        have hp206 := i1.w u201 (by omega) HN
        have kln : LN M200 := hp205.ln (by rw [p203]; omega)
        have ku302 := u201
        have kp302 := p203
        refine s_blx (lv' := [(0, vR 77), (6, vI x6), (7, vI x7), (8, vI x8)]) (st' := [vI x6, vR 77]) B167_303_306 rfl ?_
        refine r_vI (c := 77) (args := [vI x6]) (rest := []) (pc' := 309) D167_306 rfl ck_11_virtual_131 TE149 rfl (Nat.le_of_ble_eq_true rfl) ⟨Nat.le_of_ble_eq_true rfl, Nat.le_of_ble_eq_true rfl⟩ sc_77 ⟨rfl, by decide⟩ H202.1 (dp_0 hd rfl) (k149 E (dp_n hd rfl) H202 x6 (by omega)) ?_
        intro v207 M208 q212
        obtain ⟨H209, f210, q211⟩ := q212
        have f213 := f204.tr (f210.up rfl)
        have hp214 := hp205.fr f210 (by decide)
        have hp215 := hp206.fr f210 (by decide)
        have hp216 := kln.fr f210 (by decide)
        have kr := f210
        have g217 : gi M208 77 31 = gi N 77 31 := (f210.g rfl).trans ((u201.gi_ne (by decide) (Or.inl (by decide))).trans (rfl))
        exact r_iretI D167_309 rfl (⟨H209, f213, hp216, hp215, by first | (rw [g217]; omega) | rw [g217], Or.inr (Or.inr (Or.inr (Or.inr ⟨(by unfold AB; omega), i9, i10.no (by omega), by omega, by omega, seR_of i7 (by omega) i8 (by omega) ke299 ku302 kp302 (fun j => kr.g rfl)⟩)))⟩)
      · refine s_blx (lv' := [(0, vR 77), (6, vI x6), (7, vI x7), (8, vI x8)]) (st' := [vR 77]) B167_271_272 rfl ?_
        refine r_gfix (r := 78) (pc' := 275) D167_272 rfl gf_11_13_77 HN.1 ?_
        refine s_blx (lv' := [(0, vR 77), (6, vI x6), (7, vI x7), (8, vI x8)]) (st' := [vI 1, vI ((x7 + 12) + x8), vR 78]) B167_275_284 rfl ?_
        refine r_iast (pc' := 285) D167_284 rfl sc_78 HN (by omega) (by unfold inR; omega) (by show s_in (rgK _) _; rw [rk_wgt (by omega)]; show 0 ≤ 1 ∧ 1 ≤ 100; omega) ?_
        intro M218 u219 H220 p221
        have f222 := fN.wr u219 rfl
        have hp223 := i0.w u219 (by omega) HN
        have hp224 := i1.w u219 (by omega) HN
        have kS2 := seQ_step i7 u219 p221 (by omega) (by omega)
        refine s_blx (lv' := [(8, vI (x8 + 1)), (0, vR 77), (6, vI x6), (7, vI x7)]) (st' := []) B167_285_288 rfl ?_
        refine r_goto (tgt := 265) D167_288 rfl ?_
        refine r_loc (lv' := [(0, vR 77), (6, vI x6), (7, vI x7), (8, vI (x8 + 1))]) ⟨rfl, rfl, rfl, rfl, trivial⟩ rfl rfl ?_
        have g225 : gi M218 78 469 = gi N 78 469 := (u219.gi_ne (by omega) (Or.inr (by omega))).trans (rfl)
        have g226 : gi M218 77 31 = gi N 77 31 := (u219.gi_ne (by omega) (Or.inl (by decide))).trans (rfl)
        exact ih.2.2.2 x6 x7 (x8 + 1) M218 H220 f222 (hp223) (hp224) (by omega) (by omega) (by omega) (by omega) (by omega) (kS2) (by omega) (i9) (i10) (by omega) (by omega) (by omega) (by omega) (by omega) (by omega) (by omega) (by omega) (by omega) (by omega) (by omega) (by omega) (by omega) (by omega) (by omega) (by omega)
set_option maxRecDepth 4000 in
set_option maxHeartbeats 4000000 in
theorem k167n {base : Nat} {X : Nat → Option mC} {G : Nat → Value} (E : EnvOK base X G) {d : Nat} (hd : 2 ≤ d) {M : mH} (H : HI base M) (a : Int) (b : Int) (c : Int) (h0 : LN M) (h1 : GK M) (h2 : -2147483648 ≤ a ∧ a ≤ 2147483647) (h3 : -2147483648 ≤ b ∧ b ≤ 2147483647) (h4 : -2147483648 ≤ c ∧ c ≤ 2147483647) : sOk base X G d T167 [vR 77, vI a, vI b, vI c] M (pI (fun v M' => HI base M' ∧ Fr [(77, 1), (77, 32), (78, 0)] M M' ∧ (LN M') ∧ (GK M') ∧ (gi M' 77 31 = 0) ∧ (SnR v a b c M M'))) := by
  have f0 : Fr [(77, 1), (77, 32), (78, 0)] M M := Fr.rf
  refine sOk.of (show sRn base X G d T167 0 [(0, vR 77), (1, vI a), (2, vI b), (3, vI c)] [] M _ from ?_)
  refine s_blx (lv' := [(0, vR 77), (1, vI a), (2, vI b), (3, vI c)]) (st' := [vR 77]) B167_0_1 rfl ?_
  refine r_gint (ki := 31) (pc' := 4) D167_1 rfl gf_11_151_77 rfl H.1 ?_
  intro w1 e2 r3
  have b_w1 := H.2 77 (31) 0 400 rfl
  rw [← e2] at b_w1; clear r3
  refine s_blx (lv' := [(4, vI w1), (0, vR 77), (1, vI a), (2, vI b), (3, vI c)]) (st' := [vI 0, vR 77]) B167_4_8 rfl ?_
  refine r_pint (ki := 31) (pc' := 11) D167_8 rfl pf_11_151_77 rfl H (by unfold inR; omega) (show 0 ≤ 0 ∧ 0 ≤ 400 by omega) ?_
  intro M4 u5 H6 p7
  have f8 := f0.wr u5 rfl
  have hp9 := h0.wr u5 (by decide)
  have hp10 := h1.wr u5 (by decide)
  have kt0 := u5
  refine s_blx (lv' := [(4, vI w1), (0, vR 77), (1, vI a), (2, vI b), (3, vI c)]) (st' := [vI 7, vI 0, vI a]) B167_11_15 rfl ?_
  refine r_sIp (args := [vI a, vI 0, vI 7]) (rest := []) (pc' := 18) D167_15 rfl ck_11_static_123 TE147 rfl (Nat.le_of_ble_eq_true rfl) ⟨Nat.le_of_ble_eq_true rfl, Nat.le_of_ble_eq_true rfl⟩ (by decide) (dp_0 hd rfl) (k147 E (dp_n hd rfl) H6 a 0 7 (by omega) (by omega) (by omega)) ?_
  intro v11 q16
  obtain ⟨q13, q14, q15⟩ := q16
  refine r_ifc (tgt := 41) (pc' := 21) D167_18 rfl rfl (by unfold inR; omega) (fun (c17 : v11 = 0) => ?_) (fun (c17 : ¬ (v11 = 0)) => ?_)
  · refine s_blx (lv' := [(4, vI w1), (0, vR 77), (1, vI a), (2, vI b), (3, vI c)]) (st' := [vI (-1), vR 77]) B167_41_43 rfl ?_
    refine r_vI (c := 77) (args := [vI (-1)]) (rest := []) (pc' := 46) D167_43 rfl ck_11_virtual_127 TE148 rfl (Nat.le_of_ble_eq_true rfl) ⟨Nat.le_of_ble_eq_true rfl, Nat.le_of_ble_eq_true rfl⟩ sc_77 ⟨rfl, by decide⟩ H6.1 (dp_0 hd rfl) (k148 E (dp_n hd rfl) H6 (-1) (by omega)) ?_
    intro v18 M19 q23
    obtain ⟨H20, f21, q22⟩ := q23
    have f24 := f8.tr (f21.up rfl)
    have hp25 := hp9.fr f21 (by decide)
    have hp26 := hp10.fr f21 (by decide)
    have kr := f21
    have g27 : gi M19 77 31 = 0 := (f21.g rfl).trans (p7)
    exact r_iretI D167_46 rfl (⟨H20, f24, hp25, hp26, by first | (rw [g27]; omega) | rw [g27], Or.inl ⟨fun h => by unfold AB at h; omega, by omega, fun i => by rw [kr.g rfl, kt0.gi_ne (by decide) (Or.inl (by decide))]⟩⟩)
  · refine s_blx (lv' := [(4, vI w1), (0, vR 77), (1, vI a), (2, vI b), (3, vI c)]) (st' := [vI 7, vI 0, vI b]) B167_21_25 rfl ?_
    refine r_sIp (args := [vI b, vI 0, vI 7]) (rest := []) (pc' := 28) D167_25 rfl ck_11_static_123 TE147 rfl (Nat.le_of_ble_eq_true rfl) ⟨Nat.le_of_ble_eq_true rfl, Nat.le_of_ble_eq_true rfl⟩ (by decide) (dp_0 hd rfl) (k147 E (dp_n hd rfl) H6 b 0 7 (by omega) (by omega) (by omega)) ?_
    intro v28 q33
    obtain ⟨q30, q31, q32⟩ := q33
    refine r_ifc (tgt := 41) (pc' := 31) D167_28 rfl rfl (by unfold inR; omega) (fun (c34 : v28 = 0) => ?_) (fun (c34 : ¬ (v28 = 0)) => ?_)
    · refine s_blx (lv' := [(4, vI w1), (0, vR 77), (1, vI a), (2, vI b), (3, vI c)]) (st' := [vI (-1), vR 77]) B167_41_43 rfl ?_
      refine r_vI (c := 77) (args := [vI (-1)]) (rest := []) (pc' := 46) D167_43 rfl ck_11_virtual_127 TE148 rfl (Nat.le_of_ble_eq_true rfl) ⟨Nat.le_of_ble_eq_true rfl, Nat.le_of_ble_eq_true rfl⟩ sc_77 ⟨rfl, by decide⟩ H6.1 (dp_0 hd rfl) (k148 E (dp_n hd rfl) H6 (-1) (by omega)) ?_
      intro v35 M36 q40
      obtain ⟨H37, f38, q39⟩ := q40
      have f41 := f8.tr (f38.up rfl)
      have hp42 := hp9.fr f38 (by decide)
      have hp43 := hp10.fr f38 (by decide)
      have kr := f38
      have g44 : gi M36 77 31 = 0 := (f38.g rfl).trans (p7)
      exact r_iretI D167_46 rfl (⟨H37, f41, hp42, hp43, by first | (rw [g44]; omega) | rw [g44], Or.inl ⟨fun h => by unfold AB at h; omega, by omega, fun i => by rw [kr.g rfl, kt0.gi_ne (by decide) (Or.inl (by decide))]⟩⟩)
    · refine s_blx (lv' := [(4, vI w1), (0, vR 77), (1, vI a), (2, vI b), (3, vI c)]) (st' := [vI 7, vI 0, vI c]) B167_31_35 rfl ?_
      refine r_sIp (args := [vI c, vI 0, vI 7]) (rest := []) (pc' := 38) D167_35 rfl ck_11_static_123 TE147 rfl (Nat.le_of_ble_eq_true rfl) ⟨Nat.le_of_ble_eq_true rfl, Nat.le_of_ble_eq_true rfl⟩ (by decide) (dp_0 hd rfl) (k147 E (dp_n hd rfl) H6 c 0 7 (by omega) (by omega) (by omega)) ?_
      intro v45 q50
      obtain ⟨q47, q48, q49⟩ := q50
      refine r_ifc (tgt := 47) (pc' := 41) D167_38 rfl rfl (by unfold inR; omega) (fun (c51 : v45 ≠ 0) => ?_) (fun (c51 : ¬ (v45 ≠ 0)) => ?_)
      · refine s_blx (lv' := [(4, vI w1), (0, vR 77), (1, vI a), (2, vI b), (3, vI c)]) (st' := [vI 8, vI 1, vI w1]) B167_47_52 rfl ?_
        refine r_sIp (args := [vI w1, vI 1, vI 8]) (rest := []) (pc' := 55) D167_52 rfl ck_11_static_123 TE147 rfl (Nat.le_of_ble_eq_true rfl) ⟨Nat.le_of_ble_eq_true rfl, Nat.le_of_ble_eq_true rfl⟩ (by decide) (dp_0 hd rfl) (k147 E (dp_n hd rfl) H6 w1 1 8 (by omega) (by omega) (by omega)) ?_
        intro v52 q57
        obtain ⟨q54, q55, q56⟩ := q57
        refine s_blx (lv' := [(6, vI 0), (5, vI v52), (4, vI w1), (0, vR 77), (1, vI a), (2, vI b), (3, vI c)]) (st' := []) B167_55_60 rfl ?_
        refine r_loc (lv' := [(0, vR 77), (1, vI a), (2, vI b), (3, vI c), (4, vI w1), (5, vI v52), (6, vI 0)]) ⟨rfl, rfl, rfl, rfl, rfl, rfl, rfl, trivial⟩ rfl rfl ?_
        have g58 : gi M4 77 31 = 0 := p7
        exact (L_k167n E hd H a b c h0 h1 h2 h3 h4 (((400 - 0) * 1 + 31 : Int) + 1).toNat).1 w1 v52 0 M4 H6 f8 (fun _ => TA.zero) (by omega) (by omega) (by omega) (by omega) (hp9) (hp10) (by omega) (by omega) (by omega) (by omega) (fun h hr => by have p := hr.1; have q := hr.2.1; omega) (by omega) (fun i => kt0.gi_ne (by decide) (Or.inl (by decide))) (fun i => kt0.gi_ne (by decide) (Or.inl (by decide))) (by omega) (by omega) (by omega) (by omega) (by omega) (by omega) (by omega) (by omega) (by omega) (by omega) (by omega) (by omega) (by omega)
      · refine s_blx (lv' := [(4, vI w1), (0, vR 77), (1, vI a), (2, vI b), (3, vI c)]) (st' := [vI (-1), vR 77]) B167_41_43 rfl ?_
        refine r_vI (c := 77) (args := [vI (-1)]) (rest := []) (pc' := 46) D167_43 rfl ck_11_virtual_127 TE148 rfl (Nat.le_of_ble_eq_true rfl) ⟨Nat.le_of_ble_eq_true rfl, Nat.le_of_ble_eq_true rfl⟩ sc_77 ⟨rfl, by decide⟩ H6.1 (dp_0 hd rfl) (k148 E (dp_n hd rfl) H6 (-1) (by omega)) ?_
        intro v59 M60 q64
        obtain ⟨H61, f62, q63⟩ := q64
        have f65 := f8.tr (f62.up rfl)
        have hp66 := hp9.fr f62 (by decide)
        have hp67 := hp10.fr f62 (by decide)
        have kr := f62
        have g68 : gi M60 77 31 = 0 := (f62.g rfl).trans (p7)
        exact r_iretI D167_46 rfl (⟨H61, f65, hp66, hp67, by first | (rw [g68]; omega) | rw [g68], Or.inl ⟨fun h => by unfold AB at h; omega, by omega, fun i => by rw [kr.g rfl, kt0.gi_ne (by decide) (Or.inl (by decide))]⟩⟩)
set_option maxRecDepth 4000 in
theorem k169n {base : Nat} {X : Nat → Option mC} {G : Nat → Value} (E : EnvOK base X G) {d : Nat} (hd : 2 ≤ d) {M : mH} (H : HI base M) (s : Int) (i : Int) (K : Int → Int) (h0 : KK K M) (h1 : -2147483648 ≤ s ∧ s ≤ 2147483647) (h2 : -2147483648 ≤ i ∧ i ≤ 2147483647) : sOk base X G d T169 [vR 77, vI s, vI i] M (pI (fun v M' => M' = M ∧ (-2147483648 ≤ v ∧ v ≤ 2147483647) ∧ (0 ≤ s ∧ s < K 469 ∧ i = -1 → v = K (135 + 16 * s)) ∧ (0 ≤ s ∧ s < K 469 ∧ 0 ≤ i ∧ i < K (135 + 16 * s) → v = K (136 + 16 * s + i)) ∧ ((s < 0 ∨ K 469 ≤ s ∨ i < -1 ∨ K (135 + 16 * s) ≤ i) → v = -1))) := by
  refine sOk.of (show sRn base X G d T169 0 [(0, vR 77), (1, vI s), (2, vI i)] [] M _ from ?_)
  refine s_blx (lv' := [(0, vR 77), (1, vI s), (2, vI i)]) (st' := [vI s, vR 77]) B169_0_2 rfl ?_
  refine r_vIp (c := 77) (args := [vI s]) (rest := []) (pc' := 5) D169_2 rfl ck_11_virtual_134 TE154 rfl (Nat.le_of_ble_eq_true rfl) ⟨Nat.le_of_ble_eq_true rfl, Nat.le_of_ble_eq_true rfl⟩ sc_77 ⟨rfl, by decide⟩ H.1 (dp_0 hd rfl) (k154n E (dp_n hd rfl) H s K (h0) (by omega)) ?_
  intro v1 q6
  obtain ⟨q3, q4, q5⟩ := q6
  refine r_ifc (tgt := 23) (pc' := 8) D169_5 rfl rfl (by unfold inR; omega) (fun (c7 : v1 = 0) => ?_) (fun (c7 : ¬ (v1 = 0)) => ?_)
  · refine s_blx (lv' := [(0, vR 77), (1, vI s), (2, vI i)]) (st' := [vI (-1)]) B169_23_24 rfl ?_
    exact r_iretI D169_24 rfl (⟨rfl, by omega, by omega, by omega, by omega⟩)
  · refine s_blx (lv' := [(0, vR 77), (1, vI s), (2, vI i)]) (st' := [vI s, vR 77, vI (-1), vI i]) B169_8_12 rfl ?_
    refine r_vIp (c := 77) (args := [vI s]) (rest := [vI (-1), vI i]) (pc' := 15) D169_12 rfl ck_11_virtual_144 TE156 rfl (Nat.le_of_ble_eq_true rfl) ⟨Nat.le_of_ble_eq_true rfl, Nat.le_of_ble_eq_true rfl⟩ sc_77 ⟨rfl, by decide⟩ H.1 (dp_0 hd rfl) (k156f E (dp_n hd rfl) H s K (h0) (by omega)) ?_
    intro v8 q12
    obtain ⟨q10, q11⟩ := q12
    refine s_blx (lv' := [(0, vR 77), (1, vI s), (2, vI i)]) (st' := [vI (v8 - 1), vI (-1), vI i]) B169_15_17 rfl ?_
    refine r_sIp (args := [vI i, vI (-1), vI (v8 - 1)]) (rest := []) (pc' := 20) D169_17 rfl ck_11_static_123 TE147 rfl (Nat.le_of_ble_eq_true rfl) ⟨Nat.le_of_ble_eq_true rfl, Nat.le_of_ble_eq_true rfl⟩ (by decide) (dp_0 hd rfl) (k147 E (dp_n hd rfl) H i (-1) (v8 - 1) (by omega) (by omega) (by omega)) ?_
    intro v13 q18
    obtain ⟨q15, q16, q17⟩ := q18
    refine r_ifc (tgt := 25) (pc' := 23) D169_20 rfl rfl (by unfold inR; omega) (fun (c19 : v13 ≠ 0) => ?_) (fun (c19 : ¬ (v13 ≠ 0)) => ?_)
    · refine s_blx (lv' := [(0, vR 77), (1, vI s), (2, vI i)]) (st' := [vI (-1), vI i]) B169_25_27 rfl ?_
      refine r_icmp (tgt := 38) (pc' := 30) D169_27 rfl rfl (by unfold inR; omega) (fun (c20 : i ≠ (-1)) => ?_) (fun (c20 : ¬ (i ≠ (-1))) => ?_)
      · refine s_blx (lv' := [(0, vR 77), (1, vI s), (2, vI i)]) (st' := [vI i, vI s, vR 77]) B169_38_41 rfl ?_
        refine r_vIp (c := 77) (args := [vI s, vI i]) (rest := []) (pc' := 44) D169_41 rfl ck_11_virtual_147 TE157 rfl (Nat.le_of_ble_eq_true rfl) ⟨Nat.le_of_ble_eq_true rfl, Nat.le_of_ble_eq_true rfl⟩ sc_77 ⟨rfl, by decide⟩ H.1 (dp_0 hd rfl) (k157f E (dp_n hd rfl) H s i K (h0) (by omega) (by omega)) ?_
        intro v21 q25
        obtain ⟨q23, q24⟩ := q25
        have kgv : v21 = K (136 + 16 * s + i) := by rw [q24]; congr 1; omega
        exact r_iretI D169_44 rfl (⟨rfl, by omega, by omega, by omega, by omega⟩)
      · refine s_blx (lv' := [(0, vR 77), (1, vI s), (2, vI i)]) (st' := [vI s, vR 77]) B169_30_32 rfl ?_
        refine r_vIp (c := 77) (args := [vI s]) (rest := []) (pc' := 35) D169_32 rfl ck_11_virtual_144 TE156 rfl (Nat.le_of_ble_eq_true rfl) ⟨Nat.le_of_ble_eq_true rfl, Nat.le_of_ble_eq_true rfl⟩ sc_77 ⟨rfl, by decide⟩ H.1 (dp_0 hd rfl) (k156f E (dp_n hd rfl) H s K (h0) (by omega)) ?_
        intro v26 q30
        obtain ⟨q28, q29⟩ := q30
        refine r_goto (tgt := 44) D169_35 rfl ?_
        exact r_iretI D169_44 rfl (⟨rfl, by omega, by omega, by omega, by omega⟩)
    · refine s_blx (lv' := [(0, vR 77), (1, vI s), (2, vI i)]) (st' := [vI (-1)]) B169_23_24 rfl ?_
      exact r_iretI D169_24 rfl (⟨rfl, by omega, by omega, by omega, by omega⟩)
set_option maxRecDepth 4000 in
set_option maxHeartbeats 4000000 in
theorem L_k230n {base : Nat} {X : Nat → Option mC} {G : Nat → Value} (E : EnvOK base X G) {d : Nat} (hd : 60 ≤ d) {M : mH} (H : HI base M) (h0 : WD M) (h1 : LN M) (h2 : GK M) : ∀ mz : Nat, (∀ (x1 x2 tk : Int) (N : mH), HI base N → Fr [(77, 1), (77, 32), (77, 33), (77, 37), (77, 38), (77, 39), (77, 40), (78, 0), (97, 0), (98, 0), (99, 0)] M N → (AC 97 0 tk N) → (gi N 77 36 = tk) → (GM x1 N) → (LN N) → (gi N 78 (475 + x1) = tk) → (gi N 78 471 = x1) → (∀ j : Int, 0 ≤ j → j < x2 → gi N 78 (483 + 400 * x1 + j) = gi N 97 j) → (0 ≤ x1 ∧ x1 ≤ 7) → (0 ≤ x2 ∧ x2 ≤ 400) → (0 ≤ tk ∧ tk ≤ 400) → (x2 ≤ tk) → (gi N 77 31 = 0) → (KN (gi M 78) N) → (0 ≤ x1) → (x1 ≤ 7) → (0 ≤ x2) → (x2 ≤ 400) → (400 - x2) * 1 + 0 < (mz : Int) → sRn base X G d T230 64 [(0, vR 77), (1, vI x1), (2, vI x2)] [] N (s_Q base (pI (fun v M' => HI base M' ∧ Fr [(77, 1), (77, 32), (77, 33), (77, 37), (77, 38), (77, 39), (77, 40), (78, 0), (97, 0), (98, 0), (99, 0)] M M' ∧ (LN M') ∧ (GK M') ∧ (gi M' 77 31 = 0) ∧ (KN (gi M 78) M'))))) := by
  have f0 : Fr [(77, 1), (77, 32), (77, 33), (77, 37), (77, 38), (77, 39), (77, 40), (78, 0), (97, 0), (98, 0), (99, 0)] M M := Fr.rf
  intro mz
  induction mz with
  | zero => exact fun x1 x2 tk N _ _ z0 z1 z2 z3 z4 z5 z6 z7 z8 z9 z10 z11 z12 z13 z14 z15 z16 z17 => by omega
  | succ mz ih =>
    intro x1 x2 tk N HN fN i0 i1 i2 i3 i4 i5 i6 i7 i8 i9 i10 i11 i12 i13 i14 i15 i16 hmu
    refine s_blx (lv' := [(0, vR 77), (1, vI x1), (2, vI x2)]) (st' := [vR 77, vI x2]) B230_64_66 rfl ?_
    refine r_gint (ki := 36) (pc' := 69) D230_66 rfl gf_11_305_77 rfl HN.1 ?_
    intro w72 e73 r74
    have e75 : tk = w72 := (e73.trans (i1)).symm
    subst e75
    refine r_icmp (tgt := 122) (pc' := 72) D230_69 rfl rfl (by unfold inR; omega) (fun (c76 : tk ≤ x2) => ?_) (fun (c76 : ¬ (tk ≤ x2)) => ?_)
    · refine s_blx (lv' := [(0, vR 77), (1, vI x1), (2, vI x2)]) (st' := [vR 77]) B230_122_123 rfl ?_
      refine r_gfix (r := 78) (pc' := 126) D230_123 rfl gf_11_13_77 HN.1 ?_
      refine s_blx (lv' := [(0, vR 77), (1, vI x1), (2, vI x2)]) (st' := [vI 471, vR 78, vI 471, vR 78]) B230_126_130 rfl ?_
      refine r_iald (pc' := 131) D230_130 rfl sc_78 HN.1 (by omega) ?_
      intro w77 e78 r79
      have e80 : x1 = w77 := (e78.trans (i5)).symm
      subst e80
      refine s_blx (lv' := [(0, vR 77), (1, vI x1), (2, vI x2)]) (st' := [vI (x1 + 1), vI 471, vR 78]) B230_131_133 rfl ?_
      refine r_iast (pc' := 134) D230_133 rfl sc_78 HN (by omega) (by unfold inR; omega) (by show s_in (rgK _) _; rw [rk_told (by omega)]; show 0 ≤ (x1 + 1) ∧ (x1 + 1) ≤ 8; omega) ?_
      intro M81 u82 H83 p84
      have f85 := fN.wr u82 rfl
      have hp86 := i0.wr u82 (by decide)
      have hp87 := i3.w u82 (by omega) HN
      have hp88 := i12.out u82 (by omega) HN
      have kgd := ((i2.done i4 i0 (fun j a b => i6 j a (by omega))).w u82 (by omega) HN).gk p84
      refine s_blx (lv' := [(0, vR 77), (1, vI x1), (2, vI x2)]) (st' := [vI x1, vR 77]) B230_134_136 rfl ?_
      refine r_vI (c := 77) (args := [vI x1]) (rest := []) (pc' := 139) D230_136 rfl ck_11_virtual_131 TE149 rfl (Nat.le_of_ble_eq_true rfl) ⟨Nat.le_of_ble_eq_true rfl, Nat.le_of_ble_eq_true rfl⟩ sc_77 ⟨rfl, by decide⟩ H83.1 (dp_0 hd rfl) (k149 E (dp_n hd rfl) H83 x1 (by omega)) ?_
      intro v89 M90 q94
      obtain ⟨H91, f92, q93⟩ := q94
      have f95 := f85.tr (f92.up rfl)
      have hp96 := hp86.fr f92 (by decide)
      have hp97 := hp87.fr f92 (by decide)
      have hp98 := hp88.fr f92 (by decide)
      have hp99 := kgd.fr f92 (by decide)
      have g100 : gi M90 77 31 = gi N 77 31 := (f92.g rfl).trans ((u82.gi_ne (by decide) (Or.inl (by decide))).trans (rfl))
      exact r_iretI D230_139 rfl (⟨H91, f95, hp97, hp99, by first | (rw [g100]; omega) | rw [g100], hp98⟩)
    · refine s_blx (lv' := [(0, vR 77), (1, vI x1), (2, vI x2)]) (st' := [vR 77]) B230_72_73 rfl ?_
      refine r_gfix (r := 78) (pc' := 76) D230_73 rfl gf_11_13_77 HN.1 ?_
      refine s_blx (lv' := [(0, vR 77), (1, vI x1), (2, vI x2)]) (st' := [vR 77, vI ((483 + (400 * x1)) + x2), vR 78]) B230_76_88 rfl ?_
      refine r_gfix (r := 97) (pc' := 91) D230_88 rfl gf_11_78_77 HN.1 ?_
      refine s_blx (lv' := [(0, vR 77), (1, vI x1), (2, vI x2)]) (st' := [vI x2, vR 97, vI ((483 + (400 * x1)) + x2), vR 78]) B230_91_92 rfl ?_
      refine r_iald (pc' := 93) D230_92 rfl sc_97 HN.1 (by omega) ?_
      intro w101 e102 r103
      unfold inR at r103
      have ke := e102
      refine r_iast (pc' := 94) D230_93 rfl sc_78 HN (by omega) (by unfold inR; omega) (by show s_in (rgK _) _; rw [rk_no (by omega)]; trivial) ?_
      intro M104 u105 H106 p107
      have f108 := fN.wr u105 rfl
      have hp109 := i0.wr u105 (by decide)
      have hp110 := i2.w u105 (by omega) HN
      have hp111 := i3.w u105 (by omega) HN
      have hp112 := i12.out u105 (by omega) HN
      have ku1 := u105
      have kp1 := p107
      refine s_blx (lv' := [(0, vR 77), (1, vI x1), (2, vI x2)]) (st' := [vR 77]) B230_94_95 rfl ?_
      refine r_gfix (r := 78) (pc' := 98) D230_95 rfl gf_11_13_77 H106.1 ?_
      refine s_blx (lv' := [(0, vR 77), (1, vI x1), (2, vI x2)]) (st' := [vR 77, vI ((3683 + (400 * x1)) + x2), vR 78]) B230_98_110 rfl ?_
      refine r_gfix (r := 98) (pc' := 113) D230_110 rfl gf_11_81_77 H106.1 ?_
      refine s_blx (lv' := [(0, vR 77), (1, vI x1), (2, vI x2)]) (st' := [vI x2, vR 98, vI ((3683 + (400 * x1)) + x2), vR 78]) B230_113_114 rfl ?_
      refine r_iald (pc' := 115) D230_114 rfl sc_98 H106.1 (by omega) ?_
      intro w113 e114 r115
      unfold inR at r115
      refine r_iast (pc' := 116) D230_115 rfl sc_78 H106 (by omega) (by unfold inR; omega) (by show s_in (rgK _) _; rw [rk_no (by omega)]; trivial) ?_
      intro M116 u117 H118 p119
      have f120 := f108.wr u117 rfl
      have hp121 := hp109.wr u117 (by decide)
      have hp122 := hp110.w u117 (by omega) H106
      have hp123 := hp111.w u117 (by omega) H106
      have hp124 := hp112.out u117 (by omega) H106
      have ku2 := u117
      have k475 : gi M116 78 (475 + x1) = tk := by rw [ku2.gi_ne (by omega) (Or.inr (by omega)), ku1.gi_ne (by omega) (Or.inr (by omega))]; exact i4
      have kA : gi M116 78 (483 + 400 * x1 + x2) = gi M116 97 x2 := by rw [ku2.gi_ne (by omega) (Or.inr (by omega)), kp1, ke, ku2.gi_ne (by omega) (Or.inl (by decide)), ku1.gi_ne (by omega) (Or.inl (by decide))]
      have kR : ∀ j : Int, 0 ≤ j → j < x2 → gi M116 78 (483 + 400 * x1 + j) = gi M116 97 j := fun j h1 h2 => by rw [ku2.gi_ne (by omega) (Or.inr (by omega)), ku1.gi_ne (by omega) (Or.inr (by omega)), i6 j h1 h2, ku2.gi_ne (by omega) (Or.inl (by decide)), ku1.gi_ne (by omega) (Or.inl (by decide))]
      refine s_blx (lv' := [(2, vI (x2 + 1)), (0, vR 77), (1, vI x1)]) (st' := []) B230_116_119 rfl ?_
      refine r_goto (tgt := 64) D230_119 rfl ?_
      refine r_loc (lv' := [(0, vR 77), (1, vI x1), (2, vI (x2 + 1))]) ⟨rfl, rfl, rfl, trivial⟩ rfl rfl ?_
      have g125 : gi M116 77 36 = tk := (u117.gi_ne (by omega) (Or.inl (by decide))).trans ((u105.gi_ne (by omega) (Or.inl (by decide))).trans (i1))
      have g126 : gi M116 78 471 = x1 := (u117.gi_ne (by omega) (Or.inr (by omega))).trans ((u105.gi_ne (by omega) (Or.inr (by omega))).trans (i5))
      have g127 : gi M116 77 31 = gi N 77 31 := (u117.gi_ne (by omega) (Or.inl (by decide))).trans ((u105.gi_ne (by omega) (Or.inl (by decide))).trans (rfl))
      exact ih x1 (x2 + 1) tk M116 H118 f120 (hp121) (by omega) (hp122) (hp123) (by omega) (by omega) (fun j h1 h2 => if e : j = x2 then (by rw [e]; exact kA) else (kR j h1 (by omega))) (by omega) (by omega) (by omega) (by omega) (by omega) (hp124) (by omega) (by omega) (by omega) (by omega) (by omega)
set_option maxRecDepth 4000 in
set_option maxHeartbeats 4000000 in
theorem k230n {base : Nat} {X : Nat → Option mC} {G : Nat → Value} (E : EnvOK base X G) {d : Nat} (hd : 60 ≤ d) {M : mH} (H : HI base M) (h0 : WD M) (h1 : LN M) (h2 : GK M) : sOk base X G d T230 [vR 77] M (pI (fun v M' => HI base M' ∧ Fr [(77, 1), (77, 32), (77, 33), (77, 37), (77, 38), (77, 39), (77, 40), (78, 0), (97, 0), (98, 0), (99, 0)] M M' ∧ (LN M') ∧ (GK M') ∧ (gi M' 77 31 = 0) ∧ (KN (gi M 78) M'))) := by
  have f0 : Fr [(77, 1), (77, 32), (77, 33), (77, 37), (77, 38), (77, 39), (77, 40), (78, 0), (97, 0), (98, 0), (99, 0)] M M := Fr.rf
  refine sOk.of (show sRn base X G d T230 0 [(0, vR 77)] [] M _ from ?_)
  refine s_blx (lv' := [(0, vR 77)]) (st' := [vR 77]) B230_0_1 rfl ?_
  refine r_gfix (r := 78) (pc' := 4) D230_1 rfl gf_11_13_77 H.1 ?_
  refine s_blx (lv' := [(0, vR 77)]) (st' := [vI 471, vR 78]) B230_4_7 rfl ?_
  refine r_iald (pc' := 8) D230_7 rfl sc_78 H.1 (by omega) ?_
  intro w1 e2 r3
  have b_w1 := H.2 78 (471) 0 8 (rk_told (by omega))
  rw [← e2] at b_w1; clear r3
  refine s_blx (lv' := [(0, vR 77)]) (st' := [vI 8, vI w1]) B230_8_10 rfl ?_
  refine r_icmp (tgt := 25) (pc' := 13) D230_10 rfl rfl (by unfold inR; omega) (fun (c4 : w1 ≠ 8) => ?_) (fun (c4 : ¬ (w1 ≠ 8)) => ?_)
  · refine s_blx (lv' := [(0, vR 77)]) (st' := [vR 77]) B230_25_26 rfl ?_
    refine r_vI (c := 77) (args := []) (rest := []) (pc' := 29) D230_26 rfl ck_11_virtual_372 TE229 rfl (Nat.le_of_ble_eq_true rfl) ⟨Nat.le_of_ble_eq_true rfl, Nat.le_of_ble_eq_true rfl⟩ sc_77 ⟨rfl, by decide⟩ H.1 (dp_0 hd rfl) (k229e E (dp_n hd rfl) H (h0)) ?_
    intro v5 M6 q13
    obtain ⟨H7, f8, q9, q10, q11, q12⟩ := q13
    have f14 := f0.tr (f8.up rfl)
    have hp15 := h1.fr f8 (by decide)
    have hp16 := h2.fr f8 (by decide)
    have hp17 := KN.rf.fr f8 (by decide)
    obtain ⟨t18, ht19⟩ : ∃ q, q = gi M6 77 36 := ⟨_, rfl⟩
    have b_t18 := H7.2 77 36 0 400 rfl
    rw [← ht19] at b_t18
    obtain ⟨t20, ht21⟩ : ∃ q, q = gi M6 77 31 := ⟨_, rfl⟩
    have b_t20 := H7.2 77 31 0 400 rfl
    rw [← ht21] at b_t20
    rw [← ht19] at q10
    rw [← ht19] at q11
    rw [← ht21] at q12
    have kac := q10; clear q10
    refine r_ifc (tgt := 39) (pc' := 32) D230_29 rfl rfl (by unfold inR; omega) (fun (c22 : v5 ≠ 0) => ?_) (fun (c22 : ¬ (v5 ≠ 0)) => ?_)
    · refine s_blx (lv' := [(0, vR 77)]) (st' := [vR 77]) B230_39_40 rfl ?_
      refine r_gfix (r := 78) (pc' := 43) D230_40 rfl gf_11_13_77 H7.1 ?_
      refine s_blx (lv' := [(0, vR 77)]) (st' := [vI 471, vR 78]) B230_43_46 rfl ?_
      refine r_iald (pc' := 47) D230_46 rfl sc_78 H7.1 (by omega) ?_
      intro w23 e24 r25
      have e26 : w1 = w23 := (e24.trans ((f8.g rfl).trans (e2.symm))).symm
      subst e26
      have kac2 := kac (by omega)
      have k471 := e24.symm
      refine s_blx (lv' := [(1, vI w1), (0, vR 77)]) (st' := [vR 77]) B230_47_49 rfl ?_
      refine r_gfix (r := 78) (pc' := 52) D230_49 rfl gf_11_13_77 H7.1 ?_
      refine s_blx (lv' := [(1, vI w1), (0, vR 77)]) (st' := [vR 77, vI (475 + w1), vR 78]) B230_52_58 rfl ?_
      refine r_gint (ki := 36) (pc' := 61) D230_58 rfl gf_11_305_77 rfl H7.1 ?_
      intro w27 e28 r29
      have e30 : t18 = w27 := (e28.trans (ht19.symm)).symm
      subst e30
      refine r_iast (pc' := 62) D230_61 rfl sc_78 H7 (by omega) (by unfold inR; omega) (by show s_in (rgK _) _; rw [rk_sizes (by omega)]; show 0 ≤ t18 ∧ t18 ≤ 400; omega) ?_
      intro M31 u32 H33 p34
      have f35 := f14.wr u32 rfl
      have hp36 := hp15.w u32 (by omega) H7
      have hp37 := hp17.out u32 (by omega) H7
      have hp38 := kac2.wr u32 (by decide)
      have kgm := (hp16.gm k471).w u32 (by omega) H7
      refine s_blx (lv' := [(2, vI 0), (1, vI w1), (0, vR 77)]) (st' := []) B230_62_64 rfl ?_
      refine r_loc (lv' := [(0, vR 77), (1, vI w1), (2, vI 0)]) ⟨rfl, rfl, rfl, trivial⟩ rfl rfl ?_
      have g39 : gi M31 77 36 = t18 := (u32.gi_ne (by omega) (Or.inl (by decide))).trans (ht19.symm)
      have g40 : gi M31 78 471 = w1 := (u32.gi_ne (by omega) (Or.inr (by omega))).trans ((f8.g rfl).trans (e2.symm))
      have g41 : gi M31 77 31 = t20 := (u32.gi_ne (by omega) (Or.inl (by decide))).trans (ht21.symm)
      exact (L_k230n E hd H h0 h1 h2 (((400 - 0) * 1 + 0 : Int) + 1).toNat) w1 0 t18 M31 H33 f35 (hp38) (by omega) (kgm) (hp36) (by omega) (by omega) (fun j h1 h2 => by omega) (by omega) (by omega) (by omega) (by omega) (by omega) (hp37) (by omega) (by omega) (by omega) (by omega) (by omega)
    · refine s_blx (lv' := [(0, vR 77)]) (st' := [vI (-6), vR 77]) B230_32_35 rfl ?_
      refine r_vI (c := 77) (args := [vI (-6)]) (rest := []) (pc' := 38) D230_35 rfl ck_11_virtual_127 TE148 rfl (Nat.le_of_ble_eq_true rfl) ⟨Nat.le_of_ble_eq_true rfl, Nat.le_of_ble_eq_true rfl⟩ sc_77 ⟨rfl, by decide⟩ H7.1 (dp_0 hd rfl) (k148 E (dp_n hd rfl) H7 (-6) (by omega)) ?_
      intro v42 M43 q47
      obtain ⟨H44, f45, q46⟩ := q47
      have f48 := f14.tr (f45.up rfl)
      have hp49 := hp15.fr f45 (by decide)
      have hp50 := hp16.fr f45 (by decide)
      have hp51 := hp17.fr f45 (by decide)
      have g52 : gi M43 77 31 = t20 := (f45.g rfl).trans (ht21.symm)
      exact r_iretI D230_38 rfl (⟨H44, f48, hp49, hp50, by first | (rw [g52]; omega) | rw [g52], hp51⟩)
  · refine s_blx (lv' := [(0, vR 77)]) (st' := [vI 0, vR 77]) B230_13_15 rfl ?_
    refine r_pint (ki := 31) (pc' := 18) D230_15 rfl pf_11_151_77 rfl H (by unfold inR; omega) (show 0 ≤ 0 ∧ 0 ≤ 400 by omega) ?_
    intro M53 u54 H55 p56
    have f57 := f0.wr u54 rfl
    have hp58 := h1.wr u54 (by decide)
    have hp59 := h2.wr u54 (by decide)
    have hp60 := KN.rf.wr u54 (by decide)
    refine s_blx (lv' := [(0, vR 77)]) (st' := [vI (-5), vR 77]) B230_18_21 rfl ?_
    refine r_vI (c := 77) (args := [vI (-5)]) (rest := []) (pc' := 24) D230_21 rfl ck_11_virtual_127 TE148 rfl (Nat.le_of_ble_eq_true rfl) ⟨Nat.le_of_ble_eq_true rfl, Nat.le_of_ble_eq_true rfl⟩ sc_77 ⟨rfl, by decide⟩ H55.1 (dp_0 hd rfl) (k148 E (dp_n hd rfl) H55 (-5) (by omega)) ?_
    intro v61 M62 q66
    obtain ⟨H63, f64, q65⟩ := q66
    have f67 := f57.tr (f64.up rfl)
    have hp68 := hp58.fr f64 (by decide)
    have hp69 := hp59.fr f64 (by decide)
    have hp70 := hp60.fr f64 (by decide)
    have g71 : gi M62 77 31 = 0 := (f64.g rfl).trans (p56)
    exact r_iretI D230_24 rfl (⟨H63, f67, hp68, hp69, by first | (rw [g71]; omega) | rw [g71], hp70⟩)
