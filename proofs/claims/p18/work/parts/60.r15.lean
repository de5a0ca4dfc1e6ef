/-! What the reference's place says, as functions of what is kept. -/
/-- kept, as a function -/
noncomputable def KK (K : Int → Int) (M : mH) : Prop := ∀ j : Int, gi M 78 j = K j
theorem KK.fr {K : Int → Int} {L : List (Nat × Nat)} {M M' : mH} (h : KK K M) (f : Fr L M M') (hc : s_al L (fun c => c != 78) = true) : KK K M' := fun j => (f.g (s_al_ok hc (by simp))).trans (h j)
theorem KK.wr {K : Int → Int} {M M' : mH} {c i : Nat} {v : Value} (h : KK K M) (u : Wr M c i v M') (hc : c ≠ 78) : KK K M' := fun j => by
  rw [← h j]; unfold gi; rw [u.ne (Or.inl (Ne.symm hc))]
noncomputable def orI (a b : Int) : Int := (Int32.ofInt a ||| Int32.ofInt b).toInt
noncomputable def shI (a k : Int) : Int := (Int32.ofInt a <<< (Int32.ofInt k &&& 31)).toInt
noncomputable def srI (a k : Int) : Int := (Int32.ofInt a >>> (Int32.ofInt k &&& 31)).toInt
noncomputable def opI (a b : Int) : Int := (Int32.ofInt a &&& (Int32.ofInt b ^^^ Int32.ofInt (-1))).toInt
theorem orI_of {e a b : Int} (he : inR e) (h : Int32.ofInt e = Int32.ofInt a ||| Int32.ofInt b) : e = orI a b := by
  unfold orI; rw [← h, s_i32 he]
theorem shI_of {e a b : Int} (he : inR e) (h : Int32.ofInt e = Int32.ofInt a <<< (Int32.ofInt b &&& 31)) : e = shI a b := by
  unfold shI; rw [← h, s_i32 he]
theorem srI_of {e a b : Int} (he : inR e) (h : Int32.ofInt e = Int32.ofInt a >>> (Int32.ofInt b &&& 31)) : e = srI a b := by
  unfold srI; rw [← h, s_i32 he]
theorem opI_of {e a b z : Int} (he : inR e) (h : Int32.ofInt e = Int32.ofInt a &&& Int32.ofInt z) (hz : Int32.ofInt z = Int32.ofInt b ^^^ Int32.ofInt (-1)) : e = opI a b := by
  unfold opI; rw [← hz, ← h, s_i32 he]
theorem inR_to (x : Int32) : inR x.toInt := by
  have h1 := Int32.le_toInt x
  have h2 := Int32.toInt_lt x
  unfold inR; omega
theorem orI_R (a b : Int) : inR (orI a b) := inR_to _
theorem shI_R (a b : Int) : inR (shI a b) := inR_to _
theorem bt_orI {a b k : Int} : bt (orI a b) k ↔ bt a k ∨ bt b k := bt_or (by unfold orI; rw [Int32.ofInt_toInt])
theorem bt_shI {s k : Int} (hs : 0 ≤ s ∧ s ≤ 31) (hk : 0 ≤ k ∧ k ≤ 31) : bt (shI 1 s) k ↔ k = s := bt_shl (by unfold shI; rw [Int32.ofInt_toInt]) hs hk
/-- a row begins as another, for so many words -/
noncomputable def BG (K : Int → Int) (s l n : Int) : Prop := n ≤ K (135 + 16 * s) ∧ ∀ i : Int, 0 ≤ i → i < n → K (135 + 16 * s + 1 + i) = K (135 + 16 * l + 1 + i)
/-- a row can come -/
noncomputable def SC (K : Int → Int) (l n o s : Int) : Prop := 1 ≤ K (135 + 16 * s + 12 + K 474) ∧ BG K s l n ∧ ¬ (o = 1 ∧ n < K (135 + 16 * s))
noncomputable def stF (K : Int → Int) (l n o : Int) : Nat → Int
  | 0 => 0
  | k + 1 => @ite _ (SC K l n o k) (Classical.propDecidable _) (orI (stF K l n o k) (shI 1 k)) (stF K l n o k)
theorem stF_in {K : Int → Int} {l n o k : Int} (hk : 0 ≤ k) (h : SC K l n o k) : stF K l n o (k + 1).toNat = orI (stF K l n o k.toNat) (shI 1 k) := by
  rw [show (k + 1).toNat = k.toNat + 1 by omega]
  show (@ite _ (SC K l n o ((k.toNat : Nat) : Int)) (Classical.propDecidable _) (orI (stF K l n o k.toNat) (shI 1 ((k.toNat : Nat) : Int))) (stF K l n o k.toNat)) = _
  rw [show ((k.toNat : Nat) : Int) = k by omega, if_pos h]
theorem stF_out {K : Int → Int} {l n o k : Int} (hk : 0 ≤ k) (h : ¬ SC K l n o k) : stF K l n o (k + 1).toNat = stF K l n o k.toNat := by
  rw [show (k + 1).toNat = k.toNat + 1 by omega]
  show (@ite _ (SC K l n o ((k.toNat : Nat) : Int)) (Classical.propDecidable _) (orI (stF K l n o k.toNat) (shI 1 ((k.toNat : Nat) : Int))) (stF K l n o k.toNat)) = _
  rw [show ((k.toNat : Nat) : Int) = k by omega, if_neg h]
theorem stF_bt {K : Int → Int} {l n o : Int} : ∀ m : Nat, m ≤ 16 → ∀ k : Int, 0 ≤ k → k ≤ 31 → (bt (stF K l n o m) k ↔ k < (m : Int) ∧ SC K l n o k) := by
  intro m
  induction m with
  | zero => exact fun _ k _ _ => ⟨fun h => absurd h (bt_0 k), fun h => absurd h.1 (by omega)⟩
  | succ m ih =>
    intro hm k h1 h2
    have ih' := ih (by omega) k h1 h2
    show bt (@ite _ (SC K l n o (m : Int)) (Classical.propDecidable _) (orI (stF K l n o m) (shI 1 (m : Int))) (stF K l n o m)) k ↔ _
    by_cases hc : SC K l n o (m : Int)
    · rw [if_pos hc, bt_orI, ih', bt_shI (by omega) (by omega)]
      constructor
      · rintro (⟨a, b⟩ | rfl)
        · exact ⟨by omega, b⟩
        · exact ⟨by omega, hc⟩
      · rintro ⟨a, b⟩
        by_cases e : k = (m : Int)
        · exact Or.inr e
        · exact Or.inl ⟨by omega, b⟩
    · rw [if_neg hc, ih']
      constructor
      · rintro ⟨a, b⟩; exact ⟨by omega, b⟩
      · rintro ⟨a, b⟩
        refine ⟨?_, b⟩
        have : k ≠ (m : Int) := fun e => hc (e ▸ b)
        omega
/-- the values of a set -/
noncomputable def vlF (K : Int → Int) (z slot : Int) : Nat → Int
  | 0 => 0
  | k + 1 => if srI z k % 2 = 1 then orI (vlF K z slot k) (shI 1 (K (135 + 16 * k + 9 + slot))) else vlF K z slot k
theorem vlF_in {K : Int → Int} {z slot k : Int} (hk : 0 ≤ k) (h : srI z k % 2 = 1) : vlF K z slot (k + 1).toNat = orI (vlF K z slot k.toNat) (shI 1 (K (135 + 16 * k + 9 + slot))) := by
  rw [show (k + 1).toNat = k.toNat + 1 by omega]
  show (if srI z ((k.toNat : Nat) : Int) % 2 = 1 then orI (vlF K z slot k.toNat) (shI 1 (K (135 + 16 * ((k.toNat : Nat) : Int) + 9 + slot))) else vlF K z slot k.toNat) = _
  rw [show ((k.toNat : Nat) : Int) = k by omega, if_pos h]
theorem vlF_out {K : Int → Int} {z slot k : Int} (hk : 0 ≤ k) (h : ¬ srI z k % 2 = 1) : vlF K z slot (k + 1).toNat = vlF K z slot k.toNat := by
  rw [show (k + 1).toNat = k.toNat + 1 by omega]
  show (if srI z ((k.toNat : Nat) : Int) % 2 = 1 then orI (vlF K z slot k.toNat) (shI 1 (K (135 + 16 * ((k.toNat : Nat) : Int) + 9 + slot))) else vlF K z slot k.toNat) = _
  rw [show ((k.toNat : Nat) : Int) = k by omega, if_neg h]
/-- the value that stands alone -/
noncomputable def alF (z : Int) : Nat → Int
  | 0 => -1
  | k + 1 => if z = shI 1 k then k else alF z k
theorem alF_in {z k : Int} (hk : 0 ≤ k) (h : z = shI 1 k) : alF z (k + 1).toNat = k := by
  rw [show (k + 1).toNat = k.toNat + 1 by omega]
  show (if z = shI 1 ((k.toNat : Nat) : Int) then ((k.toNat : Nat) : Int) else alF z k.toNat) = _
  rw [show ((k.toNat : Nat) : Int) = k by omega, if_pos h]
theorem alF_out {z k : Int} (hk : 0 ≤ k) (h : ¬ z = shI 1 k) : alF z (k + 1).toNat = alF z k.toNat := by
  rw [show (k + 1).toNat = k.toNat + 1 by omega]
  show (if z = shI 1 ((k.toNat : Nat) : Int) then ((k.toNat : Nat) : Int) else alF z k.toNat) = _
  rw [show ((k.toNat : Nat) : Int) = k by omega, if_neg h]
/-- the opening that fits -/
noncomputable def OC (K : Int → Int) (slot z k b : Int) : Prop := K (99 + 3 * k) = slot ∧ opI z (K (99 + 3 * k + 1)) = 0 ∧ (b = -1 ∨ K (99 + 3 * k + 2) < K (99 + 3 * b + 2))
noncomputable def opF (K : Int → Int) (slot z : Int) : Nat → Int
  | 0 => -1
  | k + 1 => @ite _ (OC K slot z k (opF K slot z k)) (Classical.propDecidable _) (k : Int) (opF K slot z k)
theorem opF_in {K : Int → Int} {slot z k : Int} (hk : 0 ≤ k) (h : OC K slot z k (opF K slot z k.toNat)) : opF K slot z (k + 1).toNat = k := by
  rw [show (k + 1).toNat = k.toNat + 1 by omega]
  show (@ite _ (OC K slot z ((k.toNat : Nat) : Int) (opF K slot z k.toNat)) (Classical.propDecidable _) ((k.toNat : Nat) : Int) (opF K slot z k.toNat)) = _
  rw [show ((k.toNat : Nat) : Int) = k by omega, if_pos h]
theorem opF_out {K : Int → Int} {slot z k : Int} (hk : 0 ≤ k) (h : ¬ OC K slot z k (opF K slot z k.toNat)) : opF K slot z (k + 1).toNat = opF K slot z k.toNat := by
  rw [show (k + 1).toNat = k.toNat + 1 by omega]
  show (@ite _ (OC K slot z ((k.toNat : Nat) : Int) (opF K slot z k.toNat)) (Classical.propDecidable _) ((k.toNat : Nat) : Int) (opF K slot z k.toNat)) = _
  rw [show ((k.toNat : Nat) : Int) = k by omega, if_neg h]
/-- what can come of a slot, what is sure of it, what opens it -/
noncomputable def caF (K : Int → Int) (s n o i : Int) : Int := vlF K (stF K s n o (K 469).toNat) i (K 469).toNat
noncomputable def suF (K : Int → Int) (s n o i : Int) : Int := alF (caF K s n o i) 8
noncomputable def onF (K : Int → Int) (s n o i : Int) : Int := opF K i (caF K s n o i) (K 470).toNat
theorem stF_RS {K : Int → Int} {M : mH} {s n o : Int} (h : KK K M) (hm : 0 ≤ K 469 ∧ K 469 ≤ 16) : RS n (stF K s n o (K 469).toNat) M := by
  intro k h1 h2 h3
  have q := (stF_bt (K 469).toNat (by omega) k h1 (by omega)).mp h3
  exact ⟨by rw [h 469]; omega, by rw [h, h 474]; exact q.2.1, by rw [h]; exact q.2.2.1.1⟩
theorem KK.many {K : Int → Int} {base : Nat} {M : mH} (h : KK K M) (H : HI base M) : 0 ≤ K 469 ∧ K 469 ≤ 16 := by
  have := H.2 78 469 0 16 (rk_many (by omega))
  rw [h] at this; exact this
theorem KK.openmany {K : Int → Int} {base : Nat} {M : mH} (h : KK K M) (H : HI base M) : 0 ≤ K 470 ∧ K 470 ≤ 12 := by
  have := H.2 78 470 0 12 (rk_openmany (by omega))
  rw [h] at this; exact this

set_option maxRecDepth 4000 in
theorem k156f {base : Nat} {X : Nat → Option mC} {G : Nat → Value} (E : EnvOK base X G) {d : Nat} (hd : 0 ≤ d) {M : mH} (H : HI base M) (s : Int) (K : Int → Int) (h0 : KK K M) (h1 : 0 ≤ s ∧ s ≤ 15) : sOk base X G d T156 [vR 77, vI s] M (pI (fun v M' => M' = M ∧ (0 ≤ v ∧ v ≤ 8) ∧ v = K (135 + 16 * s))) := by
  refine sOk.of (show sRn base X G d T156 0 [(0, vR 77), (1, vI s)] [] M _ from ?_)
  refine s_blx (lv' := [(0, vR 77), (1, vI s)]) (st' := [vR 77]) B156_0_1 rfl ?_
  refine r_gfix (r := 78) (pc' := 4) D156_1 rfl gf_11_13_77 H.1 ?_
  refine s_blx (lv' := [(0, vR 77), (1, vI s)]) (st' := [vI (135 + (16 * s)), vR 78]) B156_4_12 rfl ?_
  refine r_iald (pc' := 13) D156_12 rfl sc_78 H.1 (by omega) ?_
  intro w1 e2 r3
  have kk_w1 := (h0) (135 + (16 * s))
  have b_w1 := H.2 78 (135 + (16 * s)) 0 8 (rk_len (by omega))
  rw [← e2] at b_w1; clear r3
  exact r_iretI D156_13 rfl (⟨rfl, by omega, by omega⟩)
set_option maxRecDepth 4000 in
theorem k157f {base : Nat} {X : Nat → Option mC} {G : Nat → Value} (E : EnvOK base X G) {d : Nat} (hd : 0 ≤ d) {M : mH} (H : HI base M) (s : Int) (i : Int) (K : Int → Int) (h0 : KK K M) (h1 : 0 ≤ s ∧ s ≤ 15) (h2 : 0 ≤ i ∧ i ≤ 7) : sOk base X G d T157 [vR 77, vI s, vI i] M (pI (fun v M' => M' = M ∧ (0 ≤ v ∧ v ≤ 29) ∧ v = K (135 + 16 * s + 1 + i))) := by
  refine sOk.of (show sRn base X G d T157 0 [(0, vR 77), (1, vI s), (2, vI i)] [] M _ from ?_)
  refine s_blx (lv' := [(0, vR 77), (1, vI s), (2, vI i)]) (st' := [vR 77]) B157_0_1 rfl ?_
  refine r_gfix (r := 78) (pc' := 4) D157_1 rfl gf_11_13_77 H.1 ?_
  refine s_blx (lv' := [(0, vR 77), (1, vI s), (2, vI i)]) (st' := [vI (((135 + (16 * s)) + 1) + i), vR 78]) B157_4_16 rfl ?_
  refine r_iald (pc' := 17) D157_16 rfl sc_78 H.1 (by omega) ?_
  intro w1 e2 r3
  have kk_w1 := (h0) (((135 + (16 * s)) + 1) + i)
  have b_w1 := H.2 78 (((135 + (16 * s)) + 1) + i) 0 29 (rk_word (by omega))
  rw [← e2] at b_w1; clear r3
  exact r_iretI D157_17 rfl (⟨rfl, by omega, by omega⟩)
set_option maxRecDepth 4000 in
theorem k158f {base : Nat} {X : Nat → Option mC} {G : Nat → Value} (E : EnvOK base X G) {d : Nat} (hd : 0 ≤ d) {M : mH} (H : HI base M) (s : Int) (slot : Int) (K : Int → Int) (h0 : KK K M) (h1 : 0 ≤ s ∧ s ≤ 15) (h2 : 0 ≤ slot ∧ slot ≤ 2) : sOk base X G d T158 [vR 77, vI s, vI slot] M (pI (fun v M' => M' = M ∧ (0 ≤ v ∧ v ≤ 7) ∧ v = K (135 + 16 * s + 9 + slot))) := by
  refine sOk.of (show sRn base X G d T158 0 [(0, vR 77), (1, vI s), (2, vI slot)] [] M _ from ?_)
  refine s_blx (lv' := [(0, vR 77), (1, vI s), (2, vI slot)]) (st' := [vR 77]) B158_0_1 rfl ?_
  refine r_gfix (r := 78) (pc' := 4) D158_1 rfl gf_11_13_77 H.1 ?_
  refine s_blx (lv' := [(0, vR 77), (1, vI s), (2, vI slot)]) (st' := [vI (((135 + (16 * s)) + 9) + slot), vR 78]) B158_4_17 rfl ?_
  refine r_iald (pc' := 18) D158_17 rfl sc_78 H.1 (by omega) ?_
  intro w1 e2 r3
  have kk_w1 := (h0) (((135 + (16 * s)) + 9) + slot)
  have b_w1 := H.2 78 (((135 + (16 * s)) + 9) + slot) 0 7 (rk_val (by omega))
  rw [← e2] at b_w1; clear r3
  exact r_iretI D158_18 rfl (⟨rfl, by omega, by omega⟩)
set_option maxRecDepth 4000 in
theorem k159f {base : Nat} {X : Nat → Option mC} {G : Nat → Value} (E : EnvOK base X G) {d : Nat} (hd : 0 ≤ d) {M : mH} (H : HI base M) (s : Int) (K : Int → Int) (h0 : KK K M) (h1 : 0 ≤ s ∧ s ≤ 15) : sOk base X G d T159 [vR 77, vI s] M (pI (fun v M' => M' = M ∧ (0 ≤ v ∧ v ≤ 100) ∧ v = K (135 + 16 * s + 12 + K 474))) := by
  refine sOk.of (show sRn base X G d T159 0 [(0, vR 77), (1, vI s)] [] M _ from ?_)
  refine s_blx (lv' := [(0, vR 77), (1, vI s)]) (st' := [vR 77]) B159_0_1 rfl ?_
  refine r_gfix (r := 78) (pc' := 4) D159_1 rfl gf_11_13_77 H.1 ?_
  refine s_blx (lv' := [(0, vR 77), (1, vI s)]) (st' := [vR 77, vI ((135 + (16 * s)) + 12), vR 78]) B159_4_16 rfl ?_
  refine r_gfix (r := 78) (pc' := 19) D159_16 rfl gf_11_13_77 H.1 ?_
  refine s_blx (lv' := [(0, vR 77), (1, vI s)]) (st' := [vI 474, vR 78, vI ((135 + (16 * s)) + 12), vR 78]) B159_19_22 rfl ?_
  refine r_iald (pc' := 23) D159_22 rfl sc_78 H.1 (by omega) ?_
  intro w1 e2 r3
  have kk_w1 := (h0) (474)
  have b_w1 := H.2 78 (474) 0 3 (rk_who (by omega))
  rw [← e2] at b_w1; clear r3
  have kw : w1 = K 474 := by omega
  refine s_blx (lv' := [(0, vR 77), (1, vI s)]) (st' := [vI (((135 + (16 * s)) + 12) + w1), vR 78]) B159_23_24 rfl ?_
  refine r_iald (pc' := 25) D159_24 rfl sc_78 H.1 (by omega) ?_
  intro w4 e5 r6
  have kk_w4 := (h0) (((135 + (16 * s)) + 12) + w1)
  have b_w4 := H.2 78 (((135 + (16 * s)) + 12) + w1) 0 100 (rk_wgt (by omega))
  rw [← e5] at b_w4; clear r6
  exact r_iretI D159_25 rfl (⟨rfl, by omega, by rw [← kw]; omega⟩)
set_option maxRecDepth 4000 in
theorem L_k170f {base : Nat} {X : Nat → Option mC} {G : Nat → Value} (E : EnvOK base X G) {d : Nat} (hd : 1 ≤ d) {M : mH} (H : HI base M) (s : Int) (like : Int) (n : Int) (K : Int → Int) (h0 : KK K M) (h1 : 0 ≤ s ∧ s ≤ 15) (h2 : 0 ≤ like ∧ like ≤ 15) (h3 : 0 ≤ n ∧ n ≤ 8) : ∀ mz : Nat, (∀ (x4 x5 : Int), (x4 = 1 → n ≤ K (135 + 16 * s)) → (∀ i : Int, x4 = 1 → 0 ≤ i → i < x5 → K (135 + 16 * s + 1 + i) = K (135 + 16 * like + 1 + i)) → (x4 = 0 → ¬ BG K s like n) → (0 ≤ x4) → (x4 ≤ 1) → (0 ≤ x5) → (x5 ≤ 8) → (8 - x5) * 1 + 0 < (mz : Int) → sRn base X G d T170 19 [(0, vR 77), (1, vI s), (2, vI like), (3, vI n), (4, vI x4), (5, vI x5)] [] M (s_Q base (pI (fun v M' => M' = M ∧ (v = 0 ∨ v = 1) ∧ (v = 1 → BG K s like n) ∧ (v = 0 → ¬ BG K s like n))))) := by
  intro mz
  induction mz with
  | zero => exact fun x4 x5 z0 z1 z2 z3 z4 z5 z6 z7 => by omega
  | succ mz ih =>
    intro x4 x5 i0 i1 i2 i3 i4 i5 i6 hmu
    refine s_blx (lv' := [(0, vR 77), (1, vI s), (2, vI like), (3, vI n), (4, vI x4), (5, vI x5)]) (st' := [vI n, vI x5]) B170_19_22 rfl ?_
    refine r_icmp (tgt := 60) (pc' := 25) D170_22 rfl rfl (by unfold inR; omega) (fun (c7 : n ≤ x5) => ?_) (fun (c7 : ¬ (n ≤ x5)) => ?_)
    · refine s_blx (lv' := [(0, vR 77), (1, vI s), (2, vI like), (3, vI n), (4, vI x4), (5, vI x5)]) (st' := [vI x4]) B170_60_62 rfl ?_
      exact r_zretI D170_62 rfl (by omega) (⟨rfl, by omega, fun h => ⟨i0 (by omega), fun i h1 h2 => i1 i (by omega) h1 (by omega)⟩, i2⟩)
    · refine s_blx (lv' := [(0, vR 77), (1, vI s), (2, vI like), (3, vI n), (4, vI x4), (5, vI x5)]) (st' := [vI x4]) B170_25_27 rfl ?_
      refine r_ifc (tgt := 60) (pc' := 30) D170_27 rfl rfl (by unfold inR; omega) (fun (c8 : x4 = 0) => ?_) (fun (c8 : ¬ (x4 = 0)) => ?_)
      · refine s_blx (lv' := [(0, vR 77), (1, vI s), (2, vI like), (3, vI n), (4, vI x4), (5, vI x5)]) (st' := [vI x4]) B170_60_62 rfl ?_
        exact r_zretI D170_62 rfl (by omega) (⟨rfl, by omega, fun h => ⟨i0 (by omega), fun i h1 h2 => i1 i (by omega) h1 (by omega)⟩, i2⟩)
      · refine s_blx (lv' := [(0, vR 77), (1, vI s), (2, vI like), (3, vI n), (4, vI x4), (5, vI x5)]) (st' := [vI x5, vI s, vR 77]) B170_30_34 rfl ?_
        refine r_vIp (c := 77) (args := [vI s, vI x5]) (rest := []) (pc' := 37) D170_34 rfl ck_11_virtual_147 TE157 rfl (Nat.le_of_ble_eq_true rfl) ⟨Nat.le_of_ble_eq_true rfl, Nat.le_of_ble_eq_true rfl⟩ sc_77 ⟨rfl, by decide⟩ H.1 (dp_0 hd rfl) (k157f E (dp_n hd rfl) H s x5 K (h0) (by omega) (by omega)) ?_
        intro v9 q13
        obtain ⟨q11, q12⟩ := q13
        refine s_blx (lv' := [(0, vR 77), (1, vI s), (2, vI like), (3, vI n), (4, vI x4), (5, vI x5)]) (st' := [vI x5, vI like, vR 77, vI v9]) B170_37_41 rfl ?_
        refine r_vIp (c := 77) (args := [vI like, vI x5]) (rest := [vI v9]) (pc' := 44) D170_41 rfl ck_11_virtual_147 TE157 rfl (Nat.le_of_ble_eq_true rfl) ⟨Nat.le_of_ble_eq_true rfl, Nat.le_of_ble_eq_true rfl⟩ sc_77 ⟨rfl, by decide⟩ H.1 (dp_0 hd rfl) (k157f E (dp_n hd rfl) H like x5 K (h0) (by omega) (by omega)) ?_
        intro v14 q18
        obtain ⟨q16, q17⟩ := q18
        refine r_icmp (tgt := 51) (pc' := 47) D170_44 rfl rfl (by unfold inR; omega) (fun (c19 : v9 ≠ v14) => ?_) (fun (c19 : ¬ (v9 ≠ v14)) => ?_)
        · refine s_blx (lv' := [(5, vI (x5 + 1)), (4, vI 0), (0, vR 77), (1, vI s), (2, vI like), (3, vI n)]) (st' := []) B170_51_57 rfl ?_
          refine r_goto (tgt := 19) D170_57 rfl ?_
          refine r_loc (lv' := [(0, vR 77), (1, vI s), (2, vI like), (3, vI n), (4, vI 0), (5, vI (x5 + 1))]) ⟨rfl, rfl, rfl, rfl, rfl, rfl, trivial⟩ rfl rfl ?_
          exact ih 0 (x5 + 1) (by omega) (fun i h1 h2 h3 => if e : i = x5 then (by rw [e]; omega) else i1 i (by omega) h2 (by omega)) (fun h hb => by have kb := hb.2 x5 (by omega) (by omega); omega) (by omega) (by omega) (by omega) (by omega) (by omega)
        · refine s_blx (lv' := [(0, vR 77), (1, vI s), (2, vI like), (3, vI n), (4, vI x4), (5, vI x5)]) (st' := [vI 1]) B170_47_48 rfl ?_
          refine r_goto (tgt := 52) D170_48 rfl ?_
          refine s_blx (lv' := [(5, vI (x5 + 1)), (4, vI 1), (0, vR 77), (1, vI s), (2, vI like), (3, vI n)]) (st' := []) B170_52_57 rfl ?_
          refine r_goto (tgt := 19) D170_57 rfl ?_
          refine r_loc (lv' := [(0, vR 77), (1, vI s), (2, vI like), (3, vI n), (4, vI 1), (5, vI (x5 + 1))]) ⟨rfl, rfl, rfl, rfl, rfl, rfl, trivial⟩ rfl rfl ?_
          exact ih 1 (x5 + 1) (by omega) (fun i h1 h2 h3 => if e : i = x5 then (by rw [e]; omega) else i1 i (by omega) h2 (by omega)) (fun h hb => by have kb := hb.2 x5 (by omega) (by omega); omega) (by omega) (by omega) (by omega) (by omega) (by omega)
set_option maxRecDepth 4000 in
theorem k170f {base : Nat} {X : Nat → Option mC} {G : Nat → Value} (E : EnvOK base X G) {d : Nat} (hd : 1 ≤ d) {M : mH} (H : HI base M) (s : Int) (like : Int) (n : Int) (K : Int → Int) (h0 : KK K M) (h1 : 0 ≤ s ∧ s ≤ 15) (h2 : 0 ≤ like ∧ like ≤ 15) (h3 : 0 ≤ n ∧ n ≤ 8) : sOk base X G d T170 [vR 77, vI s, vI like, vI n] M (pI (fun v M' => M' = M ∧ (v = 0 ∨ v = 1) ∧ (v = 1 → BG K s like n) ∧ (v = 0 → ¬ BG K s like n))) := by
  refine sOk.of (show sRn base X G d T170 0 [(0, vR 77), (1, vI s), (2, vI like), (3, vI n)] [] M _ from ?_)
  refine s_blx (lv' := [(0, vR 77), (1, vI s), (2, vI like), (3, vI n)]) (st' := [vI s, vR 77]) B170_0_2 rfl ?_
  refine r_vIp (c := 77) (args := [vI s]) (rest := []) (pc' := 5) D170_2 rfl ck_11_virtual_144 TE156 rfl (Nat.le_of_ble_eq_true rfl) ⟨Nat.le_of_ble_eq_true rfl, Nat.le_of_ble_eq_true rfl⟩ sc_77 ⟨rfl, by decide⟩ H.1 (dp_0 hd rfl) (k156f E (dp_n hd rfl) H s K (h0) (by omega)) ?_
  intro v1 q5
  obtain ⟨q3, q4⟩ := q5
  refine s_blx (lv' := [(0, vR 77), (1, vI s), (2, vI like), (3, vI n)]) (st' := [vI n, vI v1]) B170_5_6 rfl ?_
  refine r_icmp (tgt := 13) (pc' := 9) D170_6 rfl rfl (by unfold inR; omega) (fun (c6 : v1 < n) => ?_) (fun (c6 : ¬ (v1 < n)) => ?_)
  · refine s_blx (lv' := [(5, vI 0), (4, vI 0), (0, vR 77), (1, vI s), (2, vI like), (3, vI n)]) (st' := []) B170_13_19 rfl ?_
    refine r_loc (lv' := [(0, vR 77), (1, vI s), (2, vI like), (3, vI n), (4, vI 0), (5, vI 0)]) ⟨rfl, rfl, rfl, rfl, rfl, rfl, trivial⟩ rfl rfl ?_
    exact (L_k170f E hd H s like n K h0 h1 h2 h3 (((8 - 0) * 1 + 0 : Int) + 1).toNat) 0 0 (by omega) (fun i _ h1 h2 => by omega) (fun h hb => by have kb := hb.1; omega) (by omega) (by omega) (by omega) (by omega) (by omega)
  · refine s_blx (lv' := [(0, vR 77), (1, vI s), (2, vI like), (3, vI n)]) (st' := [vI 1]) B170_9_10 rfl ?_
    refine r_goto (tgt := 14) D170_10 rfl ?_
    refine s_blx (lv' := [(5, vI 0), (4, vI 1), (0, vR 77), (1, vI s), (2, vI like), (3, vI n)]) (st' := []) B170_14_19 rfl ?_
    refine r_loc (lv' := [(0, vR 77), (1, vI s), (2, vI like), (3, vI n), (4, vI 1), (5, vI 0)]) ⟨rfl, rfl, rfl, rfl, rfl, rfl, trivial⟩ rfl rfl ?_
    exact (L_k170f E hd H s like n K h0 h1 h2 h3 (((8 - 0) * 1 + 0 : Int) + 1).toNat) 1 0 (by omega) (fun i _ h1 h2 => by omega) (fun h hb => by have kb := hb.1; omega) (by omega) (by omega) (by omega) (by omega) (by omega)
set_option maxRecDepth 4000 in
theorem L_k171f {base : Nat} {X : Nat → Option mC} {G : Nat → Value} (E : EnvOK base X G) {d : Nat} (hd : 2 ≤ d) {M : mH} (H : HI base M) (like : Int) (n : Int) (over : Int) (K : Int → Int) (h0 : (over = 0 ∨ over = 1)) (h1 : KK K M) (h2 : 0 ≤ like ∧ like ≤ 15) (h3 : 0 ≤ n ∧ n ≤ 8) : ∀ mz : Nat, (∀ (x4 x5 : Int), (x4 = stF K like n over x5.toNat) → (-2147483648 ≤ x4 ∧ x4 ≤ 2147483647) → (x5 ≤ K 469) → ((-2147483648) ≤ x4) → (x4 ≤ 2147483647) → (0 ≤ x5) → (x5 ≤ 16) → (16 - x5) * 1 + 0 < (mz : Int) → sRn base X G d T171 6 [(0, vR 77), (1, vI like), (2, vI n), (3, vI over), (4, vI x4), (5, vI x5)] [] M (s_Q base (pI (fun v M' => M' = M ∧ (-2147483648 ≤ v ∧ v ≤ 2147483647) ∧ v = stF K like n over (K 469).toNat)))) := by
  intro mz
  induction mz with
  | zero => exact fun x4 x5 z0 z1 z2 z3 z4 z5 z6 z7 => by omega
  | succ mz ih =>
    intro x4 x5 i0 i1 i2 i3 i4 i5 i6 hmu
    refine s_blx (lv' := [(0, vR 77), (1, vI like), (2, vI n), (3, vI over), (4, vI x4), (5, vI x5)]) (st' := [vR 77, vI x5]) B171_6_9 rfl ?_
    refine r_gfix (r := 78) (pc' := 12) D171_9 rfl gf_11_13_77 H.1 ?_
    refine s_blx (lv' := [(0, vR 77), (1, vI like), (2, vI n), (3, vI over), (4, vI x4), (5, vI x5)]) (st' := [vI 469, vR 78, vI x5]) B171_12_15 rfl ?_
    refine r_iald (pc' := 16) D171_15 rfl sc_78 H.1 (by omega) ?_
    intro w1 e2 r3
    have kk_w1 := (h1) (469)
    have b_w1 := H.2 78 (469) 0 16 (rk_many (by omega))
    rw [← e2] at b_w1; clear r3
    refine r_icmp (tgt := 68) (pc' := 19) D171_16 rfl rfl (by unfold inR; omega) (fun (c4 : w1 ≤ x5) => ?_) (fun (c4 : ¬ (w1 ≤ x5)) => ?_)
    · refine s_blx (lv' := [(0, vR 77), (1, vI like), (2, vI n), (3, vI over), (4, vI x4), (5, vI x5)]) (st' := [vI x4]) B171_68_70 rfl ?_
      exact r_iretI D171_70 rfl (⟨rfl, by omega, by rw [show K 469 = x5 by omega]; exact i0⟩)
    · refine s_blx (lv' := [(0, vR 77), (1, vI like), (2, vI n), (3, vI over), (4, vI x4), (5, vI x5)]) (st' := [vI x5, vR 77]) B171_19_22 rfl ?_
      refine r_vIp (c := 77) (args := [vI x5]) (rest := []) (pc' := 25) D171_22 rfl ck_11_virtual_138 TE159 rfl (Nat.le_of_ble_eq_true rfl) ⟨Nat.le_of_ble_eq_true rfl, Nat.le_of_ble_eq_true rfl⟩ sc_77 ⟨rfl, by decide⟩ H.1 (dp_0 hd rfl) (k159f E (dp_n hd rfl) H x5 K (h1) (by omega)) ?_
      intro v5 q9
      obtain ⟨q7, q8⟩ := q9
      have kw := q8; clear q8
      refine r_ifc (tgt := 62) (pc' := 28) D171_25 rfl rfl (by unfold inR; omega) (fun (c10 : v5 ≤ 0) => ?_) (fun (c10 : ¬ (v5 ≤ 0)) => ?_)
      · refine s_blx (lv' := [(5, vI (x5 + 1)), (0, vR 77), (1, vI like), (2, vI n), (3, vI over), (4, vI x4)]) (st' := []) B171_62_65 rfl ?_
        refine r_goto (tgt := 6) D171_65 rfl ?_
        refine r_loc (lv' := [(0, vR 77), (1, vI like), (2, vI n), (3, vI over), (4, vI x4), (5, vI (x5 + 1))]) ⟨rfl, rfl, rfl, rfl, rfl, rfl, trivial⟩ rfl rfl ?_
        exact ih x4 (x5 + 1) (by first | (rw [stF_in (by omega) ⟨by omega, kb1 (by omega), by omega⟩, ← i0, ← shI_of (by unfold inR; omega) kq1]; exact orI_of (by unfold inR; omega) kq2) | (rw [stF_out (by omega) (fun h => by have := h.1; omega)]; exact i0) | (rw [stF_out (by omega) (fun h => kb0 (by omega) h.2.1)]; exact i0) | (rw [stF_out (by omega) (fun h => h.2.2 ⟨by omega, by omega⟩)]; exact i0)) (by omega) (by omega) (by omega) (by omega) (by omega) (by omega) (by omega)
      · refine s_blx (lv' := [(0, vR 77), (1, vI like), (2, vI n), (3, vI over), (4, vI x4), (5, vI x5)]) (st' := [vI n, vI like, vI x5, vR 77]) B171_28_33 rfl ?_
        refine r_vIp (c := 77) (args := [vI x5, vI like, vI n]) (rest := []) (pc' := 36) D171_33 rfl ck_11_virtual_158 TE170 rfl (Nat.le_of_ble_eq_true rfl) ⟨Nat.le_of_ble_eq_true rfl, Nat.le_of_ble_eq_true rfl⟩ sc_77 ⟨rfl, by decide⟩ H.1 (dp_0 hd rfl) (k170f E (dp_n hd rfl) H x5 like n K (h1) (by omega) (by omega) (by omega)) ?_
        intro v11 q16
        obtain ⟨q13, q14, q15⟩ := q16
        have kb1 := q14; clear q14
        have kb0 := q15; clear q15
        refine r_ifc (tgt := 62) (pc' := 39) D171_36 rfl rfl (by unfold inR; omega) (fun (c17 : v11 = 0) => ?_) (fun (c17 : ¬ (v11 = 0)) => ?_)
        · refine s_blx (lv' := [(5, vI (x5 + 1)), (0, vR 77), (1, vI like), (2, vI n), (3, vI over), (4, vI x4)]) (st' := []) B171_62_65 rfl ?_
          refine r_goto (tgt := 6) D171_65 rfl ?_
          refine r_loc (lv' := [(0, vR 77), (1, vI like), (2, vI n), (3, vI over), (4, vI x4), (5, vI (x5 + 1))]) ⟨rfl, rfl, rfl, rfl, rfl, rfl, trivial⟩ rfl rfl ?_
          exact ih x4 (x5 + 1) (by first | (rw [stF_in (by omega) ⟨by omega, kb1 (by omega), by omega⟩, ← i0, ← shI_of (by unfold inR; omega) kq1]; exact orI_of (by unfold inR; omega) kq2) | (rw [stF_out (by omega) (fun h => by have := h.1; omega)]; exact i0) | (rw [stF_out (by omega) (fun h => kb0 (by omega) h.2.1)]; exact i0) | (rw [stF_out (by omega) (fun h => h.2.2 ⟨by omega, by omega⟩)]; exact i0)) (by omega) (by omega) (by omega) (by omega) (by omega) (by omega) (by omega)
        · refine s_blx (lv' := [(0, vR 77), (1, vI like), (2, vI n), (3, vI over), (4, vI x4), (5, vI x5)]) (st' := [vI over]) B171_39_40 rfl ?_
          refine r_ifc (tgt := 53) (pc' := 43) D171_40 rfl rfl (by unfold inR; omega) (fun (c18 : over = 0) => ?_) (fun (c18 : ¬ (over = 0)) => ?_)
          · refine s_blx (lv' := [(0, vR 77), (1, vI like), (2, vI n), (3, vI over), (4, vI x4), (5, vI x5)]) (st' := [vI x5, vI 1, vI x4]) B171_53_58 rfl ?_
            refine r_bin (pc' := 59) D171_58 rfl rfl ?_
            intro z19 r20 kq1; unfold inR at r20
            refine r_bin (pc' := 60) D171_59 rfl rfl ?_
            intro z21 r22 kq2; unfold inR at r22
            refine s_blx (lv' := [(5, vI (x5 + 1)), (4, vI z21), (0, vR 77), (1, vI like), (2, vI n), (3, vI over)]) (st' := []) B171_60_65 rfl ?_
            refine r_goto (tgt := 6) D171_65 rfl ?_
            refine r_loc (lv' := [(0, vR 77), (1, vI like), (2, vI n), (3, vI over), (4, vI z21), (5, vI (x5 + 1))]) ⟨rfl, rfl, rfl, rfl, rfl, rfl, trivial⟩ rfl rfl ?_
            exact ih z21 (x5 + 1) (by first | (rw [stF_in (by omega) ⟨by omega, kb1 (by omega), by omega⟩, ← i0, ← shI_of (by unfold inR; omega) kq1]; exact orI_of (by unfold inR; omega) kq2) | (rw [stF_out (by omega) (fun h => by have := h.1; omega)]; exact i0) | (rw [stF_out (by omega) (fun h => kb0 (by omega) h.2.1)]; exact i0) | (rw [stF_out (by omega) (fun h => h.2.2 ⟨by omega, by omega⟩)]; exact i0)) (by omega) (by omega) (by omega) (by omega) (by omega) (by omega) (by omega)
          · refine s_blx (lv' := [(0, vR 77), (1, vI like), (2, vI n), (3, vI over), (4, vI x4), (5, vI x5)]) (st' := [vI x5, vR 77]) B171_43_46 rfl ?_
            refine r_vIp (c := 77) (args := [vI x5]) (rest := []) (pc' := 49) D171_46 rfl ck_11_virtual_144 TE156 rfl (Nat.le_of_ble_eq_true rfl) ⟨Nat.le_of_ble_eq_true rfl, Nat.le_of_ble_eq_true rfl⟩ sc_77 ⟨rfl, by decide⟩ H.1 (dp_0 hd rfl) (k156f E (dp_n hd rfl) H x5 K (h1) (by omega)) ?_
            intro v23 q27
            obtain ⟨q25, q26⟩ := q27
            have kl := q26; clear q26
            refine s_blx (lv' := [(0, vR 77), (1, vI like), (2, vI n), (3, vI over), (4, vI x4), (5, vI x5)]) (st' := [vI n, vI v23]) B171_49_50 rfl ?_
            refine r_icmp (tgt := 62) (pc' := 53) D171_50 rfl rfl (by unfold inR; omega) (fun (c28 : n < v23) => ?_) (fun (c28 : ¬ (n < v23)) => ?_)
            · refine s_blx (lv' := [(5, vI (x5 + 1)), (0, vR 77), (1, vI like), (2, vI n), (3, vI over), (4, vI x4)]) (st' := []) B171_62_65 rfl ?_
              refine r_goto (tgt := 6) D171_65 rfl ?_
              refine r_loc (lv' := [(0, vR 77), (1, vI like), (2, vI n), (3, vI over), (4, vI x4), (5, vI (x5 + 1))]) ⟨rfl, rfl, rfl, rfl, rfl, rfl, trivial⟩ rfl rfl ?_
              exact ih x4 (x5 + 1) (by first | (rw [stF_in (by omega) ⟨by omega, kb1 (by omega), by omega⟩, ← i0, ← shI_of (by unfold inR; omega) kq1]; exact orI_of (by unfold inR; omega) kq2) | (rw [stF_out (by omega) (fun h => by have := h.1; omega)]; exact i0) | (rw [stF_out (by omega) (fun h => kb0 (by omega) h.2.1)]; exact i0) | (rw [stF_out (by omega) (fun h => h.2.2 ⟨by omega, by omega⟩)]; exact i0)) (by omega) (by omega) (by omega) (by omega) (by omega) (by omega) (by omega)
            · refine s_blx (lv' := [(0, vR 77), (1, vI like), (2, vI n), (3, vI over), (4, vI x4), (5, vI x5)]) (st' := [vI x5, vI 1, vI x4]) B171_53_58 rfl ?_
              refine r_bin (pc' := 59) D171_58 rfl rfl ?_
              intro z29 r30 kq1; unfold inR at r30
              refine r_bin (pc' := 60) D171_59 rfl rfl ?_
              intro z31 r32 kq2; unfold inR at r32
              refine s_blx (lv' := [(5, vI (x5 + 1)), (4, vI z31), (0, vR 77), (1, vI like), (2, vI n), (3, vI over)]) (st' := []) B171_60_65 rfl ?_
              refine r_goto (tgt := 6) D171_65 rfl ?_
              refine r_loc (lv' := [(0, vR 77), (1, vI like), (2, vI n), (3, vI over), (4, vI z31), (5, vI (x5 + 1))]) ⟨rfl, rfl, rfl, rfl, rfl, rfl, trivial⟩ rfl rfl ?_
              exact ih z31 (x5 + 1) (by first | (rw [stF_in (by omega) ⟨by omega, kb1 (by omega), by omega⟩, ← i0, ← shI_of (by unfold inR; omega) kq1]; exact orI_of (by unfold inR; omega) kq2) | (rw [stF_out (by omega) (fun h => by have := h.1; omega)]; exact i0) | (rw [stF_out (by omega) (fun h => kb0 (by omega) h.2.1)]; exact i0) | (rw [stF_out (by omega) (fun h => h.2.2 ⟨by omega, by omega⟩)]; exact i0)) (by omega) (by omega) (by omega) (by omega) (by omega) (by omega) (by omega)
set_option maxRecDepth 4000 in
theorem k171f {base : Nat} {X : Nat → Option mC} {G : Nat → Value} (E : EnvOK base X G) {d : Nat} (hd : 2 ≤ d) {M : mH} (H : HI base M) (like : Int) (n : Int) (over : Int) (K : Int → Int) (h0 : (over = 0 ∨ over = 1)) (h1 : KK K M) (h2 : 0 ≤ like ∧ like ≤ 15) (h3 : 0 ≤ n ∧ n ≤ 8) : sOk base X G d T171 [vR 77, vI like, vI n, vI over] M (pI (fun v M' => M' = M ∧ (-2147483648 ≤ v ∧ v ≤ 2147483647) ∧ v = stF K like n over (K 469).toNat)) := by
  refine sOk.of (show sRn base X G d T171 0 [(0, vR 77), (1, vI like), (2, vI n), (3, vI over)] [] M _ from ?_)
  have km := h1.many H
  refine s_blx (lv' := [(5, vI 0), (4, vI 0), (0, vR 77), (1, vI like), (2, vI n), (3, vI over)]) (st' := []) B171_0_6 rfl ?_
  refine r_loc (lv' := [(0, vR 77), (1, vI like), (2, vI n), (3, vI over), (4, vI 0), (5, vI 0)]) ⟨rfl, rfl, rfl, rfl, rfl, rfl, trivial⟩ rfl rfl ?_
  exact (L_k171f E hd H like n over K h0 h1 h2 h3 (((16 - 0) * 1 + 0 : Int) + 1).toNat) 0 0 (rfl) (by omega) (by omega) (by omega) (by omega) (by omega) (by omega) (by omega)
set_option maxRecDepth 4000 in
theorem L_k172f {base : Nat} {X : Nat → Option mC} {G : Nat → Value} (E : EnvOK base X G) {d : Nat} (hd : 1 ≤ d) {M : mH} (H : HI base M) (set : Int) (slot : Int) (K : Int → Int) (h0 : KK K M) (h1 : -2147483648 ≤ set ∧ set ≤ 2147483647) (h2 : 0 ≤ slot ∧ slot ≤ 2) : ∀ mz : Nat, (∀ (x3 x4 : Int), (x3 = vlF K set slot x4.toNat) → (-2147483648 ≤ x3 ∧ x3 ≤ 2147483647) → (x4 ≤ K 469) → ((-2147483648) ≤ x3) → (x3 ≤ 2147483647) → (0 ≤ x4) → (x4 ≤ 16) → (16 - x4) * 1 + 0 < (mz : Int) → sRn base X G d T172 5 [(0, vR 77), (1, vI set), (2, vI slot), (3, vI x3), (4, vI x4)] [] M (s_Q base (pI (fun v M' => M' = M ∧ (-2147483648 ≤ v ∧ v ≤ 2147483647) ∧ v = vlF K set slot (K 469).toNat)))) := by
  intro mz
  induction mz with
  | zero => exact fun x3 x4 z0 z1 z2 z3 z4 z5 z6 z7 => by omega
  | succ mz ih =>
    intro x3 x4 i0 i1 i2 i3 i4 i5 i6 hmu
    refine s_blx (lv' := [(0, vR 77), (1, vI set), (2, vI slot), (3, vI x3), (4, vI x4)]) (st' := [vR 77, vI x4]) B172_5_8 rfl ?_
    refine r_gfix (r := 78) (pc' := 11) D172_8 rfl gf_11_13_77 H.1 ?_
    refine s_blx (lv' := [(0, vR 77), (1, vI set), (2, vI slot), (3, vI x3), (4, vI x4)]) (st' := [vI 469, vR 78, vI x4]) B172_11_14 rfl ?_
    refine r_iald (pc' := 15) D172_14 rfl sc_78 H.1 (by omega) ?_
    intro w1 e2 r3
    have kk_w1 := (h0) (469)
    have b_w1 := H.2 78 (469) 0 16 (rk_many (by omega))
    rw [← e2] at b_w1; clear r3
    refine r_icmp (tgt := 46) (pc' := 18) D172_15 rfl rfl (by unfold inR; omega) (fun (c4 : w1 ≤ x4) => ?_) (fun (c4 : ¬ (w1 ≤ x4)) => ?_)
    · refine s_blx (lv' := [(0, vR 77), (1, vI set), (2, vI slot), (3, vI x3), (4, vI x4)]) (st' := [vI x3]) B172_46_47 rfl ?_
      exact r_iretI D172_47 rfl (⟨rfl, by omega, by rw [show K 469 = x4 by omega]; exact i0⟩)
    · refine s_blx (lv' := [(0, vR 77), (1, vI set), (2, vI slot), (3, vI x3), (4, vI x4)]) (st' := [vI x4, vI set]) B172_18_21 rfl ?_
      refine r_bin (pc' := 22) D172_21 rfl rfl ?_
      intro z5 r6 kq0; unfold inR at r6
      refine s_blx (lv' := [(0, vR 77), (1, vI set), (2, vI slot), (3, vI x3), (4, vI x4)]) (st' := [vI 1, vI z5]) B172_22_23 rfl ?_
      refine r_and1 (pc' := 24) D172_23 rfl ?_
      refine s_blx (lv' := [(0, vR 77), (1, vI set), (2, vI slot), (3, vI x3), (4, vI x4)]) (st' := [vI 1, vI (z5 % 2)]) B172_24_25 rfl ?_
      refine r_icmp (tgt := 40) (pc' := 28) D172_25 rfl rfl (by unfold inR; omega) (fun (c7 : (z5 % 2) ≠ 1) => ?_) (fun (c7 : ¬ ((z5 % 2) ≠ 1)) => ?_)
      · refine s_blx (lv' := [(4, vI (x4 + 1)), (0, vR 77), (1, vI set), (2, vI slot), (3, vI x3)]) (st' := []) B172_40_43 rfl ?_
        refine r_goto (tgt := 5) D172_43 rfl ?_
        refine r_loc (lv' := [(0, vR 77), (1, vI set), (2, vI slot), (3, vI x3), (4, vI (x4 + 1))]) ⟨rfl, rfl, rfl, rfl, rfl, trivial⟩ rfl rfl ?_
        exact ih x3 (x4 + 1) (by first | (rw [vlF_in (by omega) (by rw [← srI_of (by unfold inR; omega) kq0]; omega), ← i0, ← kv, ← shI_of (by unfold inR; omega) kq1]; exact orI_of (by unfold inR; omega) kq2) | (rw [vlF_out (by omega) (by rw [← srI_of (by unfold inR; omega) kq0]; omega)]; exact i0)) (by omega) (by omega) (by omega) (by omega) (by omega) (by omega) (by omega)
      · refine s_blx (lv' := [(0, vR 77), (1, vI set), (2, vI slot), (3, vI x3), (4, vI x4)]) (st' := [vI slot, vI x4, vR 77, vI 1, vI x3]) B172_28_34 rfl ?_
        refine r_vIp (c := 77) (args := [vI x4, vI slot]) (rest := [vI 1, vI x3]) (pc' := 37) D172_34 rfl ck_11_virtual_161 TE158 rfl (Nat.le_of_ble_eq_true rfl) ⟨Nat.le_of_ble_eq_true rfl, Nat.le_of_ble_eq_true rfl⟩ sc_77 ⟨rfl, by decide⟩ H.1 (dp_0 hd rfl) (k158f E (dp_n hd rfl) H x4 slot K (h0) (by omega) (by omega)) ?_
        intro v8 q12
        obtain ⟨q10, q11⟩ := q12
        have kv := q11; clear q11
        refine r_bin (pc' := 38) D172_37 rfl rfl ?_
        intro z13 r14 kq1; unfold inR at r14
        refine r_bin (pc' := 39) D172_38 rfl rfl ?_
        intro z15 r16 kq2; unfold inR at r16
        refine s_blx (lv' := [(4, vI (x4 + 1)), (3, vI z15), (0, vR 77), (1, vI set), (2, vI slot)]) (st' := []) B172_39_43 rfl ?_
        refine r_goto (tgt := 5) D172_43 rfl ?_
        refine r_loc (lv' := [(0, vR 77), (1, vI set), (2, vI slot), (3, vI z15), (4, vI (x4 + 1))]) ⟨rfl, rfl, rfl, rfl, rfl, trivial⟩ rfl rfl ?_
        exact ih z15 (x4 + 1) (by first | (rw [vlF_in (by omega) (by rw [← srI_of (by unfold inR; omega) kq0]; omega), ← i0, ← kv, ← shI_of (by unfold inR; omega) kq1]; exact orI_of (by unfold inR; omega) kq2) | (rw [vlF_out (by omega) (by rw [← srI_of (by unfold inR; omega) kq0]; omega)]; exact i0)) (by omega) (by omega) (by omega) (by omega) (by omega) (by omega) (by omega)
set_option maxRecDepth 4000 in
theorem k172f {base : Nat} {X : Nat → Option mC} {G : Nat → Value} (E : EnvOK base X G) {d : Nat} (hd : 1 ≤ d) {M : mH} (H : HI base M) (set : Int) (slot : Int) (K : Int → Int) (h0 : KK K M) (h1 : -2147483648 ≤ set ∧ set ≤ 2147483647) (h2 : 0 ≤ slot ∧ slot ≤ 2) : sOk base X G d T172 [vR 77, vI set, vI slot] M (pI (fun v M' => M' = M ∧ (-2147483648 ≤ v ∧ v ≤ 2147483647) ∧ v = vlF K set slot (K 469).toNat)) := by
  refine sOk.of (show sRn base X G d T172 0 [(0, vR 77), (1, vI set), (2, vI slot)] [] M _ from ?_)
  have km := h0.many H
  refine s_blx (lv' := [(4, vI 0), (3, vI 0), (0, vR 77), (1, vI set), (2, vI slot)]) (st' := []) B172_0_5 rfl ?_
  refine r_loc (lv' := [(0, vR 77), (1, vI set), (2, vI slot), (3, vI 0), (4, vI 0)]) ⟨rfl, rfl, rfl, rfl, rfl, trivial⟩ rfl rfl ?_
  exact (L_k172f E hd H set slot K h0 h1 h2 (((16 - 0) * 1 + 0 : Int) + 1).toNat) 0 0 (rfl) (by omega) (by omega) (by omega) (by omega) (by omega) (by omega) (by omega)
set_option maxRecDepth 4000 in
theorem L_k176f {base : Nat} {X : Nat → Option mC} {G : Nat → Value} (E : EnvOK base X G) {d : Nat} (hd : 0 ≤ d) {M : mH} (H : HI base M) (bits : Int) (h0 : -2147483648 ≤ bits ∧ bits ≤ 2147483647) : ∀ mz : Nat, (∀ (x1 x2 : Int), (x1 = alF bits x2.toNat) → ((-1) ≤ x1) → (x1 ≤ 7) → (0 ≤ x2) → (x2 ≤ 8) → (8 - x2) * 1 + 0 < (mz : Int) → sRn base X G d T176 4 [(0, vI bits), (1, vI x1), (2, vI x2)] [] M (s_Q base (pI (fun v M' => M' = M ∧ (-1 ≤ v ∧ v ≤ 7) ∧ v = alF bits 8)))) := by
  intro mz
  induction mz with
  | zero => exact fun x1 x2 z0 z1 z2 z3 z4 z5 => by omega
  | succ mz ih =>
    intro x1 x2 i0 i1 i2 i3 i4 hmu
    refine s_blx (lv' := [(0, vI bits), (1, vI x1), (2, vI x2)]) (st' := [vI 8, vI x2]) B176_4_7 rfl ?_
    refine r_icmp (tgt := 25) (pc' := 10) D176_7 rfl rfl (by unfold inR; omega) (fun (c1 : 8 ≤ x2) => ?_) (fun (c1 : ¬ (8 ≤ x2)) => ?_)
    · refine s_blx (lv' := [(0, vI bits), (1, vI x1), (2, vI x2)]) (st' := [vI x1]) B176_25_26 rfl ?_
      exact r_iretI D176_26 rfl (⟨rfl, by omega, by rw [show (8 : Nat) = x2.toNat by omega]; exact i0⟩)
    · refine s_blx (lv' := [(0, vI bits), (1, vI x1), (2, vI x2)]) (st' := [vI x2, vI 1, vI bits]) B176_10_13 rfl ?_
      refine r_bin (pc' := 14) D176_13 rfl rfl ?_
      intro z2 r3 kq; unfold inR at r3
      refine r_icmp (tgt := 19) (pc' := 17) D176_14 rfl rfl (by unfold inR; omega) (fun (c4 : bits ≠ z2) => ?_) (fun (c4 : ¬ (bits ≠ z2)) => ?_)
      · refine s_blx (lv' := [(2, vI (x2 + 1)), (0, vI bits), (1, vI x1)]) (st' := []) B176_19_22 rfl ?_
        refine r_goto (tgt := 4) D176_22 rfl ?_
        refine r_loc (lv' := [(0, vI bits), (1, vI x1), (2, vI (x2 + 1))]) ⟨rfl, rfl, rfl, trivial⟩ rfl rfl ?_
        exact ih x1 (x2 + 1) (by first | (rw [alF_in (by omega) (by rw [← shI_of (by unfold inR; omega) kq]; omega)]) | (rw [alF_out (by omega) (by rw [← shI_of (by unfold inR; omega) kq]; omega)]; exact i0)) (by omega) (by omega) (by omega) (by omega) (by omega)
      · refine s_blx (lv' := [(2, vI (x2 + 1)), (1, vI x2), (0, vI bits)]) (st' := []) B176_17_22 rfl ?_
        refine r_goto (tgt := 4) D176_22 rfl ?_
        refine r_loc (lv' := [(0, vI bits), (1, vI x2), (2, vI (x2 + 1))]) ⟨rfl, rfl, rfl, trivial⟩ rfl rfl ?_
        exact ih x2 (x2 + 1) (by first | (rw [alF_in (by omega) (by rw [← shI_of (by unfold inR; omega) kq]; omega)]) | (rw [alF_out (by omega) (by rw [← shI_of (by unfold inR; omega) kq]; omega)]; exact i0)) (by omega) (by omega) (by omega) (by omega) (by omega)
set_option maxRecDepth 4000 in
theorem k176f {base : Nat} {X : Nat → Option mC} {G : Nat → Value} (E : EnvOK base X G) {d : Nat} (hd : 0 ≤ d) {M : mH} (H : HI base M) (bits : Int) (h0 : -2147483648 ≤ bits ∧ bits ≤ 2147483647) : sOk base X G d T176 [vI bits] M (pI (fun v M' => M' = M ∧ (-1 ≤ v ∧ v ≤ 7) ∧ v = alF bits 8)) := by
  refine sOk.of (show sRn base X G d T176 0 [(0, vI bits)] [] M _ from ?_)
  refine s_blx (lv' := [(2, vI 0), (1, vI (-1)), (0, vI bits)]) (st' := []) B176_0_4 rfl ?_
  refine r_loc (lv' := [(0, vI bits), (1, vI (-1)), (2, vI 0)]) ⟨rfl, rfl, rfl, trivial⟩ rfl rfl ?_
  exact (L_k176f E hd H bits h0 (((8 - 0) * 1 + 0 : Int) + 1).toNat) (-1) 0 (rfl) (by omega) (by omega) (by omega) (by omega) (by omega)
set_option maxRecDepth 4000 in
theorem L_k180f {base : Nat} {X : Nat → Option mC} {G : Nat → Value} (E : EnvOK base X G) {d : Nat} (hd : 0 ≤ d) {M : mH} (H : HI base M) (slot : Int) (bits : Int) (K : Int → Int) (h0 : KK K M) (h1 : -2147483648 ≤ slot ∧ slot ≤ 2147483647) (h2 : -2147483648 ≤ bits ∧ bits ≤ 2147483647) : ∀ mz : Nat, (∀ (x3 x4 : Int), (x3 = opF K slot bits x4.toNat) → (x4 ≤ K 470) → ((-1) ≤ x3) → (x3 ≤ 11) → (0 ≤ x4) → (x4 ≤ 12) → (12 - x4) * 1 + 0 < (mz : Int) → sRn base X G d T180 5 [(0, vR 77), (1, vI slot), (2, vI bits), (3, vI x3), (4, vI x4)] [] M (s_Q base (pI (fun v M' => M' = M ∧ (-1 ≤ v ∧ v ≤ 11) ∧ v = opF K slot bits (K 470).toNat)))) := by
  intro mz
  induction mz with
  | zero => exact fun x3 x4 z0 z1 z2 z3 z4 z5 z6 => by omega
  | succ mz ih =>
    intro x3 x4 i0 i1 i2 i3 i4 i5 hmu
    refine s_blx (lv' := [(0, vR 77), (1, vI slot), (2, vI bits), (3, vI x3), (4, vI x4)]) (st' := [vR 77, vI x4]) B180_5_8 rfl ?_
    refine r_gfix (r := 78) (pc' := 11) D180_8 rfl gf_11_13_77 H.1 ?_
    refine s_blx (lv' := [(0, vR 77), (1, vI slot), (2, vI bits), (3, vI x3), (4, vI x4)]) (st' := [vI 470, vR 78, vI x4]) B180_11_14 rfl ?_
    refine r_iald (pc' := 15) D180_14 rfl sc_78 H.1 (by omega) ?_
    intro w1 e2 r3
    have kk_w1 := (h0) (470)
    have b_w1 := H.2 78 (470) 0 12 (rk_openmany (by omega))
    rw [← e2] at b_w1; clear r3
    refine r_icmp (tgt := 96) (pc' := 18) D180_15 rfl rfl (by unfold inR; omega) (fun (c4 : w1 ≤ x4) => ?_) (fun (c4 : ¬ (w1 ≤ x4)) => ?_)
    · refine s_blx (lv' := [(0, vR 77), (1, vI slot), (2, vI bits), (3, vI x3), (4, vI x4)]) (st' := [vI x3]) B180_96_97 rfl ?_
      exact r_iretI D180_97 rfl (⟨rfl, by omega, by rw [show K 470 = x4 by omega]; exact i0⟩)
    · refine s_blx (lv' := [(5, vI (99 + (3 * x4))), (0, vR 77), (1, vI slot), (2, vI bits), (3, vI x3), (4, vI x4)]) (st' := [vR 77]) B180_18_28 rfl ?_
      refine r_gfix (r := 78) (pc' := 31) D180_28 rfl gf_11_13_77 H.1 ?_
      refine s_blx (lv' := [(5, vI (99 + (3 * x4))), (0, vR 77), (1, vI slot), (2, vI bits), (3, vI x3), (4, vI x4)]) (st' := [vI (99 + (3 * x4)), vR 78]) B180_31_33 rfl ?_
      refine r_iald (pc' := 34) D180_33 rfl sc_78 H.1 (by omega) ?_
      intro w5 e6 r7
      have kk_w5 := (h0) (99 + (3 * x4))
      have b_w5 := H.2 78 (99 + (3 * x4)) 0 255 (rk_opening (by omega))
      rw [← e6] at b_w5; clear r7
      refine s_blx (lv' := [(5, vI (99 + (3 * x4))), (0, vR 77), (1, vI slot), (2, vI bits), (3, vI x3), (4, vI x4)]) (st' := [vI slot, vI w5]) B180_34_35 rfl ?_
      refine r_icmp (tgt := 90) (pc' := 38) D180_35 rfl rfl (by unfold inR; omega) (fun (c8 : w5 ≠ slot) => ?_) (fun (c8 : ¬ (w5 ≠ slot)) => ?_)
      · refine s_blx (lv' := [(4, vI (x4 + 1)), (5, vI (99 + (3 * x4))), (0, vR 77), (1, vI slot), (2, vI bits), (3, vI x3)]) (st' := []) B180_90_93 rfl ?_
        refine r_goto (tgt := 5) D180_93 rfl ?_
        refine r_loc (lv' := [(0, vR 77), (1, vI slot), (2, vI bits), (3, vI x3), (4, vI (x4 + 1))]) ⟨rfl, rfl, rfl, rfl, rfl, trivial⟩ rfl rfl ?_
        exact ih x3 (x4 + 1) (by first | (rw [opF_in (by omega) (by rw [← i0]; exact ⟨by omega, by rw [← ko, ← opI_of (by unfold inR; omega) kq2 kq1]; omega, by omega⟩)]) | (rw [opF_out (by omega) (fun h => by have := h.1; omega)]; exact i0) | (rw [opF_out (by omega) (fun h => by have k := h.2.1; rw [← ko, ← opI_of (by unfold inR; omega) kq2 kq1] at k; omega)]; exact i0) | (rw [opF_out (by omega) (fun h => by rw [← i0] at h; have k := h.2.2; omega)]; exact i0)) (by omega) (by omega) (by omega) (by omega) (by omega) (by omega)
      · refine s_blx (lv' := [(5, vI (99 + (3 * x4))), (0, vR 77), (1, vI slot), (2, vI bits), (3, vI x3), (4, vI x4)]) (st' := [vR 77, vI bits]) B180_38_40 rfl ?_
        refine r_gfix (r := 78) (pc' := 43) D180_40 rfl gf_11_13_77 H.1 ?_
        refine s_blx (lv' := [(5, vI (99 + (3 * x4))), (0, vR 77), (1, vI slot), (2, vI bits), (3, vI x3), (4, vI x4)]) (st' := [vI ((99 + (3 * x4)) + 1), vR 78, vI bits]) B180_43_47 rfl ?_
        refine r_iald (pc' := 48) D180_47 rfl sc_78 H.1 (by omega) ?_
        intro w9 e10 r11
        have kk_w9 := (h0) ((99 + (3 * x4)) + 1)
        have b_w9 := H.2 78 ((99 + (3 * x4)) + 1) 0 255 (rk_opening (by omega))
        rw [← e10] at b_w9; clear r11
        have ko : w9 = K (99 + 3 * x4 + 1) := by omega
        refine s_blx (lv' := [(5, vI (99 + (3 * x4))), (0, vR 77), (1, vI slot), (2, vI bits), (3, vI x3), (4, vI x4)]) (st' := [vI (-1), vI w9, vI bits]) B180_48_49 rfl ?_
        refine r_bin (pc' := 50) D180_49 rfl rfl ?_
        intro z12 r13 kq1; unfold inR at r13
        refine r_bin (pc' := 51) D180_50 rfl rfl ?_
        intro z14 r15 kq2; unfold inR at r15
        refine r_ifc (tgt := 57) (pc' := 54) D180_51 rfl rfl (by unfold inR; omega) (fun (c16 : z14 = 0) => ?_) (fun (c16 : ¬ (z14 = 0)) => ?_)
        · refine s_blx (lv' := [(5, vI (99 + (3 * x4))), (0, vR 77), (1, vI slot), (2, vI bits), (3, vI x3), (4, vI x4)]) (st' := [vI (-1), vI x3]) B180_57_59 rfl ?_
          refine r_icmp (tgt := 87) (pc' := 62) D180_59 rfl rfl (by unfold inR; omega) (fun (c17 : x3 = (-1)) => ?_) (fun (c17 : ¬ (x3 = (-1))) => ?_)
          · refine s_blx (lv' := [(4, vI (x4 + 1)), (3, vI x4), (5, vI (99 + (3 * x4))), (0, vR 77), (1, vI slot), (2, vI bits)]) (st' := []) B180_87_93 rfl ?_
            refine r_goto (tgt := 5) D180_93 rfl ?_
            refine r_loc (lv' := [(0, vR 77), (1, vI slot), (2, vI bits), (3, vI x4), (4, vI (x4 + 1))]) ⟨rfl, rfl, rfl, rfl, rfl, trivial⟩ rfl rfl ?_
            exact ih x4 (x4 + 1) (by first | (rw [opF_in (by omega) (by rw [← i0]; exact ⟨by omega, by rw [← ko, ← opI_of (by unfold inR; omega) kq2 kq1]; omega, by omega⟩)]) | (rw [opF_out (by omega) (fun h => by have := h.1; omega)]; exact i0) | (rw [opF_out (by omega) (fun h => by have k := h.2.1; rw [← ko, ← opI_of (by unfold inR; omega) kq2 kq1] at k; omega)]; exact i0) | (rw [opF_out (by omega) (fun h => by rw [← i0] at h; have k := h.2.2; omega)]; exact i0)) (by omega) (by omega) (by omega) (by omega) (by omega) (by omega)
          · refine s_blx (lv' := [(5, vI (99 + (3 * x4))), (0, vR 77), (1, vI slot), (2, vI bits), (3, vI x3), (4, vI x4)]) (st' := [vR 77]) B180_62_63 rfl ?_
            refine r_gfix (r := 78) (pc' := 66) D180_63 rfl gf_11_13_77 H.1 ?_
            refine s_blx (lv' := [(5, vI (99 + (3 * x4))), (0, vR 77), (1, vI slot), (2, vI bits), (3, vI x3), (4, vI x4)]) (st' := [vI ((99 + (3 * x4)) + 2), vR 78]) B180_66_70 rfl ?_
            refine r_iald (pc' := 71) D180_70 rfl sc_78 H.1 (by omega) ?_
            intro w18 e19 r20
            have kk_w18 := (h0) ((99 + (3 * x4)) + 2)
            have b_w18 := H.2 78 ((99 + (3 * x4)) + 2) 0 255 (rk_opening (by omega))
            rw [← e19] at b_w18; clear r20
            refine s_blx (lv' := [(5, vI (99 + (3 * x4))), (0, vR 77), (1, vI slot), (2, vI bits), (3, vI x3), (4, vI x4)]) (st' := [vR 77, vI w18]) B180_71_72 rfl ?_
            refine r_gfix (r := 78) (pc' := 75) D180_72 rfl gf_11_13_77 H.1 ?_
            refine s_blx (lv' := [(5, vI (99 + (3 * x4))), (0, vR 77), (1, vI slot), (2, vI bits), (3, vI x3), (4, vI x4)]) (st' := [vI ((99 + (3 * x3)) + 2), vR 78, vI w18]) B180_75_83 rfl ?_
            refine r_iald (pc' := 84) D180_83 rfl sc_78 H.1 (by omega) ?_
            intro w21 e22 r23
            have kk_w21 := (h0) ((99 + (3 * x3)) + 2)
            have b_w21 := H.2 78 ((99 + (3 * x3)) + 2) 0 255 (rk_opening (by omega))
            rw [← e22] at b_w21; clear r23
            refine r_icmp (tgt := 90) (pc' := 87) D180_84 rfl rfl (by unfold inR; omega) (fun (c24 : w21 ≤ w18) => ?_) (fun (c24 : ¬ (w21 ≤ w18)) => ?_)
            · refine s_blx (lv' := [(4, vI (x4 + 1)), (5, vI (99 + (3 * x4))), (0, vR 77), (1, vI slot), (2, vI bits), (3, vI x3)]) (st' := []) B180_90_93 rfl ?_
              refine r_goto (tgt := 5) D180_93 rfl ?_
              refine r_loc (lv' := [(0, vR 77), (1, vI slot), (2, vI bits), (3, vI x3), (4, vI (x4 + 1))]) ⟨rfl, rfl, rfl, rfl, rfl, trivial⟩ rfl rfl ?_
              exact ih x3 (x4 + 1) (by first | (rw [opF_in (by omega) (by rw [← i0]; exact ⟨by omega, by rw [← ko, ← opI_of (by unfold inR; omega) kq2 kq1]; omega, by omega⟩)]) | (rw [opF_out (by omega) (fun h => by have := h.1; omega)]; exact i0) | (rw [opF_out (by omega) (fun h => by have k := h.2.1; rw [← ko, ← opI_of (by unfold inR; omega) kq2 kq1] at k; omega)]; exact i0) | (rw [opF_out (by omega) (fun h => by rw [← i0] at h; have k := h.2.2; omega)]; exact i0)) (by omega) (by omega) (by omega) (by omega) (by omega) (by omega)
            · refine s_blx (lv' := [(4, vI (x4 + 1)), (3, vI x4), (5, vI (99 + (3 * x4))), (0, vR 77), (1, vI slot), (2, vI bits)]) (st' := []) B180_87_93 rfl ?_
              refine r_goto (tgt := 5) D180_93 rfl ?_
              refine r_loc (lv' := [(0, vR 77), (1, vI slot), (2, vI bits), (3, vI x4), (4, vI (x4 + 1))]) ⟨rfl, rfl, rfl, rfl, rfl, trivial⟩ rfl rfl ?_
              exact ih x4 (x4 + 1) (by first | (rw [opF_in (by omega) (by rw [← i0]; exact ⟨by omega, by rw [← ko, ← opI_of (by unfold inR; omega) kq2 kq1]; omega, by omega⟩)]) | (rw [opF_out (by omega) (fun h => by have := h.1; omega)]; exact i0) | (rw [opF_out (by omega) (fun h => by have k := h.2.1; rw [← ko, ← opI_of (by unfold inR; omega) kq2 kq1] at k; omega)]; exact i0) | (rw [opF_out (by omega) (fun h => by rw [← i0] at h; have k := h.2.2; omega)]; exact i0)) (by omega) (by omega) (by omega) (by omega) (by omega) (by omega)
        · refine r_goto (tgt := 90) D180_54 rfl ?_
          refine s_blx (lv' := [(4, vI (x4 + 1)), (5, vI (99 + (3 * x4))), (0, vR 77), (1, vI slot), (2, vI bits), (3, vI x3)]) (st' := []) B180_90_93 rfl ?_
          refine r_goto (tgt := 5) D180_93 rfl ?_
          refine r_loc (lv' := [(0, vR 77), (1, vI slot), (2, vI bits), (3, vI x3), (4, vI (x4 + 1))]) ⟨rfl, rfl, rfl, rfl, rfl, trivial⟩ rfl rfl ?_
          exact ih x3 (x4 + 1) (by first | (rw [opF_in (by omega) (by rw [← i0]; exact ⟨by omega, by rw [← ko, ← opI_of (by unfold inR; omega) kq2 kq1]; omega, by omega⟩)]) | (rw [opF_out (by omega) (fun h => by have := h.1; omega)]; exact i0) | (rw [opF_out (by omega) (fun h => by have k := h.2.1; rw [← ko, ← opI_of (by unfold inR; omega) kq2 kq1] at k; omega)]; exact i0) | (rw [opF_out (by omega) (fun h => by rw [← i0] at h; have k := h.2.2; omega)]; exact i0)) (by omega) (by omega) (by omega) (by omega) (by omega) (by omega)
set_option maxRecDepth 4000 in
theorem k180f {base : Nat} {X : Nat → Option mC} {G : Nat → Value} (E : EnvOK base X G) {d : Nat} (hd : 0 ≤ d) {M : mH} (H : HI base M) (slot : Int) (bits : Int) (K : Int → Int) (h0 : KK K M) (h1 : -2147483648 ≤ slot ∧ slot ≤ 2147483647) (h2 : -2147483648 ≤ bits ∧ bits ≤ 2147483647) : sOk base X G d T180 [vR 77, vI slot, vI bits] M (pI (fun v M' => M' = M ∧ (-1 ≤ v ∧ v ≤ 11) ∧ v = opF K slot bits (K 470).toNat)) := by
  refine sOk.of (show sRn base X G d T180 0 [(0, vR 77), (1, vI slot), (2, vI bits)] [] M _ from ?_)
  have km := h0.openmany H
  refine s_blx (lv' := [(4, vI 0), (3, vI (-1)), (0, vR 77), (1, vI slot), (2, vI bits)]) (st' := []) B180_0_5 rfl ?_
  refine r_loc (lv' := [(0, vR 77), (1, vI slot), (2, vI bits), (3, vI (-1)), (4, vI 0)]) ⟨rfl, rfl, rfl, rfl, rfl, trivial⟩ rfl rfl ?_
  exact (L_k180f E hd H slot bits K h0 h1 h2 (((12 - 0) * 1 + 0 : Int) + 1).toNat) (-1) 0 (rfl) (by omega) (by omega) (by omega) (by omega) (by omega) (by omega)
set_option maxRecDepth 4000 in
theorem L_k183f {base : Nat} {X : Nat → Option mC} {G : Nat → Value} (E : EnvOK base X G) {d : Nat} (hd : 3 ≤ d) {M : mH} (H : HI base M) (s : Int) (n : Int) (isOver : Int) (K : Int → Int) (h0 : (isOver = 0 ∨ isOver = 1)) (h1 : KK K M) (h2 : 0 ≤ s ∧ s ≤ 15) (h3 : 0 ≤ n ∧ n ≤ 8) : ∀ mz : Nat, (∀ (x4 zz wh : Int) (N : mH), HI base N → Fr [(77, 7), (77, 8), (77, 9), (77, 10), (83, 0), (84, 0), (85, 0)] M N → (gi N 77 6 = zz) → (gi N 77 8 = wh) → (gi N 77 9 = isOver) → (zz = stF K s n isOver (K 469).toNat) → (SC K s n isOver s → s < K 469 → 1 ≤ wh) → (-2147483648 ≤ zz ∧ zz ≤ 2147483647) → (0 ≤ x4) → (x4 ≤ 8) → (8 - x4) * 1 + 4 < (mz : Int) → sRn base X G d T183 36 [(0, vR 77), (1, vI s), (2, vI n), (4, vI x4)] [] N (s_Q base (pV (fun M' => HI base M' ∧ Fr [(77, 7), (77, 8), (77, 9), (77, 10), (83, 0), (84, 0), (85, 0)] M M' ∧ (gi M' 77 9 = isOver) ∧ (gi M' 77 6 = stF K s n isOver (K 469).toNat) ∧ (RS n (gi M' 77 6) M') ∧ (∀ i : Int, 0 ≤ i → i ≤ 2 → gi M' 83 i = caF K s n isOver i ∧ gi M' 84 i = suF K s n isOver i ∧ gi M' 85 i = onF K s n isOver i) ∧ (SC K s n isOver s → s < K 469 → 1 ≤ gi M' 77 8))))) ∧ (∀ (x4 zz wh : Int) (N : mH), HI base N → Fr [(77, 7), (77, 8), (77, 9), (77, 10), (83, 0), (84, 0), (85, 0)] M N → (gi N 77 6 = zz) → (gi N 77 8 = wh) → (gi N 77 9 = isOver) → (zz = stF K s n isOver (K 469).toNat) → (SC K s n isOver s → s < K 469 → 1 ≤ wh) → (∀ i : Int, 0 ≤ i → i < x4 → gi N 83 i = caF K s n isOver i ∧ gi N 84 i = suF K s n isOver i ∧ gi N 85 i = onF K s n isOver i) → (-2147483648 ≤ zz ∧ zz ≤ 2147483647) → (0 ≤ x4) → (x4 ≤ 3) → (3 - x4) * 1 + 0 < (mz : Int) → sRn base X G d T183 74 [(0, vR 77), (4, vI x4)] [] N (s_Q base (pV (fun M' => HI base M' ∧ Fr [(77, 7), (77, 8), (77, 9), (77, 10), (83, 0), (84, 0), (85, 0)] M M' ∧ (gi M' 77 9 = isOver) ∧ (gi M' 77 6 = stF K s n isOver (K 469).toNat) ∧ (RS n (gi M' 77 6) M') ∧ (∀ i : Int, 0 ≤ i → i ≤ 2 → gi M' 83 i = caF K s n isOver i ∧ gi M' 84 i = suF K s n isOver i ∧ gi M' 85 i = onF K s n isOver i) ∧ (SC K s n isOver s → s < K 469 → 1 ≤ gi M' 77 8))))) := by
  have f0 : Fr [(77, 7), (77, 8), (77, 9), (77, 10), (83, 0), (84, 0), (85, 0)] M M := Fr.rf
  intro mz
  induction mz with
  | zero => exact ⟨fun x4 zz wh N _ _ z0 z1 z2 z3 z4 z5 z6 z7 z8 => by omega, fun x4 zz wh N _ _ z0 z1 z2 z3 z4 z5 z6 z7 z8 z9 => by omega⟩
  | succ mz ih =>
    refine ⟨?_, ?_⟩
    · intro x4 zz wh N HN fN i0 i1 i2 i3 i4 i5 i6 i7 hmu
      refine s_blx (lv' := [(0, vR 77), (1, vI s), (2, vI n), (4, vI x4)]) (st' := [vI n, vI x4]) B183_36_39 rfl ?_
      refine r_icmp (tgt := 71) (pc' := 42) D183_39 rfl rfl (by unfold inR; omega) (fun (c38 : n ≤ x4) => ?_) (fun (c38 : ¬ (n ≤ x4)) => ?_)
      · refine s_blx (lv' := [(4, vI 0), (0, vR 77), (1, vI s), (2, vI n)]) (st' := []) B183_71_74 rfl ?_
        refine r_loc (lv' := [(0, vR 77), (4, vI 0)]) ⟨rfl, rfl, trivial⟩ rfl rfl ?_
        exact ih.2 0 zz wh N HN fN (by omega) (by omega) (by omega) (i3) (i4) (fun i h1 h2 => by omega) (by omega) (by omega) (by omega) (by omega)
      · refine s_blx (lv' := [(0, vR 77), (1, vI s), (2, vI n), (4, vI x4)]) (st' := [vR 77, vR 77]) B183_42_44 rfl ?_
        refine r_gint (ki := 7) (pc' := 47) D183_44 rfl gf_11_200_77 rfl HN.1 ?_
        intro w39 e40 r41
        unfold inR at r41
        refine s_blx (lv' := [(0, vR 77), (1, vI s), (2, vI n), (4, vI x4)]) (st' := [vR 77, vI w39, vR 77]) B183_47_48 rfl ?_
        refine r_gfix (r := 78) (pc' := 51) D183_48 rfl gf_11_13_77 HN.1 ?_
        refine s_blx (lv' := [(0, vR 77), (1, vI s), (2, vI n), (4, vI x4)]) (st' := [vI x4, vI s, vR 77, vI 0, vR 78, vI w39, vR 77]) B183_51_56 rfl ?_
        refine r_vIp (c := 77) (args := [vI s, vI x4]) (rest := [vI 0, vR 78, vI w39, vR 77]) (pc' := 59) D183_56 rfl ck_11_virtual_147 TE157 rfl (Nat.le_of_ble_eq_true rfl) ⟨Nat.le_of_ble_eq_true rfl, Nat.le_of_ble_eq_true rfl⟩ sc_77 ⟨rfl, by decide⟩ HN.1 (dp_0 hd rfl) (k157f E (dp_n hd rfl) HN s x4 K ((h1.fr fN rfl)) (by omega) (by omega)) ?_
        intro v42 q46
        obtain ⟨q44, q45⟩ := q46
        refine s_blx (lv' := [(0, vR 77), (1, vI s), (2, vI n), (4, vI x4)]) (st' := [vI (0 + v42), vR 78, vI w39, vR 77]) B183_59_60 rfl ?_
        refine r_iald (pc' := 61) D183_60 rfl sc_78 HN.1 (by omega) ?_
        intro w47 e48 r49
        have kk_w47 := ((h1.fr fN rfl)) (0 + v42)
        have b_w47 := HN.2 78 (0 + v42) 0 9 (rk_load (by omega))
        rw [← e48] at b_w47; clear r49
        refine s_blx (lv' := [(0, vR 77), (1, vI s), (2, vI n), (4, vI x4)]) (st' := [vI (w39 + w47), vR 77]) B183_61_62 rfl ?_
        refine r_norm ?_
        intro z50 r51 _; unfold inR at r51
        refine r_pint (ki := 7) (pc' := 65) D183_62 rfl pf_11_200_77 rfl HN (by unfold inR; omega) trivial ?_
        intro M52 u53 H54 p55
        have f56 := fN.wr u53 rfl
        refine s_blx (lv' := [(4, vI (x4 + 1)), (0, vR 77), (1, vI s), (2, vI n)]) (st' := []) B183_65_68 rfl ?_
        refine r_goto (tgt := 36) D183_68 rfl ?_
        refine r_loc (lv' := [(0, vR 77), (1, vI s), (2, vI n), (4, vI (x4 + 1))]) ⟨rfl, rfl, rfl, rfl, trivial⟩ rfl rfl ?_
        have g57 : gi M52 77 6 = zz := (u53.gi_ne (by decide) (Or.inr (by decide))).trans (i0)
        have g58 : gi M52 77 8 = wh := (u53.gi_ne (by decide) (Or.inr (by decide))).trans (i1)
        have g59 : gi M52 77 9 = isOver := (u53.gi_ne (by decide) (Or.inr (by decide))).trans (i2)
        exact ih.1 (x4 + 1) zz wh M52 H54 f56 (by omega) (by omega) (by omega) (i3) (i4) (by omega) (by omega) (by omega) (by omega)
    · intro x4 zz wh N HN fN i0 i1 i2 i3 i4 i5 i6 i7 i8 hmu
      refine s_blx (lv' := [(0, vR 77), (4, vI x4)]) (st' := [vI 3, vI x4]) B183_74_77 rfl ?_
      refine r_icmp (tgt := 140) (pc' := 80) D183_77 rfl rfl (by unfold inR; omega) (fun (c60 : 3 ≤ x4) => ?_) (fun (c60 : ¬ (3 ≤ x4)) => ?_)
      · have g61 : gi N 77 9 = isOver := i2
        have g62 : gi N 77 6 = zz := i0
        have g63 : gi N 77 8 = wh := i1
        exact r_retV D183_140 rfl (⟨HN, fN, (i2), by rw [(i0)]; exact i3, by rw [(i0), i3]; exact stF_RS ((h1.fr fN rfl)) (((h1.fr fN rfl)).many HN), fun i h1 h2 => i5 i h1 (by omega), fun h hs => by rw [(i1)]; exact i4 h hs⟩)
      · refine s_blx (lv' := [(0, vR 77), (4, vI x4)]) (st' := [vR 77]) B183_80_81 rfl ?_
        refine r_gfix (r := 83) (pc' := 84) D183_81 rfl gf_11_30_77 HN.1 ?_
        refine s_blx (lv' := [(0, vR 77), (4, vI x4)]) (st' := [vR 77, vR 77, vI x4, vR 83]) B183_84_88 rfl ?_
        refine r_gint (ki := 6) (pc' := 91) D183_88 rfl gf_11_194_77 rfl HN.1 ?_
        intro w64 e65 r66
        have e67 : zz = w64 := (e65.trans (i0)).symm
        subst e67
        refine s_blx (lv' := [(0, vR 77), (4, vI x4)]) (st' := [vI x4, vI zz, vR 77, vI x4, vR 83]) B183_91_93 rfl ?_
        refine r_vIp (c := 77) (args := [vI zz, vI x4]) (rest := [vI x4, vR 83]) (pc' := 96) D183_93 rfl ck_11_virtual_171 TE172 rfl (Nat.le_of_ble_eq_true rfl) ⟨Nat.le_of_ble_eq_true rfl, Nat.le_of_ble_eq_true rfl⟩ sc_77 ⟨rfl, by decide⟩ HN.1 (dp_0 hd rfl) (k172f E (dp_n hd rfl) HN zz x4 K ((h1.fr fN rfl)) (by omega) (by omega)) ?_
        intro v68 q72
        obtain ⟨q70, q71⟩ := q72
        have kv := q71; clear q71
        refine r_iast (pc' := 97) D183_96 rfl sc_83 HN (by omega) (by unfold inR; omega) trivial ?_
        intro M73 u74 H75 p76
        have f77 := fN.wr u74 rfl
        have ku1 := u74
        refine s_blx (lv' := [(0, vR 77), (4, vI x4)]) (st' := [vR 77]) B183_97_98 rfl ?_
        refine r_gfix (r := 84) (pc' := 101) D183_98 rfl gf_11_33_77 H75.1 ?_
        refine s_blx (lv' := [(0, vR 77), (4, vI x4)]) (st' := [vR 77, vI x4, vR 84]) B183_101_104 rfl ?_
        refine r_gfix (r := 83) (pc' := 107) D183_104 rfl gf_11_30_77 H75.1 ?_
        refine s_blx (lv' := [(0, vR 77), (4, vI x4)]) (st' := [vI x4, vR 83, vI x4, vR 84]) B183_107_109 rfl ?_
        refine r_iald (pc' := 110) D183_109 rfl sc_83 H75.1 (by omega) ?_
        intro w78 e79 r80
        have e81 : v68 = w78 := (e79.trans (p76)).symm
        subst e81
        refine r_sIp (args := [vI v68]) (rest := [vI x4, vR 84]) (pc' := 113) D183_110 rfl ck_11_static_203 TE176 rfl (Nat.le_of_ble_eq_true rfl) ⟨Nat.le_of_ble_eq_true rfl, Nat.le_of_ble_eq_true rfl⟩ (by decide) (dp_0 hd rfl) (k176f E (dp_n hd rfl) H75 v68 (by omega)) ?_
        intro v82 q86
        obtain ⟨q84, q85⟩ := q86
        have ka := q85; clear q85
        refine r_iast (pc' := 114) D183_113 rfl sc_84 H75 (by omega) (by unfold inR; omega) (show (-1) ≤ v82 ∧ v82 ≤ 7 by omega) ?_
        intro M87 u88 H89 p90
        have f91 := f77.wr u88 rfl
        have ku2 := u88
        refine s_blx (lv' := [(0, vR 77), (4, vI x4)]) (st' := [vR 77]) B183_114_115 rfl ?_
        refine r_gfix (r := 85) (pc' := 118) D183_115 rfl gf_11_36_77 H89.1 ?_
        refine s_blx (lv' := [(0, vR 77), (4, vI x4)]) (st' := [vR 77, vI x4, vR 77, vI x4, vR 85]) B183_118_124 rfl ?_
        refine r_gfix (r := 83) (pc' := 127) D183_124 rfl gf_11_30_77 H89.1 ?_
        refine s_blx (lv' := [(0, vR 77), (4, vI x4)]) (st' := [vI x4, vR 83, vI x4, vR 77, vI x4, vR 85]) B183_127_129 rfl ?_
        refine r_iald (pc' := 130) D183_129 rfl sc_83 H89.1 (by omega) ?_
        intro w92 e93 r94
        have e95 : v68 = w92 := (e93.trans ((u88.gi_ne (by omega) (Or.inl (by decide))).trans (p76))).symm
        subst e95
        refine r_vIp (c := 77) (args := [vI x4, vI v68]) (rest := [vI x4, vR 85]) (pc' := 133) D183_130 rfl ck_11_virtual_187 TE180 rfl (Nat.le_of_ble_eq_true rfl) ⟨Nat.le_of_ble_eq_true rfl, Nat.le_of_ble_eq_true rfl⟩ sc_77 ⟨rfl, by decide⟩ H89.1 (dp_0 hd rfl) (k180f E (dp_n hd rfl) H89 x4 v68 K ((h1.fr f91 rfl)) (by omega) (by omega)) ?_
        intro v96 q100
        obtain ⟨q98, q99⟩ := q100
        have ko := q99; clear q99
        refine r_iast (pc' := 134) D183_133 rfl sc_85 H89 (by omega) (by unfold inR; omega) (show (-1) ≤ v96 ∧ v96 ≤ 11 by omega) ?_
        intro M101 u102 H103 p104
        have f105 := f91.wr u102 rfl
        have ku3 := u102
        have kA : gi M101 83 x4 = caF K s n isOver x4 := by rw [((u102.gi_ne (by omega) (Or.inl (by decide))).trans ((u88.gi_ne (by omega) (Or.inl (by decide))).trans (p76)))]; unfold caF; rw [← i3]; exact kv
        have kB : gi M101 84 x4 = suF K s n isOver x4 := by rw [((u102.gi_ne (by omega) (Or.inl (by decide))).trans (p90))]; unfold suF caF; rw [← i3, ← kv]; exact ka
        have kC : gi M101 85 x4 = onF K s n isOver x4 := by rw [(p104)]; unfold onF caF; rw [← i3, ← kv]; exact ko
        have kR : ∀ i : Int, 0 ≤ i → i ≠ x4 → gi M101 83 i = gi N 83 i ∧ gi M101 84 i = gi N 84 i ∧ gi M101 85 i = gi N 85 i := fun i h1 h2 => ⟨by rw [ku3.gi_ne (by omega) (Or.inl (by decide)), ku2.gi_ne (by omega) (Or.inl (by decide)), ku1.gi_ne (by omega) (Or.inr h2)], by rw [ku3.gi_ne (by omega) (Or.inl (by decide)), ku2.gi_ne (by omega) (Or.inr h2), ku1.gi_ne (by omega) (Or.inl (by decide))], by rw [ku3.gi_ne (by omega) (Or.inr h2), ku2.gi_ne (by omega) (Or.inl (by decide)), ku1.gi_ne (by omega) (Or.inl (by decide))]⟩
        refine s_blx (lv' := [(4, vI (x4 + 1)), (0, vR 77)]) (st' := []) B183_134_137 rfl ?_
        refine r_goto (tgt := 74) D183_137 rfl ?_
        refine r_loc (lv' := [(0, vR 77), (4, vI (x4 + 1))]) ⟨rfl, rfl, trivial⟩ rfl rfl ?_
        have g106 : gi M101 77 6 = zz := (u102.gi_ne (by omega) (Or.inl (by decide))).trans ((u88.gi_ne (by omega) (Or.inl (by decide))).trans ((u74.gi_ne (by omega) (Or.inl (by decide))).trans (i0)))
        have g107 : gi M101 77 8 = wh := (u102.gi_ne (by omega) (Or.inl (by decide))).trans ((u88.gi_ne (by omega) (Or.inl (by decide))).trans ((u74.gi_ne (by omega) (Or.inl (by decide))).trans (i1)))
        have g108 : gi M101 77 9 = isOver := (u102.gi_ne (by omega) (Or.inl (by decide))).trans ((u88.gi_ne (by omega) (Or.inl (by decide))).trans ((u74.gi_ne (by omega) (Or.inl (by decide))).trans (i2)))
        exact ih.2 (x4 + 1) zz wh M101 H103 f105 (by omega) (by omega) (by omega) (i3) (i4) (fun i h1 h2 => if e : i = x4 then (by rw [e]; exact ⟨kA, kB, kC⟩) else (by rw [(kR i h1 e).1, (kR i h1 e).2.1, (kR i h1 e).2.2]; exact i5 i h1 (by omega))) (by omega) (by omega) (by omega) (by omega)
set_option maxRecDepth 4000 in
theorem k183f {base : Nat} {X : Nat → Option mC} {G : Nat → Value} (E : EnvOK base X G) {d : Nat} (hd : 3 ≤ d) {M : mH} (H : HI base M) (s : Int) (n : Int) (isOver : Int) (K : Int → Int) (h0 : (isOver = 0 ∨ isOver = 1)) (h1 : KK K M) (h2 : 0 ≤ s ∧ s ≤ 15) (h3 : 0 ≤ n ∧ n ≤ 8) : sOk base X G d T183 [vR 77, vI s, vI n, vI isOver] M (pV (fun M' => HI base M' ∧ Fr [(77, 7), (77, 8), (77, 9), (77, 10), (83, 0), (84, 0), (85, 0)] M M' ∧ (gi M' 77 9 = isOver) ∧ (gi M' 77 6 = stF K s n isOver (K 469).toNat) ∧ (RS n (gi M' 77 6) M') ∧ (∀ i : Int, 0 ≤ i → i ≤ 2 → gi M' 83 i = caF K s n isOver i ∧ gi M' 84 i = suF K s n isOver i ∧ gi M' 85 i = onF K s n isOver i) ∧ (SC K s n isOver s → s < K 469 → 1 ≤ gi M' 77 8))) := by
  have f0 : Fr [(77, 7), (77, 8), (77, 9), (77, 10), (83, 0), (84, 0), (85, 0)] M M := Fr.rf
  refine sOk.of (show sRn base X G d T183 0 [(0, vR 77), (1, vI s), (2, vI n), (3, vI isOver)] [] M _ from ?_)
  have km := h1.many H
  refine s_blx (lv' := [(0, vR 77), (1, vI s), (2, vI n), (3, vI isOver)]) (st' := [vI isOver, vR 77]) B183_0_2 rfl ?_
  refine r_pbool (ki := 9) (pc' := 5) D183_2 rfl pf_11_190_77 rfl H (by omega) (show 0 ≤ isOver ∧ isOver ≤ 1 by omega) ?_
  intro M1 u2 H3 p4
  have f5 := f0.wr u2 rfl
  refine s_blx (lv' := [(0, vR 77), (1, vI s), (2, vI n), (3, vI isOver)]) (st' := [vI isOver, vI n, vI s, vR 77, vR 77]) B183_5_10 rfl ?_
  refine r_vIp (c := 77) (args := [vI s, vI n, vI isOver]) (rest := [vR 77]) (pc' := 13) D183_10 rfl ck_11_virtual_167 TE171 rfl (Nat.le_of_ble_eq_true rfl) ⟨Nat.le_of_ble_eq_true rfl, Nat.le_of_ble_eq_true rfl⟩ sc_77 ⟨rfl, by decide⟩ H3.1 (dp_0 hd rfl) (k171f E (dp_n hd rfl) H3 s n isOver K (by omega) ((h1.fr f5 rfl)) (by omega) (by omega)) ?_
  intro v6 q10
  obtain ⟨q8, q9⟩ := q10
  have kz := q9; clear q9
  refine r_pint (ki := 6) (pc' := 16) D183_13 rfl pf_11_194_77 rfl H3 (by unfold inR; omega) trivial ?_
  intro M11 u12 H13 p14
  have f15 := f5.wr u12 rfl
  refine s_blx (lv' := [(0, vR 77), (1, vI s), (2, vI n), (3, vI isOver)]) (st' := [vR 77, vR 77, vR 77]) B183_16_19 rfl ?_
  refine r_gint (ki := 6) (pc' := 22) D183_19 rfl gf_11_194_77 rfl H13.1 ?_
  intro w16 e17 r18
  have e19 : v6 = w16 := (e17.trans (p14)).symm
  subst e19
  refine r_vIp (c := 77) (args := [vI v6]) (rest := [vR 77]) (pc' := 25) D183_22 rfl ck_11_virtual_181 TE173 rfl (Nat.le_of_ble_eq_true rfl) ⟨Nat.le_of_ble_eq_true rfl, Nat.le_of_ble_eq_true rfl⟩ sc_77 ⟨rfl, by decide⟩ H13.1 (dp_0 hd rfl) (k173x E (dp_n hd rfl) H13 v6 n (by omega) (by rw [kz]; exact stF_RS ((h1.fr f15 rfl)) km)) ?_
  intro v20 q24
  obtain ⟨q22, q23⟩ := q24
  have kwh : SC K s n isOver s → s < K 469 → 1 ≤ v20 := fun h hs => q23 ⟨s, by omega, by omega, by rw [kz]; exact (stF_bt _ (by omega) s (by omega) (by omega)).mpr ⟨by omega, h⟩⟩
  refine r_pint (ki := 8) (pc' := 28) D183_25 rfl pf_11_197_77 rfl H13 (by unfold inR; omega) trivial ?_
  intro M25 u26 H27 p28
  have f29 := f15.wr u26 rfl
  refine s_blx (lv' := [(0, vR 77), (1, vI s), (2, vI n), (3, vI isOver)]) (st' := [vI 0, vR 77]) B183_28_30 rfl ?_
  refine r_pint (ki := 7) (pc' := 33) D183_30 rfl pf_11_200_77 rfl H27 (by unfold inR; omega) trivial ?_
  intro M30 u31 H32 p33
  have f34 := f29.wr u31 rfl
  refine s_blx (lv' := [(4, vI 0), (0, vR 77), (1, vI s), (2, vI n), (3, vI isOver)]) (st' := []) B183_33_36 rfl ?_
  refine r_loc (lv' := [(0, vR 77), (1, vI s), (2, vI n), (4, vI 0)]) ⟨rfl, rfl, rfl, rfl, trivial⟩ rfl rfl ?_
  have g35 : gi M30 77 6 = v6 := (u31.gi_ne (by decide) (Or.inr (by decide))).trans ((u26.gi_ne (by decide) (Or.inr (by decide))).trans (p14))
  have g36 : gi M30 77 8 = v20 := (u31.gi_ne (by decide) (Or.inr (by decide))).trans (p28)
  have g37 : gi M30 77 9 = isOver := (u31.gi_ne (by decide) (Or.inr (by decide))).trans ((u26.gi_ne (by decide) (Or.inr (by decide))).trans ((u12.gi_ne (by decide) (Or.inr (by decide))).trans (p4)))
  exact (L_k183f E hd H s n isOver K h0 h1 h2 h3 (((8 - 0) * 1 + 4 : Int) + 1).toNat).1 0 v6 v20 M30 H32 f34 (by omega) (by omega) (by omega) (kz) (kwh) (by omega) (by omega) (by omega) (by omega)
