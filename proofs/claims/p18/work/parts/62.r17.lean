/-! The reference's table holds moves that can be made. -/
noncomputable def VM (m : Int) : Prop := (0 ≤ m ∧ m ≤ 4) ∨ (10 ≤ m ∧ m ≤ 17) ∨ (20 ≤ m ∧ m ≤ 22)
/-- the table holds moves -/
noncomputable def VT (M : mH) : Prop := ∀ j : Int, 0 ≤ j → j < 159984 → (0 ≤ gi M 87 j ∧ gi M 87 j ≤ 4) ∨ (10 ≤ gi M 87 j ∧ gi M 87 j ≤ 17) ∨ (20 ≤ gi M 87 j ∧ gi M 87 j ≤ 22)
theorem VT.of {M M' : mH} (h : VT M) (e : ∀ j : Int, 0 ≤ j → gi M' 87 j = gi M 87 j) : VT M' := by
  intro j h1 h2; rw [e j h1]; exact h j h1 h2
theorem VT.fr {L : List (Nat × Nat)} {M M' : mH} (h : VT M) (f : Fr L M M') (hc : s_al L (fun c => c != 87) = true) : VT M' := h.of (fun _ _ => f.g (s_al_ok hc (by simp)))
theorem VT.wr {M M' : mH} {c i : Nat} {v : Value} (h : VT M) (u : Wr M c i v M') (hc : c ≠ 87) : VT M' := h.of (fun j _ => by unfold gi; rw [u.ne (Or.inl (Ne.symm hc))])
theorem VT.set {M M' : mH} {i m : Int} {v : Value} (h : VT M) (u : Wr M 87 i.toNat v M') (hi : 0 ≤ i) (hp : gi M' 87 i = m) (hm : (0 ≤ m ∧ m ≤ 4) ∨ (10 ≤ m ∧ m ≤ 17) ∨ (20 ≤ m ∧ m ≤ 22)) : VT M' := by
  intro j h1 h2
  by_cases e : j = i
  · rw [e, hp]; exact hm
  · rw [u.gi_ne hi (Or.inr e)]; exact h j h1 h2
/-- how much was said wrongly -/
noncomputable def wq (K : Int → Int) (s said i : Int) : Int := if i < DN said ∧ DG said i < 8 ∧ DG said i ≠ K (135 + 16 * s + 9 + sl (K 473) i) then 1 else 0
noncomputable def WR (K : Int → Int) (s said : Int) : Int := wq K s said 0 + wq K s said 1 + wq K s said 2
theorem wq_1 {K : Int → Int} {s said i : Int} (h : i < DN said ∧ DG said i < 8 ∧ DG said i ≠ K (135 + 16 * s + 9 + sl (K 473) i)) : wq K s said i = 1 := by unfold wq; rw [if_pos h]
theorem wq_0 {K : Int → Int} {s said i : Int} (h : ¬ (i < DN said ∧ DG said i < 8 ∧ DG said i ≠ K (135 + 16 * s + 9 + sl (K 473) i))) : wq K s said i = 0 := by unfold wq; rw [if_neg h]
theorem wq_01 (K : Int → Int) (s said i : Int) : 0 ≤ wq K s said i ∧ wq K s said i ≤ 1 := by
  unfold wq
  by_cases h : i < DN said ∧ DG said i < 8 ∧ DG said i ≠ K (135 + 16 * s + 9 + sl (K 473) i)
  · rw [if_pos h]; omega
  · rw [if_neg h]; omega
/-- the sum of the first ones -/
noncomputable def wp (K : Int → Int) (s said k : Int) : Int := (if 1 ≤ k then wq K s said 0 else 0) + (if 2 ≤ k then wq K s said 1 else 0) + (if 3 ≤ k then wq K s said 2 else 0)
theorem wp_0 {K : Int → Int} {s said : Int} : wp K s said 0 = 0 := by unfold wp; rw [if_neg (by omega), if_neg (by omega), if_neg (by omega)]; omega
theorem wp_s {K : Int → Int} {s said k : Int} (hk : 0 ≤ k ∧ k ≤ 2) : wp K s said (k + 1) = wp K s said k + wq K s said k := by
  have : k = 0 ∨ k = 1 ∨ k = 2 := by omega
  unfold wp
  rcases this with rfl | rfl | rfl
  · rw [if_pos (by omega), if_neg (by omega), if_neg (by omega), if_neg (by omega), if_neg (by omega), if_neg (by omega)]; omega
  · rw [if_pos (by omega), if_pos (by omega), if_neg (by omega), if_pos (by omega), if_neg (by omega), if_neg (by omega)]; omega
  · rw [if_pos (by omega), if_pos (by omega), if_pos (by omega), if_pos (by omega), if_pos (by omega), if_neg (by omega)]; omega
theorem wp_e {K : Int → Int} {s said k : Int} (hk : 0 ≤ k ∧ k ≤ 3) (hd : DN said ≤ k) : wp K s said k = WR K s said := by
  have h0 : ¬ 1 ≤ k → wq K s said 0 = 0 := fun h => wq_0 (by omega)
  have h1 : ¬ 2 ≤ k → wq K s said 1 = 0 := fun h => wq_0 (by omega)
  have h2 : ¬ 3 ≤ k → wq K s said 2 = 0 := fun h => wq_0 (by omega)
  unfold wp WR
  by_cases a : 1 ≤ k
  · by_cases b : 2 ≤ k
    · by_cases c : 3 ≤ k
      · rw [if_pos a, if_pos b, if_pos c]
      · rw [if_pos a, if_pos b, if_neg c, h2 c]
    · rw [if_pos a, if_neg b, if_neg (by omega), h1 b, h2 (by omega)]
  · rw [if_neg a, if_neg (by omega), if_neg (by omega), h0 a, h1 (by omega), h2 (by omega)]
/-- a move of the table, where a sentence is over -/
noncomputable def TL (K : Int → Int) (s said m : Int) : Prop := LG (K 473) 1 (suF K s (K (135 + 16 * s)) 1) (caF K s (K (135 + 16 * s)) 1) (onF K s (K (135 + 16 * s)) 1) said m
/-- the table is right for what is ahead of here -/
noncomputable def TP (K : Int → Int) (s w k : Int) (M : mH) : Prop := ∀ said : Int, 0 ≤ said → said ≤ 1110 → (WR K s said < w ∨ (WR K s said = w ∧ k < said)) → TL K s said (gi M 87 (9999 * s + said))
theorem TP.zero {K : Int → Int} {s : Int} {M : mH} : TP K s 0 1110 M := by
  intro said h1 h2 h
  have := wq_01 K s said 0; have := wq_01 K s said 1; have := wq_01 K s said 2
  unfold WR at h; omega
theorem TP.next {K : Int → Int} {s w k : Int} {M : mH} (h : TP K s w k M) (hk : k < 0) : TP K s (w + 1) 1110 M := by
  intro said h1 h2 h3
  exact h said h1 h2 (by omega)
theorem TP.skip {K : Int → Int} {s w k k' : Int} {M : mH} (h : TP K s w k M) (hw : WR K s k ≠ w) (e : k' + 1 = k) : TP K s w k' M := by
  intro said h1 h2 h3
  by_cases q : said = k
  · subst q; exact h said h1 h2 (by omega)
  · exact h said h1 h2 (by omega)
theorem TP.step {K : Int → Int} {s w k k' : Int} {M M' : mH} (h : TP K s w k M) (hs : 0 ≤ s) (hk : 0 ≤ k) (e : k' + 1 = k) (hn : TL K s k (gi M' 87 (9999 * s + k))) (hf : ∀ j : Int, 0 ≤ j → j ≠ 9999 * s + k → gi M' 87 j = gi M 87 j) : TP K s w k' M' := by
  intro said h1 h2 h3
  by_cases q : said = k
  · subst q; exact hn
  · rw [hf _ (by omega) (by omega)]; exact h said h1 h2 (by omega)
/-- the table is right where a sentence is over -/
noncomputable def TG (K : Int → Int) (s : Int) (M : mH) : Prop := ∀ said : Int, 0 ≤ said → said ≤ 1110 → TL K s said (gi M 87 (9999 * s + said))
theorem TP.all {K : Int → Int} {s w k : Int} {M : mH} (h : TP K s w k M) (hw : 3 < w) : TG K s M := by
  intro said h1 h2
  have := wq_01 K s said 0; have := wq_01 K s said 1; have := wq_01 K s said 2
  exact h said h1 h2 (by unfold WR; omega)
theorem TG.of {K : Int → Int} {s : Int} {M M' : mH} (h : TG K s M) (e : ∀ said : Int, 0 ≤ said → said ≤ 1110 → gi M' 87 (9999 * s + said) = gi M 87 (9999 * s + said)) : TG K s M' := by
  intro said h1 h2; rw [e said h1 h2]; exact h said h1 h2
theorem TG.fr {K : Int → Int} {s : Int} {L : List (Nat × Nat)} {M M' : mH} (h : TG K s M) (f : Fr L M M') (hc : s_al L (fun c => c != 87) = true) : TG K s M' := h.of (fun _ _ _ => f.g (s_al_ok hc (by simp)))
theorem TG.wr {K : Int → Int} {s : Int} {M M' : mH} {c i : Nat} {v : Value} (h : TG K s M) (u : Wr M c i v M') (hc : c ≠ 87) : TG K s M' := h.of (fun j _ _ => by unfold gi; rw [u.ne (Or.inl (Ne.symm hc))])
/-- .. for so many sentences -/
noncomputable def TT (K : Int → Int) (n : Int) (M : mH) : Prop := ∀ s : Int, 0 ≤ s → s < n → 1 ≤ K (135 + 16 * s + 12 + K 474) → TG K s M
theorem TT.of {K : Int → Int} {n : Int} {M M' : mH} (h : TT K n M) (e : ∀ s said : Int, 0 ≤ s → s < n → 0 ≤ said → said ≤ 1110 → gi M' 87 (9999 * s + said) = gi M 87 (9999 * s + said)) : TT K n M' := by
  intro s h1 h2 h3; exact (h s h1 h2 h3).of (fun said a b => e s said h1 h2 a b)
theorem TT.fr {K : Int → Int} {n : Int} {L : List (Nat × Nat)} {M M' : mH} (h : TT K n M) (f : Fr L M M') (hc : s_al L (fun c => c != 87) = true) : TT K n M' := h.of (fun _ _ _ _ _ _ => f.g (s_al_ok hc (by simp)))
theorem TT.wr {K : Int → Int} {n : Int} {M M' : mH} {c i : Nat} {v : Value} (h : TT K n M) (u : Wr M c i v M') (hc : c ≠ 87) : TT K n M' := h.of (fun j _ _ _ _ _ => by unfold gi; rw [u.ne (Or.inl (Ne.symm hc))])
theorem TT.zero {K : Int → Int} {M : mH} : TT K 0 M := fun s h1 h2 => by omega
theorem TT.add {K : Int → Int} {n : Int} {M : mH} (h : TT K n M) (hn : 1 ≤ K (135 + 16 * n + 12 + K 474) → TG K n M) : TT K (n + 1) M := by
  intro s h1 h2 h3
  by_cases e : s = n
  · subst e; exact hn h3
  · exact h s h1 (by omega) h3
theorem TG.at {K : Int → Int} {s said j : Int} {M : mH} (h : TG K s M) (h1 : 0 ≤ said) (h2 : said ≤ 1110) (e : j = 9999 * s + said) : TL K s said (gi M 87 j) := by
  subst e; exact h said h1 h2

set_option maxRecDepth 4000 in
theorem k192k {base : Nat} {X : Nat → Option mC} {G : Nat → Value} (E : EnvOK base X G) {d : Nat} (hd : 0 ≤ d) {M : mH} (H : HI base M) (k : Int) (h0 : 0 ≤ k ∧ k ≤ 15) : sOk base X G d T192 [vI k] M (pI (fun v M' => M' = M ∧ (0 ≤ v ∧ v ≤ 22) ∧ (v ≤ 4 ∨ 10 ≤ v) ∧ (v ≤ 17 ∨ 20 ≤ v) ∧ (k < 5 → v = k))) := by
  refine sOk.of (show sRn base X G d T192 0 [(0, vI k)] [] M _ from ?_)
  refine s_blx (lv' := [(0, vI k)]) (st' := [vI 5, vI k]) B192_0_2 rfl ?_
  refine r_icmp (tgt := 9) (pc' := 5) D192_2 rfl rfl (by unfold inR; omega) (fun (c1 : 5 ≤ k) => ?_) (fun (c1 : ¬ (5 ≤ k)) => ?_)
  · refine s_blx (lv' := [(0, vI k)]) (st' := [vI 13, vI k]) B192_9_12 rfl ?_
    refine r_icmp (tgt := 21) (pc' := 15) D192_12 rfl rfl (by unfold inR; omega) (fun (c2 : 13 ≤ k) => ?_) (fun (c2 : ¬ (13 ≤ k)) => ?_)
    · refine s_blx (lv' := [(0, vI k)]) (st' := [vI (7 + k)]) B192_21_25 rfl ?_
      exact r_iretI D192_25 rfl (⟨rfl, by omega, by omega, by omega, by omega⟩)
    · refine s_blx (lv' := [(0, vI k)]) (st' := [vI (5 + k)]) B192_15_18 rfl ?_
      refine r_goto (tgt := 25) D192_18 rfl ?_
      exact r_iretI D192_25 rfl (⟨rfl, by omega, by omega, by omega, by omega⟩)
  · refine s_blx (lv' := [(0, vI k)]) (st' := [vI k]) B192_5_6 rfl ?_
    refine r_goto (tgt := 25) D192_6 rfl ?_
    exact r_iretI D192_25 rfl (⟨rfl, by omega, by omega, by omega, by omega⟩)
set_option maxRecDepth 4000 in
set_option maxHeartbeats 4000000 in
theorem L_k193k {base : Nat} {X : Nat → Option mC} {G : Nat → Value} (E : EnvOK base X G) {d : Nat} (hd : 2 ≤ d) {M : mH} (H : HI base M) (s : Int) (n : Int) (K : Int → Int) (h0 : KK K M) (h1 : 0 ≤ s ∧ s ≤ 15) (h2 : 0 ≤ n ∧ n ≤ 8) (h3 : 1 ≤ K (135 + 16 * s + 12 + K 474)) (h4 : n ≤ K (135 + 16 * s)) : ∀ mz : Nat, (∀ (x3 : Int), (0 ≤ x3 ∧ x3 ≤ s) → (0 ≤ x3) → (x3 ≤ 16) → (s - x3) * 1 + 0 < (mz : Int) → sRn base X G d T193 2 [(0, vR 77), (1, vI s), (2, vI n), (3, vI x3)] [] M (s_Q base (pI (fun v M' => M' = M ∧ (0 ≤ v ∧ v ≤ s))))) := by
  intro mz
  induction mz with
  | zero => exact fun x3 z0 z1 z2 z3 => by omega
  | succ mz ih =>
    intro x3 i0 i1 i2 hmu
    refine s_blx (lv' := [(0, vR 77), (1, vI s), (2, vI n), (3, vI x3)]) (st' := [vI x3, vR 77]) B193_2_4 rfl ?_
    refine r_vIp (c := 77) (args := [vI x3]) (rest := []) (pc' := 7) D193_4 rfl ck_11_virtual_138 TE159 rfl (Nat.le_of_ble_eq_true rfl) ⟨Nat.le_of_ble_eq_true rfl, Nat.le_of_ble_eq_true rfl⟩ sc_77 ⟨rfl, by decide⟩ H.1 (dp_0 hd rfl) (k159f E (dp_n hd rfl) H x3 K (h0) (by omega)) ?_
    intro v1 q5
    obtain ⟨q3, q4⟩ := q5
    have ku := q4; clear q4
    have kv : x3 = s → v1 = K (135 + 16 * s + 12 + K 474) := fun h => by rw [ku, h]
    refine r_ifc (tgt := 20) (pc' := 10) D193_7 rfl rfl (by unfold inR; omega) (fun (c6 : v1 ≤ 0) => ?_) (fun (c6 : ¬ (v1 ≤ 0)) => ?_)
    · refine s_blx (lv' := [(3, vI (x3 + 1)), (0, vR 77), (1, vI s), (2, vI n)]) (st' := []) B193_20_23 rfl ?_
      refine r_goto (tgt := 2) D193_23 rfl ?_
      refine r_loc (lv' := [(0, vR 77), (1, vI s), (2, vI n), (3, vI (x3 + 1))]) ⟨rfl, rfl, rfl, rfl, trivial⟩ rfl rfl ?_
      exact ih (x3 + 1) (by omega) (by omega) (by omega) (by omega)
    · refine s_blx (lv' := [(0, vR 77), (1, vI s), (2, vI n), (3, vI x3)]) (st' := [vI n, vI s, vI x3, vR 77]) B193_10_14 rfl ?_
      refine r_vIp (c := 77) (args := [vI x3, vI s, vI n]) (rest := []) (pc' := 17) D193_14 rfl ck_11_virtual_158 TE170 rfl (Nat.le_of_ble_eq_true rfl) ⟨Nat.le_of_ble_eq_true rfl, Nat.le_of_ble_eq_true rfl⟩ sc_77 ⟨rfl, by decide⟩ H.1 (dp_0 hd rfl) (k170f E (dp_n hd rfl) H x3 s n K (h0) (by omega) (by omega) (by omega)) ?_
      intro v7 q12
      obtain ⟨q9, q10, q11⟩ := q12
      have kb : x3 = s → v7 ≠ 0 := fun h h2 => q11 h2 (by rw [h]; exact ⟨by omega, fun _ _ _ => rfl⟩)
      refine r_ifc (tgt := 26) (pc' := 20) D193_17 rfl rfl (by unfold inR; omega) (fun (c13 : v7 ≠ 0) => ?_) (fun (c13 : ¬ (v7 ≠ 0)) => ?_)
      · refine s_blx (lv' := [(0, vR 77), (1, vI s), (2, vI n), (3, vI x3)]) (st' := [vI x3]) B193_26_27 rfl ?_
        exact r_iretI D193_27 rfl (⟨rfl, by omega⟩)
      · refine s_blx (lv' := [(3, vI (x3 + 1)), (0, vR 77), (1, vI s), (2, vI n)]) (st' := []) B193_20_23 rfl ?_
        refine r_goto (tgt := 2) D193_23 rfl ?_
        refine r_loc (lv' := [(0, vR 77), (1, vI s), (2, vI n), (3, vI (x3 + 1))]) ⟨rfl, rfl, rfl, rfl, trivial⟩ rfl rfl ?_
        exact ih (x3 + 1) (by omega) (by omega) (by omega) (by omega)
set_option maxRecDepth 4000 in
set_option maxHeartbeats 4000000 in
theorem k193k {base : Nat} {X : Nat → Option mC} {G : Nat → Value} (E : EnvOK base X G) {d : Nat} (hd : 2 ≤ d) {M : mH} (H : HI base M) (s : Int) (n : Int) (K : Int → Int) (h0 : KK K M) (h1 : 0 ≤ s ∧ s ≤ 15) (h2 : 0 ≤ n ∧ n ≤ 8) (h3 : 1 ≤ K (135 + 16 * s + 12 + K 474)) (h4 : n ≤ K (135 + 16 * s)) : sOk base X G d T193 [vR 77, vI s, vI n] M (pI (fun v M' => M' = M ∧ (0 ≤ v ∧ v ≤ s))) := by
  refine sOk.of (show sRn base X G d T193 0 [(0, vR 77), (1, vI s), (2, vI n)] [] M _ from ?_)
  refine s_blx (lv' := [(3, vI 0), (0, vR 77), (1, vI s), (2, vI n)]) (st' := []) B193_0_2 rfl ?_
  refine r_loc (lv' := [(0, vR 77), (1, vI s), (2, vI n), (3, vI 0)]) ⟨rfl, rfl, rfl, rfl, trivial⟩ rfl rfl ?_
  exact (L_k193k E hd H s n K h0 h1 h2 h3 h4 (((s - 0) * 1 + 0 : Int) + 1).toNat) 0 (by omega) (by omega) (by omega) (by omega)
set_option maxRecDepth 4000 in
set_option maxHeartbeats 4000000 in
theorem L_k195k {base : Nat} {X : Nat → Option mC} {G : Nat → Value} (E : EnvOK base X G) {d : Nat} (hd : 1 ≤ d) {M : mH} (H : HI base M) (said : Int) (s : Int) (K : Int → Int) (h0 : TB M) (h1 : KK K M) (h2 : 0 ≤ said ∧ said ≤ 1110) (h3 : 0 ≤ s ∧ s ≤ 15) : ∀ mz : Nat, (∀ (x3 x4 : Int), (x3 = wp K s said x4) → (0 ≤ x4 ∧ x4 ≤ 3) → (0 ≤ x3 ∧ x3 ≤ x4) → (0 ≤ x3) → (x3 ≤ 4) → (0 ≤ x4) → (x4 ≤ 3) → (3 - x4) * 1 + 0 < (mz : Int) → sRn base X G d T195 5 [(0, vR 77), (1, vI said), (2, vI s), (3, vI x3), (4, vI x4)] [] M (s_Q base (pI (fun v M' => M' = M ∧ (0 ≤ v ∧ v ≤ 3) ∧ v = WR K s said)))) := by
  intro mz
  induction mz with
  | zero => exact fun x3 x4 z0 z1 z2 z3 z4 z5 z6 z7 => by omega
  | succ mz ih =>
    intro x3 x4 i0 i1 i2 i3 i4 i5 i6 hmu
    refine s_blx (lv' := [(0, vR 77), (1, vI said), (2, vI s), (3, vI x3), (4, vI x4)]) (st' := [vR 77, vI x4]) B195_5_8 rfl ?_
    refine r_gfix (r := 81) (pc' := 11) D195_8 rfl gf_11_24_77 H.1 ?_
    refine s_blx (lv' := [(0, vR 77), (1, vI said), (2, vI s), (3, vI x3), (4, vI x4)]) (st' := [vI said, vR 81, vI x4]) B195_11_12 rfl ?_
    refine r_iald (pc' := 13) D195_12 rfl sc_81 H.1 (by omega) ?_
    intro w1 e2 r3
    have b_w1 := H.2 81 (said) 0 3 rfl
    rw [← e2] at b_w1; clear r3
    have kd : w1 = DN said := by have q := (h0).dn (s := said) (by omega); omega
    refine r_icmp (tgt := 71) (pc' := 16) D195_13 rfl rfl (by unfold inR; omega) (fun (c4 : w1 ≤ x4) => ?_) (fun (c4 : ¬ (w1 ≤ x4)) => ?_)
    · refine s_blx (lv' := [(0, vR 77), (1, vI said), (2, vI s), (3, vI x3), (4, vI x4)]) (st' := [vI x3]) B195_71_72 rfl ?_
      exact r_iretI D195_72 rfl (⟨rfl, by omega, by rw [i0]; exact wp_e (by omega) (by omega)⟩)
    · refine s_blx (lv' := [(0, vR 77), (1, vI said), (2, vI s), (3, vI x3), (4, vI x4)]) (st' := [vR 77, vI x3]) B195_16_18 rfl ?_
      refine r_gfix (r := 82) (pc' := 21) D195_18 rfl gf_11_27_77 H.1 ?_
      refine s_blx (lv' := [(0, vR 77), (1, vI said), (2, vI s), (3, vI x3), (4, vI x4)]) (st' := [vI ((3 * said) + x4), vR 82, vI x3]) B195_21_27 rfl ?_
      refine r_iald (pc' := 28) D195_27 rfl sc_82 H.1 (by omega) ?_
      intro w5 e6 r7
      have b_w5 := H.2 82 ((3 * said) + x4) 0 9 rfl
      rw [← e6] at b_w5; clear r7
      have kg : w5 = DG said x4 := by rw [e6]; exact (h0).dg (by omega) (by omega) (by omega)
      refine s_blx (lv' := [(0, vR 77), (1, vI said), (2, vI s), (3, vI x3), (4, vI x4)]) (st' := [vI 8, vI w5, vI x3]) B195_28_30 rfl ?_
      refine r_icmp (tgt := 62) (pc' := 33) D195_30 rfl rfl (by unfold inR; omega) (fun (c8 : 8 ≤ w5) => ?_) (fun (c8 : ¬ (8 ≤ w5)) => ?_)
      · refine s_blx (lv' := [(4, vI (x4 + 1)), (3, vI (x3 + 0)), (0, vR 77), (1, vI said), (2, vI s)]) (st' := []) B195_62_68 rfl ?_
        refine r_goto (tgt := 5) D195_68 rfl ?_
        refine r_loc (lv' := [(0, vR 77), (1, vI said), (2, vI s), (3, vI (x3 + 0)), (4, vI (x4 + 1))]) ⟨rfl, rfl, rfl, rfl, rfl, trivial⟩ rfl rfl ?_
        exact ih (x3 + 0) (x4 + 1) (by rw [wp_s (by omega), ← i0]; first | (rw [wq_1 (K := K) (s := s) (said := said) (i := x4) (by omega)]) | (rw [wq_0 (K := K) (s := s) (said := said) (i := x4) (by omega)])) (by omega) (by omega) (by omega) (by omega) (by omega) (by omega) (by omega)
      · refine s_blx (lv' := [(0, vR 77), (1, vI said), (2, vI s), (3, vI x3), (4, vI x4)]) (st' := [vR 77, vI x3]) B195_33_34 rfl ?_
        refine r_gfix (r := 82) (pc' := 37) D195_34 rfl gf_11_27_77 H.1 ?_
        refine s_blx (lv' := [(0, vR 77), (1, vI said), (2, vI s), (3, vI x3), (4, vI x4)]) (st' := [vI ((3 * said) + x4), vR 82, vI x3]) B195_37_43 rfl ?_
        refine r_iald (pc' := 44) D195_43 rfl sc_82 H.1 (by omega) ?_
        intro w9 e10 r11
        have e12 : w5 = w9 := (e10.trans (e6.symm)).symm
        subst e12
        refine s_blx (lv' := [(0, vR 77), (1, vI said), (2, vI s), (3, vI x3), (4, vI x4)]) (st' := [vI x4, vR 77, vI s, vR 77, vI w5, vI x3]) B195_44_49 rfl ?_
        have kord := (h1) 473
        refine r_vIp (c := 77) (args := [vI x4]) (rest := [vI s, vR 77, vI w5, vI x3]) (pc' := 52) D195_49 rfl ck_11_virtual_206 TE182 rfl (Nat.le_of_ble_eq_true rfl) ⟨Nat.le_of_ble_eq_true rfl, Nat.le_of_ble_eq_true rfl⟩ sc_77 ⟨rfl, by decide⟩ H.1 (dp_0 hd rfl) (k182f E (dp_n hd rfl) H x4 (K 473) (by omega) (by omega)) ?_
        intro v13 q17
        obtain ⟨q15, q16⟩ := q17
        have ksl := q16; clear q16
        refine r_vIp (c := 77) (args := [vI s, vI v13]) (rest := [vI w5, vI x3]) (pc' := 55) D195_52 rfl ck_11_virtual_161 TE158 rfl (Nat.le_of_ble_eq_true rfl) ⟨Nat.le_of_ble_eq_true rfl, Nat.le_of_ble_eq_true rfl⟩ sc_77 ⟨rfl, by decide⟩ H.1 (dp_0 hd rfl) (k158f E (dp_n hd rfl) H s v13 K (h1) (by omega) (by omega)) ?_
        intro v18 q22
        obtain ⟨q20, q21⟩ := q22
        have kvv : v18 = K (135 + 16 * s + 9 + sl (K 473) x4) := by rw [← ksl]; exact q21
        refine r_icmp (tgt := 62) (pc' := 58) D195_55 rfl rfl (by unfold inR; omega) (fun (c23 : w5 = v18) => ?_) (fun (c23 : ¬ (w5 = v18)) => ?_)
        · refine s_blx (lv' := [(4, vI (x4 + 1)), (3, vI (x3 + 0)), (0, vR 77), (1, vI said), (2, vI s)]) (st' := []) B195_62_68 rfl ?_
          refine r_goto (tgt := 5) D195_68 rfl ?_
          refine r_loc (lv' := [(0, vR 77), (1, vI said), (2, vI s), (3, vI (x3 + 0)), (4, vI (x4 + 1))]) ⟨rfl, rfl, rfl, rfl, rfl, trivial⟩ rfl rfl ?_
          exact ih (x3 + 0) (x4 + 1) (by rw [wp_s (by omega), ← i0]; first | (rw [wq_1 (K := K) (s := s) (said := said) (i := x4) (by omega)]) | (rw [wq_0 (K := K) (s := s) (said := said) (i := x4) (by omega)])) (by omega) (by omega) (by omega) (by omega) (by omega) (by omega) (by omega)
        · refine s_blx (lv' := [(0, vR 77), (1, vI said), (2, vI s), (3, vI x3), (4, vI x4)]) (st' := [vI 1, vI x3]) B195_58_59 rfl ?_
          refine r_goto (tgt := 63) D195_59 rfl ?_
          refine s_blx (lv' := [(4, vI (x4 + 1)), (3, vI (x3 + 1)), (0, vR 77), (1, vI said), (2, vI s)]) (st' := []) B195_63_68 rfl ?_
          refine r_goto (tgt := 5) D195_68 rfl ?_
          refine r_loc (lv' := [(0, vR 77), (1, vI said), (2, vI s), (3, vI (x3 + 1)), (4, vI (x4 + 1))]) ⟨rfl, rfl, rfl, rfl, rfl, trivial⟩ rfl rfl ?_
          exact ih (x3 + 1) (x4 + 1) (by rw [wp_s (by omega), ← i0]; first | (rw [wq_1 (K := K) (s := s) (said := said) (i := x4) (by omega)]) | (rw [wq_0 (K := K) (s := s) (said := said) (i := x4) (by omega)])) (by omega) (by omega) (by omega) (by omega) (by omega) (by omega) (by omega)
set_option maxRecDepth 4000 in
set_option maxHeartbeats 4000000 in
theorem k195k {base : Nat} {X : Nat → Option mC} {G : Nat → Value} (E : EnvOK base X G) {d : Nat} (hd : 1 ≤ d) {M : mH} (H : HI base M) (said : Int) (s : Int) (K : Int → Int) (h0 : TB M) (h1 : KK K M) (h2 : 0 ≤ said ∧ said ≤ 1110) (h3 : 0 ≤ s ∧ s ≤ 15) : sOk base X G d T195 [vR 77, vI said, vI s] M (pI (fun v M' => M' = M ∧ (0 ≤ v ∧ v ≤ 3) ∧ v = WR K s said)) := by
  refine sOk.of (show sRn base X G d T195 0 [(0, vR 77), (1, vI said), (2, vI s)] [] M _ from ?_)
  refine s_blx (lv' := [(4, vI 0), (3, vI 0), (0, vR 77), (1, vI said), (2, vI s)]) (st' := []) B195_0_5 rfl ?_
  refine r_loc (lv' := [(0, vR 77), (1, vI said), (2, vI s), (3, vI 0), (4, vI 0)]) ⟨rfl, rfl, rfl, rfl, rfl, trivial⟩ rfl rfl ?_
  exact (L_k195k E hd H said s K h0 h1 h2 h3 (((3 - 0) * 1 + 0 : Int) + 1).toNat) 0 0 (wp_0.symm) (by omega) (by omega) (by omega) (by omega) (by omega) (by omega) (by omega)
set_option maxRecDepth 4000 in
theorem k194k {base : Nat} {X : Nat → Option mC} {G : Nat → Value} (E : EnvOK base X G) {d : Nat} (hd : 0 ≤ d) {M : mH} (H : HI base M) (at_ : Int) (said : Int) (least : Int) (move : Int) (T : Int → Int) (kp : Int) (h0 : CE 87 T M) (h1 : VT M) (h2 : gi M 77 24 = kp) (h3 : 0 ≤ kp ∧ kp ≤ 1) (h4 : 0 ≤ at_ ∧ at_ ≤ 143) (h5 : 0 ≤ said ∧ said ≤ 1110) (h6 : (0 ≤ move ∧ move ≤ 4) ∨ (10 ≤ move ∧ move ≤ 17) ∨ (20 ≤ move ∧ move ≤ 22)) : sOk base X G d T194 [vR 77, vI at_, vI said, vL least, vI move] M (pV (fun M' => HI base M' ∧ Fr [(86, 0), (87, 0)] M M' ∧ (∀ j : Int, 0 ≤ j → j ≠ 1111 * at_ + said → gi M' 87 j = T j) ∧ (kp = 1 → gi M' 87 (1111 * at_ + said) = move) ∧ (VT M'))) := by
  have f0 : Fr [(86, 0), (87, 0)] M M := Fr.rf
  refine sOk.of (show sRn base X G d T194 0 [(0, vR 77), (1, vI at_), (2, vI said), (3, vL least), (5, vI move)] [] M _ from ?_)
  refine s_blx (lv' := [(0, vR 77), (1, vI at_), (2, vI said), (3, vL least), (5, vI move)]) (st' := [vR 77]) B194_0_1 rfl ?_
  refine r_gfix (r := 86) (pc' := 4) D194_1 rfl gf_11_40_77 H.1 ?_
  refine s_blx (lv' := [(0, vR 77), (1, vI at_), (2, vI said), (3, vL least), (5, vI move)]) (st' := [vL least, vI ((1111 * at_) + said), vR 86]) B194_4_12 rfl ?_
  refine r_normL ?_
  intro z1 r2 _; unfold inJ at r2
  refine r_last (pc' := 13) D194_12 rfl sc_86 H (by omega) (by unfold inJ; omega) trivial ?_
  intro M3 u4 H5 p6
  have f7 := f0.wr u4 rfl
  have hp8 := h1.wr u4 (by decide)
  have ku := u4
  refine s_blx (lv' := [(0, vR 77), (1, vI at_), (2, vI said), (3, vL least), (5, vI move)]) (st' := [vR 77]) B194_13_14 rfl ?_
  refine r_gint (ki := 24) (pc' := 17) D194_14 rfl gf_11_234_77 rfl H5.1 ?_
  intro w9 e10 r11
  have e12 : kp = w9 := (e10.trans ((u4.gi_ne (by omega) (Or.inl (by decide))).trans (h2))).symm
  subst e12
  refine r_ifc (tgt := 34) (pc' := 20) D194_17 rfl rfl (by unfold inR; omega) (fun (c13 : kp = 0) => ?_) (fun (c13 : ¬ (kp = 0)) => ?_)
  · exact r_retV D194_34 rfl (⟨H5, f7, by first | exact fun j a b => by rw [ku2.gi_ne (by omega) (Or.inr b), ku.gi_ne (by omega) (Or.inl (by decide))]; exact h0 j | exact fun j a b => by rw [ku.gi_ne (by omega) (Or.inl (by decide))]; exact h0 j, by first | exact fun _ => kp2 | exact fun h => absurd h (by omega), hp8⟩)
  · refine s_blx (lv' := [(0, vR 77), (1, vI at_), (2, vI said), (3, vL least), (5, vI move)]) (st' := [vR 77]) B194_20_21 rfl ?_
    refine r_gfix (r := 87) (pc' := 24) D194_21 rfl gf_11_44_77 H5.1 ?_
    refine s_blx (lv' := [(0, vR 77), (1, vI at_), (2, vI said), (3, vL least), (5, vI move)]) (st' := [vI move, vI ((1111 * at_) + said), vR 87]) B194_24_33 rfl ?_
    refine r_iast (pc' := 34) D194_33 rfl sc_87 H5 (by omega) (by unfold inR; omega) trivial ?_
    intro M14 u15 H16 p17
    have f18 := f7.wr u15 rfl
    have ku2 := u15
    have kp2 := p17
    have kvt := hp8.set u15 (by omega) p17 (by omega)
    exact r_retV D194_34 rfl (⟨H16, f18, by first | exact fun j a b => by rw [ku2.gi_ne (by omega) (Or.inr b), ku.gi_ne (by omega) (Or.inl (by decide))]; exact h0 j | exact fun j a b => by rw [ku.gi_ne (by omega) (Or.inl (by decide))]; exact h0 j, by first | exact fun _ => kp2 | exact fun h => absurd h (by omega), kvt⟩)
set_option maxRecDepth 4000 in
set_option maxHeartbeats 4000000 in
theorem L_k196k {base : Nat} {X : Nat → Option mC} {G : Nat → Value} (E : EnvOK base X G) {d : Nat} (hd : 4 ≤ d) {M : mH} (H : HI base M) (s : Int) (said : Int) (K : Int → Int) (T : Int → Int) (kp : Int) (h0 : TB M) (h1 : KK K M) (h2 : CE 87 T M) (h3 : VT M) (h4 : gi M 77 24 = kp) (h5 : 0 ≤ kp ∧ kp ≤ 1) (h6 : gi M 77 9 = 1) (h7 : 0 ≤ s ∧ s ≤ 15) (h8 : 0 ≤ said ∧ said ≤ 1110) (h9 : C3 84 (suF K s (K (135 + 16 * s)) 1) M) (h10 : C3 83 (caF K s (K (135 + 16 * s)) 1) M) (h11 : C3 85 (onF K s (K (135 + 16 * s)) 1) M) : ∀ mz : Nat, (∀ (x3 x4 x6 x7 : Int) (N : mH), HI base N → Fr [(77, 14), (77, 15), (77, 16), (86, 0), (87, 0)] M N → (x6 = -1 ∨ (0 ≤ x6 ∧ x6 ≤ 4) ∨ (10 ≤ x6 ∧ x6 ≤ 17) ∨ (20 ≤ x6 ∧ x6 ≤ 22)) → (x6 ≠ -1 → TL K s said x6) → (4 ≤ x7 → DN said < 3 → x6 ≠ -1) → (5 ≤ x7 → x6 ≠ -1) → (CE 87 T N) → (VT N) → (gi N 77 9 = 1) → (gi N 77 24 = kp) → (x3 = 9 * s) → (0 ≤ x3) → (x3 ≤ 135) → ((-1) ≤ x6) → (x6 ≤ 22) → (0 ≤ x7) → (x7 ≤ 16) → (16 - x7) * 1 + 0 < (mz : Int) → sRn base X G d T196 14 [(0, vR 77), (1, vI s), (2, vI said), (3, vI x3), (4, vL x4), (6, vI x6), (7, vI x7)] [] N (s_Q base (pV (fun M' => HI base M' ∧ Fr [(77, 14), (77, 15), (77, 16), (86, 0), (87, 0)] M M' ∧ (kp = 1 → TL K s said (gi M' 87 (9999 * s + said))) ∧ (∀ j : Int, 0 ≤ j → j ≠ 9999 * s + said → gi M' 87 j = T j) ∧ (VT M'))))) := by
  have f0 : Fr [(77, 14), (77, 15), (77, 16), (86, 0), (87, 0)] M M := Fr.rf
  intro mz
  induction mz with
  | zero => exact fun x3 x4 x6 x7 N _ _ z0 z1 z2 z3 z4 z5 z6 z7 z8 z9 z10 z11 z12 z13 z14 z15 => by omega
  | succ mz ih =>
    intro x3 x4 x6 x7 N HN fN i0 i1 i2 i3 i4 i5 i6 i7 i8 i9 i10 i11 i12 i13 i14 hmu
    refine s_blx (lv' := [(0, vR 77), (1, vI s), (2, vI said), (3, vI x3), (4, vL x4), (6, vI x6), (7, vI x7)]) (st' := [vI 16, vI x7]) B196_14_18 rfl ?_
    refine r_icmp (tgt := 141) (pc' := 21) D196_18 rfl rfl (by unfold inR; omega) (fun (c3 : 16 ≤ x7) => ?_) (fun (c3 : ¬ (16 ≤ x7)) => ?_)
    · refine s_blx (lv' := [(0, vR 77), (1, vI s), (2, vI said), (3, vI x3), (4, vL x4), (6, vI x6), (7, vI x7)]) (st' := [vI x6, vL x4, vI said, vI x3, vR 77]) B196_141_148 rfl ?_
      have g4 : gi N 77 24 = kp := i7
      refine r_vV (c := 77) (args := [vI x3, vI said, vL x4, vI x6]) (rest := []) (pc' := 151) D196_148 rfl ck_11_virtual_249 TE194 rfl (Nat.le_of_ble_eq_true rfl) ⟨Nat.le_of_ble_eq_true rfl, Nat.le_of_ble_eq_true rfl⟩ sc_77 ⟨rfl, by decide⟩ HN.1 (dp_0 hd rfl) (k194k E (dp_n hd rfl) HN x3 said x4 x6 T kp (i4) (i5) (by omega) (by omega) (by omega) (by omega) (by omega)) ?_
      intro M6 q12
      obtain ⟨H7, f8, q9, q10, q11⟩ := q12
      have f13 := fN.tr (f8.up rfl)
      have kA := q9; clear q9
      have kB := q10; clear q10
      exact r_retV D196_151 rfl (⟨H7, f13, fun h => by rw [show 9999 * s + said = 1111 * x3 + said by omega, kB h]; exact i1 (by omega), fun j a b => kA j a (by omega), q11⟩)
    · refine s_blx (lv' := [(0, vR 77), (1, vI s), (2, vI said), (3, vI x3), (4, vL x4), (6, vI x6), (7, vI x7)]) (st' := [vI x7]) B196_21_23 rfl ?_
      refine r_sIp (args := [vI x7]) (rest := []) (pc' := 26) D196_23 rfl ck_11_static_237 TE192 rfl (Nat.le_of_ble_eq_true rfl) ⟨Nat.le_of_ble_eq_true rfl, Nat.le_of_ble_eq_true rfl⟩ (by decide) (dp_0 hd rfl) (k192k E (dp_n hd rfl) HN x7 (by omega)) ?_
      intro v14 q20
      obtain ⟨q16, q17, q18, q19⟩ := q20
      refine s_blx (lv' := [(8, vI v14), (0, vR 77), (1, vI s), (2, vI said), (3, vI x3), (4, vL x4), (6, vI x6), (7, vI x7)]) (st' := [vI v14, vI said, vR 77]) B196_26_32 rfl ?_
      have kord := ((h1.fr fN rfl)) 473
      refine r_vI (c := 77) (args := [vI said, vI v14]) (rest := []) (pc' := 35) D196_32 rfl ck_11_virtual_240 TE188 rfl (Nat.le_of_ble_eq_true rfl) ⟨Nat.le_of_ble_eq_true rfl, Nat.le_of_ble_eq_true rfl⟩ sc_77 ⟨rfl, by decide⟩ HN.1 (dp_0 hd rfl) (k188f E (dp_n hd rfl) HN said v14 (K 473) 1 (suF K s (K (135 + 16 * s)) 1) (caF K s (K (135 + 16 * s)) 1) (onF K s (K (135 + 16 * s)) 1) ((h0.fr fN rfl)) ((h9.fr fN rfl)) ((h10.fr fN rfl)) ((h11.fr fN rfl)) (by omega) (by omega) (by omega) (by omega) (by omega) (by omega) (by omega)) ?_
      intro v21 M22 q30
      obtain ⟨H23, f24, q25, q26, q27, q28, q29⟩ := q30
      have f31 := fN.tr (f24.up rfl)
      have hp32 := i4.fr f24 (by decide)
      have hp33 := i5.fr f24 (by decide)
      obtain ⟨t34, ht35⟩ : ∃ q, q = gi M22 77 14 := ⟨_, rfl⟩
      have b_t34 := H23.2 77 14 0 1110 rfl
      rw [← ht35] at b_t34
      rw [← ht35] at q28
      rw [← ht35] at q29
      have klg := q26
      have kno := q27
      have kdn := DN_of said
      clear q26 q27 q28 q29
      have k3 : x7 = 3 → DN said < 3 → v21 = 1 := fun e h => by have kc : v21 ≠ 0 := fun z => kno z (LG_3 (by omega) (by omega)); omega
      have k4 : x7 = 4 → DN said = 3 → v21 = 1 := fun e h => by have kc : v21 ≠ 0 := fun z => kno z ((LG_4 (by omega)).mpr ⟨rfl, h⟩); omega
      refine r_ifc (tgt := 41) (pc' := 38) D196_35 rfl rfl (by unfold inR; omega) (fun (c36 : v21 ≠ 0) => ?_) (fun (c36 : ¬ (v21 ≠ 0)) => ?_)
      · refine s_blx (lv' := [(8, vI v14), (0, vR 77), (1, vI s), (2, vI said), (3, vI x3), (4, vL x4), (6, vI x6), (7, vI x7)]) (st' := [vI 4, vI v14]) B196_41_44 rfl ?_
        refine r_icmp (tgt := 57) (pc' := 47) D196_44 rfl rfl (by unfold inR; omega) (fun (c37 : v14 ≠ 4) => ?_) (fun (c37 : ¬ (v14 ≠ 4)) => ?_)
        · refine s_blx (lv' := [(8, vI v14), (0, vR 77), (1, vI s), (2, vI said), (3, vI x3), (4, vL x4), (6, vI x6), (7, vI x7)]) (st' := [vR 77]) B196_57_58 rfl ?_
          refine r_gint (ki := 15) (pc' := 61) D196_58 rfl gf_11_218_77 rfl H23.1 ?_
          intro w38 e39 r40
          unfold inR at r40
          refine r_i2l (pc' := 62) D196_61 rfl (by unfold inR; omega) ?_
          refine s_blx (lv' := [(8, vI v14), (0, vR 77), (1, vI s), (2, vI said), (3, vI x3), (4, vL x4), (6, vI x6), (7, vI x7)]) (st' := [vR 77, vR 77, vL w38]) B196_62_64 rfl ?_
          refine r_gint (ki := 14) (pc' := 67) D196_64 rfl gf_11_215_77 rfl H23.1 ?_
          intro w41 e42 r43
          have e44 : t34 = w41 := (e42.trans (ht35.symm)).symm
          subst e44
          refine r_vIp (c := 77) (args := [vI t34]) (rest := [vL w38]) (pc' := 70) D196_67 rfl ck_11_virtual_246 TE190 rfl (Nat.le_of_ble_eq_true rfl) ⟨Nat.le_of_ble_eq_true rfl, Nat.le_of_ble_eq_true rfl⟩ sc_77 ⟨rfl, by decide⟩ H23.1 (dp_0 hd rfl) (k190 E (dp_n hd rfl) H23 t34 (by omega)) ?_
          intro v45 q48
          have q47 := q48; clear q48
          refine r_i2l (pc' := 71) D196_70 rfl (by unfold inR; omega) ?_
          refine s_blx (lv' := [(9, vL (w38 + v45)), (8, vI v14), (0, vR 77), (1, vI s), (2, vI said), (3, vI x3), (4, vL x4), (6, vI x6), (7, vI x7)]) (st' := [vR 77, vL (w38 + v45)]) B196_71_77 rfl ?_
          refine r_gint (ki := 8) (pc' := 80) D196_77 rfl gf_11_197_77 rfl H23.1 ?_
          intro w49 e50 r51
          unfold inR at r51
          refine r_i2l (pc' := 81) D196_80 rfl (by unfold inR; omega) ?_
          refine s_blx (lv' := [(9, vL (w38 + v45)), (8, vI v14), (0, vR 77), (1, vI s), (2, vI said), (3, vI x3), (4, vL x4), (6, vI x6), (7, vI x7)]) (st' := [vI 4, vI v14, vL ((w38 + v45) * w49)]) B196_81_85 rfl ?_
          refine r_icmp (tgt := 92) (pc' := 88) D196_85 rfl rfl (by unfold inR; omega) (fun (c52 : v14 ≠ 4) => ?_) (fun (c52 : ¬ (v14 ≠ 4)) => ?_)
          · refine s_blx (lv' := [(9, vL (w38 + v45)), (8, vI v14), (0, vR 77), (1, vI s), (2, vI said), (3, vI x3), (4, vL x4), (6, vI x6), (7, vI x7)]) (st' := [vR 77, vL ((w38 + v45) * w49)]) B196_92_93 rfl ?_
            refine r_gfix (r := 86) (pc' := 96) D196_93 rfl gf_11_40_77 H23.1 ?_
            refine s_blx (lv' := [(9, vL (w38 + v45)), (8, vI v14), (0, vR 77), (1, vI s), (2, vI said), (3, vI x3), (4, vL x4), (6, vI x6), (7, vI x7)]) (st' := [vR 77, vI (1111 * x3), vR 86, vL ((w38 + v45) * w49)]) B196_96_102 rfl ?_
            refine r_gint (ki := 14) (pc' := 105) D196_102 rfl gf_11_215_77 rfl H23.1 ?_
            intro w53 e54 r55
            have e56 : t34 = w53 := (e54.trans (ht35.symm)).symm
            subst e56
            refine s_blx (lv' := [(9, vL (w38 + v45)), (8, vI v14), (0, vR 77), (1, vI s), (2, vI said), (3, vI x3), (4, vL x4), (6, vI x6), (7, vI x7)]) (st' := [vI ((1111 * x3) + t34), vR 86, vL ((w38 + v45) * w49)]) B196_105_106 rfl ?_
            refine r_lald (pc' := 107) D196_106 rfl sc_86 H23.1 (by omega) ?_
            intro w57 e58 r59
            clear r59
            refine s_blx (lv' := [(9, vL (((w38 + v45) * w49) + w57)), (8, vI v14), (0, vR 77), (1, vI s), (2, vI said), (3, vI x3), (4, vL x4), (6, vI x6), (7, vI x7)]) (st' := [vI (-1), vI x6]) B196_107_113 rfl ?_
            refine r_icmp (tgt := 127) (pc' := 116) D196_113 rfl rfl (by unfold inR; omega) (fun (c60 : x6 = (-1)) => ?_) (fun (c60 : ¬ (x6 = (-1))) => ?_)
            · refine s_blx (lv' := [(7, vI (x7 + 1)), (4, vL (((w38 + v45) * w49) + w57)), (6, vI v14), (9, vL (((w38 + v45) * w49) + w57)), (8, vI v14), (0, vR 77), (1, vI s), (2, vI said), (3, vI x3)]) (st' := []) B196_127_138 rfl ?_
              refine r_goto (tgt := 14) D196_138 rfl ?_
              refine r_loc (lv' := [(0, vR 77), (1, vI s), (2, vI said), (3, vI x3), (4, vL (((w38 + v45) * w49) + w57)), (6, vI v14), (7, vI (x7 + 1))]) ⟨rfl, rfl, rfl, rfl, rfl, rfl, rfl, trivial⟩ rfl rfl ?_
              have g61 : gi M22 77 9 = gi N 77 9 := (f24.g rfl).trans (rfl)
              have g62 : gi M22 77 24 = kp := (f24.g rfl).trans (i7)
              exact ih x3 (((w38 + v45) * w49) + w57) v14 (x7 + 1) M22 H23 f31 (by omega) (by first | exact i1 | exact fun _ => klg (by omega)) (by omega) (by omega) (hp32) (hp33) (by omega) (by omega) (by omega) (by omega) (by omega) (by omega) (by omega) (by omega) (by omega) (by omega)
            · refine s_blx (lv' := [(9, vL (((w38 + v45) * w49) + w57)), (8, vI v14), (0, vR 77), (1, vI s), (2, vI said), (3, vI x3), (4, vL x4), (6, vI x6), (7, vI x7)]) (st' := [vL x4, vL (((w38 + v45) * w49) + w57)]) B196_116_120 rfl ?_
              refine r_lcmp (pc' := 121) D196_120 rfl ?_
              intro z63 r64 r65
              refine r_ifc (tgt := 127) (pc' := 124) D196_121 rfl rfl (by unfold inR; omega) (fun (c66 : z63 < 0) => ?_) (fun (c66 : ¬ (z63 < 0)) => ?_)
              · refine s_blx (lv' := [(7, vI (x7 + 1)), (4, vL (((w38 + v45) * w49) + w57)), (6, vI v14), (9, vL (((w38 + v45) * w49) + w57)), (8, vI v14), (0, vR 77), (1, vI s), (2, vI said), (3, vI x3)]) (st' := []) B196_127_138 rfl ?_
                refine r_goto (tgt := 14) D196_138 rfl ?_
                refine r_loc (lv' := [(0, vR 77), (1, vI s), (2, vI said), (3, vI x3), (4, vL (((w38 + v45) * w49) + w57)), (6, vI v14), (7, vI (x7 + 1))]) ⟨rfl, rfl, rfl, rfl, rfl, rfl, rfl, trivial⟩ rfl rfl ?_
                have g67 : gi M22 77 9 = gi N 77 9 := (f24.g rfl).trans (rfl)
                have g68 : gi M22 77 24 = kp := (f24.g rfl).trans (i7)
                exact ih x3 (((w38 + v45) * w49) + w57) v14 (x7 + 1) M22 H23 f31 (by omega) (by first | exact i1 | exact fun _ => klg (by omega)) (by omega) (by omega) (hp32) (hp33) (by omega) (by omega) (by omega) (by omega) (by omega) (by omega) (by omega) (by omega) (by omega) (by omega)
              · refine r_goto (tgt := 135) D196_124 rfl ?_
                refine s_blx (lv' := [(7, vI (x7 + 1)), (9, vL (((w38 + v45) * w49) + w57)), (8, vI v14), (0, vR 77), (1, vI s), (2, vI said), (3, vI x3), (4, vL x4), (6, vI x6)]) (st' := []) B196_135_138 rfl ?_
                refine r_goto (tgt := 14) D196_138 rfl ?_
                refine r_loc (lv' := [(0, vR 77), (1, vI s), (2, vI said), (3, vI x3), (4, vL x4), (6, vI x6), (7, vI (x7 + 1))]) ⟨rfl, rfl, rfl, rfl, rfl, rfl, rfl, trivial⟩ rfl rfl ?_
                have g69 : gi M22 77 9 = gi N 77 9 := (f24.g rfl).trans (rfl)
                have g70 : gi M22 77 24 = kp := (f24.g rfl).trans (i7)
                exact ih x3 x4 x6 (x7 + 1) M22 H23 f31 (by omega) (by first | exact i1 | exact fun _ => klg (by omega)) (by omega) (by omega) (hp32) (hp33) (by omega) (by omega) (by omega) (by omega) (by omega) (by omega) (by omega) (by omega) (by omega) (by omega)
          · refine s_blx (lv' := [(9, vL (w38 + v45)), (8, vI v14), (0, vR 77), (1, vI s), (2, vI said), (3, vI x3), (4, vL x4), (6, vI x6), (7, vI x7)]) (st' := [vL 0, vL ((w38 + v45) * w49)]) B196_88_89 rfl ?_
            refine r_goto (tgt := 107) D196_89 rfl ?_
            refine s_blx (lv' := [(9, vL (((w38 + v45) * w49) + 0)), (8, vI v14), (0, vR 77), (1, vI s), (2, vI said), (3, vI x3), (4, vL x4), (6, vI x6), (7, vI x7)]) (st' := [vI (-1), vI x6]) B196_107_113 rfl ?_
            refine r_icmp (tgt := 127) (pc' := 116) D196_113 rfl rfl (by unfold inR; omega) (fun (c71 : x6 = (-1)) => ?_) (fun (c71 : ¬ (x6 = (-1))) => ?_)
            · refine s_blx (lv' := [(7, vI (x7 + 1)), (4, vL (((w38 + v45) * w49) + 0)), (6, vI v14), (9, vL (((w38 + v45) * w49) + 0)), (8, vI v14), (0, vR 77), (1, vI s), (2, vI said), (3, vI x3)]) (st' := []) B196_127_138 rfl ?_
              refine r_goto (tgt := 14) D196_138 rfl ?_
              refine r_loc (lv' := [(0, vR 77), (1, vI s), (2, vI said), (3, vI x3), (4, vL (((w38 + v45) * w49) + 0)), (6, vI v14), (7, vI (x7 + 1))]) ⟨rfl, rfl, rfl, rfl, rfl, rfl, rfl, trivial⟩ rfl rfl ?_
              have g72 : gi M22 77 9 = gi N 77 9 := (f24.g rfl).trans (rfl)
              have g73 : gi M22 77 24 = kp := (f24.g rfl).trans (i7)
              exact ih x3 (((w38 + v45) * w49) + 0) v14 (x7 + 1) M22 H23 f31 (by omega) (by first | exact i1 | exact fun _ => klg (by omega)) (by omega) (by omega) (hp32) (hp33) (by omega) (by omega) (by omega) (by omega) (by omega) (by omega) (by omega) (by omega) (by omega) (by omega)
            · refine s_blx (lv' := [(9, vL (((w38 + v45) * w49) + 0)), (8, vI v14), (0, vR 77), (1, vI s), (2, vI said), (3, vI x3), (4, vL x4), (6, vI x6), (7, vI x7)]) (st' := [vL x4, vL (((w38 + v45) * w49) + 0)]) B196_116_120 rfl ?_
              refine r_lcmp (pc' := 121) D196_120 rfl ?_
              intro z74 r75 r76
              refine r_ifc (tgt := 127) (pc' := 124) D196_121 rfl rfl (by unfold inR; omega) (fun (c77 : z74 < 0) => ?_) (fun (c77 : ¬ (z74 < 0)) => ?_)
              · refine s_blx (lv' := [(7, vI (x7 + 1)), (4, vL (((w38 + v45) * w49) + 0)), (6, vI v14), (9, vL (((w38 + v45) * w49) + 0)), (8, vI v14), (0, vR 77), (1, vI s), (2, vI said), (3, vI x3)]) (st' := []) B196_127_138 rfl ?_
                refine r_goto (tgt := 14) D196_138 rfl ?_
                refine r_loc (lv' := [(0, vR 77), (1, vI s), (2, vI said), (3, vI x3), (4, vL (((w38 + v45) * w49) + 0)), (6, vI v14), (7, vI (x7 + 1))]) ⟨rfl, rfl, rfl, rfl, rfl, rfl, rfl, trivial⟩ rfl rfl ?_
                have g78 : gi M22 77 9 = gi N 77 9 := (f24.g rfl).trans (rfl)
                have g79 : gi M22 77 24 = kp := (f24.g rfl).trans (i7)
                exact ih x3 (((w38 + v45) * w49) + 0) v14 (x7 + 1) M22 H23 f31 (by omega) (by first | exact i1 | exact fun _ => klg (by omega)) (by omega) (by omega) (hp32) (hp33) (by omega) (by omega) (by omega) (by omega) (by omega) (by omega) (by omega) (by omega) (by omega) (by omega)
              · refine r_goto (tgt := 135) D196_124 rfl ?_
                refine s_blx (lv' := [(7, vI (x7 + 1)), (9, vL (((w38 + v45) * w49) + 0)), (8, vI v14), (0, vR 77), (1, vI s), (2, vI said), (3, vI x3), (4, vL x4), (6, vI x6)]) (st' := []) B196_135_138 rfl ?_
                refine r_goto (tgt := 14) D196_138 rfl ?_
                refine r_loc (lv' := [(0, vR 77), (1, vI s), (2, vI said), (3, vI x3), (4, vL x4), (6, vI x6), (7, vI (x7 + 1))]) ⟨rfl, rfl, rfl, rfl, rfl, rfl, rfl, trivial⟩ rfl rfl ?_
                have g80 : gi M22 77 9 = gi N 77 9 := (f24.g rfl).trans (rfl)
                have g81 : gi M22 77 24 = kp := (f24.g rfl).trans (i7)
                exact ih x3 x4 x6 (x7 + 1) M22 H23 f31 (by omega) (by first | exact i1 | exact fun _ => klg (by omega)) (by omega) (by omega) (hp32) (hp33) (by omega) (by omega) (by omega) (by omega) (by omega) (by omega) (by omega) (by omega) (by omega) (by omega)
        · refine s_blx (lv' := [(8, vI v14), (0, vR 77), (1, vI s), (2, vI said), (3, vI x3), (4, vL x4), (6, vI x6), (7, vI x7)]) (st' := [vI s, vI said, vR 77]) B196_47_50 rfl ?_
          refine r_vIp (c := 77) (args := [vI said, vI s]) (rest := []) (pc' := 53) D196_50 rfl ck_11_virtual_243 TE191 rfl (Nat.le_of_ble_eq_true rfl) ⟨Nat.le_of_ble_eq_true rfl, Nat.le_of_ble_eq_true rfl⟩ sc_77 ⟨rfl, by decide⟩ H23.1 (dp_0 hd rfl) (k191 E (dp_n hd rfl) H23 said s (by omega) (by omega)) ?_
          intro v82 q85
          have q84 := q85; clear q85
          refine r_i2l (pc' := 54) D196_53 rfl (by unfold inR; omega) ?_
          refine r_goto (tgt := 72) D196_54 rfl ?_
          refine s_blx (lv' := [(9, vL v82), (8, vI v14), (0, vR 77), (1, vI s), (2, vI said), (3, vI x3), (4, vL x4), (6, vI x6), (7, vI x7)]) (st' := [vR 77, vL v82]) B196_72_77 rfl ?_
          refine r_gint (ki := 8) (pc' := 80) D196_77 rfl gf_11_197_77 rfl H23.1 ?_
          intro w86 e87 r88
          unfold inR at r88
          refine r_i2l (pc' := 81) D196_80 rfl (by unfold inR; omega) ?_
          refine s_blx (lv' := [(9, vL v82), (8, vI v14), (0, vR 77), (1, vI s), (2, vI said), (3, vI x3), (4, vL x4), (6, vI x6), (7, vI x7)]) (st' := [vI 4, vI v14, vL (v82 * w86)]) B196_81_85 rfl ?_
          refine r_icmp (tgt := 92) (pc' := 88) D196_85 rfl rfl (by unfold inR; omega) (fun (c89 : v14 ≠ 4) => ?_) (fun (c89 : ¬ (v14 ≠ 4)) => ?_)
          · exfalso; omega
          · refine s_blx (lv' := [(9, vL v82), (8, vI v14), (0, vR 77), (1, vI s), (2, vI said), (3, vI x3), (4, vL x4), (6, vI x6), (7, vI x7)]) (st' := [vL 0, vL (v82 * w86)]) B196_88_89 rfl ?_
            refine r_goto (tgt := 107) D196_89 rfl ?_
            refine s_blx (lv' := [(9, vL ((v82 * w86) + 0)), (8, vI v14), (0, vR 77), (1, vI s), (2, vI said), (3, vI x3), (4, vL x4), (6, vI x6), (7, vI x7)]) (st' := [vI (-1), vI x6]) B196_107_113 rfl ?_
            refine r_icmp (tgt := 127) (pc' := 116) D196_113 rfl rfl (by unfold inR; omega) (fun (c90 : x6 = (-1)) => ?_) (fun (c90 : ¬ (x6 = (-1))) => ?_)
            · refine s_blx (lv' := [(7, vI (x7 + 1)), (4, vL ((v82 * w86) + 0)), (6, vI v14), (9, vL ((v82 * w86) + 0)), (8, vI v14), (0, vR 77), (1, vI s), (2, vI said), (3, vI x3)]) (st' := []) B196_127_138 rfl ?_
              refine r_goto (tgt := 14) D196_138 rfl ?_
              refine r_loc (lv' := [(0, vR 77), (1, vI s), (2, vI said), (3, vI x3), (4, vL ((v82 * w86) + 0)), (6, vI v14), (7, vI (x7 + 1))]) ⟨rfl, rfl, rfl, rfl, rfl, rfl, rfl, trivial⟩ rfl rfl ?_
              have g91 : gi M22 77 9 = gi N 77 9 := (f24.g rfl).trans (rfl)
              have g92 : gi M22 77 24 = kp := (f24.g rfl).trans (i7)
              exact ih x3 ((v82 * w86) + 0) v14 (x7 + 1) M22 H23 f31 (by omega) (by first | exact i1 | exact fun _ => klg (by omega)) (by omega) (by omega) (hp32) (hp33) (by omega) (by omega) (by omega) (by omega) (by omega) (by omega) (by omega) (by omega) (by omega) (by omega)
            · refine s_blx (lv' := [(9, vL ((v82 * w86) + 0)), (8, vI v14), (0, vR 77), (1, vI s), (2, vI said), (3, vI x3), (4, vL x4), (6, vI x6), (7, vI x7)]) (st' := [vL x4, vL ((v82 * w86) + 0)]) B196_116_120 rfl ?_
              refine r_lcmp (pc' := 121) D196_120 rfl ?_
              intro z93 r94 r95
              refine r_ifc (tgt := 127) (pc' := 124) D196_121 rfl rfl (by unfold inR; omega) (fun (c96 : z93 < 0) => ?_) (fun (c96 : ¬ (z93 < 0)) => ?_)
              · refine s_blx (lv' := [(7, vI (x7 + 1)), (4, vL ((v82 * w86) + 0)), (6, vI v14), (9, vL ((v82 * w86) + 0)), (8, vI v14), (0, vR 77), (1, vI s), (2, vI said), (3, vI x3)]) (st' := []) B196_127_138 rfl ?_
                refine r_goto (tgt := 14) D196_138 rfl ?_
                refine r_loc (lv' := [(0, vR 77), (1, vI s), (2, vI said), (3, vI x3), (4, vL ((v82 * w86) + 0)), (6, vI v14), (7, vI (x7 + 1))]) ⟨rfl, rfl, rfl, rfl, rfl, rfl, rfl, trivial⟩ rfl rfl ?_
                have g97 : gi M22 77 9 = gi N 77 9 := (f24.g rfl).trans (rfl)
                have g98 : gi M22 77 24 = kp := (f24.g rfl).trans (i7)
                exact ih x3 ((v82 * w86) + 0) v14 (x7 + 1) M22 H23 f31 (by omega) (by first | exact i1 | exact fun _ => klg (by omega)) (by omega) (by omega) (hp32) (hp33) (by omega) (by omega) (by omega) (by omega) (by omega) (by omega) (by omega) (by omega) (by omega) (by omega)
              · refine r_goto (tgt := 135) D196_124 rfl ?_
                refine s_blx (lv' := [(7, vI (x7 + 1)), (9, vL ((v82 * w86) + 0)), (8, vI v14), (0, vR 77), (1, vI s), (2, vI said), (3, vI x3), (4, vL x4), (6, vI x6)]) (st' := []) B196_135_138 rfl ?_
                refine r_goto (tgt := 14) D196_138 rfl ?_
                refine r_loc (lv' := [(0, vR 77), (1, vI s), (2, vI said), (3, vI x3), (4, vL x4), (6, vI x6), (7, vI (x7 + 1))]) ⟨rfl, rfl, rfl, rfl, rfl, rfl, rfl, trivial⟩ rfl rfl ?_
                have g99 : gi M22 77 9 = gi N 77 9 := (f24.g rfl).trans (rfl)
                have g100 : gi M22 77 24 = kp := (f24.g rfl).trans (i7)
                exact ih x3 x4 x6 (x7 + 1) M22 H23 f31 (by omega) (by first | exact i1 | exact fun _ => klg (by omega)) (by omega) (by omega) (hp32) (hp33) (by omega) (by omega) (by omega) (by omega) (by omega) (by omega) (by omega) (by omega) (by omega) (by omega)
      · refine r_goto (tgt := 135) D196_38 rfl ?_
        refine s_blx (lv' := [(7, vI (x7 + 1)), (8, vI v14), (0, vR 77), (1, vI s), (2, vI said), (3, vI x3), (4, vL x4), (6, vI x6)]) (st' := []) B196_135_138 rfl ?_
        refine r_goto (tgt := 14) D196_138 rfl ?_
        refine r_loc (lv' := [(0, vR 77), (1, vI s), (2, vI said), (3, vI x3), (4, vL x4), (6, vI x6), (7, vI (x7 + 1))]) ⟨rfl, rfl, rfl, rfl, rfl, rfl, rfl, trivial⟩ rfl rfl ?_
        have g101 : gi M22 77 9 = gi N 77 9 := (f24.g rfl).trans (rfl)
        have g102 : gi M22 77 24 = kp := (f24.g rfl).trans (i7)
        exact ih x3 x4 x6 (x7 + 1) M22 H23 f31 (by omega) (by first | exact i1 | exact fun _ => klg (by omega)) (by omega) (by omega) (hp32) (hp33) (by omega) (by omega) (by omega) (by omega) (by omega) (by omega) (by omega) (by omega) (by omega) (by omega)
set_option maxRecDepth 4000 in
set_option maxHeartbeats 4000000 in
theorem k196k {base : Nat} {X : Nat → Option mC} {G : Nat → Value} (E : EnvOK base X G) {d : Nat} (hd : 4 ≤ d) {M : mH} (H : HI base M) (s : Int) (said : Int) (K : Int → Int) (T : Int → Int) (kp : Int) (h0 : TB M) (h1 : KK K M) (h2 : CE 87 T M) (h3 : VT M) (h4 : gi M 77 24 = kp) (h5 : 0 ≤ kp ∧ kp ≤ 1) (h6 : gi M 77 9 = 1) (h7 : 0 ≤ s ∧ s ≤ 15) (h8 : 0 ≤ said ∧ said ≤ 1110) (h9 : C3 84 (suF K s (K (135 + 16 * s)) 1) M) (h10 : C3 83 (caF K s (K (135 + 16 * s)) 1) M) (h11 : C3 85 (onF K s (K (135 + 16 * s)) 1) M) : sOk base X G d T196 [vR 77, vI s, vI said] M (pV (fun M' => HI base M' ∧ Fr [(77, 14), (77, 15), (77, 16), (86, 0), (87, 0)] M M' ∧ (kp = 1 → TL K s said (gi M' 87 (9999 * s + said))) ∧ (∀ j : Int, 0 ≤ j → j ≠ 9999 * s + said → gi M' 87 j = T j) ∧ (VT M'))) := by
  have f0 : Fr [(77, 14), (77, 15), (77, 16), (86, 0), (87, 0)] M M := Fr.rf
  refine sOk.of (show sRn base X G d T196 0 [(0, vR 77), (1, vI s), (2, vI said)] [] M _ from ?_)
  refine s_blx (lv' := [(7, vI 0), (6, vI (-1)), (4, vL 0), (3, vI (9 * s)), (0, vR 77), (1, vI s), (2, vI said)]) (st' := []) B196_0_14 rfl ?_
  refine r_loc (lv' := [(0, vR 77), (1, vI s), (2, vI said), (3, vI (9 * s)), (4, vL 0), (6, vI (-1)), (7, vI 0)]) ⟨rfl, rfl, rfl, rfl, rfl, rfl, rfl, trivial⟩ rfl rfl ?_
  have g1 : gi M 77 9 = gi M 77 9 := rfl
  have g2 : gi M 77 24 = kp := h4
  exact (L_k196k E hd H s said K T kp h0 h1 h2 h3 h4 h5 h6 h7 h8 h9 h10 h11 (((16 - 0) * 1 + 0 : Int) + 1).toNat) (9 * s) 0 (-1) 0 M H f0 (by omega) (fun h => absurd rfl h) (by omega) (by omega) (h2) (h3) (by omega) (by omega) (by omega) (by omega) (by omega) (by omega) (by omega) (by omega) (by omega) (by omega)
set_option maxRecDepth 4000 in
set_option maxHeartbeats 4000000 in
theorem L_k197k {base : Nat} {X : Nat → Option mC} {G : Nat → Value} (E : EnvOK base X G) {d : Nat} (hd : 5 ≤ d) {M : mH} (H : HI base M) (s : Int) (K : Int → Int) (kp : Int) (h0 : TB M) (h1 : KK K M) (h2 : VT M) (h3 : gi M 77 24 = kp) (h4 : 0 ≤ kp ∧ kp ≤ 1) (h5 : 0 ≤ s ∧ s ≤ 15) : ∀ mz : Nat, (∀ (x2 : Int) (N : mH), HI base N → Fr [(77, 7), (77, 8), (77, 9), (77, 10), (77, 14), (77, 15), (77, 16), (83, 0), (84, 0), (85, 0), (86, 0), (87, 0)] M N → (kp = 1 → TP K s x2 1110 N) → (∀ j : Int, 0 ≤ j → (j < 9999 * s ∨ 9999 * s + 1110 < j) → gi N 87 j = gi M 87 j) → (VT N) → (gi N 77 24 = kp) → (gi N 77 9 = 1) → (C3 84 (suF K s (K (135 + 16 * s)) 1) N) → (C3 83 (caF K s (K (135 + 16 * s)) 1) N) → (C3 85 (onF K s (K (135 + 16 * s)) 1) N) → (0 ≤ x2 ∧ x2 ≤ 4) → (0 ≤ x2) → (x2 ≤ 4) → (4 - x2) * 1113 + 1112 < (mz : Int) → sRn base X G d T197 13 [(0, vR 77), (1, vI s), (2, vI x2)] [] N (s_Q base (pV (fun M' => HI base M' ∧ Fr [(77, 7), (77, 8), (77, 9), (77, 10), (77, 14), (77, 15), (77, 16), (83, 0), (84, 0), (85, 0), (86, 0), (87, 0)] M M' ∧ (kp = 1 → TG K s M') ∧ (∀ j : Int, 0 ≤ j → (j < 9999 * s ∨ 9999 * s + 1110 < j) → gi M' 87 j = gi M 87 j) ∧ (VT M'))))) ∧ (∀ (x2 x3 : Int) (N : mH), HI base N → Fr [(77, 7), (77, 8), (77, 9), (77, 10), (77, 14), (77, 15), (77, 16), (83, 0), (84, 0), (85, 0), (86, 0), (87, 0)] M N → (kp = 1 → TP K s x2 x3 N) → (∀ j : Int, 0 ≤ j → (j < 9999 * s ∨ 9999 * s + 1110 < j) → gi N 87 j = gi M 87 j) → (VT N) → (gi N 77 24 = kp) → (gi N 77 9 = 1) → (C3 84 (suF K s (K (135 + 16 * s)) 1) N) → (C3 83 (caF K s (K (135 + 16 * s)) 1) N) → (C3 85 (onF K s (K (135 + 16 * s)) 1) N) → (0 ≤ x2 ∧ x2 ≤ 3) → (-1 ≤ x3 ∧ x3 ≤ 1110) → (0 ≤ x2) → (x2 ≤ 3) → ((-1) ≤ x3) → (x3 ≤ 1110) → (4 - x2) * 1113 + 0 + (x3 + 1) * 1 + 0 < (mz : Int) → sRn base X G d T197 22 [(0, vR 77), (1, vI s), (2, vI x2), (3, vI x3)] [] N (s_Q base (pV (fun M' => HI base M' ∧ Fr [(77, 7), (77, 8), (77, 9), (77, 10), (77, 14), (77, 15), (77, 16), (83, 0), (84, 0), (85, 0), (86, 0), (87, 0)] M M' ∧ (kp = 1 → TG K s M') ∧ (∀ j : Int, 0 ≤ j → (j < 9999 * s ∨ 9999 * s + 1110 < j) → gi M' 87 j = gi M 87 j) ∧ (VT M'))))) := by
  have f0 : Fr [(77, 7), (77, 8), (77, 9), (77, 10), (77, 14), (77, 15), (77, 16), (83, 0), (84, 0), (85, 0), (86, 0), (87, 0)] M M := Fr.rf
  intro mz
  induction mz with
  | zero => exact ⟨fun x2 N _ _ z0 z1 z2 z3 z4 z5 z6 z7 z8 z9 z10 z11 => by omega, fun x2 x3 N _ _ z0 z1 z2 z3 z4 z5 z6 z7 z8 z9 z10 z11 z12 z13 z14 => by omega⟩
  | succ mz ih =>
    refine ⟨?_, ?_⟩
    · intro x2 N HN fN i0 i1 i2 i3 i4 i5 i6 i7 i8 i9 i10 hmu
      refine s_blx (lv' := [(0, vR 77), (1, vI s), (2, vI x2)]) (st' := [vI 3, vI x2]) B197_13_15 rfl ?_
      refine r_icmp (tgt := 54) (pc' := 18) D197_15 rfl rfl (by unfold inR; omega) (fun (c26 : 3 < x2) => ?_) (fun (c26 : ¬ (3 < x2)) => ?_)
      · exact r_retV D197_54 rfl (⟨HN, fN, fun h => (i0 h).all (by omega), i1, i2⟩)
      · refine s_blx (lv' := [(3, vI 1110), (0, vR 77), (1, vI s), (2, vI x2)]) (st' := []) B197_18_22 rfl ?_
        refine r_loc (lv' := [(0, vR 77), (1, vI s), (2, vI x2), (3, vI 1110)]) ⟨rfl, rfl, rfl, rfl, trivial⟩ rfl rfl ?_
        exact ih.2 x2 1110 N HN fN (i0) (i1) (i2) (by omega) (by omega) (i5) (i6) (i7) (by omega) (by omega) (by omega) (by omega) (by omega) (by omega) (by omega)
    · intro x2 x3 N HN fN i0 i1 i2 i3 i4 i5 i6 i7 i8 i9 i10 i11 i12 i13 hmu
      refine s_blx (lv' := [(0, vR 77), (1, vI s), (2, vI x2), (3, vI x3)]) (st' := [vI x3]) B197_22_23 rfl ?_
      refine r_ifc (tgt := 48) (pc' := 26) D197_23 rfl rfl (by unfold inR; omega) (fun (c27 : x3 < 0) => ?_) (fun (c27 : ¬ (x3 < 0)) => ?_)
      · refine s_blx (lv' := [(2, vI (x2 + 1)), (0, vR 77), (1, vI s), (3, vI x3)]) (st' := []) B197_48_51 rfl ?_
        refine r_goto (tgt := 13) D197_51 rfl ?_
        refine r_loc (lv' := [(0, vR 77), (1, vI s), (2, vI (x2 + 1))]) ⟨rfl, rfl, rfl, trivial⟩ rfl rfl ?_
        exact ih.1 (x2 + 1) N HN fN (fun h => (i0 h).next (by omega)) (i1) (i2) (by omega) (by omega) (i5) (i6) (i7) (by omega) (by omega) (by omega) (by omega)
      · refine s_blx (lv' := [(0, vR 77), (1, vI s), (2, vI x2), (3, vI x3)]) (st' := [vI s, vI x3, vR 77]) B197_26_29 rfl ?_
        refine r_vIp (c := 77) (args := [vI x3, vI s]) (rest := []) (pc' := 32) D197_29 rfl ck_11_virtual_257 TE195 rfl (Nat.le_of_ble_eq_true rfl) ⟨Nat.le_of_ble_eq_true rfl, Nat.le_of_ble_eq_true rfl⟩ sc_77 ⟨rfl, by decide⟩ HN.1 (dp_0 hd rfl) (k195k E (dp_n hd rfl) HN x3 s K ((h0.fr fN rfl)) ((h1.fr fN rfl)) (by omega) (by omega)) ?_
        intro v28 q32
        obtain ⟨q30, q31⟩ := q32
        have kw := q31; clear q31
        refine s_blx (lv' := [(0, vR 77), (1, vI s), (2, vI x2), (3, vI x3)]) (st' := [vI x2, vI v28]) B197_32_33 rfl ?_
        refine r_icmp (tgt := 42) (pc' := 36) D197_33 rfl rfl (by unfold inR; omega) (fun (c33 : v28 ≠ x2) => ?_) (fun (c33 : ¬ (v28 ≠ x2)) => ?_)
        · refine s_blx (lv' := [(3, vI (x3 + (-1))), (0, vR 77), (1, vI s), (2, vI x2)]) (st' := []) B197_42_45 rfl ?_
          refine r_goto (tgt := 22) D197_45 rfl ?_
          refine r_loc (lv' := [(0, vR 77), (1, vI s), (2, vI x2), (3, vI (x3 + (-1)))]) ⟨rfl, rfl, rfl, rfl, trivial⟩ rfl rfl ?_
          exact ih.2 x2 (x3 + (-1)) N HN fN (by first | exact fun h => (i0 h).step (by omega) (by omega) (by omega) (kA h) kB | exact fun h => (i0 h).skip (by omega) (by omega)) (by first | exact fun j a b => (kB j a (by omega)).trans (i1 j a b) | exact i1) (i2) (by omega) (by omega) (i5) (i6) (i7) (by omega) (by omega) (by omega) (by omega) (by omega) (by omega) (by omega)
        · refine s_blx (lv' := [(0, vR 77), (1, vI s), (2, vI x2), (3, vI x3)]) (st' := [vI x3, vI s, vR 77]) B197_36_39 rfl ?_
          have g34 : gi N 77 24 = kp := i3
          refine r_vV (c := 77) (args := [vI s, vI x3]) (rest := []) (pc' := 42) D197_39 rfl ck_11_virtual_260 TE196 rfl (Nat.le_of_ble_eq_true rfl) ⟨Nat.le_of_ble_eq_true rfl, Nat.le_of_ble_eq_true rfl⟩ sc_77 ⟨rfl, by decide⟩ HN.1 (dp_0 hd rfl) (k196k E (dp_n hd rfl) HN s x3 K (gi N 87) kp ((h0.fr fN rfl)) ((h1.fr fN rfl)) (fun _ => rfl) (i2) (by omega) (by omega) (by omega) (by omega) (by omega) (i5) (i6) (i7)) ?_
          intro M36 q42
          obtain ⟨H37, f38, q39, q40, q41⟩ := q42
          have f43 := fN.tr (f38.up rfl)
          have hp44 := i5.fr f38 (by decide)
          have hp45 := i6.fr f38 (by decide)
          have hp46 := i7.fr f38 (by decide)
          have kA := q39; clear q39
          have kB := q40; clear q40
          refine s_blx (lv' := [(3, vI (x3 + (-1))), (0, vR 77), (1, vI s), (2, vI x2)]) (st' := []) B197_42_45 rfl ?_
          refine r_goto (tgt := 22) D197_45 rfl ?_
          refine r_loc (lv' := [(0, vR 77), (1, vI s), (2, vI x2), (3, vI (x3 + (-1)))]) ⟨rfl, rfl, rfl, rfl, trivial⟩ rfl rfl ?_
          have g47 : gi M36 77 24 = kp := (f38.g rfl).trans (i3)
          have g48 : gi M36 77 9 = gi N 77 9 := (f38.g rfl).trans (rfl)
          exact ih.2 x2 (x3 + (-1)) M36 H37 f43 (by first | exact fun h => (i0 h).step (by omega) (by omega) (by omega) (kA h) kB | exact fun h => (i0 h).skip (by omega) (by omega)) (by first | exact fun j a b => (kB j a (by omega)).trans (i1 j a b) | exact i1) (q41) (by omega) (by omega) (hp44) (hp45) (hp46) (by omega) (by omega) (by omega) (by omega) (by omega) (by omega) (by omega)
set_option maxRecDepth 4000 in
set_option maxHeartbeats 4000000 in
theorem k197k {base : Nat} {X : Nat → Option mC} {G : Nat → Value} (E : EnvOK base X G) {d : Nat} (hd : 5 ≤ d) {M : mH} (H : HI base M) (s : Int) (K : Int → Int) (kp : Int) (h0 : TB M) (h1 : KK K M) (h2 : VT M) (h3 : gi M 77 24 = kp) (h4 : 0 ≤ kp ∧ kp ≤ 1) (h5 : 0 ≤ s ∧ s ≤ 15) : sOk base X G d T197 [vR 77, vI s] M (pV (fun M' => HI base M' ∧ Fr [(77, 7), (77, 8), (77, 9), (77, 10), (77, 14), (77, 15), (77, 16), (83, 0), (84, 0), (85, 0), (86, 0), (87, 0)] M M' ∧ (kp = 1 → TG K s M') ∧ (∀ j : Int, 0 ≤ j → (j < 9999 * s ∨ 9999 * s + 1110 < j) → gi M' 87 j = gi M 87 j) ∧ (VT M'))) := by
  have f0 : Fr [(77, 7), (77, 8), (77, 9), (77, 10), (77, 14), (77, 15), (77, 16), (83, 0), (84, 0), (85, 0), (86, 0), (87, 0)] M M := Fr.rf
  refine sOk.of (show sRn base X G d T197 0 [(0, vR 77), (1, vI s)] [] M _ from ?_)
  refine s_blx (lv' := [(0, vR 77), (1, vI s)]) (st' := [vI s, vR 77, vI s, vR 77]) B197_0_4 rfl ?_
  refine r_vIp (c := 77) (args := [vI s]) (rest := [vI s, vR 77]) (pc' := 7) D197_4 rfl ck_11_virtual_144 TE156 rfl (Nat.le_of_ble_eq_true rfl) ⟨Nat.le_of_ble_eq_true rfl, Nat.le_of_ble_eq_true rfl⟩ sc_77 ⟨rfl, by decide⟩ H.1 (dp_0 hd rfl) (k156f E (dp_n hd rfl) H s K (h1) (by omega)) ?_
  intro v1 q5
  obtain ⟨q3, q4⟩ := q5
  have kl := q4; clear q4
  refine s_blx (lv' := [(0, vR 77), (1, vI s)]) (st' := [vI 1, vI v1, vI s, vR 77]) B197_7_8 rfl ?_
  refine r_vV (c := 77) (args := [vI s, vI v1, vI 1]) (rest := []) (pc' := 11) D197_8 rfl ck_11_virtual_253 TE183 rfl (Nat.le_of_ble_eq_true rfl) ⟨Nat.le_of_ble_eq_true rfl, Nat.le_of_ble_eq_true rfl⟩ sc_77 ⟨rfl, by decide⟩ H.1 (dp_0 hd rfl) (k183f E (dp_n hd rfl) H s v1 1 K (by omega) (h1) (by omega) (by omega)) ?_
  intro M7 q15
  obtain ⟨H8, f9, q10, q11, q12, q13, q14⟩ := q15
  have f16 := f0.tr (f9.up rfl)
  have hp17 := h2.fr f9 (by decide)
  obtain ⟨t18, ht19⟩ : ∃ q, q = gi M7 77 9 := ⟨_, rfl⟩
  have b_t18 := H8.2 77 9 0 1 rfl
  rw [← ht19] at b_t18
  obtain ⟨t20, ht21⟩ : ∃ q, q = gi M7 77 6 := ⟨_, rfl⟩
  obtain ⟨t22, ht23⟩ : ∃ q, q = gi M7 77 8 := ⟨_, rfl⟩
  rw [← ht19] at q10
  rw [← ht21] at q11
  rw [← ht21] at q12
  rw [← ht23] at q14
  have kc3 := q13; clear q13
  have c84 : C3 84 (suF K s (K (135 + 16 * s)) 1) M7 := fun j a b => by rw [← kl]; exact (kc3 j a b).2.1
  have c83 : C3 83 (caF K s (K (135 + 16 * s)) 1) M7 := fun j a b => by rw [← kl]; exact (kc3 j a b).1
  have c85 : C3 85 (onF K s (K (135 + 16 * s)) 1) M7 := fun j a b => by rw [← kl]; exact (kc3 j a b).2.2
  have kt0 : ∀ j : Int, gi M7 87 j = gi M 87 j := fun j => f9.g rfl
  refine s_blx (lv' := [(2, vI 0), (0, vR 77), (1, vI s)]) (st' := []) B197_11_13 rfl ?_
  refine r_loc (lv' := [(0, vR 77), (1, vI s), (2, vI 0)]) ⟨rfl, rfl, rfl, trivial⟩ rfl rfl ?_
  have g24 : gi M7 77 24 = kp := (f9.g rfl).trans (h3)
  have g25 : gi M7 77 9 = t18 := ht19.symm
  exact (L_k197k E hd H s K kp h0 h1 h2 h3 h4 h5 (((4 - 0) * 1113 + 1112 : Int) + 1).toNat).1 0 M7 H8 f16 (fun _ => TP.zero) (fun j _ _ => kt0 j) (hp17) (by omega) (by omega) (c84) (c83) (c85) (by omega) (by omega) (by omega) (by omega)
