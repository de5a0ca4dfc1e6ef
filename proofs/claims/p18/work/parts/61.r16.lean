/-! What was said, as a number; what a move makes of it; what is still to be done. -/
/-- a cell, as a function -/
noncomputable def CE (c : Nat) (f : Int → Int) (M : mH) : Prop := ∀ j : Int, gi M c j = f j
theorem CE.fr {c : Nat} {f : Int → Int} {L : List (Nat × Nat)} {M M' : mH} (h : CE c f M) (g : Fr L M M') (hc : s_al L (fun x => x != c) = true) : CE c f M' := fun j => (g.g (s_al_ok hc (by simp))).trans (h j)
theorem CE.wr {c : Nat} {f : Int → Int} {M M' : mH} {c' i : Nat} {v : Value} (h : CE c f M) (u : Wr M c' i v M') (hc : c' ≠ c) : CE c f M' := fun j => by
  rw [← h j]; unfold gi; rw [u.ne (Or.inl (Ne.symm hc))]
/-- three places of a cell, as a function -/
noncomputable def C3 (c : Nat) (f : Int → Int) (M : mH) : Prop := ∀ j : Int, 0 ≤ j → j ≤ 2 → gi M c j = f j
theorem C3.fr {c : Nat} {f : Int → Int} {L : List (Nat × Nat)} {M M' : mH} (h : C3 c f M) (g : Fr L M M') (hc : s_al L (fun x => x != c) = true) : C3 c f M' := fun j h1 h2 => (g.g (s_al_ok hc (by simp))).trans (h j h1 h2)
theorem C3.wr {c : Nat} {f : Int → Int} {M M' : mH} {c' i : Nat} {v : Value} (h : C3 c f M) (u : Wr M c' i v M') (hc : c' ≠ c) : C3 c f M' := fun j h1 h2 => by
  rw [← h j h1 h2]; unfold gi; rw [u.ne (Or.inl (Ne.symm hc))]
noncomputable def DN (s : Int) : Int := if s < 1 then 0 else if s < 11 then 1 else if s < 111 then 2 else 3
noncomputable def DG (s i : Int) : Int := if s < 11 then s - 1 else if s < 111 then (if i = 0 then (s - 11) / 10 else (s - 11) % 10) else if i = 0 then (s - 111) / 100 else if i = 1 then (s - 111) / 10 % 10 else (s - 111) % 10
theorem DN0 {s : Int} (h : s < 1) : DN s = 0 := by unfold DN; rw [if_pos h]
theorem DN1 {s : Int} (h : 1 ≤ s ∧ s ≤ 10) : DN s = 1 := by unfold DN; rw [if_neg (by omega), if_pos (by omega)]
theorem DN2 {s : Int} (h : 11 ≤ s ∧ s ≤ 110) : DN s = 2 := by unfold DN; rw [if_neg (by omega), if_neg (by omega), if_pos (by omega)]
theorem DN3 {s : Int} (h : 111 ≤ s) : DN s = 3 := by unfold DN; rw [if_neg (by omega), if_neg (by omega), if_neg (by omega)]
theorem DN_of (s : Int) : (s < 1 ∧ DN s = 0) ∨ (1 ≤ s ∧ s ≤ 10 ∧ DN s = 1) ∨ (11 ≤ s ∧ s ≤ 110 ∧ DN s = 2) ∨ (111 ≤ s ∧ DN s = 3) := by
  by_cases a : s < 1
  · exact Or.inl ⟨a, DN0 a⟩
  · by_cases b : s ≤ 10
    · exact Or.inr (Or.inl ⟨by omega, b, DN1 (by omega)⟩)
    · by_cases c : s ≤ 110
      · exact Or.inr (Or.inr (Or.inl ⟨by omega, c, DN2 (by omega)⟩))
      · exact Or.inr (Or.inr (Or.inr ⟨by omega, DN3 (by omega)⟩))
theorem TB.dn {M : mH} (h : TB M) {s : Int} (hs : 0 ≤ s ∧ s ≤ 1110) : gi M 81 s = DN s := by
  have := h.at hs
  have := DN_of s
  omega
theorem DG1 {s i : Int} (h : s ≤ 10) : DG s i = s - 1 := by unfold DG; rw [if_pos (by omega)]
theorem DG20 {s : Int} (h : 11 ≤ s ∧ s ≤ 110) : DG s 0 = (s - 11) / 10 := by unfold DG; rw [if_neg (by omega), if_pos (by omega), if_pos rfl]
theorem DG21 {s : Int} (h : 11 ≤ s ∧ s ≤ 110) : DG s 1 = (s - 11) % 10 := by unfold DG; rw [if_neg (by omega), if_pos (by omega), if_neg (by omega)]
theorem DG30 {s : Int} (h : 111 ≤ s) : DG s 0 = (s - 111) / 100 := by unfold DG; rw [if_neg (by omega), if_neg (by omega), if_pos rfl]
theorem DG31 {s : Int} (h : 111 ≤ s) : DG s 1 = (s - 111) / 10 % 10 := by unfold DG; rw [if_neg (by omega), if_neg (by omega), if_neg (by omega), if_pos rfl]
theorem DG32 {s : Int} (h : 111 ≤ s) : DG s 2 = (s - 111) % 10 := by unfold DG; rw [if_neg (by omega), if_neg (by omega), if_neg (by omega), if_neg (by omega)]
theorem TB.dg {M : mH} (h : TB M) {s i : Int} (hs : 0 ≤ s ∧ s ≤ 1110) (hi : 0 ≤ i) (hd : i < DN s) : gi M 82 (3 * s + i) = DG s i := by
  have h1 := h.at hs
  rcases DN_of s with ⟨a, b⟩ | ⟨a, a2, b⟩ | ⟨a, a2, b⟩ | ⟨a, b⟩
  · omega
  · have : i = 0 := by omega
    subst this
    rw [Int.add_zero, DG1 a2]; omega
  · have : i = 0 ∨ i = 1 := by omega
    rcases this with rfl | rfl
    · rw [Int.add_zero, DG20 ⟨a, a2⟩]; omega
    · rw [DG21 ⟨a, a2⟩]; omega
  · have : i = 0 ∨ i = 1 ∨ i = 2 := by omega
    rcases this with rfl | rfl | rfl
    · rw [Int.add_zero, DG30 a]; omega
    · rw [DG31 a]; omega
    · rw [DG32 a]; omega
/-- a digit that can be mended -/
noncomputable def mb (u d : Int) : Int := if d < 8 ∧ u ≠ -1 ∧ u ≠ d then 1 else 0
theorem mb_01 (u d : Int) : mb u d = 0 ∨ mb u d = 1 := by
  unfold mb; by_cases h : d < 8 ∧ u ≠ -1 ∧ u ≠ d
  · rw [if_pos h]; exact Or.inr rfl
  · rw [if_neg h]; exact Or.inl rfl
theorem mb_0 {u d : Int} (h : 8 ≤ d ∨ u = -1 ∨ u = d) : mb u d = 0 := by unfold mb; rw [if_neg (by omega)]
theorem mb_1 {u d : Int} (h : d < 8 ∧ u ≠ -1 ∧ u ≠ d) : mb u d = 1 := by unfold mb; rw [if_pos h]
/-- what is still to be done, mendings too -/
noncomputable def mu (o : Int) (U : Int → Int) (s : Int) : Int := if s < 1 then 3 else if s < 11 then 2 + mb (U (sl o 0)) (s - 1) else if s < 111 then 1 + mb (U (sl o 0)) ((s - 11) / 10) + mb (U (sl o 1)) ((s - 11) % 10) else mb (U (sl o 0)) ((s - 111) / 100) + mb (U (sl o 1)) ((s - 111) / 10 % 10) + mb (U (sl o 2)) ((s - 111) % 10)
theorem mu0 {o : Int} {U : Int → Int} {s : Int} (h : s < 1) : mu o U s = 3 := by unfold mu; rw [if_pos h]
theorem mu1 {o : Int} {U : Int → Int} {s : Int} (h : 1 ≤ s ∧ s ≤ 10) : mu o U s = 2 + mb (U (sl o 0)) (s - 1) := by unfold mu; rw [if_neg (by omega), if_pos (by omega)]
theorem mu2 {o : Int} {U : Int → Int} {s : Int} (h : 11 ≤ s ∧ s ≤ 110) : mu o U s = 1 + mb (U (sl o 0)) ((s - 11) / 10) + mb (U (sl o 1)) ((s - 11) % 10) := by unfold mu; rw [if_neg (by omega), if_neg (by omega), if_pos (by omega)]
theorem mu3 {o : Int} {U : Int → Int} {s : Int} (h : 111 ≤ s) : mu o U s = mb (U (sl o 0)) ((s - 111) / 100) + mb (U (sl o 1)) ((s - 111) / 10 % 10) + mb (U (sl o 2)) ((s - 111) % 10) := by unfold mu; rw [if_neg (by omega), if_neg (by omega), if_neg (by omega)]
theorem mu_le (o : Int) (U : Int → Int) (s : Int) : 0 ≤ mu o U s ∧ mu o U s ≤ 3 := by
  rcases DN_of s with ⟨a, b⟩ | ⟨a, a2, b⟩ | ⟨a, a2, b⟩ | ⟨a, b⟩
  · rw [mu0 a]; omega
  · rw [mu1 ⟨a, a2⟩]; have := mb_01 (U (sl o 0)) (s - 1); omega
  · rw [mu2 ⟨a, a2⟩]; have := mb_01 (U (sl o 0)) ((s - 11) / 10); have := mb_01 (U (sl o 1)) ((s - 11) % 10); omega
  · rw [mu3 a]; have := mb_01 (U (sl o 0)) ((s - 111) / 100); have := mb_01 (U (sl o 1)) ((s - 111) / 10 % 10); have := mb_01 (U (sl o 2)) ((s - 111) % 10); omega
theorem mu_add {o : Int} {U : Int → Int} {s d s' : Int} (hs : 0 ≤ s) (hk : DN s < 3) (hd : 0 ≤ d ∧ d ≤ 9) (hb : mb (U (sl o (DN s))) d = 0) (h0 : DN s = 0 → s' = 1 + d) (h1 : DN s = 1 → s' = 11 + 10 * (s - 1) + d) (h2 : DN s = 2 → s' = 111 + 10 * (s - 11) + d) : mu o U s' = mu o U s - 1 := by
  rcases DN_of s with ⟨a, b⟩ | ⟨a, a2, b⟩ | ⟨a, a2, b⟩ | ⟨a, b⟩
  · have e := h0 b
    rw [b] at hb
    rw [mu0 a, mu1 (by omega), show s' - 1 = d by omega, hb]; omega
  · have e := h1 b
    rw [b] at hb
    rw [mu1 ⟨a, a2⟩, mu2 (by omega), show (s' - 11) / 10 = s - 1 by omega, show (s' - 11) % 10 = d by omega, hb]; omega
  · have e := h2 b
    rw [b] at hb
    rw [mu2 ⟨a, a2⟩, mu3 (by omega), show (s' - 111) / 100 = (s - 11) / 10 by omega, show (s' - 111) / 10 % 10 = (s - 11) % 10 by omega, show (s' - 111) % 10 = d by omega, hb]; omega
  · omega
theorem mu_chg {o : Int} {U : Int → Int} {s i s' : Int} (hs : 0 ≤ s ∧ s ≤ 1110) (hi : 0 ≤ i ∧ i < DN s) (hb : mb (U (sl o i)) (DG s i) = 1) (hu : 0 ≤ U (sl o i) ∧ U (sl o i) ≤ 7) (h0 : DN s - 1 - i = 0 → s' = s + (U (sl o i) - DG s i)) (h1 : DN s - 1 - i = 1 → s' = s + 10 * (U (sl o i) - DG s i)) (h2 : DN s - 1 - i ≠ 0 → DN s - 1 - i ≠ 1 → s' = s + 100 * (U (sl o i) - DG s i)) : mu o U s' = mu o U s - 1 := by
  rcases DN_of s with ⟨a, b⟩ | ⟨a, a2, b⟩ | ⟨a, a2, b⟩ | ⟨a, b⟩
  · omega
  · have : i = 0 := by omega
    subst this
    rw [DG1 a2] at hb h0
    have e := h0 (by omega)
    rw [mu1 ⟨a, a2⟩, mu1 (by omega), show s' - 1 = U (sl o 0) by omega, mb_0 (Or.inr (Or.inr rfl)), hb]; omega
  · have : i = 0 ∨ i = 1 := by omega
    rcases this with rfl | rfl
    · rw [DG20 ⟨a, a2⟩] at hb h1
      have e := h1 (by omega)
      rw [mu2 ⟨a, a2⟩, mu2 (by omega), show (s' - 11) / 10 = U (sl o 0) by omega, show (s' - 11) % 10 = (s - 11) % 10 by omega, mb_0 (Or.inr (Or.inr rfl)), hb]; omega
    · rw [DG21 ⟨a, a2⟩] at hb h0
      have e := h0 (by omega)
      rw [mu2 ⟨a, a2⟩, mu2 (by omega), show (s' - 11) / 10 = (s - 11) / 10 by omega, show (s' - 11) % 10 = U (sl o 1) by omega, mb_0 (u := U (sl o 1)) (Or.inr (Or.inr rfl)), hb]; omega
  · have : i = 0 ∨ i = 1 ∨ i = 2 := by omega
    rcases this with rfl | rfl | rfl
    · rw [DG30 a] at hb h2
      have e := h2 (by omega) (by omega)
      rw [mu3 a, mu3 (by omega), show (s' - 111) / 100 = U (sl o 0) by omega, show (s' - 111) / 10 % 10 = (s - 111) / 10 % 10 by omega, show (s' - 111) % 10 = (s - 111) % 10 by omega, mb_0 (u := U (sl o 0)) (Or.inr (Or.inr rfl)), hb]; omega
    · rw [DG31 a] at hb h1
      have e := h1 (by omega)
      rw [mu3 a, mu3 (by omega), show (s' - 111) / 100 = (s - 111) / 100 by omega, show (s' - 111) / 10 % 10 = U (sl o 1) by omega, show (s' - 111) % 10 = (s - 111) % 10 by omega, mb_0 (u := U (sl o 1)) (Or.inr (Or.inr rfl)), hb]; omega
    · rw [DG32 a] at hb h0
      have e := h0 (by omega)
      rw [mu3 a, mu3 (by omega), show (s' - 111) / 100 = (s - 111) / 100 by omega, show (s' - 111) / 10 % 10 = (s - 111) / 10 % 10 by omega, show (s' - 111) % 10 = U (sl o 2) by omega, mb_0 (u := U (sl o 2)) (Or.inr (Or.inr rfl)), hb]; omega
theorem chg_rng {s i u s' : Int} (hs : 0 ≤ s ∧ s ≤ 1110) (hi : 0 ≤ i ∧ i < DN s) (hu : 0 ≤ u ∧ u ≤ 7) (h0 : DN s - 1 - i = 0 → s' = s + (u - DG s i)) (h1 : DN s - 1 - i = 1 → s' = s + 10 * (u - DG s i)) (h2 : DN s - 1 - i ≠ 0 → DN s - 1 - i ≠ 1 → s' = s + 100 * (u - DG s i)) : 0 ≤ s' ∧ s' ≤ 1110 := by
  rcases DN_of s with ⟨a, b⟩ | ⟨a, a2, b⟩ | ⟨a, a2, b⟩ | ⟨a, b⟩
  · omega
  · have : i = 0 := by omega
    subst this
    rw [DG1 a2] at h0
    have e := h0 (by omega)
    omega
  · have : i = 0 ∨ i = 1 := by omega
    rcases this with rfl | rfl
    · rw [DG20 ⟨a, a2⟩] at h1
      have e := h1 (by omega)
      omega
    · rw [DG21 ⟨a, a2⟩] at h0
      have e := h0 (by omega)
      omega
  · have : i = 0 ∨ i = 1 ∨ i = 2 := by omega
    rcases this with rfl | rfl | rfl
    · rw [DG30 a] at h2
      have e := h2 (by omega) (by omega)
      omega
    · rw [DG31 a] at h1
      have e := h1 (by omega)
      omega
    · rw [DG32 a] at h0
      have e := h0 (by omega)
      omega
/-- a slot can be mended -/
noncomputable def CM (o : Int) (U : Int → Int) (s slot : Int) : Prop := ∃ i : Int, 0 ≤ i ∧ i ≤ 2 ∧ sl o i = slot ∧ i < DN s ∧ DG s i < 8 ∧ U slot ≠ -1 ∧ U slot ≠ DG s i
/-- a move can be made -/
noncomputable def LG (o ov : Int) (U A O : Int → Int) (s m : Int) : Prop :=
  if m = 0 then ov = 0 else if m = 4 then ov = 1 ∧ DN s = 3 else if 20 ≤ m then CM o U s (m - 20) else if DN s = 3 then False else if m = 3 then True else if m = 1 then ¬ U (sl o (DN s)) = -1 else if ¬ U (sl o (DN s)) = -1 then False else if m = 2 then ¬ O (sl o (DN s)) = -1 else ¬ srI (A (sl o (DN s))) (m - 10) % 2 = 0
section
variable {o ov : Int} {U A O : Int → Int} {s m : Int}
theorem LG_0 (h : m = 0) : LG o ov U A O s m ↔ ov = 0 := by unfold LG; rw [if_pos h]
theorem LG_4 (h : m = 4) : LG o ov U A O s m ↔ ov = 1 ∧ DN s = 3 := by unfold LG; rw [if_neg (by omega), if_pos h]
theorem LG_m (h : 20 ≤ m) : LG o ov U A O s m ↔ CM o U s (m - 20) := by unfold LG; rw [if_neg (by omega), if_neg (by omega), if_pos h]
theorem LG_n (h : DN s = 3) (h0 : m ≠ 0) (h4 : m ≠ 4) (hm : m < 20) : ¬ LG o ov U A O s m := by unfold LG; rw [if_neg h0, if_neg h4, if_neg (by omega), if_pos h]; exact id
theorem LG_3 (h : ¬ DN s = 3) (hm : m = 3) : LG o ov U A O s m := by unfold LG; rw [if_neg (by omega), if_neg (by omega), if_neg (by omega), if_neg h, if_pos hm]; trivial
theorem LG_1 (h : ¬ DN s = 3) (hm : m = 1) : LG o ov U A O s m ↔ ¬ U (sl o (DN s)) = -1 := by unfold LG; rw [if_neg (by omega), if_neg (by omega), if_neg (by omega), if_neg h, if_neg (by omega), if_pos hm]
theorem LG_s (h : ¬ DN s = 3) (h0 : m ≠ 0) (h4 : m ≠ 4) (hm : m < 20) (h3 : m ≠ 3) (h1 : m ≠ 1) (hu : ¬ U (sl o (DN s)) = -1) : ¬ LG o ov U A O s m := by unfold LG; rw [if_neg h0, if_neg h4, if_neg (by omega), if_neg h, if_neg h3, if_neg h1, if_pos hu]; exact id
theorem LG_2 (h : ¬ DN s = 3) (hm : m = 2) (hu : ¬ ¬ U (sl o (DN s)) = -1) : LG o ov U A O s m ↔ ¬ O (sl o (DN s)) = -1 := by unfold LG; rw [if_neg (by omega), if_neg (by omega), if_neg (by omega), if_neg h, if_neg (by omega), if_neg (by omega), if_neg hu, if_pos hm]
theorem LG_g (h : ¬ DN s = 3) (h0 : m ≠ 0) (h4 : m ≠ 4) (hm : m < 20) (h3 : m ≠ 3) (h1 : m ≠ 1) (h2 : m ≠ 2) (hu : ¬ ¬ U (sl o (DN s)) = -1) : LG o ov U A O s m ↔ ¬ srI (A (sl o (DN s))) (m - 10) % 2 = 0 := by unfold LG; rw [if_neg h0, if_neg h4, if_neg (by omega), if_neg h, if_neg h3, if_neg h1, if_neg hu, if_neg h2]
end

set_option maxRecDepth 4000 in
theorem k182f {base : Nat} {X : Nat → Option mC} {G : Nat → Value} (E : EnvOK base X G) {d : Nat} (hd : 0 ≤ d) {M : mH} (H : HI base M) (i : Int) (o : Int) (h0 : gi M 78 473 = o) (h1 : 0 ≤ i ∧ i ≤ 2) : sOk base X G d T182 [vR 77, vI i] M (pI (fun v M' => M' = M ∧ (0 ≤ v ∧ v ≤ 2) ∧ v = sl o i)) := by
  refine sOk.of (show sRn base X G d T182 0 [(0, vR 77), (1, vI i)] [] M _ from ?_)
  refine s_blx (lv' := [(0, vR 77), (1, vI i)]) (st' := [vR 77]) B182_0_1 rfl ?_
  refine r_gfix (r := 78) (pc' := 4) D182_1 rfl gf_11_13_77 H.1 ?_
  refine s_blx (lv' := [(0, vR 77), (1, vI i)]) (st' := [vI 473, vR 78]) B182_4_7 rfl ?_
  refine r_iald (pc' := 8) D182_7 rfl sc_78 H.1 (by omega) ?_
  intro w1 e2 r3
  have b_w1 := H.2 78 (473) 0 5 (rk_order (by omega))
  rw [← e2] at b_w1; clear r3
  refine s_blx (lv' := [(0, vR 77), (1, vI i)]) (st' := [vI 2, vI w1]) B182_8_9 rfl ?_
  refine r_idiv (pc' := 10) D182_9 rfl (by omega) ?_
  refine s_blx (lv' := [(2, vI (w1 / 2)), (0, vR 77), (1, vI i)]) (st' := [vI (w1 / 2)]) B182_10_12 rfl ?_
  refine r_ifc (tgt := 19) (pc' := 15) D182_12 rfl rfl (by unfold inR; omega) (fun (c4 : (w1 / 2) ≠ 0) => ?_) (fun (c4 : ¬ ((w1 / 2) ≠ 0)) => ?_)
  · refine s_blx (lv' := [(3, vI 0), (2, vI (w1 / 2)), (0, vR 77), (1, vI i)]) (st' := [vI 2, vI (w1 / 2)]) B182_19_23 rfl ?_
    refine r_icmp (tgt := 30) (pc' := 26) D182_23 rfl rfl (by unfold inR; omega) (fun (c5 : (w1 / 2) ≠ 2) => ?_) (fun (c5 : ¬ ((w1 / 2) ≠ 2)) => ?_)
    · refine s_blx (lv' := [(4, vI 2), (3, vI 0), (2, vI (w1 / 2)), (0, vR 77), (1, vI i)]) (st' := [vR 77]) B182_30_34 rfl ?_
      refine r_gfix (r := 78) (pc' := 37) D182_34 rfl gf_11_13_77 H.1 ?_
      refine s_blx (lv' := [(4, vI 2), (3, vI 0), (2, vI (w1 / 2)), (0, vR 77), (1, vI i)]) (st' := [vI 473, vR 78]) B182_37_40 rfl ?_
      refine r_iald (pc' := 41) D182_40 rfl sc_78 H.1 (by omega) ?_
      intro w6 e7 r8
      have e9 : w1 = w6 := (e7.trans (e2.symm)).symm
      subst e9
      refine s_blx (lv' := [(4, vI 2), (3, vI 0), (2, vI (w1 / 2)), (0, vR 77), (1, vI i)]) (st' := [vI 2, vI w1]) B182_41_42 rfl ?_
      refine r_irem (pc' := 43) D182_42 rfl (by omega) ?_
      refine r_ifc (tgt := 50) (pc' := 46) D182_43 rfl rfl (by unfold inR; omega) (fun (c10 : (w1 % 2) ≠ 0) => ?_) (fun (c10 : ¬ ((w1 % 2) ≠ 0)) => ?_)
      · refine s_blx (lv' := [(5, vI 0), (4, vI 2), (3, vI 0), (2, vI (w1 / 2)), (0, vR 77), (1, vI i)]) (st' := [vI i]) B182_50_54 rfl ?_
        refine r_ifc (tgt := 61) (pc' := 57) D182_54 rfl rfl (by unfold inR; omega) (fun (c11 : i ≠ 0) => ?_) (fun (c11 : ¬ (i ≠ 0)) => ?_)
        · refine s_blx (lv' := [(5, vI 0), (4, vI 2), (3, vI 0), (2, vI (w1 / 2)), (0, vR 77), (1, vI i)]) (st' := [vI 1, vI i]) B182_61_63 rfl ?_
          refine r_icmp (tgt := 70) (pc' := 66) D182_63 rfl rfl (by unfold inR; omega) (fun (c12 : i ≠ 1) => ?_) (fun (c12 : ¬ (i ≠ 1)) => ?_)
          · refine s_blx (lv' := [(5, vI 0), (4, vI 2), (3, vI 0), (2, vI (w1 / 2)), (0, vR 77), (1, vI i)]) (st' := [vI 0, vI 0]) B182_70_73 rfl ?_
            refine r_icmp (tgt := 80) (pc' := 76) D182_73 rfl rfl (by unfold inR; omega) (fun (c13 : 0 ≠ 0) => ?_) (fun (c13 : ¬ (0 ≠ 0)) => ?_)
            · exfalso; omega
            · refine s_blx (lv' := [(5, vI 0), (4, vI 2), (3, vI 0), (2, vI (w1 / 2)), (0, vR 77), (1, vI i)]) (st' := [vI 0]) B182_76_77 rfl ?_
              refine r_goto (tgt := 82) D182_77 rfl ?_
              exact r_iretI D182_82 rfl (⟨rfl, by omega, by rw [← h0]; exact sl_abc (by have q := H.2 78 473 0 5 (rk_order (by omega)); omega) (by omega) (by subst_vars; omega) (by subst_vars; omega) (by subst_vars; omega) (by subst_vars; omega) (by subst_vars; omega)⟩)
          · refine s_blx (lv' := [(5, vI 0), (4, vI 2), (3, vI 0), (2, vI (w1 / 2)), (0, vR 77), (1, vI i)]) (st' := [vI 1]) B182_66_67 rfl ?_
            refine r_goto (tgt := 71) D182_67 rfl ?_
            refine s_blx (lv' := [(5, vI 0), (4, vI 2), (3, vI 0), (2, vI (w1 / 2)), (0, vR 77), (1, vI i)]) (st' := [vI 0, vI 1]) B182_71_73 rfl ?_
            refine r_icmp (tgt := 80) (pc' := 76) D182_73 rfl rfl (by unfold inR; omega) (fun (c14 : 1 ≠ 0) => ?_) (fun (c14 : ¬ (1 ≠ 0)) => ?_)
            · refine s_blx (lv' := [(5, vI 0), (4, vI 2), (3, vI 0), (2, vI (w1 / 2)), (0, vR 77), (1, vI i)]) (st' := [vI 2]) B182_80_82 rfl ?_
              exact r_iretI D182_82 rfl (⟨rfl, by omega, by rw [← h0]; exact sl_abc (by have q := H.2 78 473 0 5 (rk_order (by omega)); omega) (by omega) (by subst_vars; omega) (by subst_vars; omega) (by subst_vars; omega) (by subst_vars; omega) (by subst_vars; omega)⟩)
            · exfalso; omega
        · refine s_blx (lv' := [(5, vI 0), (4, vI 2), (3, vI 0), (2, vI (w1 / 2)), (0, vR 77), (1, vI i)]) (st' := [vI (w1 / 2)]) B182_57_58 rfl ?_
          refine r_goto (tgt := 82) D182_58 rfl ?_
          exact r_iretI D182_82 rfl (⟨rfl, by omega, by rw [← h0]; exact sl_abc (by have q := H.2 78 473 0 5 (rk_order (by omega)); omega) (by omega) (by subst_vars; omega) (by subst_vars; omega) (by subst_vars; omega) (by subst_vars; omega) (by subst_vars; omega)⟩)
      · refine s_blx (lv' := [(4, vI 2), (3, vI 0), (2, vI (w1 / 2)), (0, vR 77), (1, vI i)]) (st' := [vI 1]) B182_46_47 rfl ?_
        refine r_goto (tgt := 51) D182_47 rfl ?_
        refine s_blx (lv' := [(5, vI 1), (4, vI 2), (3, vI 0), (2, vI (w1 / 2)), (0, vR 77), (1, vI i)]) (st' := [vI i]) B182_51_54 rfl ?_
        refine r_ifc (tgt := 61) (pc' := 57) D182_54 rfl rfl (by unfold inR; omega) (fun (c15 : i ≠ 0) => ?_) (fun (c15 : ¬ (i ≠ 0)) => ?_)
        · refine s_blx (lv' := [(5, vI 1), (4, vI 2), (3, vI 0), (2, vI (w1 / 2)), (0, vR 77), (1, vI i)]) (st' := [vI 1, vI i]) B182_61_63 rfl ?_
          refine r_icmp (tgt := 70) (pc' := 66) D182_63 rfl rfl (by unfold inR; omega) (fun (c16 : i ≠ 1) => ?_) (fun (c16 : ¬ (i ≠ 1)) => ?_)
          · refine s_blx (lv' := [(5, vI 1), (4, vI 2), (3, vI 0), (2, vI (w1 / 2)), (0, vR 77), (1, vI i)]) (st' := [vI 1, vI 0]) B182_70_73 rfl ?_
            refine r_icmp (tgt := 80) (pc' := 76) D182_73 rfl rfl (by unfold inR; omega) (fun (c17 : 0 ≠ 1) => ?_) (fun (c17 : ¬ (0 ≠ 1)) => ?_)
            · refine s_blx (lv' := [(5, vI 1), (4, vI 2), (3, vI 0), (2, vI (w1 / 2)), (0, vR 77), (1, vI i)]) (st' := [vI 2]) B182_80_82 rfl ?_
              exact r_iretI D182_82 rfl (⟨rfl, by omega, by rw [← h0]; exact sl_abc (by have q := H.2 78 473 0 5 (rk_order (by omega)); omega) (by omega) (by subst_vars; omega) (by subst_vars; omega) (by subst_vars; omega) (by subst_vars; omega) (by subst_vars; omega)⟩)
            · exfalso; omega
          · refine s_blx (lv' := [(5, vI 1), (4, vI 2), (3, vI 0), (2, vI (w1 / 2)), (0, vR 77), (1, vI i)]) (st' := [vI 1]) B182_66_67 rfl ?_
            refine r_goto (tgt := 71) D182_67 rfl ?_
            refine s_blx (lv' := [(5, vI 1), (4, vI 2), (3, vI 0), (2, vI (w1 / 2)), (0, vR 77), (1, vI i)]) (st' := [vI 1, vI 1]) B182_71_73 rfl ?_
            refine r_icmp (tgt := 80) (pc' := 76) D182_73 rfl rfl (by unfold inR; omega) (fun (c18 : 1 ≠ 1) => ?_) (fun (c18 : ¬ (1 ≠ 1)) => ?_)
            · exfalso; omega
            · refine s_blx (lv' := [(5, vI 1), (4, vI 2), (3, vI 0), (2, vI (w1 / 2)), (0, vR 77), (1, vI i)]) (st' := [vI 0]) B182_76_77 rfl ?_
              refine r_goto (tgt := 82) D182_77 rfl ?_
              exact r_iretI D182_82 rfl (⟨rfl, by omega, by rw [← h0]; exact sl_abc (by have q := H.2 78 473 0 5 (rk_order (by omega)); omega) (by omega) (by subst_vars; omega) (by subst_vars; omega) (by subst_vars; omega) (by subst_vars; omega) (by subst_vars; omega)⟩)
        · refine s_blx (lv' := [(5, vI 1), (4, vI 2), (3, vI 0), (2, vI (w1 / 2)), (0, vR 77), (1, vI i)]) (st' := [vI (w1 / 2)]) B182_57_58 rfl ?_
          refine r_goto (tgt := 82) D182_58 rfl ?_
          exact r_iretI D182_82 rfl (⟨rfl, by omega, by rw [← h0]; exact sl_abc (by have q := H.2 78 473 0 5 (rk_order (by omega)); omega) (by omega) (by subst_vars; omega) (by subst_vars; omega) (by subst_vars; omega) (by subst_vars; omega) (by subst_vars; omega)⟩)
    · refine s_blx (lv' := [(3, vI 0), (2, vI (w1 / 2)), (0, vR 77), (1, vI i)]) (st' := [vI 1]) B182_26_27 rfl ?_
      refine r_goto (tgt := 31) D182_27 rfl ?_
      refine s_blx (lv' := [(4, vI 1), (3, vI 0), (2, vI (w1 / 2)), (0, vR 77), (1, vI i)]) (st' := [vR 77]) B182_31_34 rfl ?_
      refine r_gfix (r := 78) (pc' := 37) D182_34 rfl gf_11_13_77 H.1 ?_
      refine s_blx (lv' := [(4, vI 1), (3, vI 0), (2, vI (w1 / 2)), (0, vR 77), (1, vI i)]) (st' := [vI 473, vR 78]) B182_37_40 rfl ?_
      refine r_iald (pc' := 41) D182_40 rfl sc_78 H.1 (by omega) ?_
      intro w19 e20 r21
      have e22 : w1 = w19 := (e20.trans (e2.symm)).symm
      subst e22
      refine s_blx (lv' := [(4, vI 1), (3, vI 0), (2, vI (w1 / 2)), (0, vR 77), (1, vI i)]) (st' := [vI 2, vI w1]) B182_41_42 rfl ?_
      refine r_irem (pc' := 43) D182_42 rfl (by omega) ?_
      refine r_ifc (tgt := 50) (pc' := 46) D182_43 rfl rfl (by unfold inR; omega) (fun (c23 : (w1 % 2) ≠ 0) => ?_) (fun (c23 : ¬ ((w1 % 2) ≠ 0)) => ?_)
      · refine s_blx (lv' := [(5, vI 0), (4, vI 1), (3, vI 0), (2, vI (w1 / 2)), (0, vR 77), (1, vI i)]) (st' := [vI i]) B182_50_54 rfl ?_
        refine r_ifc (tgt := 61) (pc' := 57) D182_54 rfl rfl (by unfold inR; omega) (fun (c24 : i ≠ 0) => ?_) (fun (c24 : ¬ (i ≠ 0)) => ?_)
        · refine s_blx (lv' := [(5, vI 0), (4, vI 1), (3, vI 0), (2, vI (w1 / 2)), (0, vR 77), (1, vI i)]) (st' := [vI 1, vI i]) B182_61_63 rfl ?_
          refine r_icmp (tgt := 70) (pc' := 66) D182_63 rfl rfl (by unfold inR; omega) (fun (c25 : i ≠ 1) => ?_) (fun (c25 : ¬ (i ≠ 1)) => ?_)
          · refine s_blx (lv' := [(5, vI 0), (4, vI 1), (3, vI 0), (2, vI (w1 / 2)), (0, vR 77), (1, vI i)]) (st' := [vI 0, vI 0]) B182_70_73 rfl ?_
            refine r_icmp (tgt := 80) (pc' := 76) D182_73 rfl rfl (by unfold inR; omega) (fun (c26 : 0 ≠ 0) => ?_) (fun (c26 : ¬ (0 ≠ 0)) => ?_)
            · exfalso; omega
            · refine s_blx (lv' := [(5, vI 0), (4, vI 1), (3, vI 0), (2, vI (w1 / 2)), (0, vR 77), (1, vI i)]) (st' := [vI 0]) B182_76_77 rfl ?_
              refine r_goto (tgt := 82) D182_77 rfl ?_
              exact r_iretI D182_82 rfl (⟨rfl, by omega, by rw [← h0]; exact sl_abc (by have q := H.2 78 473 0 5 (rk_order (by omega)); omega) (by omega) (by subst_vars; omega) (by subst_vars; omega) (by subst_vars; omega) (by subst_vars; omega) (by subst_vars; omega)⟩)
          · refine s_blx (lv' := [(5, vI 0), (4, vI 1), (3, vI 0), (2, vI (w1 / 2)), (0, vR 77), (1, vI i)]) (st' := [vI 1]) B182_66_67 rfl ?_
            refine r_goto (tgt := 71) D182_67 rfl ?_
            refine s_blx (lv' := [(5, vI 0), (4, vI 1), (3, vI 0), (2, vI (w1 / 2)), (0, vR 77), (1, vI i)]) (st' := [vI 0, vI 1]) B182_71_73 rfl ?_
            refine r_icmp (tgt := 80) (pc' := 76) D182_73 rfl rfl (by unfold inR; omega) (fun (c27 : 1 ≠ 0) => ?_) (fun (c27 : ¬ (1 ≠ 0)) => ?_)
            · refine s_blx (lv' := [(5, vI 0), (4, vI 1), (3, vI 0), (2, vI (w1 / 2)), (0, vR 77), (1, vI i)]) (st' := [vI 1]) B182_80_82 rfl ?_
              exact r_iretI D182_82 rfl (⟨rfl, by omega, by rw [← h0]; exact sl_abc (by have q := H.2 78 473 0 5 (rk_order (by omega)); omega) (by omega) (by subst_vars; omega) (by subst_vars; omega) (by subst_vars; omega) (by subst_vars; omega) (by subst_vars; omega)⟩)
            · exfalso; omega
        · refine s_blx (lv' := [(5, vI 0), (4, vI 1), (3, vI 0), (2, vI (w1 / 2)), (0, vR 77), (1, vI i)]) (st' := [vI (w1 / 2)]) B182_57_58 rfl ?_
          refine r_goto (tgt := 82) D182_58 rfl ?_
          exact r_iretI D182_82 rfl (⟨rfl, by omega, by rw [← h0]; exact sl_abc (by have q := H.2 78 473 0 5 (rk_order (by omega)); omega) (by omega) (by subst_vars; omega) (by subst_vars; omega) (by subst_vars; omega) (by subst_vars; omega) (by subst_vars; omega)⟩)
      · refine s_blx (lv' := [(4, vI 1), (3, vI 0), (2, vI (w1 / 2)), (0, vR 77), (1, vI i)]) (st' := [vI 1]) B182_46_47 rfl ?_
        refine r_goto (tgt := 51) D182_47 rfl ?_
        refine s_blx (lv' := [(5, vI 1), (4, vI 1), (3, vI 0), (2, vI (w1 / 2)), (0, vR 77), (1, vI i)]) (st' := [vI i]) B182_51_54 rfl ?_
        refine r_ifc (tgt := 61) (pc' := 57) D182_54 rfl rfl (by unfold inR; omega) (fun (c28 : i ≠ 0) => ?_) (fun (c28 : ¬ (i ≠ 0)) => ?_)
        · refine s_blx (lv' := [(5, vI 1), (4, vI 1), (3, vI 0), (2, vI (w1 / 2)), (0, vR 77), (1, vI i)]) (st' := [vI 1, vI i]) B182_61_63 rfl ?_
          refine r_icmp (tgt := 70) (pc' := 66) D182_63 rfl rfl (by unfold inR; omega) (fun (c29 : i ≠ 1) => ?_) (fun (c29 : ¬ (i ≠ 1)) => ?_)
          · refine s_blx (lv' := [(5, vI 1), (4, vI 1), (3, vI 0), (2, vI (w1 / 2)), (0, vR 77), (1, vI i)]) (st' := [vI 1, vI 0]) B182_70_73 rfl ?_
            refine r_icmp (tgt := 80) (pc' := 76) D182_73 rfl rfl (by unfold inR; omega) (fun (c30 : 0 ≠ 1) => ?_) (fun (c30 : ¬ (0 ≠ 1)) => ?_)
            · refine s_blx (lv' := [(5, vI 1), (4, vI 1), (3, vI 0), (2, vI (w1 / 2)), (0, vR 77), (1, vI i)]) (st' := [vI 1]) B182_80_82 rfl ?_
              exact r_iretI D182_82 rfl (⟨rfl, by omega, by rw [← h0]; exact sl_abc (by have q := H.2 78 473 0 5 (rk_order (by omega)); omega) (by omega) (by subst_vars; omega) (by subst_vars; omega) (by subst_vars; omega) (by subst_vars; omega) (by subst_vars; omega)⟩)
            · exfalso; omega
          · refine s_blx (lv' := [(5, vI 1), (4, vI 1), (3, vI 0), (2, vI (w1 / 2)), (0, vR 77), (1, vI i)]) (st' := [vI 1]) B182_66_67 rfl ?_
            refine r_goto (tgt := 71) D182_67 rfl ?_
            refine s_blx (lv' := [(5, vI 1), (4, vI 1), (3, vI 0), (2, vI (w1 / 2)), (0, vR 77), (1, vI i)]) (st' := [vI 1, vI 1]) B182_71_73 rfl ?_
            refine r_icmp (tgt := 80) (pc' := 76) D182_73 rfl rfl (by unfold inR; omega) (fun (c31 : 1 ≠ 1) => ?_) (fun (c31 : ¬ (1 ≠ 1)) => ?_)
            · exfalso; omega
            · refine s_blx (lv' := [(5, vI 1), (4, vI 1), (3, vI 0), (2, vI (w1 / 2)), (0, vR 77), (1, vI i)]) (st' := [vI 0]) B182_76_77 rfl ?_
              refine r_goto (tgt := 82) D182_77 rfl ?_
              exact r_iretI D182_82 rfl (⟨rfl, by omega, by rw [← h0]; exact sl_abc (by have q := H.2 78 473 0 5 (rk_order (by omega)); omega) (by omega) (by subst_vars; omega) (by subst_vars; omega) (by subst_vars; omega) (by subst_vars; omega) (by subst_vars; omega)⟩)
        · refine s_blx (lv' := [(5, vI 1), (4, vI 1), (3, vI 0), (2, vI (w1 / 2)), (0, vR 77), (1, vI i)]) (st' := [vI (w1 / 2)]) B182_57_58 rfl ?_
          refine r_goto (tgt := 82) D182_58 rfl ?_
          exact r_iretI D182_82 rfl (⟨rfl, by omega, by rw [← h0]; exact sl_abc (by have q := H.2 78 473 0 5 (rk_order (by omega)); omega) (by omega) (by subst_vars; omega) (by subst_vars; omega) (by subst_vars; omega) (by subst_vars; omega) (by subst_vars; omega)⟩)
  · refine s_blx (lv' := [(2, vI (w1 / 2)), (0, vR 77), (1, vI i)]) (st' := [vI 1]) B182_15_16 rfl ?_
    refine r_goto (tgt := 20) D182_16 rfl ?_
    refine s_blx (lv' := [(3, vI 1), (2, vI (w1 / 2)), (0, vR 77), (1, vI i)]) (st' := [vI 2, vI (w1 / 2)]) B182_20_23 rfl ?_
    refine r_icmp (tgt := 30) (pc' := 26) D182_23 rfl rfl (by unfold inR; omega) (fun (c32 : (w1 / 2) ≠ 2) => ?_) (fun (c32 : ¬ ((w1 / 2) ≠ 2)) => ?_)
    · refine s_blx (lv' := [(4, vI 2), (3, vI 1), (2, vI (w1 / 2)), (0, vR 77), (1, vI i)]) (st' := [vR 77]) B182_30_34 rfl ?_
      refine r_gfix (r := 78) (pc' := 37) D182_34 rfl gf_11_13_77 H.1 ?_
      refine s_blx (lv' := [(4, vI 2), (3, vI 1), (2, vI (w1 / 2)), (0, vR 77), (1, vI i)]) (st' := [vI 473, vR 78]) B182_37_40 rfl ?_
      refine r_iald (pc' := 41) D182_40 rfl sc_78 H.1 (by omega) ?_
      intro w33 e34 r35
      have e36 : w1 = w33 := (e34.trans (e2.symm)).symm
      subst e36
      refine s_blx (lv' := [(4, vI 2), (3, vI 1), (2, vI (w1 / 2)), (0, vR 77), (1, vI i)]) (st' := [vI 2, vI w1]) B182_41_42 rfl ?_
      refine r_irem (pc' := 43) D182_42 rfl (by omega) ?_
      refine r_ifc (tgt := 50) (pc' := 46) D182_43 rfl rfl (by unfold inR; omega) (fun (c37 : (w1 % 2) ≠ 0) => ?_) (fun (c37 : ¬ ((w1 % 2) ≠ 0)) => ?_)
      · refine s_blx (lv' := [(5, vI 0), (4, vI 2), (3, vI 1), (2, vI (w1 / 2)), (0, vR 77), (1, vI i)]) (st' := [vI i]) B182_50_54 rfl ?_
        refine r_ifc (tgt := 61) (pc' := 57) D182_54 rfl rfl (by unfold inR; omega) (fun (c38 : i ≠ 0) => ?_) (fun (c38 : ¬ (i ≠ 0)) => ?_)
        · refine s_blx (lv' := [(5, vI 0), (4, vI 2), (3, vI 1), (2, vI (w1 / 2)), (0, vR 77), (1, vI i)]) (st' := [vI 1, vI i]) B182_61_63 rfl ?_
          refine r_icmp (tgt := 70) (pc' := 66) D182_63 rfl rfl (by unfold inR; omega) (fun (c39 : i ≠ 1) => ?_) (fun (c39 : ¬ (i ≠ 1)) => ?_)
          · refine s_blx (lv' := [(5, vI 0), (4, vI 2), (3, vI 1), (2, vI (w1 / 2)), (0, vR 77), (1, vI i)]) (st' := [vI 0, vI 0]) B182_70_73 rfl ?_
            refine r_icmp (tgt := 80) (pc' := 76) D182_73 rfl rfl (by unfold inR; omega) (fun (c40 : 0 ≠ 0) => ?_) (fun (c40 : ¬ (0 ≠ 0)) => ?_)
            · exfalso; omega
            · refine s_blx (lv' := [(5, vI 0), (4, vI 2), (3, vI 1), (2, vI (w1 / 2)), (0, vR 77), (1, vI i)]) (st' := [vI 1]) B182_76_77 rfl ?_
              refine r_goto (tgt := 82) D182_77 rfl ?_
              exact r_iretI D182_82 rfl (⟨rfl, by omega, by rw [← h0]; exact sl_abc (by have q := H.2 78 473 0 5 (rk_order (by omega)); omega) (by omega) (by subst_vars; omega) (by subst_vars; omega) (by subst_vars; omega) (by subst_vars; omega) (by subst_vars; omega)⟩)
          · refine s_blx (lv' := [(5, vI 0), (4, vI 2), (3, vI 1), (2, vI (w1 / 2)), (0, vR 77), (1, vI i)]) (st' := [vI 1]) B182_66_67 rfl ?_
            refine r_goto (tgt := 71) D182_67 rfl ?_
            refine s_blx (lv' := [(5, vI 0), (4, vI 2), (3, vI 1), (2, vI (w1 / 2)), (0, vR 77), (1, vI i)]) (st' := [vI 0, vI 1]) B182_71_73 rfl ?_
            refine r_icmp (tgt := 80) (pc' := 76) D182_73 rfl rfl (by unfold inR; omega) (fun (c41 : 1 ≠ 0) => ?_) (fun (c41 : ¬ (1 ≠ 0)) => ?_)
            · refine s_blx (lv' := [(5, vI 0), (4, vI 2), (3, vI 1), (2, vI (w1 / 2)), (0, vR 77), (1, vI i)]) (st' := [vI 2]) B182_80_82 rfl ?_
              exact r_iretI D182_82 rfl (⟨rfl, by omega, by rw [← h0]; exact sl_abc (by have q := H.2 78 473 0 5 (rk_order (by omega)); omega) (by omega) (by subst_vars; omega) (by subst_vars; omega) (by subst_vars; omega) (by subst_vars; omega) (by subst_vars; omega)⟩)
            · exfalso; omega
        · refine s_blx (lv' := [(5, vI 0), (4, vI 2), (3, vI 1), (2, vI (w1 / 2)), (0, vR 77), (1, vI i)]) (st' := [vI (w1 / 2)]) B182_57_58 rfl ?_
          refine r_goto (tgt := 82) D182_58 rfl ?_
          exact r_iretI D182_82 rfl (⟨rfl, by omega, by rw [← h0]; exact sl_abc (by have q := H.2 78 473 0 5 (rk_order (by omega)); omega) (by omega) (by subst_vars; omega) (by subst_vars; omega) (by subst_vars; omega) (by subst_vars; omega) (by subst_vars; omega)⟩)
      · refine s_blx (lv' := [(4, vI 2), (3, vI 1), (2, vI (w1 / 2)), (0, vR 77), (1, vI i)]) (st' := [vI 1]) B182_46_47 rfl ?_
        refine r_goto (tgt := 51) D182_47 rfl ?_
        refine s_blx (lv' := [(5, vI 1), (4, vI 2), (3, vI 1), (2, vI (w1 / 2)), (0, vR 77), (1, vI i)]) (st' := [vI i]) B182_51_54 rfl ?_
        refine r_ifc (tgt := 61) (pc' := 57) D182_54 rfl rfl (by unfold inR; omega) (fun (c42 : i ≠ 0) => ?_) (fun (c42 : ¬ (i ≠ 0)) => ?_)
        · refine s_blx (lv' := [(5, vI 1), (4, vI 2), (3, vI 1), (2, vI (w1 / 2)), (0, vR 77), (1, vI i)]) (st' := [vI 1, vI i]) B182_61_63 rfl ?_
          refine r_icmp (tgt := 70) (pc' := 66) D182_63 rfl rfl (by unfold inR; omega) (fun (c43 : i ≠ 1) => ?_) (fun (c43 : ¬ (i ≠ 1)) => ?_)
          · refine s_blx (lv' := [(5, vI 1), (4, vI 2), (3, vI 1), (2, vI (w1 / 2)), (0, vR 77), (1, vI i)]) (st' := [vI 1, vI 0]) B182_70_73 rfl ?_
            refine r_icmp (tgt := 80) (pc' := 76) D182_73 rfl rfl (by unfold inR; omega) (fun (c44 : 0 ≠ 1) => ?_) (fun (c44 : ¬ (0 ≠ 1)) => ?_)
            · refine s_blx (lv' := [(5, vI 1), (4, vI 2), (3, vI 1), (2, vI (w1 / 2)), (0, vR 77), (1, vI i)]) (st' := [vI 2]) B182_80_82 rfl ?_
              exact r_iretI D182_82 rfl (⟨rfl, by omega, by rw [← h0]; exact sl_abc (by have q := H.2 78 473 0 5 (rk_order (by omega)); omega) (by omega) (by subst_vars; omega) (by subst_vars; omega) (by subst_vars; omega) (by subst_vars; omega) (by subst_vars; omega)⟩)
            · exfalso; omega
          · refine s_blx (lv' := [(5, vI 1), (4, vI 2), (3, vI 1), (2, vI (w1 / 2)), (0, vR 77), (1, vI i)]) (st' := [vI 1]) B182_66_67 rfl ?_
            refine r_goto (tgt := 71) D182_67 rfl ?_
            refine s_blx (lv' := [(5, vI 1), (4, vI 2), (3, vI 1), (2, vI (w1 / 2)), (0, vR 77), (1, vI i)]) (st' := [vI 1, vI 1]) B182_71_73 rfl ?_
            refine r_icmp (tgt := 80) (pc' := 76) D182_73 rfl rfl (by unfold inR; omega) (fun (c45 : 1 ≠ 1) => ?_) (fun (c45 : ¬ (1 ≠ 1)) => ?_)
            · exfalso; omega
            · refine s_blx (lv' := [(5, vI 1), (4, vI 2), (3, vI 1), (2, vI (w1 / 2)), (0, vR 77), (1, vI i)]) (st' := [vI 1]) B182_76_77 rfl ?_
              refine r_goto (tgt := 82) D182_77 rfl ?_
              exact r_iretI D182_82 rfl (⟨rfl, by omega, by rw [← h0]; exact sl_abc (by have q := H.2 78 473 0 5 (rk_order (by omega)); omega) (by omega) (by subst_vars; omega) (by subst_vars; omega) (by subst_vars; omega) (by subst_vars; omega) (by subst_vars; omega)⟩)
        · refine s_blx (lv' := [(5, vI 1), (4, vI 2), (3, vI 1), (2, vI (w1 / 2)), (0, vR 77), (1, vI i)]) (st' := [vI (w1 / 2)]) B182_57_58 rfl ?_
          refine r_goto (tgt := 82) D182_58 rfl ?_
          exact r_iretI D182_82 rfl (⟨rfl, by omega, by rw [← h0]; exact sl_abc (by have q := H.2 78 473 0 5 (rk_order (by omega)); omega) (by omega) (by subst_vars; omega) (by subst_vars; omega) (by subst_vars; omega) (by subst_vars; omega) (by subst_vars; omega)⟩)
    · refine s_blx (lv' := [(3, vI 1), (2, vI (w1 / 2)), (0, vR 77), (1, vI i)]) (st' := [vI 1]) B182_26_27 rfl ?_
      refine r_goto (tgt := 31) D182_27 rfl ?_
      refine s_blx (lv' := [(4, vI 1), (3, vI 1), (2, vI (w1 / 2)), (0, vR 77), (1, vI i)]) (st' := [vR 77]) B182_31_34 rfl ?_
      refine r_gfix (r := 78) (pc' := 37) D182_34 rfl gf_11_13_77 H.1 ?_
      refine s_blx (lv' := [(4, vI 1), (3, vI 1), (2, vI (w1 / 2)), (0, vR 77), (1, vI i)]) (st' := [vI 473, vR 78]) B182_37_40 rfl ?_
      refine r_iald (pc' := 41) D182_40 rfl sc_78 H.1 (by omega) ?_
      intro w46 e47 r48
      have e49 : w1 = w46 := (e47.trans (e2.symm)).symm
      subst e49
      refine s_blx (lv' := [(4, vI 1), (3, vI 1), (2, vI (w1 / 2)), (0, vR 77), (1, vI i)]) (st' := [vI 2, vI w1]) B182_41_42 rfl ?_
      refine r_irem (pc' := 43) D182_42 rfl (by omega) ?_
      refine r_ifc (tgt := 50) (pc' := 46) D182_43 rfl rfl (by unfold inR; omega) (fun (c50 : (w1 % 2) ≠ 0) => ?_) (fun (c50 : ¬ ((w1 % 2) ≠ 0)) => ?_)
      · refine s_blx (lv' := [(5, vI 0), (4, vI 1), (3, vI 1), (2, vI (w1 / 2)), (0, vR 77), (1, vI i)]) (st' := [vI i]) B182_50_54 rfl ?_
        refine r_ifc (tgt := 61) (pc' := 57) D182_54 rfl rfl (by unfold inR; omega) (fun (c51 : i ≠ 0) => ?_) (fun (c51 : ¬ (i ≠ 0)) => ?_)
        · refine s_blx (lv' := [(5, vI 0), (4, vI 1), (3, vI 1), (2, vI (w1 / 2)), (0, vR 77), (1, vI i)]) (st' := [vI 1, vI i]) B182_61_63 rfl ?_
          refine r_icmp (tgt := 70) (pc' := 66) D182_63 rfl rfl (by unfold inR; omega) (fun (c52 : i ≠ 1) => ?_) (fun (c52 : ¬ (i ≠ 1)) => ?_)
          · refine s_blx (lv' := [(5, vI 0), (4, vI 1), (3, vI 1), (2, vI (w1 / 2)), (0, vR 77), (1, vI i)]) (st' := [vI 0, vI 0]) B182_70_73 rfl ?_
            refine r_icmp (tgt := 80) (pc' := 76) D182_73 rfl rfl (by unfold inR; omega) (fun (c53 : 0 ≠ 0) => ?_) (fun (c53 : ¬ (0 ≠ 0)) => ?_)
            · exfalso; omega
            · refine s_blx (lv' := [(5, vI 0), (4, vI 1), (3, vI 1), (2, vI (w1 / 2)), (0, vR 77), (1, vI i)]) (st' := [vI 1]) B182_76_77 rfl ?_
              refine r_goto (tgt := 82) D182_77 rfl ?_
              exact r_iretI D182_82 rfl (⟨rfl, by omega, by rw [← h0]; exact sl_abc (by have q := H.2 78 473 0 5 (rk_order (by omega)); omega) (by omega) (by subst_vars; omega) (by subst_vars; omega) (by subst_vars; omega) (by subst_vars; omega) (by subst_vars; omega)⟩)
          · refine s_blx (lv' := [(5, vI 0), (4, vI 1), (3, vI 1), (2, vI (w1 / 2)), (0, vR 77), (1, vI i)]) (st' := [vI 1]) B182_66_67 rfl ?_
            refine r_goto (tgt := 71) D182_67 rfl ?_
            refine s_blx (lv' := [(5, vI 0), (4, vI 1), (3, vI 1), (2, vI (w1 / 2)), (0, vR 77), (1, vI i)]) (st' := [vI 0, vI 1]) B182_71_73 rfl ?_
            refine r_icmp (tgt := 80) (pc' := 76) D182_73 rfl rfl (by unfold inR; omega) (fun (c54 : 1 ≠ 0) => ?_) (fun (c54 : ¬ (1 ≠ 0)) => ?_)
            · refine s_blx (lv' := [(5, vI 0), (4, vI 1), (3, vI 1), (2, vI (w1 / 2)), (0, vR 77), (1, vI i)]) (st' := [vI 1]) B182_80_82 rfl ?_
              exact r_iretI D182_82 rfl (⟨rfl, by omega, by rw [← h0]; exact sl_abc (by have q := H.2 78 473 0 5 (rk_order (by omega)); omega) (by omega) (by subst_vars; omega) (by subst_vars; omega) (by subst_vars; omega) (by subst_vars; omega) (by subst_vars; omega)⟩)
            · exfalso; omega
        · refine s_blx (lv' := [(5, vI 0), (4, vI 1), (3, vI 1), (2, vI (w1 / 2)), (0, vR 77), (1, vI i)]) (st' := [vI (w1 / 2)]) B182_57_58 rfl ?_
          refine r_goto (tgt := 82) D182_58 rfl ?_
          exact r_iretI D182_82 rfl (⟨rfl, by omega, by rw [← h0]; exact sl_abc (by have q := H.2 78 473 0 5 (rk_order (by omega)); omega) (by omega) (by subst_vars; omega) (by subst_vars; omega) (by subst_vars; omega) (by subst_vars; omega) (by subst_vars; omega)⟩)
      · refine s_blx (lv' := [(4, vI 1), (3, vI 1), (2, vI (w1 / 2)), (0, vR 77), (1, vI i)]) (st' := [vI 1]) B182_46_47 rfl ?_
        refine r_goto (tgt := 51) D182_47 rfl ?_
        refine s_blx (lv' := [(5, vI 1), (4, vI 1), (3, vI 1), (2, vI (w1 / 2)), (0, vR 77), (1, vI i)]) (st' := [vI i]) B182_51_54 rfl ?_
        refine r_ifc (tgt := 61) (pc' := 57) D182_54 rfl rfl (by unfold inR; omega) (fun (c55 : i ≠ 0) => ?_) (fun (c55 : ¬ (i ≠ 0)) => ?_)
        · refine s_blx (lv' := [(5, vI 1), (4, vI 1), (3, vI 1), (2, vI (w1 / 2)), (0, vR 77), (1, vI i)]) (st' := [vI 1, vI i]) B182_61_63 rfl ?_
          refine r_icmp (tgt := 70) (pc' := 66) D182_63 rfl rfl (by unfold inR; omega) (fun (c56 : i ≠ 1) => ?_) (fun (c56 : ¬ (i ≠ 1)) => ?_)
          · refine s_blx (lv' := [(5, vI 1), (4, vI 1), (3, vI 1), (2, vI (w1 / 2)), (0, vR 77), (1, vI i)]) (st' := [vI 1, vI 0]) B182_70_73 rfl ?_
            refine r_icmp (tgt := 80) (pc' := 76) D182_73 rfl rfl (by unfold inR; omega) (fun (c57 : 0 ≠ 1) => ?_) (fun (c57 : ¬ (0 ≠ 1)) => ?_)
            · refine s_blx (lv' := [(5, vI 1), (4, vI 1), (3, vI 1), (2, vI (w1 / 2)), (0, vR 77), (1, vI i)]) (st' := [vI 1]) B182_80_82 rfl ?_
              exact r_iretI D182_82 rfl (⟨rfl, by omega, by rw [← h0]; exact sl_abc (by have q := H.2 78 473 0 5 (rk_order (by omega)); omega) (by omega) (by subst_vars; omega) (by subst_vars; omega) (by subst_vars; omega) (by subst_vars; omega) (by subst_vars; omega)⟩)
            · exfalso; omega
          · refine s_blx (lv' := [(5, vI 1), (4, vI 1), (3, vI 1), (2, vI (w1 / 2)), (0, vR 77), (1, vI i)]) (st' := [vI 1]) B182_66_67 rfl ?_
            refine r_goto (tgt := 71) D182_67 rfl ?_
            refine s_blx (lv' := [(5, vI 1), (4, vI 1), (3, vI 1), (2, vI (w1 / 2)), (0, vR 77), (1, vI i)]) (st' := [vI 1, vI 1]) B182_71_73 rfl ?_
            refine r_icmp (tgt := 80) (pc' := 76) D182_73 rfl rfl (by unfold inR; omega) (fun (c58 : 1 ≠ 1) => ?_) (fun (c58 : ¬ (1 ≠ 1)) => ?_)
            · exfalso; omega
            · refine s_blx (lv' := [(5, vI 1), (4, vI 1), (3, vI 1), (2, vI (w1 / 2)), (0, vR 77), (1, vI i)]) (st' := [vI 1]) B182_76_77 rfl ?_
              refine r_goto (tgt := 82) D182_77 rfl ?_
              exact r_iretI D182_82 rfl (⟨rfl, by omega, by rw [← h0]; exact sl_abc (by have q := H.2 78 473 0 5 (rk_order (by omega)); omega) (by omega) (by subst_vars; omega) (by subst_vars; omega) (by subst_vars; omega) (by subst_vars; omega) (by subst_vars; omega)⟩)
        · refine s_blx (lv' := [(5, vI 1), (4, vI 1), (3, vI 1), (2, vI (w1 / 2)), (0, vR 77), (1, vI i)]) (st' := [vI (w1 / 2)]) B182_57_58 rfl ?_
          refine r_goto (tgt := 82) D182_58 rfl ?_
          exact r_iretI D182_82 rfl (⟨rfl, by omega, by rw [← h0]; exact sl_abc (by have q := H.2 78 473 0 5 (rk_order (by omega)); omega) (by omega) (by subst_vars; omega) (by subst_vars; omega) (by subst_vars; omega) (by subst_vars; omega) (by subst_vars; omega)⟩)
set_option maxRecDepth 4000 in
theorem L_k185f {base : Nat} {X : Nat → Option mC} {G : Nat → Value} (E : EnvOK base X G) {d : Nat} (hd : 1 ≤ d) {M : mH} (H : HI base M) (slot : Int) (o : Int) (h0 : gi M 78 473 = o) (h1 : 0 ≤ slot ∧ slot ≤ 2) : ∀ mz : Nat, (∀ (x2 : Int), (0 ≤ x2 ∧ x2 ≤ 2) → (1 ≤ x2 → sl o 0 ≠ slot) → (2 ≤ x2 → sl o 1 ≠ slot) → (0 ≤ x2) → (x2 ≤ 3) → (2 - x2) * 1 + 0 < (mz : Int) → sRn base X G d T185 2 [(0, vR 77), (1, vI slot), (2, vI x2)] [] M (s_Q base (pI (fun v M' => M' = M ∧ (0 ≤ v ∧ v ≤ 2) ∧ sl o v = slot)))) := by
  intro mz
  induction mz with
  | zero => exact fun x2 z0 z1 z2 z3 z4 z5 => by omega
  | succ mz ih =>
    intro x2 i0 i1 i2 i3 i4 hmu
    refine s_blx (lv' := [(0, vR 77), (1, vI slot), (2, vI x2)]) (st' := [vI x2, vR 77]) B185_2_4 rfl ?_
    have g1 : gi M 78 473 = o := h0
    refine r_vIp (c := 77) (args := [vI x2]) (rest := []) (pc' := 7) D185_4 rfl ck_11_virtual_206 TE182 rfl (Nat.le_of_ble_eq_true rfl) ⟨Nat.le_of_ble_eq_true rfl, Nat.le_of_ble_eq_true rfl⟩ sc_77 ⟨rfl, by decide⟩ H.1 (dp_0 hd rfl) (k182f E (dp_n hd rfl) H x2 o (by omega) (by omega)) ?_
    intro v2 q6
    obtain ⟨q4, q5⟩ := q6
    have ko := H.2 78 473 0 5 (rk_order (by omega))
    have kp := sl_perm (o := o) (s := slot) (by omega) (by omega)
    have k0 : x2 = 0 → v2 = sl o 0 := fun h => by rw [q5, h]
    have k1 : x2 = 1 → v2 = sl o 1 := fun h => by rw [q5, h]
    have k2 : x2 = 2 → v2 = sl o 2 := fun h => by rw [q5, h]
    have kq := q5; clear q5
    refine s_blx (lv' := [(0, vR 77), (1, vI slot), (2, vI x2)]) (st' := [vI slot, vI v2]) B185_7_8 rfl ?_
    refine r_icmp (tgt := 17) (pc' := 11) D185_8 rfl rfl (by unfold inR; omega) (fun (c7 : v2 = slot) => ?_) (fun (c7 : ¬ (v2 = slot)) => ?_)
    · refine s_blx (lv' := [(0, vR 77), (1, vI slot), (2, vI x2)]) (st' := [vI x2]) B185_17_18 rfl ?_
      exact r_iretI D185_18 rfl (⟨rfl, by omega, by rw [← kq]; omega⟩)
    · refine s_blx (lv' := [(2, vI (x2 + 1)), (0, vR 77), (1, vI slot)]) (st' := []) B185_11_14 rfl ?_
      refine r_goto (tgt := 2) D185_14 rfl ?_
      refine r_loc (lv' := [(0, vR 77), (1, vI slot), (2, vI (x2 + 1))]) ⟨rfl, rfl, rfl, trivial⟩ rfl rfl ?_
      exact ih (x2 + 1) (by omega) (by omega) (by omega) (by omega) (by omega) (by omega)
set_option maxRecDepth 4000 in
theorem k185f {base : Nat} {X : Nat → Option mC} {G : Nat → Value} (E : EnvOK base X G) {d : Nat} (hd : 1 ≤ d) {M : mH} (H : HI base M) (slot : Int) (o : Int) (h0 : gi M 78 473 = o) (h1 : 0 ≤ slot ∧ slot ≤ 2) : sOk base X G d T185 [vR 77, vI slot] M (pI (fun v M' => M' = M ∧ (0 ≤ v ∧ v ≤ 2) ∧ sl o v = slot)) := by
  refine sOk.of (show sRn base X G d T185 0 [(0, vR 77), (1, vI slot)] [] M _ from ?_)
  refine s_blx (lv' := [(2, vI 0), (0, vR 77), (1, vI slot)]) (st' := []) B185_0_2 rfl ?_
  refine r_loc (lv' := [(0, vR 77), (1, vI slot), (2, vI 0)]) ⟨rfl, rfl, rfl, trivial⟩ rfl rfl ?_
  exact (L_k185f E hd H slot o h0 h1 (((2 - 0) * 1 + 0 : Int) + 1).toNat) 0 (by omega) (by omega) (by omega) (by omega) (by omega) (by omega)
set_option maxRecDepth 4000 in
theorem k186f {base : Nat} {X : Nat → Option mC} {G : Nat → Value} (E : EnvOK base X G) {d : Nat} (hd : 2 ≤ d) {M : mH} (H : HI base M) (said : Int) (slot : Int) (o : Int) (U : Int → Int) (h0 : TB M) (h1 : C3 84 U M) (h2 : gi M 78 473 = o) (h3 : 0 ≤ said ∧ said ≤ 1110) (h4 : 0 ≤ slot ∧ slot ≤ 2) : sOk base X G d T186 [vR 77, vI said, vI slot] M (pI (fun v M' => M' = M ∧ (v = 0 ∨ v = 1) ∧ (v = 1 → CM o U said slot) ∧ (v = 0 → ¬ CM o U said slot))) := by
  refine sOk.of (show sRn base X G d T186 0 [(0, vR 77), (1, vI said), (2, vI slot)] [] M _ from ?_)
  refine s_blx (lv' := [(0, vR 77), (1, vI said), (2, vI slot)]) (st' := [vI slot, vR 77]) B186_0_2 rfl ?_
  have g1 : gi M 78 473 = o := h2
  refine r_vIp (c := 77) (args := [vI slot]) (rest := []) (pc' := 5) D186_2 rfl ck_11_virtual_209 TE185 rfl (Nat.le_of_ble_eq_true rfl) ⟨Nat.le_of_ble_eq_true rfl, Nat.le_of_ble_eq_true rfl⟩ sc_77 ⟨rfl, by decide⟩ H.1 (dp_0 hd rfl) (k185f E (dp_n hd rfl) H slot o (by omega) (by omega)) ?_
  intro v2 q6
  obtain ⟨q4, q5⟩ := q6
  have ko := H.2 78 473 0 5 (rk_order (by omega))
  have ki := q5; clear q5
  have ku : ∀ i : Int, 0 ≤ i → i ≤ 2 → sl o i = slot → i = v2 := fun i h1 h2 h3 => sl_inj (o := o) (by omega) (by omega) (by omega) (by rw [h3, ki])
  refine s_blx (lv' := [(3, vI v2), (0, vR 77), (1, vI said), (2, vI slot)]) (st' := [vR 77, vI v2]) B186_5_8 rfl ?_
  refine r_gfix (r := 81) (pc' := 11) D186_8 rfl gf_11_24_77 H.1 ?_
  refine s_blx (lv' := [(3, vI v2), (0, vR 77), (1, vI said), (2, vI slot)]) (st' := [vI said, vR 81, vI v2]) B186_11_12 rfl ?_
  refine r_iald (pc' := 13) D186_12 rfl sc_81 H.1 (by omega) ?_
  intro w7 e8 r9
  have b_w7 := H.2 81 (said) 0 3 rfl
  rw [← e8] at b_w7; clear r9
  have kd : w7 = DN said := by have q := (h0).dn (s := said) (by omega); omega
  refine r_icmp (tgt := 64) (pc' := 16) D186_13 rfl rfl (by unfold inR; omega) (fun (c10 : w7 ≤ v2) => ?_) (fun (c10 : ¬ (w7 ≤ v2)) => ?_)
  · refine s_blx (lv' := [(3, vI v2), (0, vR 77), (1, vI said), (2, vI slot)]) (st' := [vI 0]) B186_64_65 rfl ?_
    exact r_zretI D186_65 rfl (by omega) (⟨rfl, by omega, by first | exact fun _ => ⟨v2, by omega, by omega, ki, by omega, by omega, by omega, by omega⟩ | exact fun h => absurd h (by omega), by first | exact fun h => absurd h (by omega) | (intro _ h; obtain ⟨i, a1, a2, a3, a4, a5, a6, a7⟩ := h; have e := ku i a1 a2 a3; subst e; omega)⟩)
  · refine s_blx (lv' := [(3, vI v2), (0, vR 77), (1, vI said), (2, vI slot)]) (st' := [vR 77]) B186_16_17 rfl ?_
    refine r_gfix (r := 82) (pc' := 20) D186_17 rfl gf_11_27_77 H.1 ?_
    refine s_blx (lv' := [(3, vI v2), (0, vR 77), (1, vI said), (2, vI slot)]) (st' := [vI ((3 * said) + v2), vR 82]) B186_20_25 rfl ?_
    refine r_iald (pc' := 26) D186_25 rfl sc_82 H.1 (by omega) ?_
    intro w11 e12 r13
    have b_w11 := H.2 82 ((3 * said) + v2) 0 9 rfl
    rw [← e12] at b_w11; clear r13
    have kg : v2 < DN said → w11 = DG said v2 := fun h => by rw [e12]; exact (h0).dg (by omega) (by omega) h
    refine s_blx (lv' := [(3, vI v2), (0, vR 77), (1, vI said), (2, vI slot)]) (st' := [vI 8, vI w11]) B186_26_28 rfl ?_
    refine r_icmp (tgt := 64) (pc' := 31) D186_28 rfl rfl (by unfold inR; omega) (fun (c14 : 8 ≤ w11) => ?_) (fun (c14 : ¬ (8 ≤ w11)) => ?_)
    · refine s_blx (lv' := [(3, vI v2), (0, vR 77), (1, vI said), (2, vI slot)]) (st' := [vI 0]) B186_64_65 rfl ?_
      exact r_zretI D186_65 rfl (by omega) (⟨rfl, by omega, by first | exact fun _ => ⟨v2, by omega, by omega, ki, by omega, by omega, by omega, by omega⟩ | exact fun h => absurd h (by omega), by first | exact fun h => absurd h (by omega) | (intro _ h; obtain ⟨i, a1, a2, a3, a4, a5, a6, a7⟩ := h; have e := ku i a1 a2 a3; subst e; omega)⟩)
    · refine s_blx (lv' := [(3, vI v2), (0, vR 77), (1, vI said), (2, vI slot)]) (st' := [vR 77]) B186_31_32 rfl ?_
      refine r_gfix (r := 84) (pc' := 35) D186_32 rfl gf_11_33_77 H.1 ?_
      refine s_blx (lv' := [(3, vI v2), (0, vR 77), (1, vI said), (2, vI slot)]) (st' := [vI slot, vR 84]) B186_35_36 rfl ?_
      refine r_iald (pc' := 37) D186_36 rfl sc_84 H.1 (by omega) ?_
      intro w15 e16 r17
      have b_w15 := H.2 84 (slot) (-1) 7 rfl
      rw [← e16] at b_w15; clear r17
      have ks : w15 = U slot := by have q := (h1) slot (by omega) (by omega); omega
      refine s_blx (lv' := [(3, vI v2), (0, vR 77), (1, vI said), (2, vI slot)]) (st' := [vI (-1), vI w15]) B186_37_38 rfl ?_
      refine r_icmp (tgt := 64) (pc' := 41) D186_38 rfl rfl (by unfold inR; omega) (fun (c18 : w15 = (-1)) => ?_) (fun (c18 : ¬ (w15 = (-1))) => ?_)
      · refine s_blx (lv' := [(3, vI v2), (0, vR 77), (1, vI said), (2, vI slot)]) (st' := [vI 0]) B186_64_65 rfl ?_
        exact r_zretI D186_65 rfl (by omega) (⟨rfl, by omega, by first | exact fun _ => ⟨v2, by omega, by omega, ki, by omega, by omega, by omega, by omega⟩ | exact fun h => absurd h (by omega), by first | exact fun h => absurd h (by omega) | (intro _ h; obtain ⟨i, a1, a2, a3, a4, a5, a6, a7⟩ := h; have e := ku i a1 a2 a3; subst e; omega)⟩)
      · refine s_blx (lv' := [(3, vI v2), (0, vR 77), (1, vI said), (2, vI slot)]) (st' := [vR 77]) B186_41_42 rfl ?_
        refine r_gfix (r := 84) (pc' := 45) D186_42 rfl gf_11_33_77 H.1 ?_
        refine s_blx (lv' := [(3, vI v2), (0, vR 77), (1, vI said), (2, vI slot)]) (st' := [vI slot, vR 84]) B186_45_46 rfl ?_
        refine r_iald (pc' := 47) D186_46 rfl sc_84 H.1 (by omega) ?_
        intro w19 e20 r21
        have e22 : w15 = w19 := (e20.trans (e16.symm)).symm
        subst e22
        refine s_blx (lv' := [(3, vI v2), (0, vR 77), (1, vI said), (2, vI slot)]) (st' := [vR 77, vI w15]) B186_47_48 rfl ?_
        refine r_gfix (r := 82) (pc' := 51) D186_48 rfl gf_11_27_77 H.1 ?_
        refine s_blx (lv' := [(3, vI v2), (0, vR 77), (1, vI said), (2, vI slot)]) (st' := [vI ((3 * said) + v2), vR 82, vI w15]) B186_51_56 rfl ?_
        refine r_iald (pc' := 57) D186_56 rfl sc_82 H.1 (by omega) ?_
        intro w23 e24 r25
        have e26 : w11 = w23 := (e24.trans (e12.symm)).symm
        subst e26
        refine r_icmp (tgt := 64) (pc' := 60) D186_57 rfl rfl (by unfold inR; omega) (fun (c27 : w15 = w11) => ?_) (fun (c27 : ¬ (w15 = w11)) => ?_)
        · refine s_blx (lv' := [(3, vI v2), (0, vR 77), (1, vI said), (2, vI slot)]) (st' := [vI 0]) B186_64_65 rfl ?_
          exact r_zretI D186_65 rfl (by omega) (⟨rfl, by omega, by first | exact fun _ => ⟨v2, by omega, by omega, ki, by omega, by omega, by omega, by omega⟩ | exact fun h => absurd h (by omega), by first | exact fun h => absurd h (by omega) | (intro _ h; obtain ⟨i, a1, a2, a3, a4, a5, a6, a7⟩ := h; have e := ku i a1 a2 a3; subst e; omega)⟩)
        · refine s_blx (lv' := [(3, vI v2), (0, vR 77), (1, vI said), (2, vI slot)]) (st' := [vI 1]) B186_60_61 rfl ?_
          refine r_goto (tgt := 65) D186_61 rfl ?_
          exact r_zretI D186_65 rfl (by omega) (⟨rfl, by omega, by first | exact fun _ => ⟨v2, by omega, by omega, ki, by omega, by omega, by omega, by omega⟩ | exact fun h => absurd h (by omega), by first | exact fun h => absurd h (by omega) | (intro _ h; obtain ⟨i, a1, a2, a3, a4, a5, a6, a7⟩ := h; have e := ku i a1 a2 a3; subst e; omega)⟩)
set_option maxRecDepth 4000 in
set_option maxHeartbeats 4000000 in
theorem k188f {base : Nat} {X : Nat → Option mC} {G : Nat → Value} (E : EnvOK base X G) {d : Nat} (hd : 3 ≤ d) {M : mH} (H : HI base M) (said : Int) (move : Int) (o : Int) (ov : Int) (U : Int → Int) (A : Int → Int) (O : Int → Int) (h0 : TB M) (h1 : C3 84 U M) (h2 : C3 83 A M) (h3 : C3 85 O M) (h4 : gi M 78 473 = o) (h5 : gi M 77 9 = ov) (h6 : 0 ≤ ov ∧ ov ≤ 1) (h7 : 0 ≤ said ∧ said ≤ 1110) (h8 : 0 ≤ move ∧ move ≤ 22) (h9 : move ≤ 4 ∨ 10 ≤ move) (h10 : move ≤ 17 ∨ 20 ≤ move) : sOk base X G d T188 [vR 77, vI said, vI move] M (pI (fun v M' => HI base M' ∧ Fr [(77, 14), (77, 15), (77, 16)] M M' ∧ (v = 0 ∨ v = 1) ∧ (v = 1 → LG o ov U A O said move) ∧ (v = 0 → ¬ LG o ov U A O said move) ∧ (v = 1 → move = 0 ∨ move = 4 ∨ mu o U (gi M' 77 14) = mu o U said - 1) ∧ (move = 0 ∨ move = 4 ∨ v = 0 → gi M' 77 14 = said))) := by
  have f0 : Fr [(77, 14), (77, 15), (77, 16)] M M := Fr.rf
  refine sOk.of (show sRn base X G d T188 0 [(0, vR 77), (1, vI said), (2, vI move)] [] M _ from ?_)
  refine s_blx (lv' := [(0, vR 77), (1, vI said), (2, vI move)]) (st' := [vR 77]) B188_0_1 rfl ?_
  refine r_gfix (r := 81) (pc' := 4) D188_1 rfl gf_11_24_77 H.1 ?_
  refine s_blx (lv' := [(0, vR 77), (1, vI said), (2, vI move)]) (st' := [vI said, vR 81]) B188_4_5 rfl ?_
  refine r_iald (pc' := 6) D188_5 rfl sc_81 H.1 (by omega) ?_
  intro w1 e2 r3
  have b_w1 := H.2 81 (said) 0 3 rfl
  rw [← e2] at b_w1; clear r3
  have kt := DN_of said
  have kdn : DN said = w1 := by have q := h0.dn (s := said) (by omega); omega
  have ko5 : 0 ≤ o ∧ o ≤ 5 := by have q := H.2 78 473 0 5 (rk_order (by omega)); omega
  refine s_blx (lv' := [(3, vI w1), (0, vR 77), (1, vI said), (2, vI move)]) (st' := [vI 3, vI w1, vR 77]) B188_6_10 rfl ?_
  refine r_icmp (tgt := 21) (pc' := 13) D188_10 rfl rfl (by unfold inR; omega) (fun (c4 : 3 ≤ w1) => ?_) (fun (c4 : ¬ (3 ≤ w1)) => ?_)
  · refine s_blx (lv' := [(3, vI w1), (0, vR 77), (1, vI said), (2, vI move)]) (st' := [vI (-1), vR 77]) B188_21_22 rfl ?_
    refine r_pint (ki := 13) (pc' := 25) D188_22 rfl pf_11_212_77 rfl H (by unfold inR; omega) (show (-1) ≤ (-1) ∧ (-1) ≤ 2 by omega) ?_
    intro M5 u6 H7 p8
    have f9 := f0.wr u6 rfl
    refine s_blx (lv' := [(3, vI w1), (0, vR 77), (1, vI said), (2, vI move)]) (st' := [vI said, vR 77]) B188_25_27 rfl ?_
    refine r_pint (ki := 14) (pc' := 30) D188_27 rfl pf_11_215_77 rfl H7 (by unfold inR; omega) (show 0 ≤ said ∧ said ≤ 1110 by omega) ?_
    intro M10 u11 H12 p13
    have f14 := f9.wr u11 rfl
    refine s_blx (lv' := [(3, vI w1), (0, vR 77), (1, vI said), (2, vI move)]) (st' := [vI 0, vR 77]) B188_30_32 rfl ?_
    refine r_pint (ki := 15) (pc' := 35) D188_32 rfl pf_11_218_77 rfl H12 (by unfold inR; omega) trivial ?_
    intro M15 u16 H17 p18
    have f19 := f14.wr u16 rfl
    refine s_blx (lv' := [(3, vI w1), (0, vR 77), (1, vI said), (2, vI move)]) (st' := [vI move]) B188_35_36 rfl ?_
    refine r_ifc (tgt := 52) (pc' := 39) D188_36 rfl rfl (by unfold inR; omega) (fun (c20 : move ≠ 0) => ?_) (fun (c20 : ¬ (move ≠ 0)) => ?_)
    · refine s_blx (lv' := [(3, vI w1), (0, vR 77), (1, vI said), (2, vI move)]) (st' := [vI 4, vI move]) B188_52_54 rfl ?_
      refine r_icmp (tgt := 75) (pc' := 57) D188_54 rfl rfl (by unfold inR; omega) (fun (c21 : move ≠ 4) => ?_) (fun (c21 : ¬ (move ≠ 4)) => ?_)
      · refine s_blx (lv' := [(3, vI w1), (0, vR 77), (1, vI said), (2, vI move)]) (st' := [vI 20, vI move]) B188_75_78 rfl ?_
        refine r_icmp (tgt := 149) (pc' := 81) D188_78 rfl rfl (by unfold inR; omega) (fun (c22 : move < 20) => ?_) (fun (c22 : ¬ (move < 20)) => ?_)
        · refine s_blx (lv' := [(3, vI w1), (0, vR 77), (1, vI said), (2, vI move)]) (st' := [vR 77]) B188_149_150 rfl ?_
          refine r_gint (ki := 13) (pc' := 153) D188_150 rfl gf_11_212_77 rfl H17.1 ?_
          intro w23 e24 r25
          have e26 : -1 = w23 := (e24.trans ((u16.gi_ne (by decide) (Or.inr (by decide))).trans ((u11.gi_ne (by decide) (Or.inr (by decide))).trans (p8)))).symm
          subst e26
          refine s_blx (lv' := [(3, vI w1), (0, vR 77), (1, vI said), (2, vI move)]) (st' := [vI (-1), vI (-1)]) B188_153_154 rfl ?_
          refine r_icmp (tgt := 159) (pc' := 157) D188_154 rfl rfl (by unfold inR; omega) (fun (c27 : (-1) ≠ (-1)) => ?_) (fun (c27 : ¬ ((-1) ≠ (-1))) => ?_)
          · exfalso; omega
          · refine s_blx (lv' := [(3, vI w1), (0, vR 77), (1, vI said), (2, vI move)]) (st' := [vI 0]) B188_157_158 rfl ?_
            have g28 : gi M15 77 14 = said := (u16.gi_ne (by decide) (Or.inr (by decide))).trans (p13)
            exact r_zretI D188_158 rfl (by omega) (⟨H17, f19, by omega, fun h => absurd h (by omega), fun _ => LG_n (by omega) (by omega) (by omega) (by omega), fun h => absurd h (by omega), by rw [g28]; omega⟩)
        · refine s_blx (lv' := [(4, vI (move - 20)), (3, vI w1), (0, vR 77), (1, vI said), (2, vI move)]) (st' := [vI (move - 20), vI said, vR 77]) B188_81_91 rfl ?_
          have g29 : gi M15 78 473 = o := (u16.gi_ne (by decide) (Or.inl (by decide))).trans ((u11.gi_ne (by decide) (Or.inl (by decide))).trans ((u6.gi_ne (by decide) (Or.inl (by decide))).trans (h4)))
          refine r_vIp (c := 77) (args := [vI said, vI (move - 20)]) (rest := []) (pc' := 94) D188_91 rfl ck_11_virtual_221 TE186 rfl (Nat.le_of_ble_eq_true rfl) ⟨Nat.le_of_ble_eq_true rfl, Nat.le_of_ble_eq_true rfl⟩ sc_77 ⟨rfl, by decide⟩ H17.1 (dp_0 hd rfl) (k186f E (dp_n hd rfl) H17 said (move - 20) o U ((h0.fr f19 rfl)) ((h1.fr f19 rfl)) (by omega) (by omega) (by omega)) ?_
          intro v30 q35
          obtain ⟨q32, q33, q34⟩ := q35
          have kc1 := q33; clear q33
          have kc0 := q34; clear q34
          refine r_ifc (tgt := 99) (pc' := 97) D188_94 rfl rfl (by unfold inR; omega) (fun (c36 : v30 ≠ 0) => ?_) (fun (c36 : ¬ (v30 ≠ 0)) => ?_)
          · refine s_blx (lv' := [(4, vI (move - 20)), (3, vI w1), (0, vR 77), (1, vI said), (2, vI move)]) (st' := [vI (move - 20), vR 77]) B188_99_102 rfl ?_
            have g37 : gi M15 78 473 = o := (u16.gi_ne (by decide) (Or.inl (by decide))).trans ((u11.gi_ne (by decide) (Or.inl (by decide))).trans ((u6.gi_ne (by decide) (Or.inl (by decide))).trans (h4)))
            refine r_vIp (c := 77) (args := [vI (move - 20)]) (rest := []) (pc' := 105) D188_102 rfl ck_11_virtual_209 TE185 rfl (Nat.le_of_ble_eq_true rfl) ⟨Nat.le_of_ble_eq_true rfl, Nat.le_of_ble_eq_true rfl⟩ sc_77 ⟨rfl, by decide⟩ H17.1 (dp_0 hd rfl) (k185f E (dp_n hd rfl) H17 (move - 20) o (by omega) (by omega)) ?_
            intro v38 q42
            obtain ⟨q40, q41⟩ := q42
            have ki := q41; clear q41
            obtain ⟨kI, ka1, ka2, ka3, ka4, ka5, ka6, ka7⟩ := kc1 (by omega)
            have kie : kI = v38 := sl_inj (o := o) ko5 ⟨ka1, ka2⟩ (by omega) (by rw [ka3, ki])
            rw [kie] at ka1 ka2 ka4 ka5 ka7
            refine s_blx (lv' := [(5, vI v38), (4, vI (move - 20)), (3, vI w1), (0, vR 77), (1, vI said), (2, vI move)]) (st' := [vR 77, vI said, vI w1, vR 77]) B188_105_111 rfl ?_
            refine r_gfix (r := 84) (pc' := 114) D188_111 rfl gf_11_33_77 H17.1 ?_
            refine s_blx (lv' := [(5, vI v38), (4, vI (move - 20)), (3, vI w1), (0, vR 77), (1, vI said), (2, vI move)]) (st' := [vI (move - 20), vR 84, vI said, vI w1, vR 77]) B188_114_116 rfl ?_
            refine r_iald (pc' := 117) D188_116 rfl sc_84 H17.1 (by omega) ?_
            intro w43 e44 r45
            have b_w43 := H17.2 84 (move - 20) (-1) 7 rfl
            rw [← e44] at b_w43; clear r45
            have ks : w43 = U ((move - 20)) := by have q := ((h1.fr f19 rfl)) ((move - 20)) (by omega) (by omega); omega
            refine s_blx (lv' := [(5, vI v38), (4, vI (move - 20)), (3, vI w1), (0, vR 77), (1, vI said), (2, vI move)]) (st' := [vR 77, vI w43, vI said, vI w1, vR 77]) B188_117_118 rfl ?_
            refine r_gfix (r := 82) (pc' := 121) D188_118 rfl gf_11_27_77 H17.1 ?_
            refine s_blx (lv' := [(5, vI v38), (4, vI (move - 20)), (3, vI w1), (0, vR 77), (1, vI said), (2, vI move)]) (st' := [vI ((3 * said) + v38), vR 82, vI w43, vI said, vI w1, vR 77]) B188_121_127 rfl ?_
            refine r_iald (pc' := 128) D188_127 rfl sc_82 H17.1 (by omega) ?_
            intro w46 e47 r48
            have b_w46 := H17.2 82 ((3 * said) + v38) 0 9 rfl
            rw [← e47] at b_w46; clear r48
            have kgd : w46 = DG said v38 := by rw [e47]; exact ((h0.fr f19 rfl)).dg (by omega) (by omega) (by omega)
            refine s_blx (lv' := [(5, vI v38), (4, vI (move - 20)), (3, vI w1), (0, vR 77), (1, vI said), (2, vI move)]) (st' := [vI v38, vI (w43 - w46), vI said, vI w1, vR 77]) B188_128_131 rfl ?_
            refine r_sIp (args := [vI w1, vI said, vI (w43 - w46), vI v38]) (rest := [vR 77]) (pc' := 134) D188_131 rfl ck_11_static_224 TE187 rfl (Nat.le_of_ble_eq_true rfl) ⟨Nat.le_of_ble_eq_true rfl, Nat.le_of_ble_eq_true rfl⟩ (by decide) (dp_0 hd rfl) (k187x E (dp_n hd rfl) H17 w1 said (w43 - w46) v38 (by omega) (by omega) (by omega) (by omega)) ?_
            intro v49 q55
            obtain ⟨q51, q52, q53, q54⟩ := q55
            refine r_pint (ki := 14) (pc' := 137) D188_134 rfl pf_11_215_77 rfl H17 (by unfold inR; omega) (show 0 ≤ _ ∧ _ ≤ 1110 from chg_rng (s := said) (i := v38) (u := U ((move - 20))) (by omega) (by omega) (by omega) (by omega) (by omega) (by omega)) ?_
            intro M56 u57 H58 p59
            have f60 := f19.wr u57 rfl
            refine s_blx (lv' := [(5, vI v38), (4, vI (move - 20)), (3, vI w1), (0, vR 77), (1, vI said), (2, vI move)]) (st' := [vI 6, vR 77, vR 77]) B188_137_141 rfl ?_
            refine r_vIp (c := 77) (args := [vI 6]) (rest := [vR 77]) (pc' := 144) D188_141 rfl ck_11_virtual_141 TE153 rfl (Nat.le_of_ble_eq_true rfl) ⟨Nat.le_of_ble_eq_true rfl, Nat.le_of_ble_eq_true rfl⟩ sc_77 ⟨rfl, by decide⟩ H58.1 (dp_0 hd rfl) (k153 E (dp_n hd rfl) H58 6 (by omega)) ?_
            intro v61 q64
            have q63 := q64; clear q64
            refine r_pint (ki := 15) (pc' := 147) D188_144 rfl pf_11_218_77 rfl H58 (by unfold inR; omega) trivial ?_
            intro M65 u66 H67 p68
            have f69 := f60.wr u66 rfl
            refine s_blx (lv' := [(5, vI v38), (4, vI (move - 20)), (3, vI w1), (0, vR 77), (1, vI said), (2, vI move)]) (st' := [vI 1]) B188_147_148 rfl ?_
            have g70 : gi M65 77 14 = v49 := (u66.gi_ne (by decide) (Or.inr (by decide))).trans (p59)
            exact r_zretI D188_148 rfl (by omega) (⟨H67, f69, by omega, fun _ => (LG_m (by omega)).mpr (kc1 (by omega)), fun h => absurd h (by omega), fun _ => Or.inr (Or.inr (by rw [((u66.gi_ne (by decide) (Or.inr (by decide))).trans (p59))]; exact mu_chg (i := v38) (by omega) (by omega) (by rw [ki]; exact mb_1 (by omega)) (by rw [ki]; omega) (by rw [ki]; omega) (by rw [ki]; omega) (by rw [ki]; omega))), by rw [g70]; omega⟩)
          · refine s_blx (lv' := [(4, vI (move - 20)), (3, vI w1), (0, vR 77), (1, vI said), (2, vI move)]) (st' := [vI 0]) B188_97_98 rfl ?_
            have g71 : gi M15 77 14 = said := (u16.gi_ne (by decide) (Or.inr (by decide))).trans (p13)
            exact r_zretI D188_98 rfl (by omega) (⟨H17, f19, by omega, fun h => absurd h (by omega), fun _ hl => kc0 (by omega) ((LG_m (by omega)).mp hl), fun h => absurd h (by omega), by rw [g71]; omega⟩)
      · refine s_blx (lv' := [(3, vI w1), (0, vR 77), (1, vI said), (2, vI move)]) (st' := [vR 77]) B188_57_58 rfl ?_
        refine r_gint (ki := 9) (pc' := 61) D188_58 rfl gf_11_190_77 rfl H17.1 ?_
        intro w72 e73 r74
        have e75 : ov = w72 := (e73.trans ((u16.gi_ne (by decide) (Or.inr (by decide))).trans ((u11.gi_ne (by decide) (Or.inr (by decide))).trans ((u6.gi_ne (by decide) (Or.inr (by decide))).trans (h5))))).symm
        subst e75
        refine r_ifc (tgt := 73) (pc' := 64) D188_61 rfl rfl (by unfold inR; omega) (fun (c76 : ov = 0) => ?_) (fun (c76 : ¬ (ov = 0)) => ?_)
        · refine s_blx (lv' := [(3, vI w1), (0, vR 77), (1, vI said), (2, vI move)]) (st' := [vI 0]) B188_73_74 rfl ?_
          have g77 : gi M15 77 14 = said := (u16.gi_ne (by decide) (Or.inr (by decide))).trans (p13)
          exact r_zretI D188_74 rfl (by omega) (⟨H17, f19, by omega, fun h => (LG_4 (by omega)).mpr (by omega), fun h hl => by have q := (LG_4 (by omega)).mp hl; omega, fun _ => Or.inr (Or.inl (by omega)), by rw [g77]; omega⟩)
        · refine s_blx (lv' := [(3, vI w1), (0, vR 77), (1, vI said), (2, vI move)]) (st' := [vI 3, vI w1]) B188_64_66 rfl ?_
          refine r_icmp (tgt := 73) (pc' := 69) D188_66 rfl rfl (by unfold inR; omega) (fun (c78 : w1 ≠ 3) => ?_) (fun (c78 : ¬ (w1 ≠ 3)) => ?_)
          · exfalso; omega
          · refine s_blx (lv' := [(3, vI w1), (0, vR 77), (1, vI said), (2, vI move)]) (st' := [vI 1]) B188_69_70 rfl ?_
            refine r_goto (tgt := 74) D188_70 rfl ?_
            have g79 : gi M15 77 14 = said := (u16.gi_ne (by decide) (Or.inr (by decide))).trans (p13)
            exact r_zretI D188_74 rfl (by omega) (⟨H17, f19, by omega, fun h => (LG_4 (by omega)).mpr (by omega), fun h hl => by have q := (LG_4 (by omega)).mp hl; omega, fun _ => Or.inr (Or.inl (by omega)), by rw [g79]; omega⟩)
    · refine s_blx (lv' := [(3, vI w1), (0, vR 77), (1, vI said), (2, vI move)]) (st' := [vR 77]) B188_39_40 rfl ?_
      refine r_gint (ki := 9) (pc' := 43) D188_40 rfl gf_11_190_77 rfl H17.1 ?_
      intro w80 e81 r82
      have e83 : ov = w80 := (e81.trans ((u16.gi_ne (by decide) (Or.inr (by decide))).trans ((u11.gi_ne (by decide) (Or.inr (by decide))).trans ((u6.gi_ne (by decide) (Or.inr (by decide))).trans (h5))))).symm
      subst e83
      refine r_ifc (tgt := 50) (pc' := 46) D188_43 rfl rfl (by unfold inR; omega) (fun (c84 : ov ≠ 0) => ?_) (fun (c84 : ¬ (ov ≠ 0)) => ?_)
      · refine s_blx (lv' := [(3, vI w1), (0, vR 77), (1, vI said), (2, vI move)]) (st' := [vI 0]) B188_50_51 rfl ?_
        have g85 : gi M15 77 14 = said := (u16.gi_ne (by decide) (Or.inr (by decide))).trans (p13)
        exact r_zretI D188_51 rfl (by omega) (⟨H17, f19, by omega, fun h => (LG_0 (by omega)).mpr (by omega), fun h hl => by have q := (LG_0 (by omega)).mp hl; omega, fun _ => Or.inl (by omega), by rw [g85]; omega⟩)
      · refine s_blx (lv' := [(3, vI w1), (0, vR 77), (1, vI said), (2, vI move)]) (st' := [vI 1]) B188_46_47 rfl ?_
        refine r_goto (tgt := 51) D188_47 rfl ?_
        have g86 : gi M15 77 14 = said := (u16.gi_ne (by decide) (Or.inr (by decide))).trans (p13)
        exact r_zretI D188_51 rfl (by omega) (⟨H17, f19, by omega, fun h => (LG_0 (by omega)).mpr (by omega), fun h hl => by have q := (LG_0 (by omega)).mp hl; omega, fun _ => Or.inl (by omega), by rw [g86]; omega⟩)
  · refine s_blx (lv' := [(3, vI w1), (0, vR 77), (1, vI said), (2, vI move)]) (st' := [vI w1, vR 77, vR 77]) B188_13_15 rfl ?_
    have g87 : gi M 78 473 = o := h4
    refine r_vIp (c := 77) (args := [vI w1]) (rest := [vR 77]) (pc' := 18) D188_15 rfl ck_11_virtual_206 TE182 rfl (Nat.le_of_ble_eq_true rfl) ⟨Nat.le_of_ble_eq_true rfl, Nat.le_of_ble_eq_true rfl⟩ sc_77 ⟨rfl, by decide⟩ H.1 (dp_0 hd rfl) (k182f E (dp_n hd rfl) H w1 o (by omega) (by omega)) ?_
    intro v88 q92
    obtain ⟨q90, q91⟩ := q92
    have kn : sl o (DN said) = v88 := by rw [kdn]; exact q91.symm
    refine r_goto (tgt := 22) D188_18 rfl ?_
    refine r_pint (ki := 13) (pc' := 25) D188_22 rfl pf_11_212_77 rfl H (by unfold inR; omega) (show (-1) ≤ v88 ∧ v88 ≤ 2 by omega) ?_
    intro M93 u94 H95 p96
    have f97 := f0.wr u94 rfl
    refine s_blx (lv' := [(3, vI w1), (0, vR 77), (1, vI said), (2, vI move)]) (st' := [vI said, vR 77]) B188_25_27 rfl ?_
    refine r_pint (ki := 14) (pc' := 30) D188_27 rfl pf_11_215_77 rfl H95 (by unfold inR; omega) (show 0 ≤ said ∧ said ≤ 1110 by omega) ?_
    intro M98 u99 H100 p101
    have f102 := f97.wr u99 rfl
    refine s_blx (lv' := [(3, vI w1), (0, vR 77), (1, vI said), (2, vI move)]) (st' := [vI 0, vR 77]) B188_30_32 rfl ?_
    refine r_pint (ki := 15) (pc' := 35) D188_32 rfl pf_11_218_77 rfl H100 (by unfold inR; omega) trivial ?_
    intro M103 u104 H105 p106
    have f107 := f102.wr u104 rfl
    refine s_blx (lv' := [(3, vI w1), (0, vR 77), (1, vI said), (2, vI move)]) (st' := [vI move]) B188_35_36 rfl ?_
    refine r_ifc (tgt := 52) (pc' := 39) D188_36 rfl rfl (by unfold inR; omega) (fun (c108 : move ≠ 0) => ?_) (fun (c108 : ¬ (move ≠ 0)) => ?_)
    · refine s_blx (lv' := [(3, vI w1), (0, vR 77), (1, vI said), (2, vI move)]) (st' := [vI 4, vI move]) B188_52_54 rfl ?_
      refine r_icmp (tgt := 75) (pc' := 57) D188_54 rfl rfl (by unfold inR; omega) (fun (c109 : move ≠ 4) => ?_) (fun (c109 : ¬ (move ≠ 4)) => ?_)
      · refine s_blx (lv' := [(3, vI w1), (0, vR 77), (1, vI said), (2, vI move)]) (st' := [vI 20, vI move]) B188_75_78 rfl ?_
        refine r_icmp (tgt := 149) (pc' := 81) D188_78 rfl rfl (by unfold inR; omega) (fun (c110 : move < 20) => ?_) (fun (c110 : ¬ (move < 20)) => ?_)
        · refine s_blx (lv' := [(3, vI w1), (0, vR 77), (1, vI said), (2, vI move)]) (st' := [vR 77]) B188_149_150 rfl ?_
          refine r_gint (ki := 13) (pc' := 153) D188_150 rfl gf_11_212_77 rfl H105.1 ?_
          intro w111 e112 r113
          have e114 : v88 = w111 := (e112.trans ((u104.gi_ne (by decide) (Or.inr (by decide))).trans ((u99.gi_ne (by decide) (Or.inr (by decide))).trans (p96)))).symm
          subst e114
          refine s_blx (lv' := [(3, vI w1), (0, vR 77), (1, vI said), (2, vI move)]) (st' := [vI (-1), vI v88]) B188_153_154 rfl ?_
          refine r_icmp (tgt := 159) (pc' := 157) D188_154 rfl rfl (by unfold inR; omega) (fun (c115 : v88 ≠ (-1)) => ?_) (fun (c115 : ¬ (v88 ≠ (-1))) => ?_)
          · refine s_blx (lv' := [(3, vI w1), (0, vR 77), (1, vI said), (2, vI move)]) (st' := [vI 3, vI move]) B188_159_161 rfl ?_
            refine r_icmp (tgt := 177) (pc' := 164) D188_161 rfl rfl (by unfold inR; omega) (fun (c116 : move ≠ 3) => ?_) (fun (c116 : ¬ (move ≠ 3)) => ?_)
            · refine s_blx (lv' := [(3, vI w1), (0, vR 77), (1, vI said), (2, vI move)]) (st' := [vI 1, vI move]) B188_177_179 rfl ?_
              refine r_icmp (tgt := 217) (pc' := 182) D188_179 rfl rfl (by unfold inR; omega) (fun (c117 : move ≠ 1) => ?_) (fun (c117 : ¬ (move ≠ 1)) => ?_)
              · refine s_blx (lv' := [(3, vI w1), (0, vR 77), (1, vI said), (2, vI move)]) (st' := [vR 77]) B188_217_218 rfl ?_
                refine r_gfix (r := 84) (pc' := 221) D188_218 rfl gf_11_33_77 H105.1 ?_
                refine s_blx (lv' := [(3, vI w1), (0, vR 77), (1, vI said), (2, vI move)]) (st' := [vR 77, vR 84]) B188_221_222 rfl ?_
                refine r_gint (ki := 13) (pc' := 225) D188_222 rfl gf_11_212_77 rfl H105.1 ?_
                intro w118 e119 r120
                have e121 : v88 = w118 := (e119.trans ((u104.gi_ne (by decide) (Or.inr (by decide))).trans ((u99.gi_ne (by decide) (Or.inr (by decide))).trans (p96)))).symm
                subst e121
                refine r_iald (pc' := 226) D188_225 rfl sc_84 H105.1 (by omega) ?_
                intro w122 e123 r124
                have b_w122 := H105.2 84 (v88) (-1) 7 rfl
                rw [← e123] at b_w122; clear r124
                have ks : w122 = U (sl o (DN said)) := by rw [kn]; have q := ((h1.fr f107 rfl)) (v88) (by omega) (by omega); omega
                refine s_blx (lv' := [(3, vI w1), (0, vR 77), (1, vI said), (2, vI move)]) (st' := [vI (-1), vI w122]) B188_226_227 rfl ?_
                refine r_icmp (tgt := 232) (pc' := 230) D188_227 rfl rfl (by unfold inR; omega) (fun (c125 : w122 = (-1)) => ?_) (fun (c125 : ¬ (w122 = (-1))) => ?_)
                · refine s_blx (lv' := [(3, vI w1), (0, vR 77), (1, vI said), (2, vI move)]) (st' := [vI 2, vI move]) B188_232_234 rfl ?_
                  refine r_icmp (tgt := 297) (pc' := 237) D188_234 rfl rfl (by unfold inR; omega) (fun (c126 : move ≠ 2) => ?_) (fun (c126 : ¬ (move ≠ 2)) => ?_)
                  · refine s_blx (lv' := [(3, vI w1), (0, vR 77), (1, vI said), (2, vI move)]) (st' := [vR 77]) B188_297_298 rfl ?_
                    refine r_gfix (r := 83) (pc' := 301) D188_298 rfl gf_11_30_77 H105.1 ?_
                    refine s_blx (lv' := [(3, vI w1), (0, vR 77), (1, vI said), (2, vI move)]) (st' := [vR 77, vR 83]) B188_301_302 rfl ?_
                    refine r_gint (ki := 13) (pc' := 305) D188_302 rfl gf_11_212_77 rfl H105.1 ?_
                    intro w127 e128 r129
                    have e130 : v88 = w127 := (e128.trans ((u104.gi_ne (by decide) (Or.inr (by decide))).trans ((u99.gi_ne (by decide) (Or.inr (by decide))).trans (p96)))).symm
                    subst e130
                    refine r_iald (pc' := 306) D188_305 rfl sc_83 H105.1 (by omega) ?_
                    intro w131 e132 r133
                    unfold inR at r133
                    have ka : w131 = A (sl o (DN said)) := by rw [kn]; have q := ((h2.fr f107 rfl)) (v88) (by omega) (by omega); omega
                    refine s_blx (lv' := [(3, vI w1), (0, vR 77), (1, vI said), (2, vI move)]) (st' := [vI (move - 10), vI w131]) B188_306_310 rfl ?_
                    refine r_bin (pc' := 311) D188_310 rfl rfl ?_
                    intro z134 r135 kq; unfold inR at r135
                    have kz : z134 = srI (A (sl o (DN said))) (move - 10) := by rw [← ka]; exact srI_of (by unfold inR; omega) kq
                    refine s_blx (lv' := [(3, vI w1), (0, vR 77), (1, vI said), (2, vI move)]) (st' := [vI 1, vI z134]) B188_311_312 rfl ?_
                    refine r_and1 (pc' := 313) D188_312 rfl ?_
                    refine r_ifc (tgt := 318) (pc' := 316) D188_313 rfl rfl (by unfold inR; omega) (fun (c136 : (z134 % 2) ≠ 0) => ?_) (fun (c136 : ¬ ((z134 % 2) ≠ 0)) => ?_)
                    · refine s_blx (lv' := [(3, vI w1), (0, vR 77), (1, vI said), (2, vI move)]) (st' := [vI (move - 10), vI said, vI w1, vR 77]) B188_318_325 rfl ?_
                      refine r_sIp (args := [vI w1, vI said, vI (move - 10)]) (rest := [vR 77]) (pc' := 328) D188_325 rfl ck_11_static_228 TE184 rfl (Nat.le_of_ble_eq_true rfl) ⟨Nat.le_of_ble_eq_true rfl, Nat.le_of_ble_eq_true rfl⟩ (by decide) (dp_0 hd rfl) (k184x E (dp_n hd rfl) H105 w1 said (move - 10) (by omega) (by omega) (by omega)) ?_
                      intro v137 q143
                      obtain ⟨q139, q140, q141, q142⟩ := q143
                      refine r_pint (ki := 14) (pc' := 331) D188_328 rfl pf_11_215_77 rfl H105 (by unfold inR; omega) (show 0 ≤ v137 ∧ v137 ≤ 1110 by omega) ?_
                      intro M144 u145 H146 p147
                      have f148 := f107.wr u145 rfl
                      refine s_blx (lv' := [(3, vI w1), (0, vR 77), (1, vI said), (2, vI move)]) (st' := [vI 1]) B188_331_332 rfl ?_
                      have g149 : gi M144 77 14 = v137 := p147
                      exact r_zretI D188_332 rfl (by omega) (⟨H146, f148, by omega, fun _ => (LG_g (by omega) (by omega) (by omega) (by omega) (by omega) (by omega) (by omega) (by omega)).mpr (by rw [← kz]; omega), fun h => absurd h (by omega), fun _ => Or.inr (Or.inr (by rw [(p147)]; exact mu_add (d := move - 10) (by omega) (by omega) (by omega) (mb_0 (Or.inr (Or.inl (by omega)))) (by omega) (by omega) (by omega))), by rw [g149]; omega⟩)
                    · refine s_blx (lv' := [(3, vI w1), (0, vR 77), (1, vI said), (2, vI move)]) (st' := [vI 0]) B188_316_317 rfl ?_
                      have g150 : gi M103 77 14 = said := (u104.gi_ne (by decide) (Or.inr (by decide))).trans (p101)
                      exact r_zretI D188_317 rfl (by omega) (⟨H105, f107, by omega, fun h => absurd h (by omega), fun _ hl => (LG_g (by omega) (by omega) (by omega) (by omega) (by omega) (by omega) (by omega) (by omega)).mp hl (by rw [← kz]; omega), fun h => absurd h (by omega), by rw [g150]; omega⟩)
                  · refine s_blx (lv' := [(3, vI w1), (0, vR 77), (1, vI said), (2, vI move)]) (st' := [vR 77]) B188_237_238 rfl ?_
                    refine r_gfix (r := 85) (pc' := 241) D188_238 rfl gf_11_36_77 H105.1 ?_
                    refine s_blx (lv' := [(3, vI w1), (0, vR 77), (1, vI said), (2, vI move)]) (st' := [vR 77, vR 85]) B188_241_242 rfl ?_
                    refine r_gint (ki := 13) (pc' := 245) D188_242 rfl gf_11_212_77 rfl H105.1 ?_
                    intro w151 e152 r153
                    have e154 : v88 = w151 := (e152.trans ((u104.gi_ne (by decide) (Or.inr (by decide))).trans ((u99.gi_ne (by decide) (Or.inr (by decide))).trans (p96)))).symm
                    subst e154
                    refine r_iald (pc' := 246) D188_245 rfl sc_85 H105.1 (by omega) ?_
                    intro w155 e156 r157
                    have b_w155 := H105.2 85 (v88) (-1) 11 rfl
                    rw [← e156] at b_w155; clear r157
                    have kop : w155 = O (sl o (DN said)) := by rw [kn]; have q := ((h3.fr f107 rfl)) (v88) (by omega) (by omega); omega
                    refine s_blx (lv' := [(3, vI w1), (0, vR 77), (1, vI said), (2, vI move)]) (st' := [vI (-1), vI w155]) B188_246_247 rfl ?_
                    refine r_icmp (tgt := 252) (pc' := 250) D188_247 rfl rfl (by unfold inR; omega) (fun (c158 : w155 ≠ (-1)) => ?_) (fun (c158 : ¬ (w155 ≠ (-1))) => ?_)
                    · refine s_blx (lv' := [(3, vI w1), (0, vR 77), (1, vI said), (2, vI move)]) (st' := [vI 8, vI said, vI w1, vR 77]) B188_252_257 rfl ?_
                      refine r_sIp (args := [vI w1, vI said, vI 8]) (rest := [vR 77]) (pc' := 260) D188_257 rfl ck_11_static_228 TE184 rfl (Nat.le_of_ble_eq_true rfl) ⟨Nat.le_of_ble_eq_true rfl, Nat.le_of_ble_eq_true rfl⟩ (by decide) (dp_0 hd rfl) (k184x E (dp_n hd rfl) H105 w1 said 8 (by omega) (by omega) (by omega)) ?_
                      intro v159 q165
                      obtain ⟨q161, q162, q163, q164⟩ := q165
                      refine r_pint (ki := 14) (pc' := 263) D188_260 rfl pf_11_215_77 rfl H105 (by unfold inR; omega) (show 0 ≤ v159 ∧ v159 ≤ 1110 by omega) ?_
                      intro M166 u167 H168 p169
                      have f170 := f107.wr u167 rfl
                      refine s_blx (lv' := [(3, vI w1), (0, vR 77), (1, vI said), (2, vI move)]) (st' := [vI 7, vR 77, vR 77]) B188_263_267 rfl ?_
                      refine r_vIp (c := 77) (args := [vI 7]) (rest := [vR 77]) (pc' := 270) D188_267 rfl ck_11_virtual_141 TE153 rfl (Nat.le_of_ble_eq_true rfl) ⟨Nat.le_of_ble_eq_true rfl, Nat.le_of_ble_eq_true rfl⟩ sc_77 ⟨rfl, by decide⟩ H168.1 (dp_0 hd rfl) (k153 E (dp_n hd rfl) H168 7 (by omega)) ?_
                      intro v171 q174
                      have q173 := q174; clear q174
                      refine s_blx (lv' := [(3, vI w1), (0, vR 77), (1, vI said), (2, vI move)]) (st' := [vR 77, vI v171, vR 77]) B188_270_271 rfl ?_
                      refine r_gfix (r := 78) (pc' := 274) D188_271 rfl gf_11_13_77 H168.1 ?_
                      refine s_blx (lv' := [(3, vI w1), (0, vR 77), (1, vI said), (2, vI move)]) (st' := [vR 77, vI 3, vI 99, vR 78, vI v171, vR 77]) B188_274_278 rfl ?_
                      refine r_gfix (r := 85) (pc' := 281) D188_278 rfl gf_11_36_77 H168.1 ?_
                      refine s_blx (lv' := [(3, vI w1), (0, vR 77), (1, vI said), (2, vI move)]) (st' := [vR 77, vR 85, vI 3, vI 99, vR 78, vI v171, vR 77]) B188_281_282 rfl ?_
                      refine r_gint (ki := 13) (pc' := 285) D188_282 rfl gf_11_212_77 rfl H168.1 ?_
                      intro w175 e176 r177
                      have e178 : v88 = w175 := (e176.trans ((u167.gi_ne (by decide) (Or.inr (by decide))).trans ((u104.gi_ne (by decide) (Or.inr (by decide))).trans ((u99.gi_ne (by decide) (Or.inr (by decide))).trans (p96))))).symm
                      subst e178
                      refine r_iald (pc' := 286) D188_285 rfl sc_85 H168.1 (by omega) ?_
                      intro w179 e180 r181
                      have e182 : w155 = w179 := (e180.trans ((u167.gi_ne (by decide) (Or.inl (by decide))).trans (e156.symm))).symm
                      subst e182
                      refine s_blx (lv' := [(3, vI w1), (0, vR 77), (1, vI said), (2, vI move)]) (st' := [vI ((99 + (3 * w155)) + 2), vR 78, vI v171, vR 77]) B188_286_290 rfl ?_
                      refine r_iald (pc' := 291) D188_290 rfl sc_78 H168.1 (by omega) ?_
                      intro w183 e184 r185
                      have b_w183 := H168.2 78 ((99 + (3 * w155)) + 2) 0 255 (rk_opening (by omega))
                      rw [← e184] at b_w183; clear r185
                      refine s_blx (lv' := [(3, vI w1), (0, vR 77), (1, vI said), (2, vI move)]) (st' := [vI (v171 * w183), vR 77]) B188_291_292 rfl ?_
                      refine r_norm ?_
                      intro z186 r187 _; unfold inR at r187
                      refine r_pint (ki := 15) (pc' := 295) D188_292 rfl pf_11_218_77 rfl H168 (by unfold inR; omega) trivial ?_
                      intro M188 u189 H190 p191
                      have f192 := f170.wr u189 rfl
                      refine s_blx (lv' := [(3, vI w1), (0, vR 77), (1, vI said), (2, vI move)]) (st' := [vI 1]) B188_295_296 rfl ?_
                      have g193 : gi M188 77 14 = v159 := (u189.gi_ne (by decide) (Or.inr (by decide))).trans (p169)
                      exact r_zretI D188_296 rfl (by omega) (⟨H190, f192, by omega, fun _ => (LG_2 (by omega) (by omega) (by omega)).mpr (by omega), fun h => absurd h (by omega), fun _ => Or.inr (Or.inr (by rw [((u189.gi_ne (by decide) (Or.inr (by decide))).trans (p169))]; exact mu_add (d := 8) (by omega) (by omega) (by omega) (mb_0 (Or.inl (by omega))) (by omega) (by omega) (by omega))), by rw [g193]; omega⟩)
                    · refine s_blx (lv' := [(3, vI w1), (0, vR 77), (1, vI said), (2, vI move)]) (st' := [vI 0]) B188_250_251 rfl ?_
                      have g194 : gi M103 77 14 = said := (u104.gi_ne (by decide) (Or.inr (by decide))).trans (p101)
                      exact r_zretI D188_251 rfl (by omega) (⟨H105, f107, by omega, fun h => absurd h (by omega), fun _ hl => (LG_2 (by omega) (by omega) (by omega)).mp hl (by omega), fun h => absurd h (by omega), by rw [g194]; omega⟩)
                · refine s_blx (lv' := [(3, vI w1), (0, vR 77), (1, vI said), (2, vI move)]) (st' := [vI 0]) B188_230_231 rfl ?_
                  have g195 : gi M103 77 14 = said := (u104.gi_ne (by decide) (Or.inr (by decide))).trans (p101)
                  exact r_zretI D188_231 rfl (by omega) (⟨H105, f107, by omega, fun h => absurd h (by omega), fun _ => LG_s (by omega) (by omega) (by omega) (by omega) (by omega) (by omega) (by omega), fun h => absurd h (by omega), by rw [g195]; omega⟩)
              · refine s_blx (lv' := [(3, vI w1), (0, vR 77), (1, vI said), (2, vI move)]) (st' := [vR 77]) B188_182_183 rfl ?_
                refine r_gfix (r := 84) (pc' := 186) D188_183 rfl gf_11_33_77 H105.1 ?_
                refine s_blx (lv' := [(3, vI w1), (0, vR 77), (1, vI said), (2, vI move)]) (st' := [vR 77, vR 84]) B188_186_187 rfl ?_
                refine r_gint (ki := 13) (pc' := 190) D188_187 rfl gf_11_212_77 rfl H105.1 ?_
                intro w196 e197 r198
                have e199 : v88 = w196 := (e197.trans ((u104.gi_ne (by decide) (Or.inr (by decide))).trans ((u99.gi_ne (by decide) (Or.inr (by decide))).trans (p96)))).symm
                subst e199
                refine r_iald (pc' := 191) D188_190 rfl sc_84 H105.1 (by omega) ?_
                intro w200 e201 r202
                have b_w200 := H105.2 84 (v88) (-1) 7 rfl
                rw [← e201] at b_w200; clear r202
                have ks : w200 = U (sl o (DN said)) := by rw [kn]; have q := ((h1.fr f107 rfl)) (v88) (by omega) (by omega); omega
                refine s_blx (lv' := [(3, vI w1), (0, vR 77), (1, vI said), (2, vI move)]) (st' := [vI (-1), vI w200]) B188_191_192 rfl ?_
                refine r_icmp (tgt := 197) (pc' := 195) D188_192 rfl rfl (by unfold inR; omega) (fun (c203 : w200 ≠ (-1)) => ?_) (fun (c203 : ¬ (w200 ≠ (-1))) => ?_)
                · refine s_blx (lv' := [(3, vI w1), (0, vR 77), (1, vI said), (2, vI move)]) (st' := [vR 77, vI said, vI w1, vR 77]) B188_197_201 rfl ?_
                  refine r_gfix (r := 84) (pc' := 204) D188_201 rfl gf_11_33_77 H105.1 ?_
                  refine s_blx (lv' := [(3, vI w1), (0, vR 77), (1, vI said), (2, vI move)]) (st' := [vR 77, vR 84, vI said, vI w1, vR 77]) B188_204_205 rfl ?_
                  refine r_gint (ki := 13) (pc' := 208) D188_205 rfl gf_11_212_77 rfl H105.1 ?_
                  intro w204 e205 r206
                  have e207 : v88 = w204 := (e205.trans ((u104.gi_ne (by decide) (Or.inr (by decide))).trans ((u99.gi_ne (by decide) (Or.inr (by decide))).trans (p96)))).symm
                  subst e207
                  refine r_iald (pc' := 209) D188_208 rfl sc_84 H105.1 (by omega) ?_
                  intro w208 e209 r210
                  have e211 : w200 = w208 := (e209.trans (e201.symm)).symm
                  subst e211
                  refine r_sIp (args := [vI w1, vI said, vI w200]) (rest := [vR 77]) (pc' := 212) D188_209 rfl ck_11_static_228 TE184 rfl (Nat.le_of_ble_eq_true rfl) ⟨Nat.le_of_ble_eq_true rfl, Nat.le_of_ble_eq_true rfl⟩ (by decide) (dp_0 hd rfl) (k184x E (dp_n hd rfl) H105 w1 said w200 (by omega) (by omega) (by omega)) ?_
                  intro v212 q218
                  obtain ⟨q214, q215, q216, q217⟩ := q218
                  refine r_pint (ki := 14) (pc' := 215) D188_212 rfl pf_11_215_77 rfl H105 (by unfold inR; omega) (show 0 ≤ v212 ∧ v212 ≤ 1110 by omega) ?_
                  intro M219 u220 H221 p222
                  have f223 := f107.wr u220 rfl
                  refine s_blx (lv' := [(3, vI w1), (0, vR 77), (1, vI said), (2, vI move)]) (st' := [vI 1]) B188_215_216 rfl ?_
                  have g224 : gi M219 77 14 = v212 := p222
                  exact r_zretI D188_216 rfl (by omega) (⟨H221, f223, by omega, fun _ => (LG_1 (by omega) (by omega)).mpr (by omega), fun h => absurd h (by omega), fun _ => Or.inr (Or.inr (by rw [(p222)]; exact mu_add (d := U (sl o (DN said))) (by omega) (by omega) (by omega) (mb_0 (Or.inr (Or.inr rfl))) (by omega) (by omega) (by omega))), by rw [g224]; omega⟩)
                · refine s_blx (lv' := [(3, vI w1), (0, vR 77), (1, vI said), (2, vI move)]) (st' := [vI 0]) B188_195_196 rfl ?_
                  have g225 : gi M103 77 14 = said := (u104.gi_ne (by decide) (Or.inr (by decide))).trans (p101)
                  exact r_zretI D188_196 rfl (by omega) (⟨H105, f107, by omega, fun h => absurd h (by omega), fun _ hl => (LG_1 (by omega) (by omega)).mp hl (by omega), fun h => absurd h (by omega), by rw [g225]; omega⟩)
            · refine s_blx (lv' := [(3, vI w1), (0, vR 77), (1, vI said), (2, vI move)]) (st' := [vI 9, vI said, vI w1, vR 77]) B188_164_169 rfl ?_
              refine r_sIp (args := [vI w1, vI said, vI 9]) (rest := [vR 77]) (pc' := 172) D188_169 rfl ck_11_static_228 TE184 rfl (Nat.le_of_ble_eq_true rfl) ⟨Nat.le_of_ble_eq_true rfl, Nat.le_of_ble_eq_true rfl⟩ (by decide) (dp_0 hd rfl) (k184x E (dp_n hd rfl) H105 w1 said 9 (by omega) (by omega) (by omega)) ?_
              intro v226 q232
              obtain ⟨q228, q229, q230, q231⟩ := q232
              refine r_pint (ki := 14) (pc' := 175) D188_172 rfl pf_11_215_77 rfl H105 (by unfold inR; omega) (show 0 ≤ v226 ∧ v226 ≤ 1110 by omega) ?_
              intro M233 u234 H235 p236
              have f237 := f107.wr u234 rfl
              refine s_blx (lv' := [(3, vI w1), (0, vR 77), (1, vI said), (2, vI move)]) (st' := [vI 1]) B188_175_176 rfl ?_
              have g238 : gi M233 77 14 = v226 := p236
              exact r_zretI D188_176 rfl (by omega) (⟨H235, f237, by omega, fun _ => LG_3 (by omega) (by omega), fun h => absurd h (by omega), fun _ => Or.inr (Or.inr (by rw [(p236)]; exact mu_add (d := 9) (by omega) (by omega) (by omega) (mb_0 (Or.inl (by omega))) (by omega) (by omega) (by omega))), by rw [g238]; omega⟩)
          · exfalso; omega
        · refine s_blx (lv' := [(4, vI (move - 20)), (3, vI w1), (0, vR 77), (1, vI said), (2, vI move)]) (st' := [vI (move - 20), vI said, vR 77]) B188_81_91 rfl ?_
          have g239 : gi M103 78 473 = o := (u104.gi_ne (by decide) (Or.inl (by decide))).trans ((u99.gi_ne (by decide) (Or.inl (by decide))).trans ((u94.gi_ne (by decide) (Or.inl (by decide))).trans (h4)))
          refine r_vIp (c := 77) (args := [vI said, vI (move - 20)]) (rest := []) (pc' := 94) D188_91 rfl ck_11_virtual_221 TE186 rfl (Nat.le_of_ble_eq_true rfl) ⟨Nat.le_of_ble_eq_true rfl, Nat.le_of_ble_eq_true rfl⟩ sc_77 ⟨rfl, by decide⟩ H105.1 (dp_0 hd rfl) (k186f E (dp_n hd rfl) H105 said (move - 20) o U ((h0.fr f107 rfl)) ((h1.fr f107 rfl)) (by omega) (by omega) (by omega)) ?_
          intro v240 q245
          obtain ⟨q242, q243, q244⟩ := q245
          have kc1 := q243; clear q243
          have kc0 := q244; clear q244
          refine r_ifc (tgt := 99) (pc' := 97) D188_94 rfl rfl (by unfold inR; omega) (fun (c246 : v240 ≠ 0) => ?_) (fun (c246 : ¬ (v240 ≠ 0)) => ?_)
          · refine s_blx (lv' := [(4, vI (move - 20)), (3, vI w1), (0, vR 77), (1, vI said), (2, vI move)]) (st' := [vI (move - 20), vR 77]) B188_99_102 rfl ?_
            have g247 : gi M103 78 473 = o := (u104.gi_ne (by decide) (Or.inl (by decide))).trans ((u99.gi_ne (by decide) (Or.inl (by decide))).trans ((u94.gi_ne (by decide) (Or.inl (by decide))).trans (h4)))
            refine r_vIp (c := 77) (args := [vI (move - 20)]) (rest := []) (pc' := 105) D188_102 rfl ck_11_virtual_209 TE185 rfl (Nat.le_of_ble_eq_true rfl) ⟨Nat.le_of_ble_eq_true rfl, Nat.le_of_ble_eq_true rfl⟩ sc_77 ⟨rfl, by decide⟩ H105.1 (dp_0 hd rfl) (k185f E (dp_n hd rfl) H105 (move - 20) o (by omega) (by omega)) ?_
            intro v248 q252
            obtain ⟨q250, q251⟩ := q252
            have ki := q251; clear q251
            obtain ⟨kI, ka1, ka2, ka3, ka4, ka5, ka6, ka7⟩ := kc1 (by omega)
            have kie : kI = v248 := sl_inj (o := o) ko5 ⟨ka1, ka2⟩ (by omega) (by rw [ka3, ki])
            rw [kie] at ka1 ka2 ka4 ka5 ka7
            refine s_blx (lv' := [(5, vI v248), (4, vI (move - 20)), (3, vI w1), (0, vR 77), (1, vI said), (2, vI move)]) (st' := [vR 77, vI said, vI w1, vR 77]) B188_105_111 rfl ?_
            refine r_gfix (r := 84) (pc' := 114) D188_111 rfl gf_11_33_77 H105.1 ?_
            refine s_blx (lv' := [(5, vI v248), (4, vI (move - 20)), (3, vI w1), (0, vR 77), (1, vI said), (2, vI move)]) (st' := [vI (move - 20), vR 84, vI said, vI w1, vR 77]) B188_114_116 rfl ?_
            refine r_iald (pc' := 117) D188_116 rfl sc_84 H105.1 (by omega) ?_
            intro w253 e254 r255
            have b_w253 := H105.2 84 (move - 20) (-1) 7 rfl
            rw [← e254] at b_w253; clear r255
            have ks : w253 = U ((move - 20)) := by have q := ((h1.fr f107 rfl)) ((move - 20)) (by omega) (by omega); omega
            refine s_blx (lv' := [(5, vI v248), (4, vI (move - 20)), (3, vI w1), (0, vR 77), (1, vI said), (2, vI move)]) (st' := [vR 77, vI w253, vI said, vI w1, vR 77]) B188_117_118 rfl ?_
            refine r_gfix (r := 82) (pc' := 121) D188_118 rfl gf_11_27_77 H105.1 ?_
            refine s_blx (lv' := [(5, vI v248), (4, vI (move - 20)), (3, vI w1), (0, vR 77), (1, vI said), (2, vI move)]) (st' := [vI ((3 * said) + v248), vR 82, vI w253, vI said, vI w1, vR 77]) B188_121_127 rfl ?_
            refine r_iald (pc' := 128) D188_127 rfl sc_82 H105.1 (by omega) ?_
            intro w256 e257 r258
            have b_w256 := H105.2 82 ((3 * said) + v248) 0 9 rfl
            rw [← e257] at b_w256; clear r258
            have kgd : w256 = DG said v248 := by rw [e257]; exact ((h0.fr f107 rfl)).dg (by omega) (by omega) (by omega)
            refine s_blx (lv' := [(5, vI v248), (4, vI (move - 20)), (3, vI w1), (0, vR 77), (1, vI said), (2, vI move)]) (st' := [vI v248, vI (w253 - w256), vI said, vI w1, vR 77]) B188_128_131 rfl ?_
            refine r_sIp (args := [vI w1, vI said, vI (w253 - w256), vI v248]) (rest := [vR 77]) (pc' := 134) D188_131 rfl ck_11_static_224 TE187 rfl (Nat.le_of_ble_eq_true rfl) ⟨Nat.le_of_ble_eq_true rfl, Nat.le_of_ble_eq_true rfl⟩ (by decide) (dp_0 hd rfl) (k187x E (dp_n hd rfl) H105 w1 said (w253 - w256) v248 (by omega) (by omega) (by omega) (by omega)) ?_
            intro v259 q265
            obtain ⟨q261, q262, q263, q264⟩ := q265
            refine r_pint (ki := 14) (pc' := 137) D188_134 rfl pf_11_215_77 rfl H105 (by unfold inR; omega) (show 0 ≤ _ ∧ _ ≤ 1110 from chg_rng (s := said) (i := v248) (u := U ((move - 20))) (by omega) (by omega) (by omega) (by omega) (by omega) (by omega)) ?_
            intro M266 u267 H268 p269
            have f270 := f107.wr u267 rfl
            refine s_blx (lv' := [(5, vI v248), (4, vI (move - 20)), (3, vI w1), (0, vR 77), (1, vI said), (2, vI move)]) (st' := [vI 6, vR 77, vR 77]) B188_137_141 rfl ?_
            refine r_vIp (c := 77) (args := [vI 6]) (rest := [vR 77]) (pc' := 144) D188_141 rfl ck_11_virtual_141 TE153 rfl (Nat.le_of_ble_eq_true rfl) ⟨Nat.le_of_ble_eq_true rfl, Nat.le_of_ble_eq_true rfl⟩ sc_77 ⟨rfl, by decide⟩ H268.1 (dp_0 hd rfl) (k153 E (dp_n hd rfl) H268 6 (by omega)) ?_
            intro v271 q274
            have q273 := q274; clear q274
            refine r_pint (ki := 15) (pc' := 147) D188_144 rfl pf_11_218_77 rfl H268 (by unfold inR; omega) trivial ?_
            intro M275 u276 H277 p278
            have f279 := f270.wr u276 rfl
            refine s_blx (lv' := [(5, vI v248), (4, vI (move - 20)), (3, vI w1), (0, vR 77), (1, vI said), (2, vI move)]) (st' := [vI 1]) B188_147_148 rfl ?_
            have g280 : gi M275 77 14 = v259 := (u276.gi_ne (by decide) (Or.inr (by decide))).trans (p269)
            exact r_zretI D188_148 rfl (by omega) (⟨H277, f279, by omega, fun _ => (LG_m (by omega)).mpr (kc1 (by omega)), fun h => absurd h (by omega), fun _ => Or.inr (Or.inr (by rw [((u276.gi_ne (by decide) (Or.inr (by decide))).trans (p269))]; exact mu_chg (i := v248) (by omega) (by omega) (by rw [ki]; exact mb_1 (by omega)) (by rw [ki]; omega) (by rw [ki]; omega) (by rw [ki]; omega) (by rw [ki]; omega))), by rw [g280]; omega⟩)
          · refine s_blx (lv' := [(4, vI (move - 20)), (3, vI w1), (0, vR 77), (1, vI said), (2, vI move)]) (st' := [vI 0]) B188_97_98 rfl ?_
            have g281 : gi M103 77 14 = said := (u104.gi_ne (by decide) (Or.inr (by decide))).trans (p101)
            exact r_zretI D188_98 rfl (by omega) (⟨H105, f107, by omega, fun h => absurd h (by omega), fun _ hl => kc0 (by omega) ((LG_m (by omega)).mp hl), fun h => absurd h (by omega), by rw [g281]; omega⟩)
      · refine s_blx (lv' := [(3, vI w1), (0, vR 77), (1, vI said), (2, vI move)]) (st' := [vR 77]) B188_57_58 rfl ?_
        refine r_gint (ki := 9) (pc' := 61) D188_58 rfl gf_11_190_77 rfl H105.1 ?_
        intro w282 e283 r284
        have e285 : ov = w282 := (e283.trans ((u104.gi_ne (by decide) (Or.inr (by decide))).trans ((u99.gi_ne (by decide) (Or.inr (by decide))).trans ((u94.gi_ne (by decide) (Or.inr (by decide))).trans (h5))))).symm
        subst e285
        refine r_ifc (tgt := 73) (pc' := 64) D188_61 rfl rfl (by unfold inR; omega) (fun (c286 : ov = 0) => ?_) (fun (c286 : ¬ (ov = 0)) => ?_)
        · refine s_blx (lv' := [(3, vI w1), (0, vR 77), (1, vI said), (2, vI move)]) (st' := [vI 0]) B188_73_74 rfl ?_
          have g287 : gi M103 77 14 = said := (u104.gi_ne (by decide) (Or.inr (by decide))).trans (p101)
          exact r_zretI D188_74 rfl (by omega) (⟨H105, f107, by omega, fun h => (LG_4 (by omega)).mpr (by omega), fun h hl => by have q := (LG_4 (by omega)).mp hl; omega, fun _ => Or.inr (Or.inl (by omega)), by rw [g287]; omega⟩)
        · refine s_blx (lv' := [(3, vI w1), (0, vR 77), (1, vI said), (2, vI move)]) (st' := [vI 3, vI w1]) B188_64_66 rfl ?_
          refine r_icmp (tgt := 73) (pc' := 69) D188_66 rfl rfl (by unfold inR; omega) (fun (c288 : w1 ≠ 3) => ?_) (fun (c288 : ¬ (w1 ≠ 3)) => ?_)
          · refine s_blx (lv' := [(3, vI w1), (0, vR 77), (1, vI said), (2, vI move)]) (st' := [vI 0]) B188_73_74 rfl ?_
            have g289 : gi M103 77 14 = said := (u104.gi_ne (by decide) (Or.inr (by decide))).trans (p101)
            exact r_zretI D188_74 rfl (by omega) (⟨H105, f107, by omega, fun h => (LG_4 (by omega)).mpr (by omega), fun h hl => by have q := (LG_4 (by omega)).mp hl; omega, fun _ => Or.inr (Or.inl (by omega)), by rw [g289]; omega⟩)
          · exfalso; omega
    · refine s_blx (lv' := [(3, vI w1), (0, vR 77), (1, vI said), (2, vI move)]) (st' := [vR 77]) B188_39_40 rfl ?_
      refine r_gint (ki := 9) (pc' := 43) D188_40 rfl gf_11_190_77 rfl H105.1 ?_
      intro w290 e291 r292
      have e293 : ov = w290 := (e291.trans ((u104.gi_ne (by decide) (Or.inr (by decide))).trans ((u99.gi_ne (by decide) (Or.inr (by decide))).trans ((u94.gi_ne (by decide) (Or.inr (by decide))).trans (h5))))).symm
      subst e293
      refine r_ifc (tgt := 50) (pc' := 46) D188_43 rfl rfl (by unfold inR; omega) (fun (c294 : ov ≠ 0) => ?_) (fun (c294 : ¬ (ov ≠ 0)) => ?_)
      · refine s_blx (lv' := [(3, vI w1), (0, vR 77), (1, vI said), (2, vI move)]) (st' := [vI 0]) B188_50_51 rfl ?_
        have g295 : gi M103 77 14 = said := (u104.gi_ne (by decide) (Or.inr (by decide))).trans (p101)
        exact r_zretI D188_51 rfl (by omega) (⟨H105, f107, by omega, fun h => (LG_0 (by omega)).mpr (by omega), fun h hl => by have q := (LG_0 (by omega)).mp hl; omega, fun _ => Or.inl (by omega), by rw [g295]; omega⟩)
      · refine s_blx (lv' := [(3, vI w1), (0, vR 77), (1, vI said), (2, vI move)]) (st' := [vI 1]) B188_46_47 rfl ?_
        refine r_goto (tgt := 51) D188_47 rfl ?_
        have g296 : gi M103 77 14 = said := (u104.gi_ne (by decide) (Or.inr (by decide))).trans (p101)
        exact r_zretI D188_51 rfl (by omega) (⟨H105, f107, by omega, fun h => (LG_0 (by omega)).mpr (by omega), fun h hl => by have q := (LG_0 (by omega)).mp hl; omega, fun _ => Or.inl (by omega), by rw [g296]; omega⟩)
