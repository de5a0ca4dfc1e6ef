/-! What was said, as a number; what a move makes of it; what is still to be done. -/
/-- a cell, as a function -/
def CE (c : Nat) (f : Int → Int) (M : mH) : Prop := ∀ j : Int, gi M c j = f j
theorem CE.fr {c : Nat} {f : Int → Int} {L : List (Nat × Nat)} {M M' : mH} (h : CE c f M) (g : Fr L M M') (hc : s_al L (fun x => x != c) = true) : CE c f M' := fun j => (g.g (s_al_ok hc (by simp))).trans (h j)
theorem CE.wr {c : Nat} {f : Int → Int} {M M' : mH} {c' i : Nat} {v : Value} (h : CE c f M) (u : Wr M c' i v M') (hc : c' ≠ c) : CE c f M' := fun j => by
  rw [← h j]; unfold gi; rw [u.ne (Or.inl (Ne.symm hc))]
/-- three places of a cell, as a function -/
def C3 (c : Nat) (f : Int → Int) (M : mH) : Prop := ∀ j : Int, 0 ≤ j → j ≤ 2 → gi M c j = f j
theorem C3.fr {c : Nat} {f : Int → Int} {L : List (Nat × Nat)} {M M' : mH} (h : C3 c f M) (g : Fr L M M') (hc : s_al L (fun x => x != c) = true) : C3 c f M' := fun j h1 h2 => (g.g (s_al_ok hc (by simp))).trans (h j h1 h2)
theorem C3.wr {c : Nat} {f : Int → Int} {M M' : mH} {c' i : Nat} {v : Value} (h : C3 c f M) (u : Wr M c' i v M') (hc : c' ≠ c) : C3 c f M' := fun j h1 h2 => by
  rw [← h j h1 h2]; unfold gi; rw [u.ne (Or.inl (Ne.symm hc))]
def DN (s : Int) : Int := if s < 1 then 0 else if s < 11 then 1 else if s < 111 then 2 else 3
def DG (s i : Int) : Int := if s < 11 then s - 1 else if s < 111 then (if i = 0 then (s - 11) / 10 else (s - 11) % 10) else if i = 0 then (s - 111) / 100 else if i = 1 then (s - 111) / 10 % 10 else (s - 111) % 10
theorem DN0 {s : Int} (h : s < 1) : DN s = 0 := by unfold DN; rw [if_pos h]
theorem DN1 {s : Int} (h : 1 ≤ s ∧ s ≤ 10) : DN s = 1 := by unfold DN; rw [if_neg (by omega), if_pos (by omega)]
theorem DN2 {s : Int} (h : 11 ≤ s ∧ s ≤ 110) : DN s = 2 := by unfold DN; rw [if_neg (by omega), if_neg (by omega), if_pos (by omega)]
theorem DN3 {s : Int} (h : 111 ≤ s) : DN s = 3 := by unfold DN; rw [if_neg (by omega), if_neg (by omega), if_neg (by omega)]
theorem DN_of (s : Int) : (s < 1 ∧ DN s = 0) ∨ (1 ≤ s ∧ s ≤ 10 ∧ DN s = 1) ∨ (11 ≤ s ∧ s ≤ 110 ∧ DN s = 2) ∨ (111 ≤ s ∧ DN s = 3) := by
  by_cases a : s < 1
  · exact Or.inl ⟨a, DN0 a⟩
  · by_cases b : s ≤ 10
    · exact Or.inr (Or.inl ⟨by omega, b, DN1 (by omega)⟩)
    · by_cases c : s ≤ 110
      · exact Or.inr (Or.inr (Or.inl ⟨by omega, c, DN2 (by omega)⟩))
      · exact Or.inr (Or.inr (Or.inr ⟨by omega, DN3 (by omega)⟩))
theorem TB.dn {M : mH} (h : TB M) {s : Int} (hs : 0 ≤ s ∧ s ≤ 1110) : gi M 81 s = DN s := by
  have := h.at hs
  have := DN_of s
  omega
theorem DG1 {s i : Int} (h : s ≤ 10) : DG s i = s - 1 := by unfold DG; rw [if_pos (by omega)]
theorem DG20 {s : Int} (h : 11 ≤ s ∧ s ≤ 110) : DG s 0 = (s - 11) / 10 := by unfold DG; rw [if_neg (by omega), if_pos (by omega), if_pos rfl]
theorem DG21 {s : Int} (h : 11 ≤ s ∧ s ≤ 110) : DG s 1 = (s - 11) % 10 := by unfold DG; rw [if_neg (by omega), if_pos (by omega), if_neg (by omega)]
theorem DG30 {s : Int} (h : 111 ≤ s) : DG s 0 = (s - 111) / 100 := by unfold DG; rw [if_neg (by omega), if_neg (by omega), if_pos rfl]
theorem DG31 {s : Int} (h : 111 ≤ s) : DG s 1 = (s - 111) / 10 % 10 := by unfold DG; rw [if_neg (by omega), if_neg (by omega), if_neg (by omega), if_pos rfl]
theorem DG32 {s : Int} (h : 111 ≤ s) : DG s 2 = (s - 111) % 10 := by unfold DG; rw [if_neg (by omega), if_neg (by omega), if_neg (by omega), if_neg (by omega)]
theorem TB.dg {M : mH} (h : TB M) {s i : Int} (hs : 0 ≤ s ∧ s ≤ 1110) (hi : 0 ≤ i) (hd : i < DN s) : gi M 82 (3 * s + i) = DG s i := by
  have h1 := h.at hs
  rcases DN_of s with ⟨a, b⟩ | ⟨a, a2, b⟩ | ⟨a, a2, b⟩ | ⟨a, b⟩
  · omega
  · have : i = 0 := by omega
    subst this
    rw [Int.add_zero, DG1 a2]; omega
  · have : i = 0 ∨ i = 1 := by omega
    rcases this with rfl | rfl
    · rw [Int.add_zero, DG20 ⟨a, a2⟩]; omega
    · rw [DG21 ⟨a, a2⟩]; omega
  · have : i = 0 ∨ i = 1 ∨ i = 2 := by omega
    rcases this with rfl | rfl | rfl
    · rw [Int.add_zero, DG30 a]; omega
    · rw [DG31 a]; omega
    · rw [DG32 a]; omega
/-- a digit that can be mended -/
def mb (u d : Int) : Int := if d < 8 ∧ u ≠ -1 ∧ u ≠ d then 1 else 0
theorem mb_01 (u d : Int) : mb u d = 0 ∨ mb u d = 1 := by
  unfold mb; by_cases h : d < 8 ∧ u ≠ -1 ∧ u ≠ d
  · rw [if_pos h]; exact Or.inr rfl
  · rw [if_neg h]; exact Or.inl rfl
theorem mb_0 {u d : Int} (h : 8 ≤ d ∨ u = -1 ∨ u = d) : mb u d = 0 := by unfold mb; rw [if_neg (by omega)]
theorem mb_1 {u d : Int} (h : d < 8 ∧ u ≠ -1 ∧ u ≠ d) : mb u d = 1 := by unfold mb; rw [if_pos h]
/-- what is still to be done, mendings too -/
def mu (o : Int) (U : Int → Int) (s : Int) : Int := if s < 1 then 3 else if s < 11 then 2 + mb (U (sl o 0)) (s - 1) else if s < 111 then 1 + mb (U (sl o 0)) ((s - 11) / 10) + mb (U (sl o 1)) ((s - 11) % 10) else mb (U (sl o 0)) ((s - 111) / 100) + mb (U (sl o 1)) ((s - 111) / 10 % 10) + mb (U (sl o 2)) ((s - 111) % 10)
theorem mu0 {o : Int} {U : Int → Int} {s : Int} (h : s < 1) : mu o U s = 3 := by unfold mu; rw [if_pos h]
theorem mu1 {o : Int} {U : Int → Int} {s : Int} (h : 1 ≤ s ∧ s ≤ 10) : mu o U s = 2 + mb (U (sl o 0)) (s - 1) := by unfold mu; rw [if_neg (by omega), if_pos (by omega)]
theorem mu2 {o : Int} {U : Int → Int} {s : Int} (h : 11 ≤ s ∧ s ≤ 110) : mu o U s = 1 + mb (U (sl o 0)) ((s - 11) / 10) + mb (U (sl o 1)) ((s - 11) % 10) := by unfold mu; rw [if_neg (by omega), if_neg (by omega), if_pos (by omega)]
theorem mu3 {o : Int} {U : Int → Int} {s : Int} (h : 111 ≤ s) : mu o U s = mb (U (sl o 0)) ((s - 111) / 100) + mb (U (sl o 1)) ((s - 111) / 10 % 10) + mb (U (sl o 2)) ((s - 111) % 10) := by unfold mu; rw [if_neg (by omega), if_neg (by omega), if_neg (by omega)]
theorem mu_le (o : Int) (U : Int → Int) (s : Int) : 0 ≤ mu o U s ∧ mu o U s ≤ 3 := by
  rcases DN_of s with ⟨a, b⟩ | ⟨a, a2, b⟩ | ⟨a, a2, b⟩ | ⟨a, b⟩
  · rw [mu0 a]; omega
  · rw [mu1 ⟨a, a2⟩]; have := mb_01 (U (sl o 0)) (s - 1); omega
  · rw [mu2 ⟨a, a2⟩]; have := mb_01 (U (sl o 0)) ((s - 11) / 10); have := mb_01 (U (sl o 1)) ((s - 11) % 10); omega
  · rw [mu3 a]; have := mb_01 (U (sl o 0)) ((s - 111) / 100); have := mb_01 (U (sl o 1)) ((s - 111) / 10 % 10); have := mb_01 (U (sl o 2)) ((s - 111) % 10); omega
theorem mu_add {o : Int} {U : Int → Int} {s d s' : Int} (hs : 0 ≤ s) (hk : DN s < 3) (hd : 0 ≤ d ∧ d ≤ 9) (hb : mb (U (sl o (DN s))) d = 0) (h0 : DN s = 0 → s' = 1 + d) (h1 : DN s = 1 → s' = 11 + 10 * (s - 1) + d) (h2 : DN s = 2 → s' = 111 + 10 * (s - 11) + d) : mu o U s' = mu o U s - 1 := by
  rcases DN_of s with ⟨a, b⟩ | ⟨a, a2, b⟩ | ⟨a, a2, b⟩ | ⟨a, b⟩
  · have e := h0 b
    rw [b] at hb
    rw [mu0 a, mu1 (by omega), show s' - 1 = d by omega, hb]; omega
  · have e := h1 b
    rw [b] at hb
    rw [mu1 ⟨a, a2⟩, mu2 (by omega), show (s' - 11) / 10 = s - 1 by omega, show (s' - 11) % 10 = d by omega, hb]; omega
  · have e := h2 b
    rw [b] at hb
    rw [mu2 ⟨a, a2⟩, mu3 (by omega), show (s' - 111) / 100 = (s - 11) / 10 by omega, show (s' - 111) / 10 % 10 = (s - 11) % 10 by omega, show (s' - 111) % 10 = d by omega, hb]; omega
  · omega
theorem mu_chg {o : Int} {U : Int → Int} {s i s' : Int} (hs : 0 ≤ s ∧ s ≤ 1110) (hi : 0 ≤ i ∧ i < DN s) (hb : mb (U (sl o i)) (DG s i) = 1) (hu : 0 ≤ U (sl o i) ∧ U (sl o i) ≤ 7) (h0 : DN s - 1 - i = 0 → s' = s + (U (sl o i) - DG s i)) (h1 : DN s - 1 - i = 1 → s' = s + 10 * (U (sl o i) - DG s i)) (h2 : DN s - 1 - i ≠ 0 → DN s - 1 - i ≠ 1 → s' = s + 100 * (U (sl o i) - DG s i)) : mu o U s' = mu o U s - 1 := by
  rcases DN_of s with ⟨a, b⟩ | ⟨a, a2, b⟩ | ⟨a, a2, b⟩ | ⟨a, b⟩
  · omega
  · have : i = 0 := by omega
    subst this
    rw [DG1 a2] at hb h0
    have e := h0 (by omega)
    rw [mu1 ⟨a, a2⟩, mu1 (by omega), show s' - 1 = U (sl o 0) by omega, mb_0 (Or.inr (Or.inr rfl)), hb]; omega
  · have : i = 0 ∨ i = 1 := by omega
    rcases this with rfl | rfl
    · rw [DG20 ⟨a, a2⟩] at hb h1
      have e := h1 (by omega)
      rw [mu2 ⟨a, a2⟩, mu2 (by omega), show (s' - 11) / 10 = U (sl o 0) by omega, show (s' - 11) % 10 = (s - 11) % 10 by omega, mb_0 (Or.inr (Or.inr rfl)), hb]; omega
    · rw [DG21 ⟨a, a2⟩] at hb h0
      have e := h0 (by omega)
      rw [mu2 ⟨a, a2⟩, mu2 (by omega), show (s' - 11) / 10 = (s - 11) / 10 by omega, show (s' - 11) % 10 = U (sl o 1) by omega, mb_0 (u := U (sl o 1)) (Or.inr (Or.inr rfl)), hb]; omega
  · have : i = 0 ∨ i = 1 ∨ i = 2 := by omega
    rcases this with rfl | rfl | rfl
    · rw [DG30 a] at hb h2
      have e := h2 (by omega) (by omega)
      rw [mu3 a, mu3 (by omega), show (s' - 111) / 100 = U (sl o 0) by omega, show (s' - 111) / 10 % 10 = (s - 111) / 10 % 10 by omega, show (s' - 111) % 10 = (s - 111) % 10 by omega, mb_0 (u := U (sl o 0)) (Or.inr (Or.inr rfl)), hb]; omega
    · rw [DG31 a] at hb h1
      have e := h1 (by omega)
      rw [mu3 a, mu3 (by omega), show (s' - 111) / 100 = (s - 111) / 100 by omega, show (s' - 111) / 10 % 10 = U (sl o 1) by omega, show (s' - 111) % 10 = (s - 111) % 10 by omega, mb_0 (u := U (sl o 1)) (Or.inr (Or.inr rfl)), hb]; omega
    · rw [DG32 a] at hb h0
      have e := h0 (by omega)
      rw [mu3 a, mu3 (by omega), show (s' - 111) / 100 = (s - 111) / 100 by omega, show (s' - 111) / 10 % 10 = (s - 111) / 10 % 10 by omega, show (s' - 111) % 10 = U (sl o 2) by omega, mb_0 (u := U (sl o 2)) (Or.inr (Or.inr rfl)), hb]; omega
theorem chg_rng {s i u s' : Int} (hs : 0 ≤ s ∧ s ≤ 1110) (hi : 0 ≤ i ∧ i < DN s) (hu : 0 ≤ u ∧ u ≤ 7) (h0 : DN s - 1 - i = 0 → s' = s + (u - DG s i)) (h1 : DN s - 1 - i = 1 → s' = s + 10 * (u - DG s i)) (h2 : DN s - 1 - i ≠ 0 → DN s - 1 - i ≠ 1 → s' = s + 100 * (u - DG s i)) : 0 ≤ s' ∧ s' ≤ 1110 := by
  rcases DN_of s with ⟨a, b⟩ | ⟨a, a2, b⟩ | ⟨a, a2, b⟩ | ⟨a, b⟩
  · omega
  · have : i = 0 := by omega
    subst this
    rw [DG1 a2] at h0
    have e := h0 (by omega)
    omega
  · have : i = 0 ∨ i = 1 := by omega
    rcases this with rfl | rfl
    · rw [DG20 ⟨a, a2⟩] at h1
      have e := h1 (by omega)
      omega
    · rw [DG21 ⟨a, a2⟩] at h0
      have e := h0 (by omega)
      omega
  · have : i = 0 ∨ i = 1 ∨ i = 2 := by omega
    rcases this with rfl | rfl | rfl
    · rw [DG30 a] at h2
      have e := h2 (by omega) (by omega)
      omega
    · rw [DG31 a] at h1
      have e := h1 (by omega)
      omega
    · rw [DG32 a] at h0
      have e := h0 (by omega)
      omega
/-- a slot can be mended -/
def CM (o : Int) (U : Int → Int) (s slot : Int) : Prop := ∃ i : Int, 0 ≤ i ∧ i ≤ 2 ∧ sl o i = slot ∧ i < DN s ∧ DG s i < 8 ∧ U slot ≠ -1 ∧ U slot ≠ DG s i
/-- a move can be made -/
def LG (o ov : Int) (U A O : Int → Int) (s m : Int) : Prop :=
  if m = 0 then ov = 0 else if m = 4 then ov = 1 ∧ DN s = 3 else if 20 ≤ m then CM o U s (m - 20) else if DN s = 3 then False else if m = 3 then True else if m = 1 then ¬ U (sl o (DN s)) = -1 else if ¬ U (sl o (DN s)) = -1 then False else if m = 2 then ¬ O (sl o (DN s)) = -1 else ¬ srI (A (sl o (DN s))) (m - 10) % 2 = 0
section
variable {o ov : Int} {U A O : Int → Int} {s m : Int}
theorem LG_0 (h : m = 0) : LG o ov U A O s m ↔ ov = 0 := by unfold LG; rw [if_pos h]
theorem LG_4 (h : m = 4) : LG o ov U A O s m ↔ ov = 1 ∧ DN s = 3 := by unfold LG; rw [if_neg (by omega), if_pos h]
theorem LG_m (h : 20 ≤ m) : LG o ov U A O s m ↔ CM o U s (m - 20) := by unfold LG; rw [if_neg (by omega), if_neg (by omega), if_pos h]
theorem LG_n (h : DN s = 3) (h0 : m ≠ 0) (h4 : m ≠ 4) (hm : m < 20) : ¬ LG o ov U A O s m := by unfold LG; rw [if_neg h0, if_neg h4, if_neg (by omega), if_pos h]; exact id
theorem LG_3 (h : ¬ DN s = 3) (hm : m = 3) : LG o ov U A O s m := by unfold LG; rw [if_neg (by omega), if_neg (by omega), if_neg (by omega), if_neg h, if_pos hm]; trivial
theorem LG_1 (h : ¬ DN s = 3) (hm : m = 1) : LG o ov U A O s m ↔ ¬ U (sl o (DN s)) = -1 := by unfold LG; rw [if_neg (by omega), if_neg (by omega), if_neg (by omega), if_neg h, if_neg (by omega), if_pos hm]
theorem LG_s (h : ¬ DN s = 3) (h0 : m ≠ 0) (h4 : m ≠ 4) (hm : m < 20) (h3 : m ≠ 3) (h1 : m ≠ 1) (hu : ¬ U (sl o (DN s)) = -1) : ¬ LG o ov U A O s m := by unfold LG; rw [if_neg h0, if_neg h4, if_neg (by omega), if_neg h, if_neg h3, if_neg h1, if_pos hu]; exact id
theorem LG_2 (h : ¬ DN s = 3) (hm : m = 2) (hu : ¬ ¬ U (sl o (DN s)) = -1) : LG o ov U A O s m ↔ ¬ O (sl o (DN s)) = -1 := by unfold LG; rw [if_neg (by omega), if_neg (by omega), if_neg (by omega), if_neg h, if_neg (by omega), if_neg (by omega), if_neg hu, if_pos hm]
theorem LG_g (h : ¬ DN s = 3) (h0 : m ≠ 0) (h4 : m ≠ 4) (hm : m < 20) (h3 : m ≠ 3) (h1 : m ≠ 1) (h2 : m ≠ 2) (hu : ¬ ¬ U (sl o (DN s)) = -1) : LG o ov U A O s m ↔ ¬ srI (A (sl o (DN s))) (m - 10) % 2 = 0 := by unfold LG; rw [if_neg h0, if_neg h4, if_neg (by omega), if_neg h, if_neg h3, if_neg h1, if_neg hu, if_neg h2]
end
set_option maxRecDepth 4000 in
theorem k182f {base : Nat} {X : Nat → Option mC} {G : Nat → Value} (E : EnvOK base X G) {d : Nat} (hd : 0 ≤ d) {M : mH} (H : HI base M) (i : Int) (o : Int) (h0 : gi M 78 473 = o) (h1 : 0 ≤ i ∧ i ≤ 2) : sOk base X G d T182 [vR 77, vI i] M (pI (fun v M' => M' = M ∧ (0 ≤ v ∧ v ≤ 2) ∧ v = sl o i)) := by
  refine sOk.of (show sRn base X G d T182 0 [(0, vR 77), (1, vI i)] [] M _ from ?_)
  refine s_blx (lv' := [(0, vR 77), (1, vI i)]) (st' := [vR 77]) B182_0_1 rfl ?_
  refine r_gfix (r := 78) (pc' := 4) D182_1 rfl gf_11_13_77 H.1 ?_
  refine s_blx (lv' := [(0, vR 77), (1, vI i)]) (st' := [vI 473, vR 78]) B182_4_7 rfl ?_
  refine r_iald (pc' := 8) D182_7 rfl sc_78 H.1 (by omega) ?_
  intro w1 e2 r3
  have b_w1 := H.2 78 (473) 0 5 (rk_order (by omega))
  rw [← e2] at b_w1; clear r3
  refine s_blx (lv' := [(0, vR 77), (1, vI i)]) (st' := [vI 2, vI w1]) B182_8_9 rfl ?_
  refine r_idiv (pc' := 10) D182_9 rfl (by omega) ?_
  refine s_blx (lv' := [(2, vI (w1 / 2)), (0, vR 77), (1, vI i)]) (st' := [vI (w1 / 2)]) B182_10_12 rfl ?_
  refine r_ifc (tgt := 19) (pc' := 15) D182_12 rfl rfl (by unfold inR; omega) (fun (c4 : (w1 / 2) ≠ 0) => ?_) (fun (c4 : ¬ ((w1 / 2) ≠ 0)) => ?_)
  · refine s_blx (lv' := [(3, vI 0), (2, vI (w1 / 2)), (0, vR 77), (1, vI i)]) (st' := [vI 2, vI (w1 / 2)]) B182_19_23 rfl ?_
    refine r_icmp (tgt := 30) (pc' := 26) D182_23 rfl rfl (by unfold inR; omega) (fun (c5 : (w1 / 2) ≠ 2) => ?_) (fun (c5 : ¬ ((w1 / 2) ≠ 2)) => ?_)
    · refine s_blx (lv' := [(4, vI 2), (3, vI 0), (2, vI (w1 / 2)), (0, vR 77), (1, vI i)]) (st' := [vR 77]) B182_30_34 rfl ?_
      refine r_gfix (r := 78) (pc' := 37) D182_34 rfl gf_11_13_77 H.1 ?_
      refine s_blx (lv' := [(4, vI 2), (3, vI 0), (2, vI (w1 / 2)), (0, vR 77), (1, vI i)]) (st' := [vI 473, vR 78]) B182_37_40 rfl ?_
      refine r_iald (pc' := 41) D182_40 rfl sc_78 H.1 (by omega) ?_
      intro w6 e7 r8
      have e9 : w1 = w6 := (e7.trans (e2.symm)).symm
      subst e9
      refine s_blx (lv' := [(4, vI 2), (3, vI 0), (2, vI (w1 / 2)), (0, vR 77), (1, vI i)]) (st' := [vI 2, vI w1]) B182_41_42 rfl ?_
      refine r_irem (pc' := 43) D182_42 rfl (by omega) ?_
      refine r_ifc (tgt := 50) (pc' := 46) D182_43 rfl rfl (by unfold inR; omega) (fun (c10 : (w1 % 2) ≠ 0) => ?_) (fun (c10 : ¬ ((w1 % 2) ≠ 0)) => ?_)
      · refine s_blx (lv' := [(5, vI 0), (4, vI 2), (3, vI 0), (2, vI (w1 / 2)), (0, vR 77), (1, vI i)]) (st' := [vI i]) B182_50_54 rfl ?_
        refine r_ifc (tgt := 61) (pc' := 57) D182_54 rfl rfl (by unfold inR; omega) (fun (c11 : i ≠ 0) => ?_) (fun (c11 : ¬ (i ≠ 0)) => ?_)
        · refine s_blx (lv' := [(5, vI 0), (4, vI 2), (3, vI 0), (2, vI (w1 / 2)), (0, vR 77), (1, vI i)]) (st' := [vI 1, vI i]) B182_61_63 rfl ?_
          refine r_icmp (tgt := 70) (pc' := 66) D182_63 rfl rfl (by unfold inR; omega) (fun (c12 : i ≠ 1) => ?_) (fun (c12 : ¬ (i ≠ 1)) => ?_)
          · refine s_blx (lv' := [(5, vI 0), (4, vI 2), (3, vI 0), (2, vI (w1 / 2)), (0, vR 77), (1, vI i)]) (st' := [vI 0, vI 0]) B182_70_73 rfl ?_
            refine r_icmp (tgt := 80) (pc' := 76) D182_73 rfl rfl (by unfold inR; omega) (fun (c13 : 0 ≠ 0) => ?_) (fun (c13 : ¬ (0 ≠ 0)) => ?_)
            · exfalso; omega
            · refine s_blx (lv' := [(5, vI 0), (4, vI 2), (3, vI 0), (2, vI (w1 / 2)), (0, vR 77), (1, vI i)]) (st' := [vI 0]) B182_76_77 rfl ?_
              refine r_goto (tgt := 82) D182_77 rfl ?_
              exact r_iretI D182_82 rfl (⟨rfl, by omega, by rw [← h0]; exact sl_abc (by have q := H.2 78 473 0 5 (rk_order (by omega)); omega) (by omega) (by subst_vars; omega) (by subst_vars; omega) (by subst_vars; omega) (by subst_vars; omega) (by subst_vars; omega)⟩)
          · refine s_blx (lv' := [(5, vI 0), (4, vI 2), (3, vI 0), (2, vI (w1 / 2)), (0, vR 77), (1, vI i)]) (st' := [vI 1]) B182_66_67 rfl ?_
            refine r_goto (tgt := 71) D182_67 rfl ?_
            refine s_blx (lv' := [(5, vI 0), (4, vI 2), (3, vI 0), (2, vI (w1 / 2)), (0, vR 77), (1, vI i)]) (st' := [vI 0, vI 1]) B182_71_73 rfl ?_
            refine r_icmp (tgt := 80) (pc' := 76) D182_73 rfl rfl (by unfold inR; omega) (fun (c14 : 1 ≠ 0) => ?_) (fun (c14 : ¬ (1 ≠ 0)) => ?_)
            · refine s_blx (lv' := [(5, vI 0), (4, vI 2), (3, vI 0), (2, vI (w1 / 2)), (0, vR 77), (1, vI i)]) (st' := [vI 2]) B182_80_82 rfl ?_
              exact r_iretI D182_82 rfl (⟨rfl, by omega, by rw [← h0]; exact sl_abc (by have q := H.2 78 473 0 5 (rk_order (by omega)); omega) (by omega) (by subst_vars; omega) (by subst_vars; omega) (by subst_vars; omega) (by subst_vars; omega) (by subst_vars; omega)⟩)
            · exfalso; omega
        · refine s_blx (lv' := [(5, vI 0), (4, vI 2), (3, vI 0), (2, vI (w1 / 2)), (0, vR 77), (1, vI i)]) (st' := [vI (w1 / 2)]) B182_57_58 rfl ?_
          refine r_goto (tgt := 82) D182_58 rfl ?_
          exact r_iretI D182_82 rfl (⟨rfl, by omega, by rw [← h0]; exact sl_abc (by have q := H.2 78 473 0 5 (rk_order (by omega)); omega) (by omega) (by subst_vars; omega) (by subst_vars; omega) (by subst_vars; omega) (by subst_vars; omega) (by subst_vars; omega)⟩)
      · refine s_blx (lv' := [(4, vI 2), (3, vI 0), (2, vI (w1 / 2)), (0, vR 77), (1, vI i)]) (st' := [vI 1]) B182_46_47 rfl ?_
        refine r_goto (tgt := 51) D182_47 rfl ?_
        refine s_blx (lv' := [(5, vI 1), (4, vI 2), (3, vI 0), (2, vI (w1 / 2)), (0, vR 77), (1, vI i)]) (st' := [vI i]) B182_51_54 rfl ?_
        refine r_ifc (tgt := 61) (pc' := 57) D182_54 rfl rfl (by unfold inR; omega) (fun (c15 : i ≠ 0) => ?_) (fun (c15 : ¬ (i ≠ 0)) => ?_)
        · refine s_blx (lv' := [(5, vI 1), (4, vI 2), (3, vI 0), (2, vI (w1 / 2)), (0, vR 77), (1, vI i)]) (st' := [vI 1, vI i]) B182_61_63 rfl ?_
          refine r_icmp (tgt := 70) (pc' := 66) D182_63 rfl rfl (by unfold inR; omega) (fun (c16 : i ≠ 1) => ?_) (fun (c16 : ¬ (i ≠ 1)) => ?_)
          · refine s_blx (lv' := [(5, vI 1), (4, vI 2), (3, vI 0), (2, vI (w1 / 2)), (0, vR 77), (1, vI i)]) (st' := [vI 1, vI 0]) B182_70_73 rfl ?_
            refine r_icmp (tgt := 80) (pc' := 76) D182_73 rfl rfl (by unfold inR; omega) (fun (c17 : 0 ≠ 1) => ?_) (fun (c17 : ¬ (0 ≠ 1)) => ?_)
            · refine s_blx (lv' := [(5, vI 1), (4, vI 2), (3, vI 0), (2, vI (w1 / 2)), (0, vR 77), (1, vI i)]) (st' := [vI 2]) B182_80_82 rfl ?_
              exact r_iretI D182_82 rfl (⟨rfl, by omega, by rw [← h0]; exact sl_abc (by have q := H.2 78 473 0 5 (rk_order (by omega)); omega) (by omega) (by subst_vars; omega) (by subst_vars; omega) (by subst_vars; omega) (by subst_vars; omega) (by subst_vars; omega)⟩)
            · exfalso; omega
          · refine s_blx (lv' := [(5, vI 1), (4, vI 2), (3, vI 0), (2, vI (w1 / 2)), (0, vR 77), (1, vI i)]) (st' := [vI 1]) B182_66_67 rfl ?_
            refine r_goto (tgt := 71) D182_67 rfl ?_
            refine s_blx (lv' := [(5, vI 1), (4, vI 2), (3, vI 0), (2, vI (w1 / 2)), (0, vR 77), (1, vI i)]) (st' := [vI 1, vI 1]) B182_71_73 rfl ?_
            refine r_icmp (tgt := 80) (pc' := 76) D182_73 rfl rfl (by unfold inR; omega) (fun (c18 : 1 ≠ 1) => ?_) (fun (c18 : ¬ (1 ≠ 1)) => ?_)
            · exfalso; omega
            · refine s_blx (lv' := [(5, vI 1), (4, vI 2), (3, vI 0), (2, vI (w1 / 2)), (0, vR 77), (1, vI i)]) (st' := [vI 0]) B182_76_77 rfl ?_
              refine r_goto (tgt := 82) D182_77 rfl ?_
              exact r_iretI D182_82 rfl (⟨rfl, by omega, by rw [← h0]; exact sl_abc (by have q := H.2 78 473 0 5 (rk_order (by omega)); omega) (by omega) (by subst_vars; omega) (by subst_vars; omega) (by subst_vars; omega) (by subst_vars; omega) (by subst_vars; omega)⟩)
        · refine s_blx (lv' := [(5, vI 1), (4, vI 2), (3, vI 0), (2, vI (w1 / 2)), (0, vR 77), (1, vI i)]) (st' := [vI (w1 / 2)]) B182_57_58 rfl ?_
          refine r_goto (tgt := 82) D182_58 rfl ?_
          exact r_iretI D182_82 rfl (⟨rfl, by omega, by rw [← h0]; exact sl_abc (by have q := H.2 78 473 0 5 (rk_order (by omega)); omega) (by omega) (by subst_vars; omega) (by subst_vars; omega) (by subst_vars; omega) (by subst_vars; omega) (by subst_vars; omega)⟩)
    · refine s_blx (lv' := [(3, vI 0), (2, vI (w1 / 2)), (0, vR 77), (1, vI i)]) (st' := [vI 1]) B182_26_27 rfl ?_
      refine r_goto (tgt := 31) D182_27 rfl ?_
      refine s_blx (lv' := [(4, vI 1), (3, vI 0), (2, vI (w1 / 2)), (0, vR 77), (1, vI i)]) (st' := [vR 77]) B182_31_34 rfl ?_
      refine r_gfix (r := 78) (pc' := 37) D182_34 rfl gf_11_13_77 H.1 ?_
      refine s_blx (lv' := [(4, vI 1), (3, vI 0), (2, vI (w1 / 2)), (0, vR 77), (1, vI i)]) (st' := [vI 473, vR 78]) B182_37_40 rfl ?_
      refine r_iald (pc' := 41) D182_40 rfl sc_78 H.1 (by omega) ?_
      intro w19 e20 r21
      have e22 : w1 = w19 := (e20.trans (e2.symm)).symm
      subst e22
      refine s_blx (lv' := [(4, vI 1), (3, vI 0), (2, vI (w1 / 2)), (0, vR 77), (1, vI i)]) (st' := [vI 2, vI w1]) B182_41_42 rfl ?_
      refine r_irem (pc' := 43) D182_42 rfl (by omega) ?_
      refine r_ifc (tgt := 50) (pc' := 46) D182_43 rfl rfl (by unfold inR; omega) (fun (c23 : (w1 % 2) ≠ 0) => ?_) (fun (c23 : ¬ ((w1 % 2) ≠ 0)) => ?_)
      · refine s_blx (lv' := [(5, vI 0), (4, vI 1), (3, vI 0), (2, vI (w1 / 2)), (0, vR 77), (1, vI i)]) (st' := [vI i]) B182_50_54 rfl ?_
        refine r_ifc (tgt := 61) (pc' := 57) D182_54 rfl rfl (by unfold inR; omega) (fun (c24 : i ≠ 0) => ?_) (fun (c24 : ¬ (i ≠ 0)) => ?_)
        · refine s_blx (lv' := [(5, vI 0), (4, vI 1), (3, vI 0), (2, vI (w1 / 2)), (0, vR 77), (1, vI i)]) (st' := [vI 1, vI i]) B182_61_63 rfl ?_
          refine r_icmp (tgt := 70) (pc' := 66) D182_63 rfl rfl (by unfold inR; omega) (fun (c25 : i ≠ 1) => ?_) (fun (c25 : ¬ (i ≠ 1)) => ?_)
          · refine s_blx (lv' := [(5, vI 0), (4, vI 1), (3, vI 0), (2, vI (w1 / 2)), (0, vR 77), (1, vI i)]) (st' := [vI 0, vI 0]) B182_70_73 rfl ?_
            refine r_icmp (tgt := 80) (pc' := 76) D182_73 rfl rfl (by unfold inR; omega) (fun (c26 : 0 ≠ 0) => ?_) (fun (c26 : ¬ (0 ≠ 0)) => ?_)
            · exfalso; omega
            · refine s_blx (lv' := [(5, vI 0), (4, vI 1), (3, vI 0), (2, vI (w1 / 2)), (0, vR 77), (1, vI i)]) (st' := [vI 0]) B182_76_77 rfl ?_
              refine r_goto (tgt := 82) D182_77 rfl ?_
              exact r_iretI D182_82 rfl (⟨rfl, by omega, by rw [← h0]; exact sl_abc (by have q := H.2 78 473 0 5 (rk_order (by omega)); omega) (by omega) (by subst_vars; omega) (by subst_vars; omega) (by subst_vars; omega) (by subst_vars; omega) (by subst_vars; omega)⟩)
          · refine s_blx (lv' := [(5, vI 0), (4, vI 1), (3, vI 0), (2, vI (w1 / 2)), (0, vR 77), (1, vI i)]) (st' := [vI 1]) B182_66_67 rfl ?_
            refine r_goto (tgt := 71) D182_67 rfl ?_
            refine s_blx (lv' := [(5, vI 0), (4, vI 1), (3, vI 0), (2, vI (w1 / 2)), (0, vR 77), (1, vI i)]) (st' := [vI 0, vI 1]) B182_71_73 rfl ?_
            refine r_icmp (tgt := 80) (pc' := 76) D182_73 rfl rfl (by unfold inR; omega) (fun (c27 : 1 ≠ 0) => ?_) (fun (c27 : ¬ (1 ≠ 0)) => ?_)
            · refine s_blx (lv' := [(5, vI 0), (4, vI 1), (3, vI 0), (2, vI (w1 / 2)), (0, vR 77), (1, vI i)]) (st' := [vI 1]) B182_80_82 rfl ?_
              exact r_iretI D182_82 rfl (⟨rfl, by omega, by rw [← h0]; exact sl_abc (by have q := H.2 78 473 0 5 (rk_order (by omega)); omega) (by omega) (by subst_vars; omega) (by subst_vars; omega) (by subst_vars; omega) (by subst_vars; omega) (by subst_vars; omega)⟩)
            · exfalso; omega
        · refine s_blx (lv' := [(5, vI 0), (4, vI 1), (3, vI 0), (2, vI (w1 / 2)), (0, vR 77), (1, vI i)]) (st' := [vI (w1 / 2)]) B182_57_58 rfl ?_
          refine r_goto (tgt := 82) D182_58 rfl ?_
          exact r_iretI D182_82 rfl (⟨rfl, by omega, by rw [← h0]; exact sl_abc (by have q := H.2 78 473 0 5 (rk_order (by omega)); omega) (by omega) (by subst_vars; omega) (by subst_vars; omega) (by subst_vars; omega) (by subst_vars; omega) (by subst_vars; omega)⟩)
      · refine s_blx (lv' := [(4, vI 1), (3, vI 0), (2, vI (w1 / 2)), (0, vR 77), (1, vI i)]) (st' := [vI 1]) B182_46_47 rfl ?_
        refine r_goto (tgt := 51) D182_47 rfl ?_
        refine s_blx (lv' := [(5, vI 1), (4, vI 1), (3, vI 0), (2, vI (w1 / 2)), (0, vR 77), (1, vI i)]) (st' := [vI i]) B182_51_54 rfl ?_
        refine r_ifc (tgt := 61) (pc' := 57) D182_54 rfl rfl (by unfold inR; omega) (fun (c28 : i ≠ 0) => ?_) (fun (c28 : ¬ (i ≠ 0)) => ?_)
        · refine s_blx (lv' := [(5, vI 1), (4, vI 1), (3, vI 0), (2, vI (w1 / 2)), (0, vR 77), (1, vI i)]) (st' := [vI 1, vI i]) B182_61_63 rfl ?_
          refine r_icmp (tgt := 70) (pc' := 66) D182_63 rfl rfl (by unfold inR; omega) (fun (c29 : i ≠ 1) => ?_) (fun (c29 : ¬ (i ≠ 1)) => ?_)
          · refine s_blx (lv' := [(5, vI 1), (4, vI 1), (3, vI 0), (2, vI (w1 / 2)), (0, vR 77), (1, vI i)]) (st' := [vI 1, vI 0]) B182_70_73 rfl ?_
            refine r_icmp (tgt := 80) (pc' := 76) D182_73 rfl rfl (by unfold inR; omega) (fun (c30 : 0 ≠ 1) => ?_) (fun (c30 : ¬ (0 ≠ 1)) => ?_)
            · refine s_blx (lv' := [(5, vI 1), (4, vI 1), (3, vI 0), (2, vI (w1 / 2)), (0, vR 77), (1, vI i)]) (st' := [vI 1]) B182_80_82 rfl ?_
              exact r_iretI D182_82 rfl (⟨rfl, by omega, by rw [← h0]; exact sl_abc (by have q := H.2 78 473 0 5 (rk_order (by omega)); omega) (by omega) (by subst_vars; omega) (by subst_vars; omega) (by subst_vars; omega) (by subst_vars; omega) (by subst_vars; omega)⟩)
            · exfalso; omega
          · refine s_blx (lv' := [(5, vI 1), (4, vI 1), (3, vI 0), (2, vI (w1 / 2)), (0, vR 77), (1, vI i)]) (st' := [vI 1]) B182_66_67 rfl ?_
            refine r_goto (tgt := 71) D182_67 rfl ?_
            refine s_blx (lv' := [(5, vI 1), (4, vI 1), (3, vI 0), (2, vI (w1 / 2)), (0, vR 77), (1, vI i)]) (st' := [vI 1, vI 1]) B182_71_73 rfl ?_
            refine r_icmp (tgt := 80) (pc' := 76) D182_73 rfl rfl (by unfold inR; omega) (fun (c31 : 1 ≠ 1) => ?_) (fun (c31 : ¬ (1 ≠ 1)) => ?_)
            · exfalso; omega
            · refine s_blx (lv' := [(5, vI 1), (4, vI 1), (3, vI 0), (2, vI (w1 / 2)), (0, vR 77), (1, vI i)]) (st' := [vI 0]) B182_76_77 rfl ?_
              refine r_goto (tgt := 82) D182_77 rfl ?_
              exact r_iretI D182_82 rfl (⟨rfl, by omega, by rw [← h0]; exact sl_abc (by have q := H.2 78 473 0 5 (rk_order (by omega)); omega) (by omega) (by subst_vars; omega) (by subst_vars; omega) (by subst_vars; omega) (by subst_vars; omega) (by subst_vars; omega)⟩)
        · refine s_blx (lv' := [(5, vI 1), (4, vI 1), (3, vI 0), (2, vI (w1 / 2)), (0, vR 77), (1, vI i)]) (st' := [vI (w1 / 2)]) B182_57_58 rfl ?_
          refine r_goto (tgt := 82) D182_58 rfl ?_
          exact r_iretI D182_82 rfl (⟨rfl, by omega, by rw [← h0]; exact sl_abc (by have q := H.2 78 473 0 5 (rk_order (by omega)); omega) (by omega) (by subst_vars; omega) (by subst_vars; omega) (by subst_vars; omega) (by subst_vars; omega) (by subst_vars; omega)⟩)
  · refine s_blx (lv' := [(2, vI (w1 / 2)), (0, vR 77), (1, vI i)]) (st' := [vI 1]) B182_15_16 rfl ?_
    refine r_goto (tgt := 20) D182_16 rfl ?_
    refine s_blx (lv' := [(3, vI 1), (2, vI (w1 / 2)), (0, vR 77), (1, vI i)]) (st' := [vI 2, vI (w1 / 2)]) B182_20_23 rfl ?_
    refine r_icmp (tgt := 30) (pc' := 26) D182_23 rfl rfl (by unfold inR; omega) (fun (c32 : (w1 / 2) ≠ 2) => ?_) (fun (c32 : ¬ ((w1 / 2) ≠ 2)) => ?_)
    · refine s_blx (lv' := [(4, vI 2), (3, vI 1), (2, vI (w1 / 2)), (0, vR 77), (1, vI i)]) (st' := [vR 77]) B182_30_34 rfl ?_
      refine r_gfix (r := 78) (pc' := 37) D182_34 rfl gf_11_13_77 H.1 ?_
      refine s_blx (lv' := [(4, vI 2), (3, vI 1), (2, vI (w1 / 2)), (0, vR 77), (1, vI i)]) (st' := [vI 473, vR 78]) B182_37_40 rfl ?_
      refine r_iald (pc' := 41) D182_40 rfl sc_78 H.1 (by omega) ?_
      intro w33 e34 r35
      have e36 : w1 = w33 := (e34.trans (e2.symm)).symm
      subst e36
      refine s_blx (lv' := [(4, vI 2), (3, vI 1), (2, vI (w1 / 2)), (0, vR 77), (1, vI i)]) (st' := [vI 2, vI w1]) B182_41_42 rfl ?_
      refine r_irem (pc' := 43) D182_42 rfl (by omega) ?_
      refine r_ifc (tgt := 50) (pc' := 46) D182_43 rfl rfl (by unfold inR; omega) (fun (c37 : (w1 % 2) ≠ 0) => ?_) (fun (c37 : ¬ ((w1 % 2) ≠ 0)) => ?_)
      · refine s_blx (lv' := [(5, vI 0), (4, vI 2), (3, vI 1), (2, vI (w1 / 2)), (0, vR 77), (1, vI i)]) (st' := [vI i]) B182_50_54 rfl ?_
        refine r_ifc (tgt := 61) (pc' := 57) D182_54 rfl rfl (by unfold inR; omega) (fun (c38 : i ≠ 0) => ?_) (fun (c38 : ¬ (i ≠ 0)) => ?_)
        · refine s_blx (lv' := [(5, vI 0), (4, vI 2), (3, vI 1), (2, vI (w1 / 2)), (0, vR 77), (1, vI i)]) (st' := [vI 1, vI i]) B182_61_63 rfl ?_
          refine r_icmp (tgt := 70) (pc' := 66) D182_63 rfl rfl (by unfold inR; omega) (fun (c39 : i ≠ 1) => ?_) (fun (c39 : ¬ (i ≠ 1)) => ?_)
          · refine s_blx (lv' := [(5, vI 0), (4, vI 2), (3, vI 1), (2, vI (w1 / 2)), (0, vR 77), (1, vI i)]) (st' := [vI 0, vI 0]) B182_70_73 rfl ?_
            refine r_icmp (tgt := 80) (pc' := 76) D182_73 rfl rfl (by unfold inR; omega) (fun (c40 : 0 ≠ 0) => ?_) (fun (c40 : ¬ (0 ≠ 0)) => ?_)
            · exfalso; omega
            · refine s_blx (lv' := [(5, vI 0), (4, vI 2), (3, vI 1), (2, vI (w1 / 2)), (0, vR 77), (1, vI i)]) (st' := [vI 1]) B182_76_77 rfl ?_
              refine r_goto (tgt := 82) D182_77 rfl ?_
              exact r_iretI D182_82 rfl (⟨rfl, by omega, by rw [← h0]; exact sl_abc (by have q := H.2 78 473 0 5 (rk_order (by omega)); omega) (by omega) (by subst_vars; omega) (by subst_vars; omega) (by subst_vars; omega) (by subst_vars; omega) (by subst_vars; omega)⟩)
          · refine s_blx (lv' := [(5, vI 0), (4, vI 2), (3, vI 1), (2, vI (w1 / 2)), (0, vR 77), (1, vI i)]) (st' := [vI 1]) B182_66_67 rfl ?_
            refine r_goto (tgt := 71) D182_67 rfl ?_
            refine s_blx (lv' := [(5, vI 0), (4, vI 2), (3, vI 1), (2, vI (w1 / 2)), (0, vR 77), (1, vI i)]) (st' := [vI 0, vI 1]) B182_71_73 rfl ?_
            refine r_icmp (tgt := 80) (pc' := 76) D182_73 rfl rfl (by unfold inR; omega) (fun (c41 : 1 ≠ 0) => ?_) (fun (c41 : ¬ (1 ≠ 0)) => ?_)
            · refine s_blx (lv' := [(5, vI 0), (4, vI 2), (3, vI 1), (2, vI (w1 / 2)), (0, vR 77), (1, vI i)]) (st' := [vI 2]) B182_80_82 rfl ?_
              exact r_iretI D182_82 rfl (⟨rfl, by omega, by rw [← h0]; exact sl_abc (by have q := H.2 78 473 0 5 (rk_order (by omega)); omega) (by omega) (by subst_vars; omega) (by subst_vars; omega) (by subst_vars; omega) (by subst_vars; omega) (by subst_vars; omega)⟩)
            · exfalso; omega
        · refine s_blx (lv' := [(5, vI 0), (4, vI 2), (3, vI 1), (2, vI (w1 / 2)), (0, vR 77), (1, vI i)]) (st' := [vI (w1 / 2)]) B182_57_58 rfl ?_
          refine r_goto (tgt := 82) D182_58 rfl ?_
          exact r_iretI D182_82 rfl (⟨rfl, by omega, by rw [← h0]; exact sl_abc (by have q := H.2 78 473 0 5 (rk_order (by omega)); omega) (by omega) (by subst_vars; omega) (by subst_vars; omega) (by subst_vars; omega) (by subst_vars; omega) (by subst_vars; omega)⟩)
      · refine s_blx (lv' := [(4, vI 2), (3, vI 1), (2, vI (w1 / 2)), (0, vR 77), (1, vI i)]) (st' := [vI 1]) B182_46_47 rfl ?_
        refine r_goto (tgt := 51) D182_47 rfl ?_
        refine s_blx (lv' := [(5, vI 1), (4, vI 2), (3, vI 1), (2, vI (w1 / 2)), (0, vR 77), (1, vI i)]) (st' := [vI i]) B182_51_54 rfl ?_
        refine r_ifc (tgt := 61) (pc' := 57) D182_54 rfl rfl (by unfold inR; omega) (fun (c42 : i ≠ 0) => ?_) (fun (c42 : ¬ (i ≠ 0)) => ?_)
        · refine s_blx (lv' := [(5, vI 1), (4, vI 2), (3, vI 1), (2, vI (w1 / 2)), (0, vR 77), (1, vI i)]) (st' := [vI 1, vI i]) B182_61_63 rfl ?_
          refine r_icmp (tgt := 70) (pc' := 66) D182_63 rfl rfl (by unfold inR; omega) (fun (c43 : i ≠ 1) => ?_) (fun (c43 : ¬ (i ≠ 1)) => ?_)
          · refine s_blx (lv' := [(5, vI 1), (4, vI 2), (3, vI 1), (2, vI (w1 / 2)), (0, vR 77), (1, vI i)]) (st' := [vI 1, vI 0]) B182_70_73 rfl ?_
            refine r_icmp (tgt := 80) (pc' := 76) D182_73 rfl rfl (by unfold inR; omega) (fun (c44 : 0 ≠ 1) => ?_) (fun (c44 : ¬ (0 ≠ 1)) => ?_)
            · refine s_blx (lv' := [(5, vI 1), (4, vI 2), (3, vI 1), (2, vI (w1 / 2)), (0, vR 77), (1, vI i)]) (st' := [vI 2]) B182_80_82 rfl ?_
              exact r_iretI D182_82 rfl (⟨rfl, by omega, by rw [← h0]; exact sl_abc (by have q := H.2 78 473 0 5 (rk_order (by omega)); omega) (by omega) (by subst_vars; omega) (by subst_vars; omega) (by subst_vars; omega) (by subst_vars; omega) (by subst_vars; omega)⟩)
            · exfalso; omega
          · refine s_blx (lv' := [(5, vI 1), (4, vI 2), (3, vI 1), (2, vI (w1 / 2)), (0, vR 77), (1, vI i)]) (st' := [vI 1]) B182_66_67 rfl ?_
            refine r_goto (tgt := 71) D182_67 rfl ?_
            refine s_blx (lv' := [(5, vI 1), (4, vI 2), (3, vI 1), (2, vI (w1 / 2)), (0, vR 77), (1, vI i)]) (st' := [vI 1, vI 1]) B182_71_73 rfl ?_
            refine r_icmp (tgt := 80) (pc' := 76) D182_73 rfl rfl (by unfold inR; omega) (fun (c45 : 1 ≠ 1) => ?_) (fun (c45 : ¬ (1 ≠ 1)) => ?_)
            · exfalso; omega
            · refine s_blx (lv' := [(5, vI 1), (4, vI 2), (3, vI 1), (2, vI (w1 / 2)), (0, vR 77), (1, vI i)]) (st' := [vI 1]) B182_76_77 rfl ?_
              refine r_goto (tgt := 82) D182_77 rfl ?_
              exact r_iretI D182_82 rfl (⟨rfl, by omega, by rw [← h0]; exact sl_abc (by have q := H.2 78 473 0 5 (rk_order (by omega)); omega) (by omega) (by subst_vars; omega) (by subst_vars; omega) (by subst_vars; omega) (by subst_vars; omega) (by subst_vars; omega)⟩)
        · refine s_blx (lv' := [(5, vI 1), (4, vI 2), (3, vI 1), (2, vI (w1 / 2)), (0, vR 77), (1, vI i)]) (st' := [vI (w1 / 2)]) B182_57_58 rfl ?_
          refine r_goto (tgt := 82) D182_58 rfl ?_
          exact r_iretI D182_82 rfl (⟨rfl, by omega, by rw [← h0]; exact sl_abc (by have q := H.2 78 473 0 5 (rk_order (by omega)); omega) (by omega) (by subst_vars; omega) (by subst_vars; omega) (by subst_vars; omega) (by subst_vars; omega) (by subst_vars; omega)⟩)
    · refine s_blx (lv' := [(3, vI 1), (2, vI (w1 / 2)), (0, vR 77), (1, vI i)]) (st' := [vI 1]) B182_26_27 rfl ?_
      refine r_goto (tgt := 31) D182_27 rfl ?_
      refine s_blx (lv' := [(4, vI 1), (3, vI 1), (2, vI (w1 / 2)), (0, vR 77), (1, vI i)]) (st' := [vR 77]) B182_31_34 rfl ?_
      refine r_gfix (r := 78) (pc' := 37) D182_34 rfl gf_11_13_77 H.1 ?_
      refine s_blx (lv' := [(4, vI 1), (3, vI 1), (2, vI (w1 / 2)), (0, vR 77), (1, vI i)]) (st' := [vI 473, vR 78]) B182_37_40 rfl ?_
      refine r_iald (pc' := 41) D182_40 rfl sc_78 H.1 (by omega) ?_
      intro w46 e47 r48
      have e49 : w1 = w46 := (e47.trans (e2.symm)).symm
      subst e49
      refine s_blx (lv' := [(4, vI 1), (3, vI 1), (2, vI (w1 / 2)), (0, vR 77), (1, vI i)]) (st' := [vI 2, vI w1]) B182_41_42 rfl ?_
      refine r_irem (pc' := 43) D182_42 rfl (by omega) ?_
      refine r_ifc (tgt := 50) (pc' := 46) D182_43 rfl rfl (by unfold inR; omega) (fun (c50 : (w1 % 2) ≠ 0) => ?_) (fun (c50 : ¬ ((w1 % 2) ≠ 0)) => ?_)
      · refine s_blx (lv' := [(5, vI 0), (4, vI 1), (3, vI 1), (2, vI (w1 / 2)), (0, vR 77), (1, vI i)]) (st' := [vI i]) B182_50_54 rfl ?_
        refine r_ifc (tgt := 61) (pc' := 57) D182_54 rfl rfl (by unfold inR; omega) (fun (c51 : i ≠ 0) => ?_) (fun (c51 : ¬ (i ≠ 0)) => ?_)
        · refine s_blx (lv' := [(5, vI 0), (4, vI 1), (3, vI 1), (2, vI (w1 / 2)), (0, vR 77), (1, vI i)]) (st' := [vI 1, vI i]) B182_61_63 rfl ?_
          refine r_icmp (tgt := 70) (pc' := 66) D182_63 rfl rfl (by unfold inR; omega) (fun (c52 : i ≠ 1) => ?_) (fun (c52 : ¬ (i ≠ 1)) => ?_)
          · refine s_blx (lv' := [(5, vI 0), (4, vI 1), (3, vI 1), (2, vI (w1 / 2)), (0, vR 77), (1, vI i)]) (st' := [vI 0, vI 0]) B182_70_73 rfl ?_
            refine r_icmp (tgt := 80) (pc' := 76) D182_73 rfl rfl (by unfold inR; omega) (fun (c53 : 0 ≠ 0) => ?_) (fun (c53 : ¬ (0 ≠ 0)) => ?_)
            · exfalso; omega
            · refine s_blx (lv' := [(5, vI 0), (4, vI 1), (3, vI 1), (2, vI (w1 / 2)), (0, vR 77), (1, vI i)]) (st' := [vI 1]) B182_76_77 rfl ?_
              refine r_goto (tgt := 82) D182_77 rfl ?_
              exact r_iretI D182_82 rfl (⟨rfl, by omega, by rw [← h0]; exact sl_abc (by have q := H.2 78 473 0 5 (rk_order (by omega)); omega) (by omega) (by subst_vars; omega) (by subst_vars; omega) (by subst_vars; omega) (by subst_vars; omega) (by subst_vars; omega)⟩)
          · refine s_blx (lv' := [(5, vI 0), (4, vI 1), (3, vI 1), (2, vI (w1 / 2)), (0, vR 77), (1, vI i)]) (st' := [vI 1]) B182_66_67 rfl ?_
            refine r_goto (tgt := 71) D182_67 rfl ?_
            refine s_blx (lv' := [(5, vI 0), (4, vI 1), (3, vI 1), (2, vI (w1 / 2)), (0, vR 77), (1, vI i)]) (st' := [vI 0, vI 1]) B182_71_73 rfl ?_
            refine r_icmp (tgt := 80) (pc' := 76) D182_73 rfl rfl (by unfold inR; omega) (fun (c54 : 1 ≠ 0) => ?_) (fun (c54 : ¬ (1 ≠ 0)) => ?_)
            · refine s_blx (lv' := [(5, vI 0), (4, vI 1), (3, vI 1), (2, vI (w1 / 2)), (0, vR 77), (1, vI i)]) (st' := [vI 1]) B182_80_82 rfl ?_
              exact r_iretI D182_82 rfl (⟨rfl, by omega, by rw [← h0]; exact sl_abc (by have q := H.2 78 473 0 5 (rk_order (by omega)); omega) (by omega) (by subst_vars; omega) (by subst_vars; omega) (by subst_vars; omega) (by subst_vars; omega) (by subst_vars; omega)⟩)
            · exfalso; omega
        · refine s_blx (lv' := [(5, vI 0), (4, vI 1), (3, vI 1), (2, vI (w1 / 2)), (0, vR 77), (1, vI i)]) (st' := [vI (w1 / 2)]) B182_57_58 rfl ?_
          refine r_goto (tgt := 82) D182_58 rfl ?_
          exact r_iretI D182_82 rfl (⟨rfl, by omega, by rw [← h0]; exact sl_abc (by have q := H.2 78 473 0 5 (rk_order (by omega)); omega) (by omega) (by subst_vars; omega) (by subst_vars; omega) (by subst_vars; omega) (by subst_vars; omega) (by subst_vars; omega)⟩)
      · refine s_blx (lv' := [(4, vI 1), (3, vI 1), (2, vI (w1 / 2)), (0, vR 77), (1, vI i)]) (st' := [vI 1]) B182_46_47 rfl ?_
        refine r_goto (tgt := 51) D182_47 rfl ?_
        refine s_blx (lv' := [(5, vI 1), (4, vI 1), (3, vI 1), (2, vI (w1 / 2)), (0, vR 77), (1, vI i)]) (st' := [vI i]) B182_51_54 rfl ?_
        refine r_ifc (tgt := 61) (pc' := 57) D182_54 rfl rfl (by unfold inR; omega) (fun (c55 : i ≠ 0) => ?_) (fun (c55 : ¬ (i ≠ 0)) => ?_)
        · refine s_blx (lv' := [(5, vI 1), (4, vI 1), (3, vI 1), (2, vI (w1 / 2)), (0, vR 77), (1, vI i)]) (st' := [vI 1, vI i]) B182_61_63 rfl ?_
          refine r_icmp (tgt := 70) (pc' := 66) D182_63 rfl rfl (by unfold inR; omega) (fun (c56 : i ≠ 1) => ?_) (fun (c56 : ¬ (i ≠ 1)) => ?_)
          · refine s_blx (lv' := [(5, vI 1), (4, vI 1), (3, vI 1), (2, vI (w1 / 2)), (0, vR 77), (1, vI i)]) (st' := [vI 1, vI 0]) B182_70_73 rfl ?_
            refine r_icmp (tgt := 80) (pc' := 76) D182_73 rfl rfl (by unfold inR; omega) (fun (c57 : 0 ≠ 1) => ?_) (fun (c57 : ¬ (0 ≠ 1)) => ?_)
            · refine s_blx (lv' := [(5, vI 1), (4, vI 1), (3, vI 1), (2, vI (w1 / 2)), (0, vR 77), (1, vI i)]) (st' := [vI 1]) B182_80_82 rfl ?_
              exact r_iretI D182_82 rfl (⟨rfl, by omega, by rw [← h0]; exact sl_abc (by have q := H.2 78 473 0 5 (rk_order (by omega)); omega) (by omega) (by subst_vars; omega) (by subst_vars; omega) (by subst_vars; omega) (by subst_vars; omega) (by subst_vars; omega)⟩)
            · exfalso; omega
          · refine s_blx (lv' := [(5, vI 1), (4, vI 1), (3, vI 1), (2, vI (w1 / 2)), (0, vR 77), (1, vI i)]) (st' := [vI 1]) B182_66_67 rfl ?_
            refine r_goto (tgt := 71) D182_67 rfl ?_
            refine s_blx (lv' := [(5, vI 1), (4, vI 1), (3, vI 1), (2, vI (w1 / 2)), (0, vR 77), (1, vI i)]) (st' := [vI 1, vI 1]) B182_71_73 rfl ?_
            refine r_icmp (tgt := 80) (pc' := 76) D182_73 rfl rfl (by unfold inR; omega) (fun (c58 : 1 ≠ 1) => ?_) (fun (c58 : ¬ (1 ≠ 1)) => ?_)
            · exfalso; omega
            · refine s_blx (lv' := [(5, vI 1), (4, vI 1), (3, vI 1), (2, vI (w1 / 2)), (0, vR 77), (1, vI i)]) (st' := [vI 1]) B182_76_77 rfl ?_
              refine r_goto (tgt := 82) D182_77 rfl ?_
              exact r_iretI D182_82 rfl (⟨rfl, by omega, by rw [← h0]; exact sl_abc (by have q := H.2 78 473 0 5 (rk_order (by omega)); omega) (by omega) (by subst_vars; omega) (by subst_vars; omega) (by subst_vars; omega) (by subst_vars; omega) (by subst_vars; omega)⟩)
        · refine s_blx (lv' := [(5, vI 1), (4, vI 1), (3, vI 1), (2, vI (w1 / 2)), (0, vR 77), (1, vI i)]) (st' := [vI (w1 / 2)]) B182_57_58 rfl ?_
          refine r_goto (tgt := 82) D182_58 rfl ?_
          exact r_iretI D182_82 rfl (⟨rfl, by omega, by rw [← h0]; exact sl_abc (by have q := H.2 78 473 0 5 (rk_order (by omega)); omega) (by omega) (by subst_vars; omega) (by subst_vars; omega) (by subst_vars; omega) (by subst_vars; omega) (by subst_vars; omega)⟩)
