/-! The latest fault, how many TEXTS: of both sides. (A draft: not read by a round yet.) -/
/-- how many TEXTS the reference keeps -/
noncomputable def K1 (c : Int) (M : mH) : Prop := gi M 78 471 = c
theorem K1.rf {M : mH} : K1 (gi M 78 471) M := rfl
theorem K1.fr {c : Int} {L : List (Nat × Nat)} {M M' : mH} (h : K1 c M) (f : Fr L M M') (hc : s_al L (fun c => c != 78) = true) : K1 c M' := (f.g (s_al_ok hc (by simp))).trans h
theorem K1.wr {c : Int} {M M' : mH} {r i : Nat} {v : Value} (h : K1 c M) (u : Wr M r i v M') (hc : r ≠ 78) : K1 c M' := by
  show gi M' 78 471 = c
  unfold gi
  rw [u.ne (Or.inl (Ne.symm hc))]
  exact h
theorem K1.out {c i : Int} {M M' : mH} {v : Value} (h : K1 c M) (u : Wr M 78 i.toNat v M') (hi : 0 ≤ i ∧ i ≠ 471) : K1 c M' := (u.gi_ne hi.1 (Or.inr (by omega))).trans h
/-- the latest TEXT: 0 a fault, and where -/
noncomputable def hbQ (T : Int → Int) (s : Int) : Int × Int := Classical.epsilon (fun q => HRx T s q.1 q.2)
noncomputable def hbV (T : Int → Int) (s n : Int) : Int := if n < 8 then (if (hbQ T s).1 = 0 then -6 else n) else -5
noncomputable def hbF (T : Int → Int) (s f n : Int) : Int := if n < 8 then (if (hbQ T s).1 = 0 then (hbQ T s).2 else -1) else f
noncomputable def hbN (T : Int → Int) (s n : Int) : Int := if n < 8 then (if (hbQ T s).1 = 0 then n else n + 1) else n
theorem HAx.hb {T : Int → Int} {s n v fa c : Int} (h : HAx T s n v fa c) (hn : n < 8) (f : Int) : v = hbV T s n ∧ fa = hbF T s f n ∧ c = hbN T s n := by
  unfold hbV hbF hbN
  rw [if_pos hn, if_pos hn, if_pos hn]
  rcases h with ⟨a, b, e⟩ | ⟨a, b, g, e⟩
  · have q : HRx T s (hbQ T s).1 (hbQ T s).2 := Classical.epsilon_spec (p := fun q : Int × Int => HRx T s q.1 q.2) ⟨(0, fa), a⟩
    have u := a.uniq q
    rw [if_pos u.1.symm, if_pos u.1.symm, if_pos u.1.symm]
    exact ⟨b, u.2 rfl, e⟩
  · have q : HRx T s (hbQ T s).1 (hbQ T s).2 := Classical.epsilon_spec (p := fun q : Int × Int => HRx T s q.1 q.2) ⟨(-1, 0), a⟩
    have u := a.uniq q
    have w : ¬ (hbQ T s).1 = 0 := by omega
    rw [if_neg w, if_neg w, if_neg w]
    exact ⟨b, g, e⟩
/-- what the image k of the class holds -/
noncomputable def HIc (base k : Nat) (h : Int) (M : mH) : Prop := ∀ c, hv M 12 k = .ref (base + c) → gi M c 12 = h
theorem HIc.keep {base k : Nat} {h a : Int} {I : Int → Int} {M M' : mH} (i : HIc base k h M) (x : IX base k a I M) (m : ImK base M M') : HIc base k h M' := by
  intro c e
  rw [m.1] at e
  rcases x with ⟨-, z⟩ | ⟨-, d, z1, z2, z3, -⟩
  · rw [z] at e; cases e
  · have ed : d = c := by rw [z1] at e; exact Nat.add_left_cancel (Value.ref.inj e)
    rw [← ed]
    exact ((m.2.2.1 d d z2 z3 (Nat.le_refl _) (Nat.le_add_right _ _)).gi 12).trans (i d z1)
noncomputable def HXc (base : Nat) (f n h0 h1 : Int) (M : mH) : Prop := gi M 0 4 = f ∧ gi M 1 12 = n ∧ HIc base 0 h0 M ∧ HIc base 1 h1 M
noncomputable def HXr (f n h0 h1 : Int) (M : mH) : Prop := gi M 77 32 = f ∧ gi M 78 471 = n ∧ (gi M 80 0 = 1 → gi M 79 471 = h0) ∧ (gi M 80 1 = 1 → gi M 79 7354 = h1) ∧ WX M
noncomputable def vxC (L : List (Nat × Nat)) : Bool := s_al L (fun c => decide (c < 111) && c != 12) && !s_md L 0 4 && !s_md L 1 12
noncomputable def vxR (L : List (Nat × Nat)) : Bool := s_al L (fun c => c != 78 && c != 79 && c != 80 && c != 94) && !s_md L 77 32
section
variable {base : Nat} {s a0 a1 f n h0 h1 j : Int} {T N I0 I1 : Int → Int} {M M' : mH} {L : List (Nat × Nat)}
theorem HXc.fz (h : HXc base f n h0 h1 M) (cs : CSx base s T N a0 I0 a1 I1 M) (hM : 111 ≤ M.1) (k : Fz L M M') (hc : vxC L = true) : HXc base f n h0 h1 M' := by
  unfold vxC at hc
  simp only [Bool.and_eq_true, Bool.not_eq_true'] at hc
  obtain ⟨⟨c1, c2⟩, c3⟩ := hc
  have im : ImK base M M' := ImK.fz hM k c1
  obtain ⟨q1, q2, q3, q4⟩ := h
  obtain ⟨-, -, -, x0, x1, -⟩ := cs
  exact ⟨(k.g hM (by rw [show ((4 : Int)).toNat = 4 from rfl, c2]; rfl)).trans q1, (k.g hM (by rw [show ((12 : Int)).toNat = 12 from rfl, c3]; rfl)).trans q2, q3.keep x0 im, q4.keep x1 im⟩
theorem HXr.fr (h : HXr f n h0 h1 M) (k : Fr L M M') (hc : vxR L = true) : HXr f n h0 h1 M' := by
  unfold vxR at hc
  rw [Bool.and_eq_true, Bool.not_eq_true'] at hc
  obtain ⟨q1, q2, q3, q4, q5⟩ := h
  have e78 : ∀ i : Int, gi M' 78 i = gi M 78 i := fun i => k.g (s_al_ok hc.1 (by simp))
  have e79 : ∀ i : Int, gi M' 79 i = gi M 79 i := fun i => k.g (s_al_ok hc.1 (by simp))
  have e80 : ∀ i : Int, gi M' 80 i = gi M 80 i := fun i => k.g (s_al_ok hc.1 (by simp))
  have e94 : ∀ i : Int, gi M' 94 i = gi M 94 i := fun i => k.g (s_al_ok hc.1 (by simp))
  exact ⟨(k.g (i := 32) hc.2).trans q1, (e78 _).trans q2, fun e => (e79 _).trans (q3 ((e80 _).symm.trans e)), fun e => (e79 _).trans (q4 ((e80 _).symm.trans e)), fun i x y => (e94 i).trans (q5 i x y)⟩
theorem HXr.wr {v : Value} (h : HXr f n h0 h1 M) (u : Wr M 78 j.toNat v M') (hj : 0 ≤ j ∧ j ≠ 471) : HXr f n h0 h1 M' := by
  obtain ⟨q1, q2, q3, q4, q5⟩ := h
  exact ⟨(u.gi_ne hj.1 (Or.inl (by decide))).trans q1, (u.gi_ne hj.1 (Or.inr (by omega))).trans q2, fun e => (u.gi_ne hj.1 (Or.inl (by decide))).trans (q3 ((u.gi_ne hj.1 (Or.inl (by decide))).symm.trans e)), fun e => (u.gi_ne hj.1 (Or.inl (by decide))).trans (q4 ((u.gi_ne hj.1 (Or.inl (by decide))).symm.trans e)), fun i x y => (u.gi_ne hj.1 (Or.inl (by decide))).trans (q5 i x y)⟩
theorem HXr.of (h : HXr f n h0 h1 M) (e : ∀ r : Nat, 77 ≤ r → r < 111 → sameC r M M') : HXr f n h0 h1 M' := by
  obtain ⟨q1, q2, q3, q4, q5⟩ := h
  exact ⟨((e 77 (by decide) (by decide)).gi _).trans q1, ((e 78 (by decide) (by decide)).gi _).trans q2, fun c => ((e 79 (by decide) (by decide)).gi _).trans (q3 (((e 80 (by decide) (by decide)).gi _).symm.trans c)), fun c => ((e 79 (by decide) (by decide)).gi _).trans (q4 (((e 80 (by decide) (by decide)).gi _).symm.trans c)), fun i x y => ((e 94 (by decide) (by decide)).gi _).trans (q5 i x y)⟩
end

set_option maxRecDepth 4000 in
theorem k113v {base : Nat} {X : Nat → Option mC} {G : Nat → Value} (E : EnvOK base X G) {d : Nat} (hd : 0 ≤ d) {M : mH} (H : HI base M) : sOk base X G d T113 [vR 0] M (pI (fun v M' => M' = M ∧ (-2147483648 ≤ v ∧ v ≤ 2147483647) ∧ v = gi M 0 4)) := by
  refine sOk.of (show sRn base X G d T113 0 [(0, vR 0)] [] M _ from ?_)
  refine s_blx (lv' := [(0, vR 0)]) (st' := [vR 0]) B113_0_1 rfl ?_
  refine r_gint (ki := 4) (pc' := 4) D113_1 rfl gf_10_28_0 rfl H.1 ?_
  intro w1 e2 r3
  unfold inR at r3
  exact r_iretI D113_4 rfl (⟨rfl, by omega, by omega⟩)
set_option maxRecDepth 4000 in
theorem k231v {base : Nat} {X : Nat → Option mC} {G : Nat → Value} (E : EnvOK base X G) {d : Nat} (hd : 0 ≤ d) {M : mH} (H : HI base M) : sOk base X G d T231 [vR 77] M (pI (fun v M' => M' = M ∧ (-2147483648 ≤ v ∧ v ≤ 2147483647) ∧ v = gi M 77 32)) := by
  refine sOk.of (show sRn base X G d T231 0 [(0, vR 77)] [] M _ from ?_)
  refine s_blx (lv' := [(0, vR 77)]) (st' := [vR 77]) B231_0_1 rfl ?_
  refine r_gint (ki := 32) (pc' := 4) D231_1 rfl gf_11_75_77 rfl H.1 ?_
  intro w1 e2 r3
  unfold inR at r3
  exact r_iretI D231_4 rfl (⟨rfl, by omega, by omega⟩)
set_option maxRecDepth 4000 in
theorem k131v {base : Nat} {X : Nat → Option mC} {G : Nat → Value} (E : EnvOK base X G) {d : Nat} (hd : 0 ≤ d) {M : mH} (H : HI base M) (what : Int) (h0 : -2147483648 ≤ what ∧ what ≤ 2147483647) : sOk base X G d T131 [vR 0, vI what] M (pI (fun v M' => M' = M ∧ (-2147483648 ≤ v ∧ v ≤ 2147483647) ∧ (what = 0 → v = gi M 1 10) ∧ (what = 1 → v = gi M 1 4) ∧ (what = 2 → v = gi M 1 12) ∧ (what = 3 → v = gi M 1 14) ∧ (what = 4 → v = gi M 0 3) ∧ ((what < 0 ∨ 4 < what) → v = -1))) := by
  refine sOk.of (show sRn base X G d T131 0 [(0, vR 0), (1, vI what)] [] M _ from ?_)
  refine s_blx (lv' := [(0, vR 0), (1, vI what)]) (st' := [vI what]) B131_0_1 rfl ?_
  refine r_tsw (tgt := fun k => if k = 0 then 36 else if k = 1 then 44 else if k = 2 then 52 else if k = 3 then 60 else if k = 4 then 68 else 0) (td := 73) D131_1 (by unfold inR; omega) ?_ rfl ?_ ?_
  · intro k h1 h2
    have hk : k = 0 ∨ k = 1 ∨ k = 2 ∨ k = 3 ∨ k = 4 := by omega
    rcases hk with rfl | rfl | rfl | rfl | rfl <;> exact ⟨_, rfl, rfl⟩
  · intro k h1 h2 c1
    have hk : k = 0 ∨ k = 1 ∨ k = 2 ∨ k = 3 ∨ k = 4 := by omega
    clear h1 h2
    rcases hk with rfl | rfl | rfl | rfl | rfl
    · show sRn _ _ _ _ _ 36 _ _ _ _
      refine s_blx (lv' := [(0, vR 0), (1, vI what)]) (st' := [vR 0]) B131_36_37 rfl ?_
      refine r_gfix (r := 1) (pc' := 40) D131_37 rfl gf_10_10_0 H.1 ?_
      refine r_gint (ki := 10) (pc' := 43) D131_40 rfl gf_10_163_1 rfl H.1 ?_
      intro w2 e3 r4
      have b_w2 := H.2 1 (10) 0 16 rfl
      rw [← e3] at b_w2; clear r4
      exact r_iretI D131_43 rfl (⟨rfl, by omega, by omega, by omega, by omega, by omega, by omega, by omega⟩)
    · show sRn _ _ _ _ _ 44 _ _ _ _
      refine s_blx (lv' := [(0, vR 0), (1, vI what)]) (st' := [vR 0]) B131_44_45 rfl ?_
      refine r_gfix (r := 1) (pc' := 48) D131_45 rfl gf_10_10_0 H.1 ?_
      refine r_gint (ki := 4) (pc' := 51) D131_48 rfl gf_10_139_1 rfl H.1 ?_
      intro w5 e6 r7
      have b_w5 := H.2 1 (4) 0 12 rfl
      rw [← e6] at b_w5; clear r7
      exact r_iretI D131_51 rfl (⟨rfl, by omega, by omega, by omega, by omega, by omega, by omega, by omega⟩)
    · show sRn _ _ _ _ _ 52 _ _ _ _
      refine s_blx (lv' := [(0, vR 0), (1, vI what)]) (st' := [vR 0]) B131_52_53 rfl ?_
      refine r_gfix (r := 1) (pc' := 56) D131_53 rfl gf_10_10_0 H.1 ?_
      refine r_gint (ki := 12) (pc' := 59) D131_56 rfl gf_10_237_1 rfl H.1 ?_
      intro w8 e9 r10
      have b_w8 := H.2 1 (12) 0 8 rfl
      rw [← e9] at b_w8; clear r10
      exact r_iretI D131_59 rfl (⟨rfl, by omega, by omega, by omega, by omega, by omega, by omega, by omega⟩)
    · show sRn _ _ _ _ _ 60 _ _ _ _
      refine s_blx (lv' := [(0, vR 0), (1, vI what)]) (st' := [vR 0]) B131_60_61 rfl ?_
      refine r_gfix (r := 1) (pc' := 64) D131_61 rfl gf_10_10_0 H.1 ?_
      refine r_gint (ki := 14) (pc' := 67) D131_64 rfl gf_10_279_1 rfl H.1 ?_
      intro w11 e12 r13
      have b_w11 := H.2 1 (14) 0 6 rfl
      rw [← e12] at b_w11; clear r13
      exact r_iretI D131_67 rfl (⟨rfl, by omega, by omega, by omega, by omega, by omega, by omega, by omega⟩)
    · show sRn _ _ _ _ _ 68 _ _ _ _
      refine s_blx (lv' := [(0, vR 0), (1, vI what)]) (st' := [vR 0]) B131_68_69 rfl ?_
      refine r_gint (ki := 3) (pc' := 72) D131_69 rfl gf_10_24_0 rfl H.1 ?_
      intro w14 e15 r16
      have b_w14 := H.2 0 (3) 0 400 rfl
      rw [← e15] at b_w14; clear r16
      exact r_iretI D131_72 rfl (⟨rfl, by omega, by omega, by omega, by omega, by omega, by omega, by omega⟩)
  · intro c1
    refine s_blx (lv' := [(0, vR 0), (1, vI what)]) (st' := [vI (-1)]) B131_73_74 rfl ?_
    exact r_iretI D131_74 rfl (⟨rfl, by omega, by omega, by omega, by omega, by omega, by omega, by omega⟩)
set_option maxRecDepth 4000 in
theorem k265v {base : Nat} {X : Nat → Option mC} {G : Nat → Value} (E : EnvOK base X G) {d : Nat} (hd : 0 ≤ d) {M : mH} (H : HI base M) (what : Int) (h0 : -2147483648 ≤ what ∧ what ≤ 2147483647) : sOk base X G d T265 [vR 77, vI what] M (pI (fun v M' => M' = M ∧ (-2147483648 ≤ v ∧ v ≤ 2147483647) ∧ (what = 0 → v = gi M 78 469) ∧ (what = 1 → v = gi M 78 470) ∧ (what = 2 → v = gi M 78 471) ∧ (what = 3 → v = gi M 78 472) ∧ (what = 4 → v = gi M 77 31) ∧ ((what < 0 ∨ 4 < what) → v = -1))) := by
  refine sOk.of (show sRn base X G d T265 0 [(0, vR 77), (1, vI what)] [] M _ from ?_)
  refine s_blx (lv' := [(0, vR 77), (1, vI what)]) (st' := [vI what]) B265_0_1 rfl ?_
  refine r_tsw (tgt := fun k => if k = 0 then 36 else if k = 1 then 45 else if k = 2 then 54 else if k = 3 then 63 else if k = 4 then 72 else 0) (td := 77) D265_1 (by unfold inR; omega) ?_ rfl ?_ ?_
  · intro k h1 h2
    have hk : k = 0 ∨ k = 1 ∨ k = 2 ∨ k = 3 ∨ k = 4 := by omega
    rcases hk with rfl | rfl | rfl | rfl | rfl <;> exact ⟨_, rfl, rfl⟩
  · intro k h1 h2 c1
    have hk : k = 0 ∨ k = 1 ∨ k = 2 ∨ k = 3 ∨ k = 4 := by omega
    clear h1 h2
    rcases hk with rfl | rfl | rfl | rfl | rfl
    · show sRn _ _ _ _ _ 36 _ _ _ _
      refine s_blx (lv' := [(0, vR 77), (1, vI what)]) (st' := [vR 77]) B265_36_37 rfl ?_
      refine r_gfix (r := 78) (pc' := 40) D265_37 rfl gf_11_13_77 H.1 ?_
      refine s_blx (lv' := [(0, vR 77), (1, vI what)]) (st' := [vI 469, vR 78]) B265_40_43 rfl ?_
      refine r_iald (pc' := 44) D265_43 rfl sc_78 H.1 (by omega) ?_
      intro w2 e3 r4
      have b_w2 := H.2 78 (469) 0 16 (rk_many (by omega))
      rw [← e3] at b_w2; clear r4
      exact r_iretI D265_44 rfl (⟨rfl, by omega, by omega, by omega, by omega, by omega, by omega, by omega⟩)
    · show sRn _ _ _ _ _ 45 _ _ _ _
      refine s_blx (lv' := [(0, vR 77), (1, vI what)]) (st' := [vR 77]) B265_45_46 rfl ?_
      refine r_gfix (r := 78) (pc' := 49) D265_46 rfl gf_11_13_77 H.1 ?_
      refine s_blx (lv' := [(0, vR 77), (1, vI what)]) (st' := [vI 470, vR 78]) B265_49_52 rfl ?_
      refine r_iald (pc' := 53) D265_52 rfl sc_78 H.1 (by omega) ?_
      intro w5 e6 r7
      have b_w5 := H.2 78 (470) 0 12 (rk_openmany (by omega))
      rw [← e6] at b_w5; clear r7
      exact r_iretI D265_53 rfl (⟨rfl, by omega, by omega, by omega, by omega, by omega, by omega, by omega⟩)
    · show sRn _ _ _ _ _ 54 _ _ _ _
      refine s_blx (lv' := [(0, vR 77), (1, vI what)]) (st' := [vR 77]) B265_54_55 rfl ?_
      refine r_gfix (r := 78) (pc' := 58) D265_55 rfl gf_11_13_77 H.1 ?_
      refine s_blx (lv' := [(0, vR 77), (1, vI what)]) (st' := [vI 471, vR 78]) B265_58_61 rfl ?_
      refine r_iald (pc' := 62) D265_61 rfl sc_78 H.1 (by omega) ?_
      intro w8 e9 r10
      have b_w8 := H.2 78 (471) 0 8 (rk_told (by omega))
      rw [← e9] at b_w8; clear r10
      exact r_iretI D265_62 rfl (⟨rfl, by omega, by omega, by omega, by omega, by omega, by omega, by omega⟩)
    · show sRn _ _ _ _ _ 63 _ _ _ _
      refine s_blx (lv' := [(0, vR 77), (1, vI what)]) (st' := [vR 77]) B265_63_64 rfl ?_
      refine r_gfix (r := 78) (pc' := 67) D265_64 rfl gf_11_13_77 H.1 ?_
      refine s_blx (lv' := [(0, vR 77), (1, vI what)]) (st' := [vI 472, vR 78]) B265_67_70 rfl ?_
      refine r_iald (pc' := 71) D265_70 rfl sc_78 H.1 (by omega) ?_
      intro w11 e12 r13
      have b_w11 := H.2 78 (472) 0 6 (rk_boxmany (by omega))
      rw [← e12] at b_w11; clear r13
      exact r_iretI D265_71 rfl (⟨rfl, by omega, by omega, by omega, by omega, by omega, by omega, by omega⟩)
    · show sRn _ _ _ _ _ 72 _ _ _ _
      refine s_blx (lv' := [(0, vR 77), (1, vI what)]) (st' := [vR 77]) B265_72_73 rfl ?_
      refine r_gint (ki := 31) (pc' := 76) D265_73 rfl gf_11_151_77 rfl H.1 ?_
      intro w14 e15 r16
      have b_w14 := H.2 77 (31) 0 400 rfl
      rw [← e15] at b_w14; clear r16
      exact r_iretI D265_76 rfl (⟨rfl, by omega, by omega, by omega, by omega, by omega, by omega, by omega⟩)
  · intro c1
    refine s_blx (lv' := [(0, vR 77), (1, vI what)]) (st' := [vI (-1)]) B265_77_78 rfl ?_
    exact r_iretI D265_78 rfl (⟨rfl, by omega, by omega, by omega, by omega, by omega, by omega, by omega⟩)
set_option maxRecDepth 4000 in
set_option maxHeartbeats 4000000 in
theorem k207v {base : Nat} {X : Nat → Option mC} {G : Nat → Value} (E : EnvOK base X G) {d : Nat} (hd : 7 ≤ d) {M : mH} (H : HI base M) (w : Int) (now : Int) (N : Int → Int) (n1 : Int) (h0 : TB M) (h1 : LN M) (h2 : VT M) (h3 : GK M) (h4 : 0 ≤ w ∧ w ≤ 29) (h5 : KN N M) (h6 : K1 n1 M) : sOk base X G d T207 [vR 77, vI w, vL now] M (pL (fun v M' => HI base M' ∧ Fr [(77, 7), (77, 8), (77, 9), (77, 10), (77, 14), (77, 15), (77, 16), (77, 28), (78, 0), (83, 0), (84, 0), (85, 0), (86, 0), (87, 0), (93, 0)] M M' ∧ (LN M') ∧ (VT M') ∧ (GK M') ∧ (KN N M') ∧ (K1 n1 M'))) := by
  have f0 : Fr [(77, 7), (77, 8), (77, 9), (77, 10), (77, 14), (77, 15), (77, 16), (77, 28), (78, 0), (83, 0), (84, 0), (85, 0), (86, 0), (87, 0), (93, 0)] M M := Fr.rf
  refine sOk.of (show sRn base X G d T207 0 [(0, vR 77), (1, vI w), (2, vL now)] [] M _ from ?_)
  refine s_blx (lv' := [(0, vR 77), (1, vI w), (2, vL now)]) (st' := [vR 77]) B207_0_1 rfl ?_
  refine r_gfix (r := 78) (pc' := 4) D207_1 rfl gf_11_13_77 H.1 ?_
  refine s_blx (lv' := [(0, vR 77), (1, vI w), (2, vL now)]) (st' := [vI (0 + w), vR 78]) B207_4_7 rfl ?_
  refine r_iald (pc' := 8) D207_7 rfl sc_78 H.1 (by omega) ?_
  intro w1 e2 r3
  have b_w1 := H.2 78 (0 + w) 0 9 (rk_load (by omega))
  rw [← e2] at b_w1; clear r3
  have kwas : w1 = N w := by rw [e2, show (0 : Int) + w = w by omega]; exact h5 w (by unfold dAs; omega)
  refine s_blx (lv' := [(4, vI w1), (0, vR 77), (1, vI w), (2, vL now)]) (st' := [vR 77]) B207_8_11 rfl ?_
  refine r_gfix (r := 78) (pc' := 14) D207_11 rfl gf_11_13_77 H.1 ?_
  refine s_blx (lv' := [(4, vI w1), (0, vR 77), (1, vI w), (2, vL now)]) (st' := [vI 0, vI (0 + w), vR 78]) B207_14_18 rfl ?_
  refine r_iast (pc' := 19) D207_18 rfl sc_78 H (by omega) (by unfold inR; omega) (by show s_in (rgK _) _; rw [rk_load (by omega)]; show 0 ≤ 0 ∧ 0 ≤ 9; omega) ?_
  intro M4 u5 H6 p7
  have f8 := f0.wr u5 rfl
  have hp9 := h1.w u5 (by omega) H
  have hp10 := h2.wr u5 (by decide)
  have hp11 := h3.w u5 (by omega) H
  have kn1 := KN.set (j0 := w) (x := 0) h5 (kuw u5 (by omega)) (by omega) (by have q := p7; rw [show (0 : Int) + w = w by omega] at q; exact q)
  have k1_18 := h6.out u5 (by omega)
  refine s_blx (lv' := [(4, vI w1), (0, vR 77), (1, vI w), (2, vL now)]) (st' := [vR 77, vL now]) B207_19_21 rfl ?_
  obtain ⟨t12, ht13⟩ : ∃ q, q = gi M4 77 24 := ⟨_, rfl⟩
  have b_t12 := H6.2 77 24 0 1 rfl
  rw [← ht13] at b_t12
  have g14 : gi M4 77 24 = t12 := ht13.symm
  refine r_vL (c := 77) (args := []) (rest := [vL now]) (pc' := 24) D207_21 rfl ck_11_virtual_283 TE200 rfl (Nat.le_of_ble_eq_true rfl) ⟨Nat.le_of_ble_eq_true rfl, Nat.le_of_ble_eq_true rfl⟩ sc_77 ⟨rfl, by decide⟩ H6.1 (dp_0 hd rfl) (k200k E (dp_n hd rfl) H6 (gi M4 78) t12 ((h0.fr f8 rfl)) (hp9) (fun _ => rfl) (hp10) (by omega) (by omega)) ?_
  intro v15 M16 q21
  obtain ⟨H17, f18, q19, q20⟩ := q21
  have f22 := f8.tr (f18.up rfl)
  have hp23 := hp9.fr f18 (by decide)
  have hp24 := hp11.fr f18 (by decide)
  have hp25 := kn1.fr f18 (by decide)
  have hp26 := k1_18.fr f18 (by decide)
  refine s_blx (lv' := [(5, vL (now - v15)), (4, vI w1), (0, vR 77), (1, vI w), (2, vL now)]) (st' := [vR 77]) B207_24_28 rfl ?_
  refine r_gfix (r := 78) (pc' := 31) D207_28 rfl gf_11_13_77 H17.1 ?_
  refine s_blx (lv' := [(5, vL (now - v15)), (4, vI w1), (0, vR 77), (1, vI w), (2, vL now)]) (st' := [vI w1, vI (0 + w), vR 78]) B207_31_36 rfl ?_
  refine r_iast (pc' := 37) D207_36 rfl sc_78 H17 (by omega) (by unfold inR; omega) (by show s_in (rgK _) _; rw [rk_load (by omega)]; show 0 ≤ w1 ∧ w1 ≤ 9; omega) ?_
  intro M27 u28 H29 p30
  have f31 := f22.wr u28 rfl
  have hp32 := hp23.w u28 (by omega) H17
  have hp33 := q20.wr u28 (by decide)
  have hp34 := hp24.w u28 (by omega) H17
  have kn2 := KN.back hp25 (kuw u28 (by omega)) (by omega) (by have q := p30; rw [show (0 : Int) + w = w by omega] at q; rw [q]; exact kwas)
  have k1_36 := hp26.out u28 (by omega)
  refine s_blx (lv' := [(5, vL (now - v15)), (4, vI w1), (0, vR 77), (1, vI w), (2, vL now)]) (st' := [vL (now - v15)]) B207_37_39 rfl ?_
  exact r_lretL D207_39 rfl (⟨H29, f31, hp32, hp33, hp34, kn2, k1_36⟩)
set_option maxRecDepth 4000 in
set_option maxHeartbeats 4000000 in
theorem L_k209v {base : Nat} {X : Nat → Option mC} {G : Nat → Value} (E : EnvOK base X G) {d : Nat} (hd : 8 ≤ d) {M : mH} (H : HI base M) (w : Int) (n1 : Int) (h0 : TB M) (h1 : LN M) (h2 : VT M) (h3 : GK M) (h4 : -2147483648 ≤ w ∧ w ≤ 2147483647) (h5 : K1 n1 M) : ∀ mz : Nat, (∀ (x2 x4 x5 x7 : Int) (N : mH), HI base N → Fr [(77, 7), (77, 8), (77, 9), (77, 10), (77, 14), (77, 15), (77, 16), (77, 28), (78, 0), (83, 0), (84, 0), (85, 0), (86, 0), (87, 0), (93, 0)] M N → (LN N) → (VT N) → (GK N) → (KN (gi M 78) N) → (K1 n1 N) → ((-1) ≤ x4) → (x4 ≤ 29) → (0 ≤ x7) → (x7 ≤ 30) → ((-1) ≤ w) → (w ≤ (-1)) → (30 - x7) * 1 + 0 < (mz : Int) → sRn base X G d T209 40 [(0, vR 77), (2, vL x2), (4, vI x4), (5, vL x5), (7, vI x7)] [] N (s_Q base (pL (fun v M' => HI base M' ∧ Fr [(77, 7), (77, 8), (77, 9), (77, 10), (77, 14), (77, 15), (77, 16), (77, 28), (78, 0), (83, 0), (84, 0), (85, 0), (86, 0), (87, 0), (93, 0)] M M' ∧ (LN M') ∧ (VT M') ∧ (GK M') ∧ (KN (gi M 78) M') ∧ (K1 n1 M'))))) := by
  have f0 : Fr [(77, 7), (77, 8), (77, 9), (77, 10), (77, 14), (77, 15), (77, 16), (77, 28), (78, 0), (83, 0), (84, 0), (85, 0), (86, 0), (87, 0), (93, 0)] M M := Fr.rf
  intro mz
  induction mz with
  | zero => exact fun x2 x4 x5 x7 N _ _ z0 z1 z2 z3 z4 z5 z6 z7 z8 z9 z10 z11 => by omega
  | succ mz ih =>
    intro x2 x4 x5 x7 N HN fN i0 i1 i2 i3 i4 i5 i6 i7 i8 i9 i10 hmu
    refine s_blx (lv' := [(0, vR 77), (2, vL x2), (4, vI x4), (5, vL x5), (7, vI x7)]) (st' := [vI 30, vI x7]) B209_40_44 rfl ?_
    refine r_icmp (tgt := 105) (pc' := 47) D209_44 rfl rfl (by unfold inR; omega) (fun (c35 : 30 ≤ x7) => ?_) (fun (c35 : ¬ (30 ≤ x7)) => ?_)
    · refine s_blx (lv' := [(0, vR 77), (2, vL x2), (4, vI x4), (5, vL x5), (7, vI x7)]) (st' := [vI x4]) B209_105_107 rfl ?_
      refine r_i2l (pc' := 108) D209_107 rfl (by unfold inR; omega) ?_
      exact r_lretL D209_108 rfl (⟨HN, fN, i0, i1, i2, i3, i4⟩)
    · refine s_blx (lv' := [(0, vR 77), (2, vL x2), (4, vI x4), (5, vL x5), (7, vI x7)]) (st' := [vI x7, vR 77]) B209_47_50 rfl ?_
      refine r_vIp (c := 77) (args := [vI x7]) (rest := []) (pc' := 53) D209_50 rfl ck_11_virtual_302 TE208 rfl (Nat.le_of_ble_eq_true rfl) ⟨Nat.le_of_ble_eq_true rfl, Nat.le_of_ble_eq_true rfl⟩ sc_77 ⟨rfl, by decide⟩ HN.1 (dp_0 hd rfl) (k208 E (dp_n hd rfl) HN x7 (by omega)) ?_
      intro v36 q39
      have q38 := q39; clear q39
      refine r_ifc (tgt := 99) (pc' := 56) D209_53 rfl rfl (by unfold inR; omega) (fun (c40 : v36 = 0) => ?_) (fun (c40 : ¬ (v36 = 0)) => ?_)
      · refine s_blx (lv' := [(7, vI (x7 + 1)), (0, vR 77), (2, vL x2), (4, vI x4), (5, vL x5)]) (st' := []) B209_99_102 rfl ?_
        refine r_goto (tgt := 40) D209_102 rfl ?_
        refine r_loc (lv' := [(0, vR 77), (2, vL x2), (4, vI x4), (5, vL x5), (7, vI (x7 + 1))]) ⟨rfl, rfl, rfl, rfl, rfl, trivial⟩ rfl rfl ?_
        exact ih x2 x4 x5 (x7 + 1) N HN fN (i0) (i1) (i2) (i3) (i4) (by omega) (by omega) (by omega) (by omega) (by omega) (by omega) (by omega)
      · refine s_blx (lv' := [(0, vR 77), (2, vL x2), (4, vI x4), (5, vL x5), (7, vI x7)]) (st' := [vR 77]) B209_56_57 rfl ?_
        refine r_gfix (r := 78) (pc' := 60) D209_57 rfl gf_11_13_77 HN.1 ?_
        refine s_blx (lv' := [(0, vR 77), (2, vL x2), (4, vI x4), (5, vL x5), (7, vI x7)]) (st' := [vI (0 + x7), vR 78]) B209_60_64 rfl ?_
        refine r_iald (pc' := 65) D209_64 rfl sc_78 HN.1 (by omega) ?_
        intro w41 e42 r43
        have b_w41 := HN.2 78 (0 + x7) 0 9 (rk_load (by omega))
        rw [← e42] at b_w41; clear r43
        refine r_ifc (tgt := 71) (pc' := 68) D209_65 rfl rfl (by unfold inR; omega) (fun (c44 : w41 ≠ 0) => ?_) (fun (c44 : ¬ (w41 ≠ 0)) => ?_)
        · refine s_blx (lv' := [(0, vR 77), (2, vL x2), (4, vI x4), (5, vL x5), (7, vI x7)]) (st' := [vL x2, vI x7, vR 77]) B209_71_75 rfl ?_
          refine r_vL (c := 77) (args := [vI x7, vL x2]) (rest := []) (pc' := 78) D209_75 rfl ck_11_virtual_298 TE207 rfl (Nat.le_of_ble_eq_true rfl) ⟨Nat.le_of_ble_eq_true rfl, Nat.le_of_ble_eq_true rfl⟩ sc_77 ⟨rfl, by decide⟩ HN.1 (dp_0 hd rfl) (k207v E (dp_n hd rfl) HN x7 x2 (gi M 78) n1 ((h0.fr fN rfl)) (i0) (i1) (i2) (by omega) (i3) (i4)) ?_
          intro v45 M46 q54
          obtain ⟨H47, f48, q49, q50, q51, q52, q53⟩ := q54
          have f55 := fN.tr (f48.up rfl)
          refine s_blx (lv' := [(8, vL v45), (0, vR 77), (2, vL x2), (4, vI x4), (5, vL x5), (7, vI x7)]) (st' := [vL x5, vL v45]) B209_78_84 rfl ?_
          refine r_lcmp (pc' := 85) D209_84 rfl ?_
          intro z56 r57 r58
          refine r_ifc (tgt := 91) (pc' := 88) D209_85 rfl rfl (by unfold inR; omega) (fun (c59 : 0 < z56) => ?_) (fun (c59 : ¬ (0 < z56)) => ?_)
          · refine s_blx (lv' := [(7, vI (x7 + 1)), (4, vI x7), (5, vL v45), (8, vL v45), (0, vR 77), (2, vL x2)]) (st' := []) B209_91_102 rfl ?_
            refine r_goto (tgt := 40) D209_102 rfl ?_
            refine r_loc (lv' := [(0, vR 77), (2, vL x2), (4, vI x7), (5, vL v45), (7, vI (x7 + 1))]) ⟨rfl, rfl, rfl, rfl, rfl, trivial⟩ rfl rfl ?_
            exact ih x2 x7 v45 (x7 + 1) M46 H47 f55 (q49) (q50) (q51) (q52) (q53) (by omega) (by omega) (by omega) (by omega) (by omega) (by omega) (by omega)
          · refine r_goto (tgt := 99) D209_88 rfl ?_
            refine s_blx (lv' := [(7, vI (x7 + 1)), (8, vL v45), (0, vR 77), (2, vL x2), (4, vI x4), (5, vL x5)]) (st' := []) B209_99_102 rfl ?_
            refine r_goto (tgt := 40) D209_102 rfl ?_
            refine r_loc (lv' := [(0, vR 77), (2, vL x2), (4, vI x4), (5, vL x5), (7, vI (x7 + 1))]) ⟨rfl, rfl, rfl, rfl, rfl, trivial⟩ rfl rfl ?_
            exact ih x2 x4 x5 (x7 + 1) M46 H47 f55 (q49) (q50) (q51) (q52) (q53) (by omega) (by omega) (by omega) (by omega) (by omega) (by omega) (by omega)
        · refine r_goto (tgt := 99) D209_68 rfl ?_
          refine s_blx (lv' := [(7, vI (x7 + 1)), (0, vR 77), (2, vL x2), (4, vI x4), (5, vL x5)]) (st' := []) B209_99_102 rfl ?_
          refine r_goto (tgt := 40) D209_102 rfl ?_
          refine r_loc (lv' := [(0, vR 77), (2, vL x2), (4, vI x4), (5, vL x5), (7, vI (x7 + 1))]) ⟨rfl, rfl, rfl, rfl, rfl, trivial⟩ rfl rfl ?_
          exact ih x2 x4 x5 (x7 + 1) N HN fN (i0) (i1) (i2) (i3) (i4) (by omega) (by omega) (by omega) (by omega) (by omega) (by omega) (by omega)
set_option maxRecDepth 4000 in
set_option maxHeartbeats 4000000 in
theorem k209v {base : Nat} {X : Nat → Option mC} {G : Nat → Value} (E : EnvOK base X G) {d : Nat} (hd : 8 ≤ d) {M : mH} (H : HI base M) (w : Int) (n1 : Int) (h0 : TB M) (h1 : LN M) (h2 : VT M) (h3 : GK M) (h4 : -2147483648 ≤ w ∧ w ≤ 2147483647) (h5 : K1 n1 M) : sOk base X G d T209 [vR 77, vI w] M (pL (fun v M' => HI base M' ∧ Fr [(77, 7), (77, 8), (77, 9), (77, 10), (77, 14), (77, 15), (77, 16), (77, 28), (78, 0), (83, 0), (84, 0), (85, 0), (86, 0), (87, 0), (93, 0)] M M' ∧ (LN M') ∧ (VT M') ∧ (GK M') ∧ (KN (gi M 78) M') ∧ (K1 n1 M'))) := by
  have f0 : Fr [(77, 7), (77, 8), (77, 9), (77, 10), (77, 14), (77, 15), (77, 16), (77, 28), (78, 0), (83, 0), (84, 0), (85, 0), (86, 0), (87, 0), (93, 0)] M M := Fr.rf
  refine sOk.of (show sRn base X G d T209 0 [(0, vR 77), (1, vI w)] [] M _ from ?_)
  refine s_blx (lv' := [(0, vR 77), (1, vI w)]) (st' := [vI 29, vI (-1), vI w]) B209_0_4 rfl ?_
  refine r_sIp (args := [vI w, vI (-1), vI 29]) (rest := []) (pc' := 7) D209_4 rfl ck_11_static_123 TE147 rfl (Nat.le_of_ble_eq_true rfl) ⟨Nat.le_of_ble_eq_true rfl, Nat.le_of_ble_eq_true rfl⟩ (by decide) (dp_0 hd rfl) (k147 E (dp_n hd rfl) H w (-1) 29 (by omega) (by omega) (by omega)) ?_
  intro v1 q6
  obtain ⟨q3, q4, q5⟩ := q6
  refine r_ifc (tgt := 14) (pc' := 10) D209_7 rfl rfl (by unfold inR; omega) (fun (c7 : v1 ≠ 0) => ?_) (fun (c7 : ¬ (v1 ≠ 0)) => ?_)
  · refine s_blx (lv' := [(0, vR 77), (1, vI w)]) (st' := [vR 77]) B209_14_15 rfl ?_
    obtain ⟨t8, ht9⟩ : ∃ q, q = gi M 77 24 := ⟨_, rfl⟩
    have b_t8 := H.2 77 24 0 1 rfl
    rw [← ht9] at b_t8
    have g10 : gi M 77 24 = t8 := ht9.symm
    refine r_vL (c := 77) (args := []) (rest := []) (pc' := 18) D209_15 rfl ck_11_virtual_283 TE200 rfl (Nat.le_of_ble_eq_true rfl) ⟨Nat.le_of_ble_eq_true rfl, Nat.le_of_ble_eq_true rfl⟩ sc_77 ⟨rfl, by decide⟩ H.1 (dp_0 hd rfl) (k200k E (dp_n hd rfl) H (gi M 78) t8 (h0) (h1) (fun _ => rfl) (h2) (by omega) (by omega)) ?_
    intro v11 M12 q17
    obtain ⟨H13, f14, q15, q16⟩ := q17
    have f18 := f0.tr (f14.up rfl)
    have hp19 := h1.fr f14 (by decide)
    have hp20 := h3.fr f14 (by decide)
    have hp21 := KN.rf.fr f14 (by decide)
    have hp22 := h5.fr f14 (by decide)
    refine s_blx (lv' := [(2, vL v11), (0, vR 77), (1, vI w)]) (st' := [vI (-1), vI w]) B209_18_21 rfl ?_
    refine r_icmp (tgt := 31) (pc' := 24) D209_21 rfl rfl (by unfold inR; omega) (fun (c23 : w = (-1)) => ?_) (fun (c23 : ¬ (w = (-1))) => ?_)
    · refine s_blx (lv' := [(7, vI 0), (5, vL 0), (4, vI (-1)), (2, vL v11), (0, vR 77), (1, vI w)]) (st' := []) B209_31_40 rfl ?_
      refine r_loc (lv' := [(0, vR 77), (2, vL v11), (4, vI (-1)), (5, vL 0), (7, vI 0)]) ⟨rfl, rfl, rfl, rfl, rfl, trivial⟩ rfl rfl ?_
      exact (L_k209v E hd H w n1 h0 h1 h2 h3 h4 h5 (((30 - 0) * 1 + 0 : Int) + 1).toNat) v11 (-1) 0 0 M12 H13 f18 (hp19) (q16) (hp20) (hp21) (hp22) (by omega) (by omega) (by omega) (by omega) (by omega) (by omega) (by omega)
    · refine s_blx (lv' := [(2, vL v11), (0, vR 77), (1, vI w)]) (st' := [vL v11, vI w, vR 77]) B209_24_27 rfl ?_
      refine r_vL (c := 77) (args := [vI w, vL v11]) (rest := []) (pc' := 30) D209_27 rfl ck_11_virtual_298 TE207 rfl (Nat.le_of_ble_eq_true rfl) ⟨Nat.le_of_ble_eq_true rfl, Nat.le_of_ble_eq_true rfl⟩ sc_77 ⟨rfl, by decide⟩ H13.1 (dp_0 hd rfl) (k207v E (dp_n hd rfl) H13 w v11 (gi M 78) n1 ((h0.fr f18 rfl)) (hp19) (q16) (hp20) (by omega) (hp21) (hp22)) ?_
      intro v24 M25 q33
      obtain ⟨H26, f27, q28, q29, q30, q31, q32⟩ := q33
      have f34 := f18.tr (f27.up rfl)
      exact r_lretL D209_30 rfl (⟨H26, f34, q28, q29, q30, q31, q32⟩)
  · refine r_ldc2 (e := (-1)) (pc' := 13) D209_10 rfl cl_11_296 (by decide) ?_
    exact r_lretL D209_13 rfl (⟨H, f0, h1, h2, h3, KN.rf, h5⟩)
