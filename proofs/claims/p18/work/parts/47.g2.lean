/-! The tree's lengths beside the sentences'. -/
noncomputable def LK (a : Nat) (b : Int) (M : mH) : Prop := ∀ s : Int, 0 ≤ s → s < b → SPK s M → gi M a s = gi M 6 s
theorem LK.of {a : Nat} {b : Int} {M M' : mH} (h : LK a b M) (e1 : ∀ i : Int, gi M' 1 i = gi M 1 i) (e2 : ∀ i : Int, gi M' 8 i = gi M 8 i) (e3 : ∀ i : Int, gi M' 6 i = gi M 6 i) (e4 : ∀ i : Int, 0 ≤ i → i < b → gi M' a i = gi M a i) : LK a b M' := by
  intro s h1 h2 h3
  rw [e4 s h1 h2, e3]
  refine h s h1 h2 ?_
  unfold SPK at h3 ⊢
  rw [e1, e1, e2] at h3
  exact h3
theorem LK.wr {a : Nat} {b : Int} {M M' : mH} {c i : Nat} {v : Value} (h : LK a b M) (u : Wr M c i v M') (hc : c ≠ a ∧ c ≠ 1 ∧ c ≠ 6 ∧ c ≠ 8) : LK a b M' := by
  have e : ∀ (k : Nat), k ≠ c → ∀ j : Int, gi M' k j = gi M k j := fun k hk j => by
    unfold gi; rw [u.ne (Or.inl hk)]
  exact h.of (e 1 (Ne.symm hc.2.1)) (e 8 (Ne.symm hc.2.2.2)) (e 6 (Ne.symm hc.2.2.1)) (fun i _ _ => e a (Ne.symm hc.1) i)
theorem LK.fr {a : Nat} {b : Int} {L : List (Nat × Nat)} {M M' : mH} (h : LK a b M) (f : Fr L M M') (hc : s_al L (fun c => c != a && (c != 1 && (c != 6 && c != 8))) = true) : LK a b M' :=
  h.of (fun _ => f.g (s_al_ok hc (by simp))) (fun _ => f.g (s_al_ok hc (by simp))) (fun _ => f.g (s_al_ok hc (by simp))) (fun _ _ _ => f.g (s_al_ok hc (by simp)))
theorem LK.setlen {a : Nat} {b s : Int} {M M' : mH} {v : Value} (h : LK a b M) (u : Wr M a s.toNat v M') (hs : 0 ≤ s ∧ b ≤ s) (ha : a ≠ 1 ∧ a ≠ 6 ∧ a ≠ 8) : LK a b M' :=
  h.of (fun _ => u.gi_ne hs.1 (Or.inl (Ne.symm ha.1))) (fun _ => u.gi_ne hs.1 (Or.inl (Ne.symm ha.2.2))) (fun _ => u.gi_ne hs.1 (Or.inl (Ne.symm ha.2.1))) (fun i _ h2 => u.gi_ne hs.1 (Or.inr (by omega)))
theorem LK.next {a : Nat} {b : Int} {M : mH} (h : LK a b M) (e : gi M a b = gi M 6 b) : LK a (b + 1) M := by
  intro s h1 h2 h3
  by_cases q : s = b
  · subst q; exact e
  · exact h s h1 (by omega) h3
theorem LK.skip {a : Nat} {b : Int} {M : mH} (h : LK a b M) (e : ¬ SPK b M) : LK a (b + 1) M := by
  intro s h1 h2 h3
  by_cases q : s = b
  · subst q; exact absurd h3 e
  · exact h s h1 (by omega) h3
theorem LK.zero {a : Nat} {M : mH} : LK a 0 M := fun s h1 h2 _ => by omega
theorem TR.one {a : Nat} {M : mH} (h : gi M a 0 = -1) : TR a 1 M := by
  intro p h1 h2
  have : p = 0 := by omega
  subst this
  exact ⟨Or.inl h, fun q => by omega⟩
theorem GT.zero {a : Nat} {n : Int} {M : mH} (h : ∀ i : Int, 0 ≤ i → i < 16 → gi M (a + 1) i = 0) : GT a n M := by
  intro q h1 h2 h4
  rw [h q h1 (by omega)] at h4
  omega
theorem GT.wr {a : Nat} {n : Int} {M M' : mH} {c i : Nat} {v : Value} (h : GT a n M) (u : Wr M c i v M') (hc : c ≠ a ∧ c ≠ a + 1) : GT a n M' := by
  have e : ∀ (b : Nat) (j : Int), b ≠ c → gi M' b j = gi M b j := fun b j hb => by
    unfold gi; rw [u.ne (Or.inl hb)]
  have e1 := fun j => e a j (fun q => hc.1 q.symm)
  have e2 := fun j => e (a + 1) j (fun q => hc.2 q.symm)
  intro q h1 h2 h4 t h5 h6
  rw [e2] at h4 h6; rw [e1]; exact h q h1 h2 h4 t h5 h6
theorem GT.fr {a : Nat} {n : Int} {L : List (Nat × Nat)} {M M' : mH} (h : GT a n M) (f : Fr L M M') (hc : s_al L (fun c => c != a && c != a + 1) = true) : GT a n M' := by
  have e1 : ∀ i : Int, gi M' a i = gi M a i := fun i => f.g (s_al_ok hc (by simp))
  have e2 : ∀ i : Int, gi M' (a + 1) i = gi M (a + 1) i := fun i => f.g (s_al_ok hc (by simp))
  intro q h1 h2 h4 t h5 h6
  rw [e2] at h4 h6; rw [e1]; exact h q h1 h2 h4 t h5 h6

set_option maxRecDepth 4000 in
theorem L_k278_33x {base : Nat} {X : Nat → Option mC} {G : Nat → Value} (E : EnvOK base X G) {d : Nat} (hd : 0 ≤ d) {M : mH} (H : HI base M) (val : Int) (h0 : 0 ≤ val ∧ val ≤ 0) : ∀ mz : Nat, (∀ (x2 x3 : Int) (N : mH), HI base N → Fr [(33, 0)] M N → (∀ i : Int, 0 ≤ i → i < x2 → gi N 33 i = 0) → (0 ≤ x2) → (x2 ≤ 16) → (16 ≤ x3) → (x3 ≤ 16) → (16 - x2) * 1 + 0 < (mz : Int) → sRn base X G d T278 5 [(0, vR 33), (1, vI val), (2, vI x2), (3, vI x3)] [] N (s_Q base (pV (fun M' => HI base M' ∧ Fr [(33, 0)] M M' ∧ (∀ i : Int, 0 ≤ i → i < 16 → gi M' 33 i = 0))))) := by
  have f0 : Fr [(33, 0)] M M := Fr.rf
  intro mz
  induction mz with
  | zero => exact fun x2 x3 N _ _ z0 z1 z2 z3 z4 z5 => by omega
  | succ mz ih =>
    intro x2 x3 N HN fN i0 i1 i2 i3 i4 hmu
    refine s_blx (lv' := [(0, vR 33), (1, vI val), (2, vI x2), (3, vI x3)]) (st' := [vI x3, vI x2]) B278_5_7 rfl ?_
    refine r_icmp (tgt := 20) (pc' := 10) D278_7 rfl rfl (by unfold inR; omega) (fun (c1 : x3 ≤ x2) => ?_) (fun (c1 : ¬ (x3 ≤ x2)) => ?_)
    · exact r_retV D278_20 rfl (⟨HN, fN, fun i h1 h2 => i0 i h1 (by omega)⟩)
    · refine s_blx (lv' := [(0, vR 33), (1, vI val), (2, vI x2), (3, vI x3)]) (st' := [vI val, vI x2, vR 33]) B278_10_13 rfl ?_
      refine r_iast (pc' := 14) D278_13 rfl sc_33 HN (by omega) (by unfold inR; omega) (show 0 ≤ val ∧ val ≤ 8 by omega) ?_
      intro M2 u3 H4 p5
      have f6 := fN.wr u3 rfl
      have ku := u3
      have kp := p5
      refine s_blx (lv' := [(2, vI (x2 + 1)), (0, vR 33), (1, vI val), (3, vI x3)]) (st' := []) B278_14_17 rfl ?_
      refine r_goto (tgt := 5) D278_17 rfl ?_
      refine r_loc (lv' := [(0, vR 33), (1, vI val), (2, vI (x2 + 1)), (3, vI x3)]) ⟨rfl, rfl, rfl, rfl, trivial⟩ rfl rfl ?_
      exact ih (x2 + 1) x3 M2 H4 f6 (fun i h1 h2 => if e : i = x2 then (by rw [e, kp]; omega) else (by rw [ku.gi_ne (by omega) (Or.inr e)]; exact i0 i h1 (by omega))) (by omega) (by omega) (by omega) (by omega) (by omega)
set_option maxRecDepth 4000 in
theorem k278_33x {base : Nat} {X : Nat → Option mC} {G : Nat → Value} (E : EnvOK base X G) {d : Nat} (hd : 0 ≤ d) {M : mH} (H : HI base M) (val : Int) (h0 : 0 ≤ val ∧ val ≤ 0) : sOk base X G d T278 [vR 33, vI val] M (pV (fun M' => HI base M' ∧ Fr [(33, 0)] M M' ∧ (∀ i : Int, 0 ≤ i → i < 16 → gi M' 33 i = 0))) := by
  have f0 : Fr [(33, 0)] M M := Fr.rf
  refine sOk.of (show sRn base X G d T278 0 [(0, vR 33), (1, vI val)] [] M _ from ?_)
  refine s_blx (lv' := [(2, vI 0), (0, vR 33), (1, vI val)]) (st' := [vR 33]) B278_0_3 rfl ?_
  refine r_len (ni := 16) (pc' := 4) D278_3 rfl sc_33 (by decide) rfl H.1 ?_
  refine s_blx (lv' := [(3, vI 16), (2, vI 0), (0, vR 33), (1, vI val)]) (st' := []) B278_4_5 rfl ?_
  refine r_loc (lv' := [(0, vR 33), (1, vI val), (2, vI 0), (3, vI 16)]) ⟨rfl, rfl, rfl, rfl, trivial⟩ rfl rfl ?_
  exact (L_k278_33x E hd H val h0 (((16 - 0) * 1 + 0 : Int) + 1).toNat) 0 16 M H f0 (fun i h1 h2 => by omega) (by omega) (by omega) (by omega) (by omega) (by omega)
set_option maxRecDepth 4000 in
theorem L_k81_20x {base : Nat} {X : Nat → Option mC} {G : Nat → Value} (E : EnvOK base X G) {d : Nat} (hd : 3 ≤ d) {M : mH} (H : HI base M) (parent : Int) (comes : Int) (n : Int) (h0 : TR 21 n M) (h1 : gi M 20 15 = n) (h2 : 1 ≤ n ∧ n ≤ 145) (h3 : 0 ≤ parent ∧ parent < n) (h4 : 0 ≤ parent ∧ parent ≤ 144) (h5 : -2147483648 ≤ comes ∧ comes ≤ 2147483647) : ∀ mz : Nat, (∀ (x4 x5 : Int) (N : mH), HI base N → Fr [(20, 16), (21, 0), (22, 0), (23, 0), (24, 0), (25, 0), (26, 0), (27, 0), (28, 0), (29, 0), (30, 0), (31, 0), (35, 0)] M N → (gi N 20 15 = x4 + 1) → (TR 21 (x4 + 1) N) → (1 ≤ x4 ∧ x4 ≤ 144) → (n ≤ x4 + 1) → (0 ≤ x4) → (x4 ≤ 144) → (0 ≤ x5) → (x5 ≤ 3) → (3 - x5) * 1 + 0 < (mz : Int) → sRn base X G d T81 89 [(0, vR 20), (1, vI parent), (4, vI x4), (5, vI x5)] [] N (s_Q base (pI (fun v M' => HI base M' ∧ Fr [(20, 16), (21, 0), (22, 0), (23, 0), (24, 0), (25, 0), (26, 0), (27, 0), (28, 0), (29, 0), (30, 0), (31, 0), (35, 0)] M M' ∧ (1 ≤ v ∧ v ≤ 144) ∧ (v < gi M' 20 15) ∧ (n ≤ gi M' 20 15 ∧ gi M' 20 15 ≤ 145) ∧ (TR 21 (gi M' 20 15) M'))))) := by
  have f0 : Fr [(20, 16), (21, 0), (22, 0), (23, 0), (24, 0), (25, 0), (26, 0), (27, 0), (28, 0), (29, 0), (30, 0), (31, 0), (35, 0)] M M := Fr.rf
  intro mz
  induction mz with
  | zero => exact fun x4 x5 N _ _ z0 z1 z2 z3 z4 z5 z6 z7 z8 => by omega
  | succ mz ih =>
    intro x4 x5 N HN fN i0 i1 i2 i3 i4 i5 i6 i7 hmu
    refine s_blx (lv' := [(0, vR 20), (1, vI parent), (4, vI x4), (5, vI x5)]) (st' := [vI 3, vI x5]) B81_89_92 rfl ?_
    refine r_icmp (tgt := 142) (pc' := 95) D81_92 rfl rfl (by unfold inR; omega) (fun (c61 : 3 ≤ x5) => ?_) (fun (c61 : ¬ (3 ≤ x5)) => ?_)
    · refine s_blx (lv' := [(0, vR 20), (1, vI parent), (4, vI x4), (5, vI x5)]) (st' := [vI x4]) B81_142_144 rfl ?_
      exact r_iretI D81_144 rfl (⟨HN, fN, by omega, by omega, by omega, by rw [i0]; exact i1⟩)
    · refine s_blx (lv' := [(0, vR 20), (1, vI parent), (4, vI x4), (5, vI x5)]) (st' := [vR 20]) B81_95_96 rfl ?_
      refine r_gfix (r := 26) (pc' := 99) D81_96 rfl gf_9_28_20 HN.1 ?_
      refine s_blx (lv' := [(0, vR 20), (1, vI parent), (4, vI x4), (5, vI x5)]) (st' := [vI x4, vR 26, vI x4, vR 26]) B81_99_102 rfl ?_
      refine r_bald (pc' := 103) D81_102 rfl sc_26 (by decide) HN.1 (by omega) ?_
      intro w62 e63 r64
      have b_w62 := HN.2 26 (x4) 0 1 rfl
      rw [← e63] at b_w62; clear r64
      refine s_blx (lv' := [(0, vR 20), (1, vI parent), (4, vI x4), (5, vI x5)]) (st' := [vR 20, vI w62, vI x4, vR 26]) B81_103_104 rfl ?_
      refine r_gfix (r := 27) (pc' := 107) D81_104 rfl gf_9_31_20 HN.1 ?_
      refine s_blx (lv' := [(0, vR 20), (1, vI parent), (4, vI x4), (5, vI x5)]) (st' := [vI ((x4 * 3) + x5), vR 27, vI w62, vI x4, vR 26]) B81_107_114 rfl ?_
      refine r_iald (pc' := 115) D81_114 rfl sc_27 HN.1 (by omega) ?_
      intro w65 e66 r67
      unfold inR at r67
      refine s_blx (lv' := [(0, vR 20), (1, vI parent), (4, vI x4), (5, vI x5)]) (st' := [vR 20, vI w65, vI w62, vI x4, vR 26]) B81_115_116 rfl ?_
      refine r_gfix (r := 27) (pc' := 119) D81_116 rfl gf_9_31_20 HN.1 ?_
      refine s_blx (lv' := [(0, vR 20), (1, vI parent), (4, vI x4), (5, vI x5)]) (st' := [vI ((parent * 3) + x5), vR 27, vI w65, vI w62, vI x4, vR 26]) B81_119_125 rfl ?_
      refine r_iald (pc' := 126) D81_125 rfl sc_27 HN.1 (by omega) ?_
      intro w68 e69 r70
      unfold inR at r70
      refine r_icmp (tgt := 133) (pc' := 129) D81_126 rfl rfl (by unfold inR; omega) (fun (c71 : w65 = w68) => ?_) (fun (c71 : ¬ (w65 = w68)) => ?_)
      · refine s_blx (lv' := [(0, vR 20), (1, vI parent), (4, vI x4), (5, vI x5)]) (st' := [vI 0, vI w62, vI x4, vR 26]) B81_133_134 rfl ?_
        refine r_ior01 (pc' := 135) D81_134 rfl (by omega) (by omega) ?_
        intro z72 r73
        refine r_zast (pc' := 136) D81_135 rfl sc_26 HN (by omega) (by omega) (show 0 ≤ z72 ∧ z72 ≤ 1 by omega) ?_
        intro M74 u75 H76 p77
        have f78 := fN.wr u75 rfl
        have hp79 := i1.wr u75 (by decide)
        refine s_blx (lv' := [(5, vI (x5 + 1)), (0, vR 20), (1, vI parent), (4, vI x4)]) (st' := []) B81_136_139 rfl ?_
        refine r_goto (tgt := 89) D81_139 rfl ?_
        refine r_loc (lv' := [(0, vR 20), (1, vI parent), (4, vI x4), (5, vI (x5 + 1))]) ⟨rfl, rfl, rfl, rfl, trivial⟩ rfl rfl ?_
        have g80 : gi M74 20 15 = gi N 20 15 := (u75.gi_ne (by omega) (Or.inl (by decide))).trans (rfl)
        exact ih x4 (x5 + 1) M74 H76 f78 (by omega) (hp79) (by omega) (by omega) (by omega) (by omega) (by omega) (by omega) (by omega)
      · refine s_blx (lv' := [(0, vR 20), (1, vI parent), (4, vI x4), (5, vI x5)]) (st' := [vI 1, vI w62, vI x4, vR 26]) B81_129_130 rfl ?_
        refine r_goto (tgt := 134) D81_130 rfl ?_
        refine r_ior01 (pc' := 135) D81_134 rfl (by omega) (by omega) ?_
        intro z81 r82
        refine r_zast (pc' := 136) D81_135 rfl sc_26 HN (by omega) (by omega) (show 0 ≤ z81 ∧ z81 ≤ 1 by omega) ?_
        intro M83 u84 H85 p86
        have f87 := fN.wr u84 rfl
        have hp88 := i1.wr u84 (by decide)
        refine s_blx (lv' := [(5, vI (x5 + 1)), (0, vR 20), (1, vI parent), (4, vI x4)]) (st' := []) B81_136_139 rfl ?_
        refine r_goto (tgt := 89) D81_139 rfl ?_
        refine r_loc (lv' := [(0, vR 20), (1, vI parent), (4, vI x4), (5, vI (x5 + 1))]) ⟨rfl, rfl, rfl, rfl, trivial⟩ rfl rfl ?_
        have g89 : gi M83 20 15 = gi N 20 15 := (u84.gi_ne (by omega) (Or.inl (by decide))).trans (rfl)
        exact ih x4 (x5 + 1) M83 H85 f87 (by omega) (hp88) (by omega) (by omega) (by omega) (by omega) (by omega) (by omega) (by omega)
set_option maxRecDepth 4000 in
theorem k81_20x {base : Nat} {X : Nat → Option mC} {G : Nat → Value} (E : EnvOK base X G) {d : Nat} (hd : 3 ≤ d) {M : mH} (H : HI base M) (parent : Int) (comes : Int) (n : Int) (h0 : TR 21 n M) (h1 : gi M 20 15 = n) (h2 : 1 ≤ n ∧ n ≤ 145) (h3 : 0 ≤ parent ∧ parent < n) (h4 : 0 ≤ parent ∧ parent ≤ 144) (h5 : -2147483648 ≤ comes ∧ comes ≤ 2147483647) : sOk base X G d T81 [vR 20, vI parent, vR 1, vI comes] M (pI (fun v M' => HI base M' ∧ Fr [(20, 16), (21, 0), (22, 0), (23, 0), (24, 0), (25, 0), (26, 0), (27, 0), (28, 0), (29, 0), (30, 0), (31, 0), (35, 0)] M M' ∧ (1 ≤ v ∧ v ≤ 144) ∧ (v < gi M' 20 15) ∧ (n ≤ gi M' 20 15 ∧ gi M' 20 15 ≤ 145) ∧ (TR 21 (gi M' 20 15) M'))) := by
  have f0 : Fr [(20, 16), (21, 0), (22, 0), (23, 0), (24, 0), (25, 0), (26, 0), (27, 0), (28, 0), (29, 0), (30, 0), (31, 0), (35, 0)] M M := Fr.rf
  refine sOk.of (show sRn base X G d T81 0 [(0, vR 20), (1, vI parent), (2, vR 1), (3, vI comes)] [] M _ from ?_)
  refine s_blx (lv' := [(0, vR 20), (1, vI parent), (2, vR 1), (3, vI comes)]) (st' := [vR 20]) B81_0_1 rfl ?_
  refine r_gint (ki := 15) (pc' := 4) D81_1 rfl gf_9_58_20 rfl H.1 ?_
  intro w1 e2 r3
  have b_w1 := H.2 20 (15) 0 145 rfl
  rw [← e2] at b_w1; clear r3
  refine s_blx (lv' := [(0, vR 20), (1, vI parent), (2, vR 1), (3, vI comes)]) (st' := [vI 144, vI w1]) B81_4_7 rfl ?_
  refine r_min (pc' := 10) D81_7 rfl mc_9_static_115 sp_9_115 (Nat.le_of_ble_eq_true rfl) (by unfold inR; omega) ?_
  intro z4 r5 r6 r7
  refine s_blx (lv' := [(4, vI z4), (0, vR 20), (1, vI parent), (2, vR 1), (3, vI comes)]) (st' := [vI (z4 + 1), vR 20]) B81_10_17 rfl ?_
  refine r_pint (ki := 15) (pc' := 20) D81_17 rfl pf_9_58_20 rfl H (by unfold inR; omega) (show 0 ≤ (z4 + 1) ∧ (z4 + 1) ≤ 145 by omega) ?_
  intro M8 u9 H10 p11
  have f12 := f0.wr u9 rfl
  have hp13 := h0.wr u9 (by decide)
  refine s_blx (lv' := [(4, vI z4), (0, vR 20), (1, vI parent), (2, vR 1), (3, vI comes)]) (st' := [vR 20]) B81_20_21 rfl ?_
  refine r_gfix (r := 21) (pc' := 24) D81_21 rfl gf_9_11_20 H10.1 ?_
  refine s_blx (lv' := [(4, vI z4), (0, vR 20), (1, vI parent), (2, vR 1), (3, vI comes)]) (st' := [vI (-1), vI z4, vR 21]) B81_24_27 rfl ?_
  refine r_iast (pc' := 28) D81_27 rfl sc_21 H10 (by omega) (by unfold inR; omega) (show (-1) ≤ (-1) ∧ (-1) ≤ 144 by omega) ?_
  intro M14 u15 H16 p17
  have f18 := f12.wr u15 rfl
  have ktr1 := hp13
  have ku2 := u15
  refine s_blx (lv' := [(4, vI z4), (0, vR 20), (1, vI parent), (2, vR 1), (3, vI comes)]) (st' := [vR 20]) B81_28_29 rfl ?_
  refine r_gfix (r := 22) (pc' := 32) D81_29 rfl gf_9_15_20 H16.1 ?_
  refine s_blx (lv' := [(4, vI z4), (0, vR 20), (1, vI parent), (2, vR 1), (3, vI comes)]) (st' := [vR 20, vI z4, vR 22]) B81_32_35 rfl ?_
  refine r_gfix (r := 21) (pc' := 38) D81_35 rfl gf_9_11_20 H16.1 ?_
  refine s_blx (lv' := [(4, vI z4), (0, vR 20), (1, vI parent), (2, vR 1), (3, vI comes)]) (st' := [vI parent, vR 21, vI z4, vR 22]) B81_38_39 rfl ?_
  refine r_iald (pc' := 40) D81_39 rfl sc_21 H16.1 (by omega) ?_
  intro w19 e20 r21
  have b_w19 := H16.2 21 (parent) (-1) 144 rfl
  rw [← e20] at b_w19; clear r21
  have kw := e20
  refine r_iast (pc' := 41) D81_40 rfl sc_22 H16 (by omega) (by unfold inR; omega) (show (-1) ≤ w19 ∧ w19 ≤ 144 by omega) ?_
  intro M22 u23 H24 p25
  have f26 := f18.wr u23 rfl
  have ku3 := u23
  refine s_blx (lv' := [(4, vI z4), (0, vR 20), (1, vI parent), (2, vR 1), (3, vI comes)]) (st' := [vR 20]) B81_41_42 rfl ?_
  refine r_gfix (r := 21) (pc' := 45) D81_42 rfl gf_9_11_20 H24.1 ?_
  refine s_blx (lv' := [(4, vI z4), (0, vR 20), (1, vI parent), (2, vR 1), (3, vI comes)]) (st' := [vI z4, vI parent, vR 21]) B81_45_48 rfl ?_
  refine r_iast (pc' := 49) D81_48 rfl sc_21 H24 (by omega) (by unfold inR; omega) (show (-1) ≤ z4 ∧ z4 ≤ 144 by omega) ?_
  intro M27 u28 H29 p30
  have f31 := f26.wr u28 rfl
  have ktr := ktr1.add ku2 ku3 u28 kw (by unfold inR; omega) (by omega) (by omega)
  refine s_blx (lv' := [(4, vI z4), (0, vR 20), (1, vI parent), (2, vR 1), (3, vI comes)]) (st' := [vR 20]) B81_49_50 rfl ?_
  refine r_gfix (r := 24) (pc' := 53) D81_50 rfl gf_9_21_20 H29.1 ?_
  refine s_blx (lv' := [(4, vI z4), (0, vR 20), (1, vI parent), (2, vR 1), (3, vI comes)]) (st' := [vR 20, vI z4, vR 24]) B81_53_56 rfl ?_
  refine r_gfix (r := 24) (pc' := 59) D81_56 rfl gf_9_21_20 H29.1 ?_
  refine s_blx (lv' := [(4, vI z4), (0, vR 20), (1, vI parent), (2, vR 1), (3, vI comes)]) (st' := [vI parent, vR 24, vI z4, vR 24]) B81_59_60 rfl ?_
  refine r_iald (pc' := 61) D81_60 rfl sc_24 H29.1 (by omega) ?_
  intro w32 e33 r34
  unfold inR at r34
  refine r_iast (pc' := 62) D81_61 rfl sc_24 H29 (by omega) (by unfold inR; omega) trivial ?_
  intro M35 u36 H37 p38
  have f39 := f31.wr u36 rfl
  have hp40 := ktr.wr u36 (by decide)
  refine s_blx (lv' := [(4, vI z4), (0, vR 20), (1, vI parent), (2, vR 1), (3, vI comes)]) (st' := [vR 20]) B81_62_63 rfl ?_
  refine r_gfix (r := 25) (pc' := 66) D81_63 rfl gf_9_24_20 H37.1 ?_
  refine s_blx (lv' := [(4, vI z4), (0, vR 20), (1, vI parent), (2, vR 1), (3, vI comes)]) (st' := [vI 0, vI z4, vR 25]) B81_66_69 rfl ?_
  refine r_zast (pc' := 70) D81_69 rfl sc_25 H37 (by omega) (by omega) (show 0 ≤ 0 ∧ 0 ≤ 1 by omega) ?_
  intro M41 u42 H43 p44
  have f45 := f39.wr u42 rfl
  have hp46 := hp40.wr u42 (by decide)
  refine s_blx (lv' := [(4, vI z4), (0, vR 20), (1, vI parent), (2, vR 1), (3, vI comes)]) (st' := [vI comes, vI z4, vR 1, vR 20]) B81_70_75 rfl ?_
  refine r_vV (c := 20) (args := [vR 1, vI z4, vI comes]) (rest := []) (pc' := 78) D81_75 rfl ck_9_virtual_120 TE82 rfl (Nat.le_of_ble_eq_true rfl) ⟨Nat.le_of_ble_eq_true rfl, Nat.le_of_ble_eq_true rfl⟩ sc_20 ⟨rfl, by decide⟩ H43.1 (dp_0 hd rfl) (k82_20 E (dp_n hd rfl) H43 z4 comes (by omega) (by omega)) ?_
  intro M48 q51
  obtain ⟨H49, f50⟩ := q51
  have f52 := f45.tr (f50.up rfl)
  have hp53 := hp46.fr f50 (by decide)
  refine s_blx (lv' := [(4, vI z4), (0, vR 20), (1, vI parent), (2, vR 1), (3, vI comes)]) (st' := [vR 20]) B81_78_79 rfl ?_
  refine r_gfix (r := 26) (pc' := 82) D81_79 rfl gf_9_28_20 H49.1 ?_
  refine s_blx (lv' := [(4, vI z4), (0, vR 20), (1, vI parent), (2, vR 1), (3, vI comes)]) (st' := [vI 0, vI z4, vR 26]) B81_82_85 rfl ?_
  refine r_zast (pc' := 86) D81_85 rfl sc_26 H49 (by omega) (by omega) (show 0 ≤ 0 ∧ 0 ≤ 1 by omega) ?_
  intro M54 u55 H56 p57
  have f58 := f52.wr u55 rfl
  have hp59 := hp53.wr u55 (by decide)
  refine s_blx (lv' := [(5, vI 0), (4, vI z4), (0, vR 20), (1, vI parent), (2, vR 1), (3, vI comes)]) (st' := []) B81_86_89 rfl ?_
  refine r_loc (lv' := [(0, vR 20), (1, vI parent), (4, vI z4), (5, vI 0)]) ⟨rfl, rfl, rfl, rfl, trivial⟩ rfl rfl ?_
  have g60 : gi M54 20 15 = z4 + 1 := (u55.gi_ne (by omega) (Or.inl (by decide))).trans ((f50.g rfl).trans ((u42.gi_ne (by omega) (Or.inl (by decide))).trans ((u36.gi_ne (by omega) (Or.inl (by decide))).trans ((u28.gi_ne (by omega) (Or.inl (by decide))).trans ((u23.gi_ne (by omega) (Or.inl (by decide))).trans ((u15.gi_ne (by omega) (Or.inl (by decide))).trans (p11)))))))
  exact (L_k81_20x E hd H parent comes n h0 h1 h2 h3 h4 h5 (((3 - 0) * 1 + 0 : Int) + 1).toNat) z4 0 M54 H56 f58 (by omega) (hp59) (by omega) (by omega) (by omega) (by omega) (by omega) (by omega) (by omega)
set_option maxRecDepth 4000 in
theorem L_k80_20x {base : Nat} {X : Nat → Option mC} {G : Nat → Value} (E : EnvOK base X G) {d : Nat} (hd : 4 ≤ d) {M : mH} (H : HI base M) (sentence : Int) (lightWord : Int) (n : Int) (h0 : TR 21 n M) (h1 : GT 32 n M) (h2 : gi M 20 15 = n) (h3 : 1 ≤ n ∧ n ≤ 145) (h4 : 0 ≤ sentence ∧ sentence ≤ 15) (h5 : -2147483648 ≤ lightWord ∧ lightWord ≤ 2147483647) (h6 : LK 33 sentence M) (h7 : sentence < gi M 1 10) : ∀ mz : Nat, (∀ (x4 x5 x6 kn : Int) (N : mH), HI base N → Fr [(20, 16), (21, 0), (22, 0), (23, 0), (24, 0), (25, 0), (26, 0), (27, 0), (28, 0), (29, 0), (30, 0), (31, 0), (32, 0), (33, 0), (35, 0)] M N → (TR 21 kn N) → (GP 32 kn sentence x6 N) → (gi N 20 15 = kn) → (1 ≤ kn ∧ kn ≤ 145) → (0 ≤ x5 ∧ x5 < kn) → (LK 33 sentence N) → (gi N 33 sentence = x4) → (gi N 6 sentence = x4) → (0 ≤ x4 ∧ x4 ≤ 8) → (0 ≤ x6 ∧ x6 ≤ x4) → (sentence < gi N 1 10) → (0 ≤ x4) → (x4 ≤ 8) → (0 ≤ x5) → (x5 ≤ 144) → (0 ≤ x6) → (x6 ≤ 8) → (8 - x6) * 1 + 0 < (mz : Int) → sRn base X G d T80 22 [(0, vR 20), (1, vR 1), (2, vI sentence), (3, vI lightWord), (4, vI x4), (5, vI x5), (6, vI x6)] [] N (s_Q base (pV (fun M' => HI base M' ∧ Fr [(20, 16), (21, 0), (22, 0), (23, 0), (24, 0), (25, 0), (26, 0), (27, 0), (28, 0), (29, 0), (30, 0), (31, 0), (32, 0), (33, 0), (35, 0)] M M' ∧ (1 ≤ gi M' 20 15 ∧ gi M' 20 15 ≤ 145) ∧ (TR 21 (gi M' 20 15) M') ∧ (GT 32 (gi M' 20 15) M') ∧ (LK 33 (sentence + 1) M'))))) := by
  have f0 : Fr [(20, 16), (21, 0), (22, 0), (23, 0), (24, 0), (25, 0), (26, 0), (27, 0), (28, 0), (29, 0), (30, 0), (31, 0), (32, 0), (33, 0), (35, 0)] M M := Fr.rf
  intro mz
  induction mz with
  | zero => exact fun x4 x5 x6 kn N _ _ z0 z1 z2 z3 z4 z5 z6 z7 z8 z9 z10 z11 z12 z13 z14 z15 z16 z17 => by omega
  | succ mz ih =>
    intro x4 x5 x6 kn N HN fN i0 i1 i2 i3 i4 i5 i6 i7 i8 i9 i10 i11 i12 i13 i14 i15 i16 hmu
    refine s_blx (lv' := [(0, vR 20), (1, vR 1), (2, vI sentence), (3, vI lightWord), (4, vI x4), (5, vI x5), (6, vI x6)]) (st' := [vI x4, vI x6]) B80_22_26 rfl ?_
    refine r_icmp (tgt := 146) (pc' := 29) D80_26 rfl rfl (by unfold inR; omega) (fun (c14 : x4 ≤ x6) => ?_) (fun (c14 : ¬ (x4 ≤ x6)) => ?_)
    · refine s_blx (lv' := [(0, vR 20), (1, vR 1), (2, vI sentence), (3, vI lightWord), (4, vI x4), (5, vI x5), (6, vI x6)]) (st' := [vI sentence, vI 1, vR 1, vI x5, vR 20]) B80_146_152 rfl ?_
      refine r_bin (pc' := 153) D80_152 rfl rfl ?_
      intro z15 r16 _; unfold inR at r16
      refine r_vI (c := 20) (args := [vI x5, vR 1, vI z15]) (rest := []) (pc' := 156) D80_153 rfl ck_9_virtual_105 TE81 rfl (Nat.le_of_ble_eq_true rfl) ⟨Nat.le_of_ble_eq_true rfl, Nat.le_of_ble_eq_true rfl⟩ sc_20 ⟨rfl, by decide⟩ HN.1 (dp_0 hd rfl) (k81_20x E (dp_n hd rfl) HN x5 z15 kn (i0) (by omega) (by omega) (by omega) (by omega) (by omega)) ?_
      intro v17 M18 q25
      obtain ⟨H19, f20, q21, q22, q23, q24⟩ := q25
      have f26 := fN.tr (f20.up rfl)
      have hp27 := i1.fr f20 (by decide)
      have hp28 := i5.fr f20 (by decide)
      obtain ⟨kn2, hkn⟩ : ∃ q, q = gi M18 20 15 := ⟨_, rfl⟩
      have ktr := q24; clear q24
      rw [← hkn] at ktr
      have kgp := hp27.up (show kn ≤ kn2 by omega)
      refine s_blx (lv' := [(5, vI v17), (0, vR 20), (1, vR 1), (2, vI sentence), (3, vI lightWord), (4, vI x4), (6, vI x6)]) (st' := [vR 20]) B80_156_159 rfl ?_
      refine r_gfix (r := 25) (pc' := 162) D80_159 rfl gf_9_24_20 H19.1 ?_
      refine s_blx (lv' := [(5, vI v17), (0, vR 20), (1, vR 1), (2, vI sentence), (3, vI lightWord), (4, vI x4), (6, vI x6)]) (st' := [vI 1, vI v17, vR 25]) B80_162_165 rfl ?_
      refine r_zast (pc' := 166) D80_165 rfl sc_25 H19 (by omega) (by omega) (show 0 ≤ 1 ∧ 1 ≤ 1 by omega) ?_
      intro M29 u30 H31 p32
      have f33 := f26.wr u30 rfl
      have hp34 := hp28.wr u30 (by decide)
      have hp35 := ktr.wr u30 (by decide)
      have hp36 := kgp.wr u30 (by decide)
      refine s_blx (lv' := [(5, vI v17), (0, vR 20), (1, vR 1), (2, vI sentence), (3, vI lightWord), (4, vI x4), (6, vI x6)]) (st' := [vR 20]) B80_166_167 rfl ?_
      refine r_gfix (r := 32) (pc' := 170) D80_167 rfl gf_9_46_20 H31.1 ?_
      refine s_blx (lv' := [(5, vI v17), (0, vR 20), (1, vR 1), (2, vI sentence), (3, vI lightWord), (4, vI x4), (6, vI x6)]) (st' := [vI v17, vI ((sentence * 9) + x4), vR 32]) B80_170_179 rfl ?_
      refine r_iast (pc' := 180) D80_179 rfl sc_32 H31 (by omega) (by unfold inR; omega) (show 0 ≤ v17 ∧ v17 ≤ 144 by omega) ?_
      intro M37 u38 H39 p40
      have f41 := f33.wr u38 rfl
      have hp42 := hp34.wr u38 (by decide)
      have hp43 := hp35.wr u38 (by decide)
      have kg : gi M37 20 15 = kn2 := ((u38.gi_ne (by omega) (Or.inl (by decide))).trans ((u30.gi_ne (by omega) (Or.inl (by decide))).trans (hkn.symm)))
      have kl : gi M37 33 sentence = gi N 33 sentence := ((u38.gi_ne (by omega) (Or.inl (by decide))).trans ((u30.gi_ne (by omega) (Or.inl (by decide))).trans ((f20.g rfl).trans (rfl))))
      have kl6 : gi M37 6 sentence = gi N 6 sentence := ((u38.gi_ne (by omega) (Or.inl (by decide))).trans ((u30.gi_ne (by omega) (Or.inl (by decide))).trans ((f20.g rfl).trans (rfl))))
      have kgd : GT 32 kn2 M37 := (GP.set (k := x4) (by rw [show x4 = x6 by omega]; exact hp36) u38 (by omega) (by omega) (by omega) (by omega) (fun q _ _ => (H31.2 33 q 0 8 rfl).2)).done (show gi M37 33 sentence < x4 + 1 by omega)
      have kt1 : TR 21 (gi M37 20 15) M37 := by rw [kg]; exact hp43
      have kt2 : GT 32 (gi M37 20 15) M37 := by rw [kg]; exact kgd
      have kt3 : LK 33 (sentence + 1) M37 := hp42.next (by omega)
      have g44 : gi M37 20 15 = kn2 := (u38.gi_ne (by omega) (Or.inl (by decide))).trans ((u30.gi_ne (by omega) (Or.inl (by decide))).trans (hkn.symm))
      exact r_retV D80_180 rfl (⟨H39, f41, by omega, kt1, kt2, kt3⟩)
    · refine s_blx (lv' := [(0, vR 20), (1, vR 1), (2, vI sentence), (3, vI lightWord), (4, vI x4), (5, vI x5), (6, vI x6)]) (st' := [vI (x6 + 1), vI sentence, vR 1]) B80_29_35 rfl ?_
      refine r_vIp (c := 1) (args := [vI sentence, vI (x6 + 1)]) (rest := []) (pc' := 38) D80_35 rfl ck_9_virtual_97 TE70 rfl (Nat.le_of_ble_eq_true rfl) ⟨Nat.le_of_ble_eq_true rfl, Nat.le_of_ble_eq_true rfl⟩ sc_1 ⟨rfl, by decide⟩ HN.1 (dp_0 hd rfl) (k70_1x E (dp_n hd rfl) HN sentence (x6 + 1) (by omega) (by omega)) ?_
      intro v45 q49
      obtain ⟨q47, q48⟩ := q49
      have kcb := q48; clear q48
      refine s_blx (lv' := [(7, vI v45), (0, vR 20), (1, vR 1), (2, vI sentence), (3, vI lightWord), (4, vI x4), (5, vI x5), (6, vI x6)]) (st' := [vI v45, vR 1]) B80_38_43 rfl ?_
      refine r_vIp (c := 1) (args := [vI v45]) (rest := []) (pc' := 46) D80_43 rfl ck_9_virtual_101 TE72 rfl (Nat.le_of_ble_eq_true rfl) ⟨Nat.le_of_ble_eq_true rfl, Nat.le_of_ble_eq_true rfl⟩ sc_1 ⟨rfl, by decide⟩ HN.1 (dp_0 hd rfl) (k72_1x E (dp_n hd rfl) HN v45 (by omega)) ?_
      intro v50 q54
      obtain ⟨q52, q53⟩ := q54
      have kfi := q53; clear q53
      refine s_blx (lv' := [(8, vI v50), (7, vI v45), (0, vR 20), (1, vR 1), (2, vI sentence), (3, vI lightWord), (4, vI x4), (5, vI x5), (6, vI x6)]) (st' := [vI sentence, vI v50]) B80_46_51 rfl ?_
      refine r_icmp (tgt := 72) (pc' := 54) D80_51 rfl rfl (by unfold inR; omega) (fun (c55 : sentence ≤ v50) => ?_) (fun (c55 : ¬ (sentence ≤ v50)) => ?_)
      · refine s_blx (lv' := [(8, vI v50), (7, vI v45), (0, vR 20), (1, vR 1), (2, vI sentence), (3, vI lightWord), (4, vI x4), (5, vI x5), (6, vI x6)]) (st' := [vI v45, vR 1, vI x5, vR 20]) B80_72_78 rfl ?_
        refine r_vI (c := 20) (args := [vI x5, vR 1, vI v45]) (rest := []) (pc' := 81) D80_78 rfl ck_9_virtual_105 TE81 rfl (Nat.le_of_ble_eq_true rfl) ⟨Nat.le_of_ble_eq_true rfl, Nat.le_of_ble_eq_true rfl⟩ sc_20 ⟨rfl, by decide⟩ HN.1 (dp_0 hd rfl) (k81_20x E (dp_n hd rfl) HN x5 v45 kn (i0) (by omega) (by omega) (by omega) (by omega) (by omega)) ?_
        intro v56 M57 q64
        obtain ⟨H58, f59, q60, q61, q62, q63⟩ := q64
        have f65 := fN.tr (f59.up rfl)
        have hp66 := i1.fr f59 (by decide)
        have hp67 := i5.fr f59 (by decide)
        obtain ⟨kn2, hkn⟩ : ∃ q, q = gi M57 20 15 := ⟨_, rfl⟩
        have ktr := q63; clear q63
        rw [← hkn] at ktr
        have kgp := hp66.up (show kn ≤ kn2 by omega)
        refine s_blx (lv' := [(5, vI v56), (8, vI v50), (7, vI v45), (0, vR 20), (1, vR 1), (2, vI sentence), (3, vI lightWord), (4, vI x4), (6, vI x6)]) (st' := [vR 1]) B80_81_84 rfl ?_
        refine r_gfix (r := 5) (pc' := 87) D80_84 rfl gf_9_109_1 H58.1 ?_
        refine s_blx (lv' := [(5, vI v56), (8, vI v50), (7, vI v45), (0, vR 20), (1, vR 1), (2, vI sentence), (3, vI lightWord), (4, vI x4), (6, vI x6)]) (st' := [vI ((sentence * 8) + x6), vR 5]) B80_87_94 rfl ?_
        refine r_iald (pc' := 95) D80_94 rfl sc_5 H58.1 (by omega) ?_
        intro w68 e69 r70
        have b_w68 := H58.2 5 ((sentence * 8) + x6) 0 29 rfl
        rw [← e69] at b_w68; clear r70
        refine s_blx (lv' := [(9, vI w68), (5, vI v56), (8, vI v50), (7, vI v45), (0, vR 20), (1, vR 1), (2, vI sentence), (3, vI lightWord), (4, vI x4), (6, vI x6)]) (st' := [vR 20]) B80_95_98 rfl ?_
        refine r_gfix (r := 24) (pc' := 101) D80_98 rfl gf_9_21_20 H58.1 ?_
        refine s_blx (lv' := [(9, vI w68), (5, vI v56), (8, vI v50), (7, vI v45), (0, vR 20), (1, vR 1), (2, vI sentence), (3, vI lightWord), (4, vI x4), (6, vI x6)]) (st' := [vI v56, vR 24, vI v56, vR 24]) B80_101_104 rfl ?_
        refine r_iald (pc' := 105) D80_104 rfl sc_24 H58.1 (by omega) ?_
        intro w71 e72 r73
        unfold inR at r73
        refine s_blx (lv' := [(9, vI w68), (5, vI v56), (8, vI v50), (7, vI v45), (0, vR 20), (1, vR 1), (2, vI sentence), (3, vI lightWord), (4, vI x4), (6, vI x6)]) (st' := [vI lightWord, vI w68, vI w71, vI v56, vR 24]) B80_105_108 rfl ?_
        refine r_icmp (tgt := 115) (pc' := 111) D80_108 rfl rfl (by unfold inR; omega) (fun (c74 : w68 ≠ lightWord) => ?_) (fun (c74 : ¬ (w68 ≠ lightWord)) => ?_)
        · refine s_blx (lv' := [(9, vI w68), (5, vI v56), (8, vI v50), (7, vI v45), (0, vR 20), (1, vR 1), (2, vI sentence), (3, vI lightWord), (4, vI x4), (6, vI x6)]) (st' := [vR 1, vI w71, vI v56, vR 24]) B80_115_116 rfl ?_
          refine r_gfix (r := 2) (pc' := 119) D80_116 rfl gf_9_112_1 H58.1 ?_
          refine s_blx (lv' := [(9, vI w68), (5, vI v56), (8, vI v50), (7, vI v45), (0, vR 20), (1, vR 1), (2, vI sentence), (3, vI lightWord), (4, vI x4), (6, vI x6)]) (st' := [vI (0 + w68), vR 2, vI w71, vI v56, vR 24]) B80_119_123 rfl ?_
          refine r_iald (pc' := 124) D80_123 rfl sc_2 H58.1 (by omega) ?_
          intro w75 e76 r77
          have b_w75 := H58.2 2 (0 + w68) 0 60 rfl
          rw [← e76] at b_w75; clear r77
          refine s_blx (lv' := [(9, vI w68), (5, vI v56), (8, vI v50), (7, vI v45), (0, vR 20), (1, vR 1), (2, vI sentence), (3, vI lightWord), (4, vI x4), (6, vI x6)]) (st' := [vI (w71 + w75), vI v56, vR 24]) B80_124_125 rfl ?_
          refine r_norm ?_
          intro z78 r79 _; unfold inR at r79
          refine r_iast (pc' := 126) D80_125 rfl sc_24 H58 (by omega) (by unfold inR; omega) trivial ?_
          intro M80 u81 H82 p83
          have f84 := f65.wr u81 rfl
          have hp85 := hp67.wr u81 (by decide)
          have hp86 := ktr.wr u81 (by decide)
          have hp87 := kgp.wr u81 (by decide)
          refine s_blx (lv' := [(9, vI w68), (5, vI v56), (8, vI v50), (7, vI v45), (0, vR 20), (1, vR 1), (2, vI sentence), (3, vI lightWord), (4, vI x4), (6, vI x6)]) (st' := [vR 20]) B80_126_127 rfl ?_
          refine r_gfix (r := 32) (pc' := 130) D80_127 rfl gf_9_46_20 H82.1 ?_
          refine s_blx (lv' := [(9, vI w68), (5, vI v56), (8, vI v50), (7, vI v45), (0, vR 20), (1, vR 1), (2, vI sentence), (3, vI lightWord), (4, vI x4), (6, vI x6)]) (st' := [vI v56, vI ((sentence * 9) + x6), vR 32]) B80_130_139 rfl ?_
          refine r_iast (pc' := 140) D80_139 rfl sc_32 H82 (by omega) (by unfold inR; omega) (show 0 ≤ v56 ∧ v56 ≤ 144 by omega) ?_
          intro M88 u89 H90 p91
          have f92 := f84.wr u89 rfl
          have hp93 := hp85.wr u89 (by decide)
          have hp94 := hp86.wr u89 (by decide)
          have kgs := GP.set (k := x6) hp87 u89 (by omega) (by omega) (by omega) (by omega) (fun q _ _ => (H82.2 33 q 0 8 rfl).2)
          refine s_blx (lv' := [(6, vI (x6 + 1)), (9, vI w68), (5, vI v56), (8, vI v50), (7, vI v45), (0, vR 20), (1, vR 1), (2, vI sentence), (3, vI lightWord), (4, vI x4)]) (st' := []) B80_140_143 rfl ?_
          refine r_goto (tgt := 22) D80_143 rfl ?_
          refine r_loc (lv' := [(0, vR 20), (1, vR 1), (2, vI sentence), (3, vI lightWord), (4, vI x4), (5, vI v56), (6, vI (x6 + 1))]) ⟨rfl, rfl, rfl, rfl, rfl, rfl, rfl, trivial⟩ rfl rfl ?_
          have g95 : gi M88 20 15 = kn2 := (u89.gi_ne (by omega) (Or.inl (by decide))).trans ((u81.gi_ne (by omega) (Or.inl (by decide))).trans (hkn.symm))
          have g96 : gi M88 33 sentence = gi N 33 sentence := (u89.gi_ne (by omega) (Or.inl (by decide))).trans ((u81.gi_ne (by omega) (Or.inl (by decide))).trans ((f59.g rfl).trans (rfl)))
          have g97 : gi M88 6 sentence = gi N 6 sentence := (u89.gi_ne (by omega) (Or.inl (by decide))).trans ((u81.gi_ne (by omega) (Or.inl (by decide))).trans ((f59.g rfl).trans (rfl)))
          have g98 : gi M88 1 10 = gi N 1 10 := (u89.gi_ne (by omega) (Or.inl (by decide))).trans ((u81.gi_ne (by omega) (Or.inl (by decide))).trans ((f59.g rfl).trans (rfl)))
          exact ih x4 v56 (x6 + 1) kn2 M88 H90 f92 (hp94) (kgs) (by omega) (by omega) (by omega) (hp93) (by omega) (by omega) (by omega) (by omega) (by omega) (by omega) (by omega) (by omega) (by omega) (by omega) (by omega) (by omega)
        · refine s_blx (lv' := [(9, vI w68), (5, vI v56), (8, vI v50), (7, vI v45), (0, vR 20), (1, vR 1), (2, vI sentence), (3, vI lightWord), (4, vI x4), (6, vI x6)]) (st' := [vI 0, vI w71, vI v56, vR 24]) B80_111_112 rfl ?_
          refine r_goto (tgt := 124) D80_112 rfl ?_
          refine s_blx (lv' := [(9, vI w68), (5, vI v56), (8, vI v50), (7, vI v45), (0, vR 20), (1, vR 1), (2, vI sentence), (3, vI lightWord), (4, vI x4), (6, vI x6)]) (st' := [vI (w71 + 0), vI v56, vR 24]) B80_124_125 rfl ?_
          refine r_iast (pc' := 126) D80_125 rfl sc_24 H58 (by omega) (by unfold inR; omega) trivial ?_
          intro M99 u100 H101 p102
          have f103 := f65.wr u100 rfl
          have hp104 := hp67.wr u100 (by decide)
          have hp105 := ktr.wr u100 (by decide)
          have hp106 := kgp.wr u100 (by decide)
          refine s_blx (lv' := [(9, vI w68), (5, vI v56), (8, vI v50), (7, vI v45), (0, vR 20), (1, vR 1), (2, vI sentence), (3, vI lightWord), (4, vI x4), (6, vI x6)]) (st' := [vR 20]) B80_126_127 rfl ?_
          refine r_gfix (r := 32) (pc' := 130) D80_127 rfl gf_9_46_20 H101.1 ?_
          refine s_blx (lv' := [(9, vI w68), (5, vI v56), (8, vI v50), (7, vI v45), (0, vR 20), (1, vR 1), (2, vI sentence), (3, vI lightWord), (4, vI x4), (6, vI x6)]) (st' := [vI v56, vI ((sentence * 9) + x6), vR 32]) B80_130_139 rfl ?_
          refine r_iast (pc' := 140) D80_139 rfl sc_32 H101 (by omega) (by unfold inR; omega) (show 0 ≤ v56 ∧ v56 ≤ 144 by omega) ?_
          intro M107 u108 H109 p110
          have f111 := f103.wr u108 rfl
          have hp112 := hp104.wr u108 (by decide)
          have hp113 := hp105.wr u108 (by decide)
          have kgs := GP.set (k := x6) hp106 u108 (by omega) (by omega) (by omega) (by omega) (fun q _ _ => (H101.2 33 q 0 8 rfl).2)
          refine s_blx (lv' := [(6, vI (x6 + 1)), (9, vI w68), (5, vI v56), (8, vI v50), (7, vI v45), (0, vR 20), (1, vR 1), (2, vI sentence), (3, vI lightWord), (4, vI x4)]) (st' := []) B80_140_143 rfl ?_
          refine r_goto (tgt := 22) D80_143 rfl ?_
          refine r_loc (lv' := [(0, vR 20), (1, vR 1), (2, vI sentence), (3, vI lightWord), (4, vI x4), (5, vI v56), (6, vI (x6 + 1))]) ⟨rfl, rfl, rfl, rfl, rfl, rfl, rfl, trivial⟩ rfl rfl ?_
          have g114 : gi M107 20 15 = kn2 := (u108.gi_ne (by omega) (Or.inl (by decide))).trans ((u100.gi_ne (by omega) (Or.inl (by decide))).trans (hkn.symm))
          have g115 : gi M107 33 sentence = gi N 33 sentence := (u108.gi_ne (by omega) (Or.inl (by decide))).trans ((u100.gi_ne (by omega) (Or.inl (by decide))).trans ((f59.g rfl).trans (rfl)))
          have g116 : gi M107 6 sentence = gi N 6 sentence := (u108.gi_ne (by omega) (Or.inl (by decide))).trans ((u100.gi_ne (by omega) (Or.inl (by decide))).trans ((f59.g rfl).trans (rfl)))
          have g117 : gi M107 1 10 = gi N 1 10 := (u108.gi_ne (by omega) (Or.inl (by decide))).trans ((u100.gi_ne (by omega) (Or.inl (by decide))).trans ((f59.g rfl).trans (rfl)))
          exact ih x4 v56 (x6 + 1) kn2 M107 H109 f111 (hp113) (kgs) (by omega) (by omega) (by omega) (hp112) (by omega) (by omega) (by omega) (by omega) (by omega) (by omega) (by omega) (by omega) (by omega) (by omega) (by omega) (by omega)
      · refine s_blx (lv' := [(8, vI v50), (7, vI v45), (0, vR 20), (1, vR 1), (2, vI sentence), (3, vI lightWord), (4, vI x4), (5, vI x5), (6, vI x6)]) (st' := [vR 20]) B80_54_55 rfl ?_
        refine r_gfix (r := 32) (pc' := 58) D80_55 rfl gf_9_46_20 HN.1 ?_
        refine s_blx (lv' := [(8, vI v50), (7, vI v45), (0, vR 20), (1, vR 1), (2, vI sentence), (3, vI lightWord), (4, vI x4), (5, vI x5), (6, vI x6)]) (st' := [vI ((v50 * 9) + x6), vR 32]) B80_58_66 rfl ?_
        refine r_iald (pc' := 67) D80_66 rfl sc_32 HN.1 (by omega) ?_
        intro w118 e119 r120
        have b_w118 := HN.2 32 ((v50 * 9) + x6) 0 144 rfl
        rw [← e119] at b_w118; clear r120
        have ka := kcb v50 (by omega) (by omega) (kfi (by omega))
        have kb := i5 v50 (by omega) (by omega) ka.1
        have kp := i1.1 v50 (by omega) (by omega) (by omega) (show 1 ≤ gi N 33 v50 by omega) x6 (by omega) (show x6 ≤ gi N 33 v50 by omega)
        rw [← e119] at kp
        refine s_blx (lv' := [(5, vI w118), (8, vI v50), (7, vI v45), (0, vR 20), (1, vR 1), (2, vI sentence), (3, vI lightWord), (4, vI x4), (6, vI x6)]) (st' := []) B80_67_69 rfl ?_
        refine r_goto (tgt := 126) D80_69 rfl ?_
        refine s_blx (lv' := [(5, vI w118), (8, vI v50), (7, vI v45), (0, vR 20), (1, vR 1), (2, vI sentence), (3, vI lightWord), (4, vI x4), (6, vI x6)]) (st' := [vR 20]) B80_126_127 rfl ?_
        refine r_gfix (r := 32) (pc' := 130) D80_127 rfl gf_9_46_20 HN.1 ?_
        refine s_blx (lv' := [(5, vI w118), (8, vI v50), (7, vI v45), (0, vR 20), (1, vR 1), (2, vI sentence), (3, vI lightWord), (4, vI x4), (6, vI x6)]) (st' := [vI w118, vI ((sentence * 9) + x6), vR 32]) B80_130_139 rfl ?_
        refine r_iast (pc' := 140) D80_139 rfl sc_32 HN (by omega) (by unfold inR; omega) (show 0 ≤ w118 ∧ w118 ≤ 144 by omega) ?_
        intro M121 u122 H123 p124
        have f125 := fN.wr u122 rfl
        have hp126 := i0.wr u122 (by decide)
        have hp127 := i5.wr u122 (by decide)
        have kgs := GP.set (k := x6) i1 u122 (by omega) (by omega) (by omega) (by omega) (fun q _ _ => (HN.2 33 q 0 8 rfl).2)
        refine s_blx (lv' := [(6, vI (x6 + 1)), (5, vI w118), (8, vI v50), (7, vI v45), (0, vR 20), (1, vR 1), (2, vI sentence), (3, vI lightWord), (4, vI x4)]) (st' := []) B80_140_143 rfl ?_
        refine r_goto (tgt := 22) D80_143 rfl ?_
        refine r_loc (lv' := [(0, vR 20), (1, vR 1), (2, vI sentence), (3, vI lightWord), (4, vI x4), (5, vI w118), (6, vI (x6 + 1))]) ⟨rfl, rfl, rfl, rfl, rfl, rfl, rfl, trivial⟩ rfl rfl ?_
        have g128 : gi M121 20 15 = gi N 20 15 := (u122.gi_ne (by omega) (Or.inl (by decide))).trans (rfl)
        have g129 : gi M121 33 sentence = gi N 33 sentence := (u122.gi_ne (by omega) (Or.inl (by decide))).trans (rfl)
        have g130 : gi M121 6 sentence = gi N 6 sentence := (u122.gi_ne (by omega) (Or.inl (by decide))).trans (rfl)
        have g131 : gi M121 1 10 = gi N 1 10 := (u122.gi_ne (by omega) (Or.inl (by decide))).trans (rfl)
        exact ih x4 w118 (x6 + 1) kn M121 H123 f125 (hp126) (kgs) (by omega) (by omega) (by omega) (hp127) (by omega) (by omega) (by omega) (by omega) (by omega) (by omega) (by omega) (by omega) (by omega) (by omega) (by omega) (by omega)
set_option maxRecDepth 4000 in
theorem k80_20x {base : Nat} {X : Nat → Option mC} {G : Nat → Value} (E : EnvOK base X G) {d : Nat} (hd : 4 ≤ d) {M : mH} (H : HI base M) (sentence : Int) (lightWord : Int) (n : Int) (h0 : TR 21 n M) (h1 : GT 32 n M) (h2 : gi M 20 15 = n) (h3 : 1 ≤ n ∧ n ≤ 145) (h4 : 0 ≤ sentence ∧ sentence ≤ 15) (h5 : -2147483648 ≤ lightWord ∧ lightWord ≤ 2147483647) (h6 : LK 33 sentence M) (h7 : sentence < gi M 1 10) : sOk base X G d T80 [vR 20, vR 1, vI sentence, vI lightWord] M (pV (fun M' => HI base M' ∧ Fr [(20, 16), (21, 0), (22, 0), (23, 0), (24, 0), (25, 0), (26, 0), (27, 0), (28, 0), (29, 0), (30, 0), (31, 0), (32, 0), (33, 0), (35, 0)] M M' ∧ (1 ≤ gi M' 20 15 ∧ gi M' 20 15 ≤ 145) ∧ (TR 21 (gi M' 20 15) M') ∧ (GT 32 (gi M' 20 15) M') ∧ (LK 33 (sentence + 1) M'))) := by
  have f0 : Fr [(20, 16), (21, 0), (22, 0), (23, 0), (24, 0), (25, 0), (26, 0), (27, 0), (28, 0), (29, 0), (30, 0), (31, 0), (32, 0), (33, 0), (35, 0)] M M := Fr.rf
  refine sOk.of (show sRn base X G d T80 0 [(0, vR 20), (1, vR 1), (2, vI sentence), (3, vI lightWord)] [] M _ from ?_)
  refine s_blx (lv' := [(0, vR 20), (1, vR 1), (2, vI sentence), (3, vI lightWord)]) (st' := [vR 1]) B80_0_1 rfl ?_
  refine r_gfix (r := 6) (pc' := 4) D80_1 rfl gf_9_96_1 H.1 ?_
  refine s_blx (lv' := [(0, vR 20), (1, vR 1), (2, vI sentence), (3, vI lightWord)]) (st' := [vI sentence, vR 6]) B80_4_5 rfl ?_
  refine r_iald (pc' := 6) D80_5 rfl sc_6 H.1 (by omega) ?_
  intro w1 e2 r3
  have b_w1 := H.2 6 (sentence) 0 8 rfl
  rw [← e2] at b_w1; clear r3
  refine s_blx (lv' := [(4, vI w1), (0, vR 20), (1, vR 1), (2, vI sentence), (3, vI lightWord)]) (st' := [vR 20]) B80_6_9 rfl ?_
  refine r_gfix (r := 33) (pc' := 12) D80_9 rfl gf_9_49_20 H.1 ?_
  refine s_blx (lv' := [(4, vI w1), (0, vR 20), (1, vR 1), (2, vI sentence), (3, vI lightWord)]) (st' := [vI w1, vI sentence, vR 33]) B80_12_15 rfl ?_
  refine r_iast (pc' := 16) D80_15 rfl sc_33 H (by omega) (by unfold inR; omega) (show 0 ≤ w1 ∧ w1 ≤ 8 by omega) ?_
  intro M4 u5 H6 p7
  have f8 := f0.wr u5 rfl
  have hp9 := h0.wr u5 (by decide)
  have kgp := h1.begin u5 (by omega)
  have klk := h6.setlen u5 (by omega) (by decide)
  refine s_blx (lv' := [(6, vI 0), (5, vI 0), (4, vI w1), (0, vR 20), (1, vR 1), (2, vI sentence), (3, vI lightWord)]) (st' := []) B80_16_22 rfl ?_
  refine r_loc (lv' := [(0, vR 20), (1, vR 1), (2, vI sentence), (3, vI lightWord), (4, vI w1), (5, vI 0), (6, vI 0)]) ⟨rfl, rfl, rfl, rfl, rfl, rfl, rfl, trivial⟩ rfl rfl ?_
  have g10 : gi M4 20 15 = gi M 20 15 := (u5.gi_ne (by omega) (Or.inl (by decide))).trans (rfl)
  have g11 : gi M4 33 sentence = w1 := p7
  have g12 : gi M4 6 sentence = w1 := (u5.gi_ne (by omega) (Or.inl (by decide))).trans (e2.symm)
  have g13 : gi M4 1 10 = gi M 1 10 := (u5.gi_ne (by omega) (Or.inl (by decide))).trans (rfl)
  exact (L_k80_20x E hd H sentence lightWord n h0 h1 h2 h3 h4 h5 h6 h7 (((8 - 0) * 1 + 0 : Int) + 1).toNat) w1 0 0 n M4 H6 f8 (hp9) (kgp) (by omega) (by omega) (by omega) (klk) (by omega) (by omega) (by omega) (by omega) (by omega) (by omega) (by omega) (by omega) (by omega) (by omega) (by omega) (by omega)
set_option maxRecDepth 4000 in
theorem L_k79_20x {base : Nat} {X : Nat → Option mC} {G : Nat → Value} (E : EnvOK base X G) {d : Nat} (hd : 5 ≤ d) {M : mH} (H : HI base M) (lightWord : Int) (h0 : -2147483648 ≤ lightWord ∧ lightWord ≤ 2147483647) : ∀ mz : Nat, (∀ (x3 kn : Int) (N : mH), HI base N → Fr [(20, 16), (20, 17), (20, 18), (21, 0), (22, 0), (23, 0), (24, 0), (25, 0), (26, 0), (27, 0), (28, 0), (29, 0), (30, 0), (31, 0), (32, 0), (33, 0), (34, 0), (35, 0)] M N → (TR 21 kn N) → (GT 32 kn N) → (LK 33 x3 N) → (gi N 20 15 = kn) → (1 ≤ kn ∧ kn ≤ 145) → (0 ≤ x3) → (x3 ≤ 16) → (16 - x3) * 1 + 0 < (mz : Int) → sRn base X G d T79 53 [(0, vR 20), (1, vR 1), (2, vI lightWord), (3, vI x3)] [] N (s_Q base (pV (fun M' => HI base M' ∧ Fr [(20, 16), (20, 17), (20, 18), (21, 0), (22, 0), (23, 0), (24, 0), (25, 0), (26, 0), (27, 0), (28, 0), (29, 0), (30, 0), (31, 0), (32, 0), (33, 0), (34, 0), (35, 0)] M M' ∧ (1 ≤ gi M' 20 15 ∧ gi M' 20 15 ≤ 145) ∧ (TR 21 (gi M' 20 15) M') ∧ (GT 32 (gi M' 20 15) M'))))) := by
  have f0 : Fr [(20, 16), (20, 17), (20, 18), (21, 0), (22, 0), (23, 0), (24, 0), (25, 0), (26, 0), (27, 0), (28, 0), (29, 0), (30, 0), (31, 0), (32, 0), (33, 0), (34, 0), (35, 0)] M M := Fr.rf
  intro mz
  induction mz with
  | zero => exact fun x3 kn N _ _ z0 z1 z2 z3 z4 z5 z6 z7 => by omega
  | succ mz ih =>
    intro x3 kn N HN fN i0 i1 i2 i3 i4 i5 i6 hmu
    refine s_blx (lv' := [(0, vR 20), (1, vR 1), (2, vI lightWord), (3, vI x3)]) (st' := [vR 1, vI x3]) B79_53_55 rfl ?_
    refine r_gint (ki := 10) (pc' := 58) D79_55 rfl gf_9_85_1 rfl HN.1 ?_
    intro w41 e42 r43
    have b_w41 := HN.2 1 (10) 0 16 rfl
    rw [← e42] at b_w41; clear r43
    refine r_icmp (tgt := 82) (pc' := 61) D79_58 rfl rfl (by unfold inR; omega) (fun (c44 : w41 ≤ x3) => ?_) (fun (c44 : ¬ (w41 ≤ x3)) => ?_)
    · exact r_retV D79_82 rfl (⟨HN, fN, by omega, by rw [i3]; exact i0, by rw [i3]; exact i1⟩)
    · refine s_blx (lv' := [(0, vR 20), (1, vR 1), (2, vI lightWord), (3, vI x3)]) (st' := [vI x3, vR 1]) B79_61_63 rfl ?_
      refine r_vIp (c := 1) (args := [vI x3]) (rest := []) (pc' := 66) D79_63 rfl ck_9_virtual_88 TE67 rfl (Nat.le_of_ble_eq_true rfl) ⟨Nat.le_of_ble_eq_true rfl, Nat.le_of_ble_eq_true rfl⟩ sc_1 ⟨rfl, by decide⟩ HN.1 (dp_0 hd rfl) (k67_1x E (dp_n hd rfl) HN x3 (by omega)) ?_
      intro v45 q51
      obtain ⟨q47, q48, q49, q50⟩ := q51
      have klk : v45 = 0 → LK 33 (x3 + 1) N := fun h => i2.skip (q50 h)
      have ksp := q49; clear q49
      refine r_ifc (tgt := 76) (pc' := 69) D79_66 rfl rfl (by unfold inR; omega) (fun (c52 : v45 = 0) => ?_) (fun (c52 : ¬ (v45 = 0)) => ?_)
      · refine s_blx (lv' := [(3, vI (x3 + 1)), (0, vR 20), (1, vR 1), (2, vI lightWord)]) (st' := []) B79_76_79 rfl ?_
        refine r_goto (tgt := 53) D79_79 rfl ?_
        refine r_loc (lv' := [(0, vR 20), (1, vR 1), (2, vI lightWord), (3, vI (x3 + 1))]) ⟨rfl, rfl, rfl, rfl, trivial⟩ rfl rfl ?_
        exact ih (x3 + 1) kn N HN fN (i0) (i1) ((klk (by omega))) (by omega) (by omega) (by omega) (by omega) (by omega)
      · refine s_blx (lv' := [(0, vR 20), (1, vR 1), (2, vI lightWord), (3, vI x3)]) (st' := [vI lightWord, vI x3, vR 1, vR 20]) B79_69_73 rfl ?_
        have g53 : gi N 1 10 = w41 := e42.symm
        refine r_vV (c := 20) (args := [vR 1, vI x3, vI lightWord]) (rest := []) (pc' := 76) D79_73 rfl ck_9_virtual_92 TE80 rfl (Nat.le_of_ble_eq_true rfl) ⟨Nat.le_of_ble_eq_true rfl, Nat.le_of_ble_eq_true rfl⟩ sc_20 ⟨rfl, by decide⟩ HN.1 (dp_0 hd rfl) (k80_20x E (dp_n hd rfl) HN x3 lightWord kn (i0) (i1) (by omega) (by omega) (by omega) (by omega) (i2) ((ksp (by omega)).2.1)) ?_
        intro M55 q62
        obtain ⟨H56, f57, q58, q59, q60, q61⟩ := q62
        have f63 := fN.tr (f57.up rfl)
        obtain ⟨kn2, hkn⟩ : ∃ q, q = gi M55 20 15 := ⟨_, rfl⟩
        have ktr := q59; clear q59
        have kgt := q60; clear q60
        rw [← hkn] at ktr kgt
        refine s_blx (lv' := [(3, vI (x3 + 1)), (0, vR 20), (1, vR 1), (2, vI lightWord)]) (st' := []) B79_76_79 rfl ?_
        refine r_goto (tgt := 53) D79_79 rfl ?_
        refine r_loc (lv' := [(0, vR 20), (1, vR 1), (2, vI lightWord), (3, vI (x3 + 1))]) ⟨rfl, rfl, rfl, rfl, trivial⟩ rfl rfl ?_
        have g64 : gi M55 20 15 = kn2 := hkn.symm
        exact ih (x3 + 1) kn2 M55 H56 f63 (ktr) (kgt) (q61) (by omega) (by omega) (by omega) (by omega) (by omega)
set_option maxRecDepth 4000 in
theorem k79_20x {base : Nat} {X : Nat → Option mC} {G : Nat → Value} (E : EnvOK base X G) {d : Nat} (hd : 5 ≤ d) {M : mH} (H : HI base M) (lightWord : Int) (h0 : -2147483648 ≤ lightWord ∧ lightWord ≤ 2147483647) : sOk base X G d T79 [vR 20, vR 1, vI lightWord] M (pV (fun M' => HI base M' ∧ Fr [(20, 16), (20, 17), (20, 18), (21, 0), (22, 0), (23, 0), (24, 0), (25, 0), (26, 0), (27, 0), (28, 0), (29, 0), (30, 0), (31, 0), (32, 0), (33, 0), (34, 0), (35, 0)] M M' ∧ (1 ≤ gi M' 20 15 ∧ gi M' 20 15 ≤ 145) ∧ (TR 21 (gi M' 20 15) M') ∧ (GT 32 (gi M' 20 15) M'))) := by
  have f0 : Fr [(20, 16), (20, 17), (20, 18), (21, 0), (22, 0), (23, 0), (24, 0), (25, 0), (26, 0), (27, 0), (28, 0), (29, 0), (30, 0), (31, 0), (32, 0), (33, 0), (34, 0), (35, 0)] M M := Fr.rf
  refine sOk.of (show sRn base X G d T79 0 [(0, vR 20), (1, vR 1), (2, vI lightWord)] [] M _ from ?_)
  refine s_blx (lv' := [(0, vR 20), (1, vR 1), (2, vI lightWord)]) (st' := [vR 1]) B79_0_1 rfl ?_
  refine r_gfix (r := 3) (pc' := 4) D79_1 rfl gf_9_68_1 H.1 ?_
  refine s_blx (lv' := [(0, vR 20), (1, vR 1), (2, vI lightWord)]) (st' := [vR 20, vI 0, vR 3]) B79_4_6 rfl ?_
  refine r_gfix (r := 34) (pc' := 9) D79_6 rfl gf_9_52_20 H.1 ?_
  refine s_blx (lv' := [(0, vR 20), (1, vR 1), (2, vI lightWord)]) (st' := [vI 9, vI 0, vR 34, vI 0, vR 3]) B79_9_12 rfl ?_
  refine r_acpy (pc' := 15) D79_12 rfl mc_9_static_71 sp_9_71 (Nat.le_of_ble_eq_true rfl) sc_3 sc_34 H (by omega) (fun j h0 h1 => (show 0 ≤ _ ∧ _ ≤ 1000 from by have q := H.2 3 (0 + j) 0 1000 rfl; omega)) ?_
  intro M1 u2 H3
  have f4 := f0.cp u2 (fun _ => rfl)
  refine s_blx (lv' := [(0, vR 20), (1, vR 1), (2, vI lightWord)]) (st' := [vR 1, vR 20]) B79_15_17 rfl ?_
  refine r_gint (ki := 2) (pc' := 20) D79_17 rfl gf_9_77_1 rfl H3.1 ?_
  intro w5 e6 r7
  have b_w5 := H3.2 1 (2) 0 5 rfl
  rw [← e6] at b_w5; clear r7
  refine r_pint (ki := 16) (pc' := 23) D79_20 rfl pf_9_62_20 rfl H3 (by unfold inR; omega) (show 0 ≤ w5 ∧ w5 ≤ 5 by omega) ?_
  intro M8 u9 H10 p11
  have f12 := f4.wr u9 rfl
  refine s_blx (lv' := [(0, vR 20), (1, vR 1), (2, vI lightWord)]) (st' := [vR 1, vR 20]) B79_23_25 rfl ?_
  refine r_gint (ki := 5) (pc' := 28) D79_25 rfl gf_9_78_1 rfl H10.1 ?_
  intro w13 e14 r15
  have b_w13 := H10.2 1 (5) 0 3 rfl
  rw [← e14] at b_w13; clear r15
  refine r_pint (ki := 17) (pc' := 31) D79_28 rfl pf_9_65_20 rfl H10 (by unfold inR; omega) (show 0 ≤ w13 ∧ w13 ≤ 3 by omega) ?_
  intro M16 u17 H18 p19
  have f20 := f12.wr u17 rfl
  refine s_blx (lv' := [(0, vR 20), (1, vR 1), (2, vI lightWord)]) (st' := [vR 20]) B79_31_32 rfl ?_
  refine r_gfix (r := 33) (pc' := 35) D79_32 rfl gf_9_49_20 H18.1 ?_
  refine s_blx (lv' := [(0, vR 20), (1, vR 1), (2, vI lightWord)]) (st' := [vI 0, vR 33]) B79_35_36 rfl ?_
  refine r_sV (args := [vR 33, vI 0]) (rest := []) (pc' := 39) D79_36 rfl ck_9_static_79 TE278 rfl (Nat.le_of_ble_eq_true rfl) ⟨Nat.le_of_ble_eq_true rfl, Nat.le_of_ble_eq_true rfl⟩ (by decide) (dp_0 hd rfl) (k278_33x E (dp_n hd rfl) H18 0 (by omega)) ?_
  intro M22 q26
  obtain ⟨H23, f24, q25⟩ := q26
  have f27 := f20.tr (f24.up rfl)
  have kz := q25; clear q25
  have kgt := GT.zero (a := 32) (n := 1) kz
  refine s_blx (lv' := [(0, vR 20), (1, vR 1), (2, vI lightWord)]) (st' := [vI 1, vR 20]) B79_39_41 rfl ?_
  refine r_pint (ki := 15) (pc' := 44) D79_41 rfl pf_9_58_20 rfl H23 (by unfold inR; omega) (show 0 ≤ 1 ∧ 1 ≤ 145 by omega) ?_
  intro M28 u29 H30 p31
  have f32 := f27.wr u29 rfl
  have hp33 := kgt.wr u29 (by decide)
  refine s_blx (lv' := [(0, vR 20), (1, vR 1), (2, vI lightWord)]) (st' := [vR 20]) B79_44_45 rfl ?_
  refine r_gfix (r := 21) (pc' := 48) D79_45 rfl gf_9_11_20 H30.1 ?_
  refine s_blx (lv' := [(0, vR 20), (1, vR 1), (2, vI lightWord)]) (st' := [vI (-1), vI 0, vR 21]) B79_48_50 rfl ?_
  refine r_iast (pc' := 51) D79_50 rfl sc_21 H30 (by omega) (by unfold inR; omega) (show (-1) ≤ (-1) ∧ (-1) ≤ 144 by omega) ?_
  intro M34 u35 H36 p37
  have f38 := f32.wr u35 rfl
  have hp39 := hp33.wr u35 (by decide)
  have ktr := TR.one (a := 21) p37
  refine s_blx (lv' := [(3, vI 0), (0, vR 20), (1, vR 1), (2, vI lightWord)]) (st' := []) B79_51_53 rfl ?_
  refine r_loc (lv' := [(0, vR 20), (1, vR 1), (2, vI lightWord), (3, vI 0)]) ⟨rfl, rfl, rfl, rfl, trivial⟩ rfl rfl ?_
  have g40 : gi M34 20 15 = 1 := (u35.gi_ne (by decide) (Or.inl (by decide))).trans (p31)
  exact (L_k79_20x E hd H lightWord h0 (((16 - 0) * 1 + 0 : Int) + 1).toNat) 0 1 M34 H36 f38 (ktr) (hp39) (LK.zero) (by omega) (by omega) (by omega) (by omega) (by omega)
set_option maxRecDepth 4000 in
theorem L_k278_52x {base : Nat} {X : Nat → Option mC} {G : Nat → Value} (E : EnvOK base X G) {d : Nat} (hd : 0 ≤ d) {M : mH} (H : HI base M) (val : Int) (h0 : 0 ≤ val ∧ val ≤ 0) : ∀ mz : Nat, (∀ (x2 x3 : Int) (N : mH), HI base N → Fr [(52, 0)] M N → (∀ i : Int, 0 ≤ i → i < x2 → gi N 52 i = 0) → (0 ≤ x2) → (x2 ≤ 16) → (16 ≤ x3) → (x3 ≤ 16) → (16 - x2) * 1 + 0 < (mz : Int) → sRn base X G d T278 5 [(0, vR 52), (1, vI val), (2, vI x2), (3, vI x3)] [] N (s_Q base (pV (fun M' => HI base M' ∧ Fr [(52, 0)] M M' ∧ (∀ i : Int, 0 ≤ i → i < 16 → gi M' 52 i = 0))))) := by
  have f0 : Fr [(52, 0)] M M := Fr.rf
  intro mz
  induction mz with
  | zero => exact fun x2 x3 N _ _ z0 z1 z2 z3 z4 z5 => by omega
  | succ mz ih =>
    intro x2 x3 N HN fN i0 i1 i2 i3 i4 hmu
    refine s_blx (lv' := [(0, vR 52), (1, vI val), (2, vI x2), (3, vI x3)]) (st' := [vI x3, vI x2]) B278_5_7 rfl ?_
    refine r_icmp (tgt := 20) (pc' := 10) D278_7 rfl rfl (by unfold inR; omega) (fun (c1 : x3 ≤ x2) => ?_) (fun (c1 : ¬ (x3 ≤ x2)) => ?_)
    · exact r_retV D278_20 rfl (⟨HN, fN, fun i h1 h2 => i0 i h1 (by omega)⟩)
    · refine s_blx (lv' := [(0, vR 52), (1, vI val), (2, vI x2), (3, vI x3)]) (st' := [vI val, vI x2, vR 52]) B278_10_13 rfl ?_
      refine r_iast (pc' := 14) D278_13 rfl sc_52 HN (by omega) (by unfold inR; omega) (show 0 ≤ val ∧ val ≤ 8 by omega) ?_
      intro M2 u3 H4 p5
      have f6 := fN.wr u3 rfl
      have ku := u3
      have kp := p5
      refine s_blx (lv' := [(2, vI (x2 + 1)), (0, vR 52), (1, vI val), (3, vI x3)]) (st' := []) B278_14_17 rfl ?_
      refine r_goto (tgt := 5) D278_17 rfl ?_
      refine r_loc (lv' := [(0, vR 52), (1, vI val), (2, vI (x2 + 1)), (3, vI x3)]) ⟨rfl, rfl, rfl, rfl, trivial⟩ rfl rfl ?_
      exact ih (x2 + 1) x3 M2 H4 f6 (fun i h1 h2 => if e : i = x2 then (by rw [e, kp]; omega) else (by rw [ku.gi_ne (by omega) (Or.inr e)]; exact i0 i h1 (by omega))) (by omega) (by omega) (by omega) (by omega) (by omega)
set_option maxRecDepth 4000 in
theorem k278_52x {base : Nat} {X : Nat → Option mC} {G : Nat → Value} (E : EnvOK base X G) {d : Nat} (hd : 0 ≤ d) {M : mH} (H : HI base M) (val : Int) (h0 : 0 ≤ val ∧ val ≤ 0) : sOk base X G d T278 [vR 52, vI val] M (pV (fun M' => HI base M' ∧ Fr [(52, 0)] M M' ∧ (∀ i : Int, 0 ≤ i → i < 16 → gi M' 52 i = 0))) := by
  have f0 : Fr [(52, 0)] M M := Fr.rf
  refine sOk.of (show sRn base X G d T278 0 [(0, vR 52), (1, vI val)] [] M _ from ?_)
  refine s_blx (lv' := [(2, vI 0), (0, vR 52), (1, vI val)]) (st' := [vR 52]) B278_0_3 rfl ?_
  refine r_len (ni := 16) (pc' := 4) D278_3 rfl sc_52 (by decide) rfl H.1 ?_
  refine s_blx (lv' := [(3, vI 16), (2, vI 0), (0, vR 52), (1, vI val)]) (st' := []) B278_4_5 rfl ?_
  refine r_loc (lv' := [(0, vR 52), (1, vI val), (2, vI 0), (3, vI 16)]) ⟨rfl, rfl, rfl, rfl, trivial⟩ rfl rfl ?_
  exact (L_k278_52x E hd H val h0 (((16 - 0) * 1 + 0 : Int) + 1).toNat) 0 16 M H f0 (fun i h1 h2 => by omega) (by omega) (by omega) (by omega) (by omega) (by omega)
set_option maxRecDepth 4000 in
theorem L_k81_39x {base : Nat} {X : Nat → Option mC} {G : Nat → Value} (E : EnvOK base X G) {d : Nat} (hd : 3 ≤ d) {M : mH} (H : HI base M) (parent : Int) (comes : Int) (n : Int) (h0 : TR 40 n M) (h1 : gi M 39 15 = n) (h2 : 1 ≤ n ∧ n ≤ 145) (h3 : 0 ≤ parent ∧ parent < n) (h4 : 0 ≤ parent ∧ parent ≤ 144) (h5 : -2147483648 ≤ comes ∧ comes ≤ 2147483647) : ∀ mz : Nat, (∀ (x4 x5 : Int) (N : mH), HI base N → Fr [(39, 16), (40, 0), (41, 0), (42, 0), (43, 0), (44, 0), (45, 0), (46, 0), (47, 0), (48, 0), (49, 0), (50, 0), (54, 0)] M N → (gi N 39 15 = x4 + 1) → (TR 40 (x4 + 1) N) → (1 ≤ x4 ∧ x4 ≤ 144) → (n ≤ x4 + 1) → (0 ≤ x4) → (x4 ≤ 144) → (0 ≤ x5) → (x5 ≤ 3) → (3 - x5) * 1 + 0 < (mz : Int) → sRn base X G d T81 89 [(0, vR 39), (1, vI parent), (4, vI x4), (5, vI x5)] [] N (s_Q base (pI (fun v M' => HI base M' ∧ Fr [(39, 16), (40, 0), (41, 0), (42, 0), (43, 0), (44, 0), (45, 0), (46, 0), (47, 0), (48, 0), (49, 0), (50, 0), (54, 0)] M M' ∧ (1 ≤ v ∧ v ≤ 144) ∧ (v < gi M' 39 15) ∧ (n ≤ gi M' 39 15 ∧ gi M' 39 15 ≤ 145) ∧ (TR 40 (gi M' 39 15) M'))))) := by
  have f0 : Fr [(39, 16), (40, 0), (41, 0), (42, 0), (43, 0), (44, 0), (45, 0), (46, 0), (47, 0), (48, 0), (49, 0), (50, 0), (54, 0)] M M := Fr.rf
  intro mz
  induction mz with
  | zero => exact fun x4 x5 N _ _ z0 z1 z2 z3 z4 z5 z6 z7 z8 => by omega
  | succ mz ih =>
    intro x4 x5 N HN fN i0 i1 i2 i3 i4 i5 i6 i7 hmu
    refine s_blx (lv' := [(0, vR 39), (1, vI parent), (4, vI x4), (5, vI x5)]) (st' := [vI 3, vI x5]) B81_89_92 rfl ?_
    refine r_icmp (tgt := 142) (pc' := 95) D81_92 rfl rfl (by unfold inR; omega) (fun (c61 : 3 ≤ x5) => ?_) (fun (c61 : ¬ (3 ≤ x5)) => ?_)
    · refine s_blx (lv' := [(0, vR 39), (1, vI parent), (4, vI x4), (5, vI x5)]) (st' := [vI x4]) B81_142_144 rfl ?_
      exact r_iretI D81_144 rfl (⟨HN, fN, by omega, by omega, by omega, by rw [i0]; exact i1⟩)
    · refine s_blx (lv' := [(0, vR 39), (1, vI parent), (4, vI x4), (5, vI x5)]) (st' := [vR 39]) B81_95_96 rfl ?_
      refine r_gfix (r := 45) (pc' := 99) D81_96 rfl gf_9_28_39 HN.1 ?_
      refine s_blx (lv' := [(0, vR 39), (1, vI parent), (4, vI x4), (5, vI x5)]) (st' := [vI x4, vR 45, vI x4, vR 45]) B81_99_102 rfl ?_
      refine r_bald (pc' := 103) D81_102 rfl sc_45 (by decide) HN.1 (by omega) ?_
      intro w62 e63 r64
      have b_w62 := HN.2 45 (x4) 0 1 rfl
      rw [← e63] at b_w62; clear r64
      refine s_blx (lv' := [(0, vR 39), (1, vI parent), (4, vI x4), (5, vI x5)]) (st' := [vR 39, vI w62, vI x4, vR 45]) B81_103_104 rfl ?_
      refine r_gfix (r := 46) (pc' := 107) D81_104 rfl gf_9_31_39 HN.1 ?_
      refine s_blx (lv' := [(0, vR 39), (1, vI parent), (4, vI x4), (5, vI x5)]) (st' := [vI ((x4 * 3) + x5), vR 46, vI w62, vI x4, vR 45]) B81_107_114 rfl ?_
      refine r_iald (pc' := 115) D81_114 rfl sc_46 HN.1 (by omega) ?_
      intro w65 e66 r67
      unfold inR at r67
      refine s_blx (lv' := [(0, vR 39), (1, vI parent), (4, vI x4), (5, vI x5)]) (st' := [vR 39, vI w65, vI w62, vI x4, vR 45]) B81_115_116 rfl ?_
      refine r_gfix (r := 46) (pc' := 119) D81_116 rfl gf_9_31_39 HN.1 ?_
      refine s_blx (lv' := [(0, vR 39), (1, vI parent), (4, vI x4), (5, vI x5)]) (st' := [vI ((parent * 3) + x5), vR 46, vI w65, vI w62, vI x4, vR 45]) B81_119_125 rfl ?_
      refine r_iald (pc' := 126) D81_125 rfl sc_46 HN.1 (by omega) ?_
      intro w68 e69 r70
      unfold inR at r70
      refine r_icmp (tgt := 133) (pc' := 129) D81_126 rfl rfl (by unfold inR; omega) (fun (c71 : w65 = w68) => ?_) (fun (c71 : ¬ (w65 = w68)) => ?_)
      · refine s_blx (lv' := [(0, vR 39), (1, vI parent), (4, vI x4), (5, vI x5)]) (st' := [vI 0, vI w62, vI x4, vR 45]) B81_133_134 rfl ?_
        refine r_ior01 (pc' := 135) D81_134 rfl (by omega) (by omega) ?_
        intro z72 r73
        refine r_zast (pc' := 136) D81_135 rfl sc_45 HN (by omega) (by omega) (show 0 ≤ z72 ∧ z72 ≤ 1 by omega) ?_
        intro M74 u75 H76 p77
        have f78 := fN.wr u75 rfl
        have hp79 := i1.wr u75 (by decide)
        refine s_blx (lv' := [(5, vI (x5 + 1)), (0, vR 39), (1, vI parent), (4, vI x4)]) (st' := []) B81_136_139 rfl ?_
        refine r_goto (tgt := 89) D81_139 rfl ?_
        refine r_loc (lv' := [(0, vR 39), (1, vI parent), (4, vI x4), (5, vI (x5 + 1))]) ⟨rfl, rfl, rfl, rfl, trivial⟩ rfl rfl ?_
        have g80 : gi M74 39 15 = gi N 39 15 := (u75.gi_ne (by omega) (Or.inl (by decide))).trans (rfl)
        exact ih x4 (x5 + 1) M74 H76 f78 (by omega) (hp79) (by omega) (by omega) (by omega) (by omega) (by omega) (by omega) (by omega)
      · refine s_blx (lv' := [(0, vR 39), (1, vI parent), (4, vI x4), (5, vI x5)]) (st' := [vI 1, vI w62, vI x4, vR 45]) B81_129_130 rfl ?_
        refine r_goto (tgt := 134) D81_130 rfl ?_
        refine r_ior01 (pc' := 135) D81_134 rfl (by omega) (by omega) ?_
        intro z81 r82
        refine r_zast (pc' := 136) D81_135 rfl sc_45 HN (by omega) (by omega) (show 0 ≤ z81 ∧ z81 ≤ 1 by omega) ?_
        intro M83 u84 H85 p86
        have f87 := fN.wr u84 rfl
        have hp88 := i1.wr u84 (by decide)
        refine s_blx (lv' := [(5, vI (x5 + 1)), (0, vR 39), (1, vI parent), (4, vI x4)]) (st' := []) B81_136_139 rfl ?_
        refine r_goto (tgt := 89) D81_139 rfl ?_
        refine r_loc (lv' := [(0, vR 39), (1, vI parent), (4, vI x4), (5, vI (x5 + 1))]) ⟨rfl, rfl, rfl, rfl, trivial⟩ rfl rfl ?_
        have g89 : gi M83 39 15 = gi N 39 15 := (u84.gi_ne (by omega) (Or.inl (by decide))).trans (rfl)
        exact ih x4 (x5 + 1) M83 H85 f87 (by omega) (hp88) (by omega) (by omega) (by omega) (by omega) (by omega) (by omega) (by omega)
set_option maxRecDepth 4000 in
theorem k81_39x {base : Nat} {X : Nat → Option mC} {G : Nat → Value} (E : EnvOK base X G) {d : Nat} (hd : 3 ≤ d) {M : mH} (H : HI base M) (parent : Int) (comes : Int) (n : Int) (h0 : TR 40 n M) (h1 : gi M 39 15 = n) (h2 : 1 ≤ n ∧ n ≤ 145) (h3 : 0 ≤ parent ∧ parent < n) (h4 : 0 ≤ parent ∧ parent ≤ 144) (h5 : -2147483648 ≤ comes ∧ comes ≤ 2147483647) : sOk base X G d T81 [vR 39, vI parent, vR 1, vI comes] M (pI (fun v M' => HI base M' ∧ Fr [(39, 16), (40, 0), (41, 0), (42, 0), (43, 0), (44, 0), (45, 0), (46, 0), (47, 0), (48, 0), (49, 0), (50, 0), (54, 0)] M M' ∧ (1 ≤ v ∧ v ≤ 144) ∧ (v < gi M' 39 15) ∧ (n ≤ gi M' 39 15 ∧ gi M' 39 15 ≤ 145) ∧ (TR 40 (gi M' 39 15) M'))) := by
  have f0 : Fr [(39, 16), (40, 0), (41, 0), (42, 0), (43, 0), (44, 0), (45, 0), (46, 0), (47, 0), (48, 0), (49, 0), (50, 0), (54, 0)] M M := Fr.rf
  refine sOk.of (show sRn base X G d T81 0 [(0, vR 39), (1, vI parent), (2, vR 1), (3, vI comes)] [] M _ from ?_)
  refine s_blx (lv' := [(0, vR 39), (1, vI parent), (2, vR 1), (3, vI comes)]) (st' := [vR 39]) B81_0_1 rfl ?_
  refine r_gint (ki := 15) (pc' := 4) D81_1 rfl gf_9_58_39 rfl H.1 ?_
  intro w1 e2 r3
  have b_w1 := H.2 39 (15) 0 145 rfl
  rw [← e2] at b_w1; clear r3
  refine s_blx (lv' := [(0, vR 39), (1, vI parent), (2, vR 1), (3, vI comes)]) (st' := [vI 144, vI w1]) B81_4_7 rfl ?_
  refine r_min (pc' := 10) D81_7 rfl mc_9_static_115 sp_9_115 (Nat.le_of_ble_eq_true rfl) (by unfold inR; omega) ?_
  intro z4 r5 r6 r7
  refine s_blx (lv' := [(4, vI z4), (0, vR 39), (1, vI parent), (2, vR 1), (3, vI comes)]) (st' := [vI (z4 + 1), vR 39]) B81_10_17 rfl ?_
  refine r_pint (ki := 15) (pc' := 20) D81_17 rfl pf_9_58_39 rfl H (by unfold inR; omega) (show 0 ≤ (z4 + 1) ∧ (z4 + 1) ≤ 145 by omega) ?_
  intro M8 u9 H10 p11
  have f12 := f0.wr u9 rfl
  have hp13 := h0.wr u9 (by decide)
  refine s_blx (lv' := [(4, vI z4), (0, vR 39), (1, vI parent), (2, vR 1), (3, vI comes)]) (st' := [vR 39]) B81_20_21 rfl ?_
  refine r_gfix (r := 40) (pc' := 24) D81_21 rfl gf_9_11_39 H10.1 ?_
  refine s_blx (lv' := [(4, vI z4), (0, vR 39), (1, vI parent), (2, vR 1), (3, vI comes)]) (st' := [vI (-1), vI z4, vR 40]) B81_24_27 rfl ?_
  refine r_iast (pc' := 28) D81_27 rfl sc_40 H10 (by omega) (by unfold inR; omega) (show (-1) ≤ (-1) ∧ (-1) ≤ 144 by omega) ?_
  intro M14 u15 H16 p17
  have f18 := f12.wr u15 rfl
  have ktr1 := hp13
  have ku2 := u15
  refine s_blx (lv' := [(4, vI z4), (0, vR 39), (1, vI parent), (2, vR 1), (3, vI comes)]) (st' := [vR 39]) B81_28_29 rfl ?_
  refine r_gfix (r := 41) (pc' := 32) D81_29 rfl gf_9_15_39 H16.1 ?_
  refine s_blx (lv' := [(4, vI z4), (0, vR 39), (1, vI parent), (2, vR 1), (3, vI comes)]) (st' := [vR 39, vI z4, vR 41]) B81_32_35 rfl ?_
  refine r_gfix (r := 40) (pc' := 38) D81_35 rfl gf_9_11_39 H16.1 ?_
  refine s_blx (lv' := [(4, vI z4), (0, vR 39), (1, vI parent), (2, vR 1), (3, vI comes)]) (st' := [vI parent, vR 40, vI z4, vR 41]) B81_38_39 rfl ?_
  refine r_iald (pc' := 40) D81_39 rfl sc_40 H16.1 (by omega) ?_
  intro w19 e20 r21
  have b_w19 := H16.2 40 (parent) (-1) 144 rfl
  rw [← e20] at b_w19; clear r21
  have kw := e20
  refine r_iast (pc' := 41) D81_40 rfl sc_41 H16 (by omega) (by unfold inR; omega) (show (-1) ≤ w19 ∧ w19 ≤ 144 by omega) ?_
  intro M22 u23 H24 p25
  have f26 := f18.wr u23 rfl
  have ku3 := u23
  refine s_blx (lv' := [(4, vI z4), (0, vR 39), (1, vI parent), (2, vR 1), (3, vI comes)]) (st' := [vR 39]) B81_41_42 rfl ?_
  refine r_gfix (r := 40) (pc' := 45) D81_42 rfl gf_9_11_39 H24.1 ?_
  refine s_blx (lv' := [(4, vI z4), (0, vR 39), (1, vI parent), (2, vR 1), (3, vI comes)]) (st' := [vI z4, vI parent, vR 40]) B81_45_48 rfl ?_
  refine r_iast (pc' := 49) D81_48 rfl sc_40 H24 (by omega) (by unfold inR; omega) (show (-1) ≤ z4 ∧ z4 ≤ 144 by omega) ?_
  intro M27 u28 H29 p30
  have f31 := f26.wr u28 rfl
  have ktr := ktr1.add ku2 ku3 u28 kw (by unfold inR; omega) (by omega) (by omega)
  refine s_blx (lv' := [(4, vI z4), (0, vR 39), (1, vI parent), (2, vR 1), (3, vI comes)]) (st' := [vR 39]) B81_49_50 rfl ?_
  refine r_gfix (r := 43) (pc' := 53) D81_50 rfl gf_9_21_39 H29.1 ?_
  refine s_blx (lv' := [(4, vI z4), (0, vR 39), (1, vI parent), (2, vR 1), (3, vI comes)]) (st' := [vR 39, vI z4, vR 43]) B81_53_56 rfl ?_
  refine r_gfix (r := 43) (pc' := 59) D81_56 rfl gf_9_21_39 H29.1 ?_
  refine s_blx (lv' := [(4, vI z4), (0, vR 39), (1, vI parent), (2, vR 1), (3, vI comes)]) (st' := [vI parent, vR 43, vI z4, vR 43]) B81_59_60 rfl ?_
  refine r_iald (pc' := 61) D81_60 rfl sc_43 H29.1 (by omega) ?_
  intro w32 e33 r34
  unfold inR at r34
  refine r_iast (pc' := 62) D81_61 rfl sc_43 H29 (by omega) (by unfold inR; omega) trivial ?_
  intro M35 u36 H37 p38
  have f39 := f31.wr u36 rfl
  have hp40 := ktr.wr u36 (by decide)
  refine s_blx (lv' := [(4, vI z4), (0, vR 39), (1, vI parent), (2, vR 1), (3, vI comes)]) (st' := [vR 39]) B81_62_63 rfl ?_
  refine r_gfix (r := 44) (pc' := 66) D81_63 rfl gf_9_24_39 H37.1 ?_
  refine s_blx (lv' := [(4, vI z4), (0, vR 39), (1, vI parent), (2, vR 1), (3, vI comes)]) (st' := [vI 0, vI z4, vR 44]) B81_66_69 rfl ?_
  refine r_zast (pc' := 70) D81_69 rfl sc_44 H37 (by omega) (by omega) (show 0 ≤ 0 ∧ 0 ≤ 1 by omega) ?_
  intro M41 u42 H43 p44
  have f45 := f39.wr u42 rfl
  have hp46 := hp40.wr u42 (by decide)
  refine s_blx (lv' := [(4, vI z4), (0, vR 39), (1, vI parent), (2, vR 1), (3, vI comes)]) (st' := [vI comes, vI z4, vR 1, vR 39]) B81_70_75 rfl ?_
  refine r_vV (c := 39) (args := [vR 1, vI z4, vI comes]) (rest := []) (pc' := 78) D81_75 rfl ck_9_virtual_120 TE82 rfl (Nat.le_of_ble_eq_true rfl) ⟨Nat.le_of_ble_eq_true rfl, Nat.le_of_ble_eq_true rfl⟩ sc_39 ⟨rfl, by decide⟩ H43.1 (dp_0 hd rfl) (k82_39 E (dp_n hd rfl) H43 z4 comes (by omega) (by omega)) ?_
  intro M48 q51
  obtain ⟨H49, f50⟩ := q51
  have f52 := f45.tr (f50.up rfl)
  have hp53 := hp46.fr f50 (by decide)
  refine s_blx (lv' := [(4, vI z4), (0, vR 39), (1, vI parent), (2, vR 1), (3, vI comes)]) (st' := [vR 39]) B81_78_79 rfl ?_
  refine r_gfix (r := 45) (pc' := 82) D81_79 rfl gf_9_28_39 H49.1 ?_
  refine s_blx (lv' := [(4, vI z4), (0, vR 39), (1, vI parent), (2, vR 1), (3, vI comes)]) (st' := [vI 0, vI z4, vR 45]) B81_82_85 rfl ?_
  refine r_zast (pc' := 86) D81_85 rfl sc_45 H49 (by omega) (by omega) (show 0 ≤ 0 ∧ 0 ≤ 1 by omega) ?_
  intro M54 u55 H56 p57
  have f58 := f52.wr u55 rfl
  have hp59 := hp53.wr u55 (by decide)
  refine s_blx (lv' := [(5, vI 0), (4, vI z4), (0, vR 39), (1, vI parent), (2, vR 1), (3, vI comes)]) (st' := []) B81_86_89 rfl ?_
  refine r_loc (lv' := [(0, vR 39), (1, vI parent), (4, vI z4), (5, vI 0)]) ⟨rfl, rfl, rfl, rfl, trivial⟩ rfl rfl ?_
  have g60 : gi M54 39 15 = z4 + 1 := (u55.gi_ne (by omega) (Or.inl (by decide))).trans ((f50.g rfl).trans ((u42.gi_ne (by omega) (Or.inl (by decide))).trans ((u36.gi_ne (by omega) (Or.inl (by decide))).trans ((u28.gi_ne (by omega) (Or.inl (by decide))).trans ((u23.gi_ne (by omega) (Or.inl (by decide))).trans ((u15.gi_ne (by omega) (Or.inl (by decide))).trans (p11)))))))
  exact (L_k81_39x E hd H parent comes n h0 h1 h2 h3 h4 h5 (((3 - 0) * 1 + 0 : Int) + 1).toNat) z4 0 M54 H56 f58 (by omega) (hp59) (by omega) (by omega) (by omega) (by omega) (by omega) (by omega) (by omega)
set_option maxRecDepth 4000 in
theorem L_k80_39x {base : Nat} {X : Nat → Option mC} {G : Nat → Value} (E : EnvOK base X G) {d : Nat} (hd : 4 ≤ d) {M : mH} (H : HI base M) (sentence : Int) (lightWord : Int) (n : Int) (h0 : TR 40 n M) (h1 : GT 51 n M) (h2 : gi M 39 15 = n) (h3 : 1 ≤ n ∧ n ≤ 145) (h4 : 0 ≤ sentence ∧ sentence ≤ 15) (h5 : -2147483648 ≤ lightWord ∧ lightWord ≤ 2147483647) (h6 : LK 52 sentence M) (h7 : sentence < gi M 1 10) : ∀ mz : Nat, (∀ (x4 x5 x6 kn : Int) (N : mH), HI base N → Fr [(39, 16), (40, 0), (41, 0), (42, 0), (43, 0), (44, 0), (45, 0), (46, 0), (47, 0), (48, 0), (49, 0), (50, 0), (51, 0), (52, 0), (54, 0)] M N → (TR 40 kn N) → (GP 51 kn sentence x6 N) → (gi N 39 15 = kn) → (1 ≤ kn ∧ kn ≤ 145) → (0 ≤ x5 ∧ x5 < kn) → (LK 52 sentence N) → (gi N 52 sentence = x4) → (gi N 6 sentence = x4) → (0 ≤ x4 ∧ x4 ≤ 8) → (0 ≤ x6 ∧ x6 ≤ x4) → (sentence < gi N 1 10) → (0 ≤ x4) → (x4 ≤ 8) → (0 ≤ x5) → (x5 ≤ 144) → (0 ≤ x6) → (x6 ≤ 8) → (8 - x6) * 1 + 0 < (mz : Int) → sRn base X G d T80 22 [(0, vR 39), (1, vR 1), (2, vI sentence), (3, vI lightWord), (4, vI x4), (5, vI x5), (6, vI x6)] [] N (s_Q base (pV (fun M' => HI base M' ∧ Fr [(39, 16), (40, 0), (41, 0), (42, 0), (43, 0), (44, 0), (45, 0), (46, 0), (47, 0), (48, 0), (49, 0), (50, 0), (51, 0), (52, 0), (54, 0)] M M' ∧ (1 ≤ gi M' 39 15 ∧ gi M' 39 15 ≤ 145) ∧ (TR 40 (gi M' 39 15) M') ∧ (GT 51 (gi M' 39 15) M') ∧ (LK 52 (sentence + 1) M'))))) := by
  have f0 : Fr [(39, 16), (40, 0), (41, 0), (42, 0), (43, 0), (44, 0), (45, 0), (46, 0), (47, 0), (48, 0), (49, 0), (50, 0), (51, 0), (52, 0), (54, 0)] M M := Fr.rf
  intro mz
  induction mz with
  | zero => exact fun x4 x5 x6 kn N _ _ z0 z1 z2 z3 z4 z5 z6 z7 z8 z9 z10 z11 z12 z13 z14 z15 z16 z17 => by omega
  | succ mz ih =>
    intro x4 x5 x6 kn N HN fN i0 i1 i2 i3 i4 i5 i6 i7 i8 i9 i10 i11 i12 i13 i14 i15 i16 hmu
    refine s_blx (lv' := [(0, vR 39), (1, vR 1), (2, vI sentence), (3, vI lightWord), (4, vI x4), (5, vI x5), (6, vI x6)]) (st' := [vI x4, vI x6]) B80_22_26 rfl ?_
    refine r_icmp (tgt := 146) (pc' := 29) D80_26 rfl rfl (by unfold inR; omega) (fun (c14 : x4 ≤ x6) => ?_) (fun (c14 : ¬ (x4 ≤ x6)) => ?_)
    · refine s_blx (lv' := [(0, vR 39), (1, vR 1), (2, vI sentence), (3, vI lightWord), (4, vI x4), (5, vI x5), (6, vI x6)]) (st' := [vI sentence, vI 1, vR 1, vI x5, vR 39]) B80_146_152 rfl ?_
      refine r_bin (pc' := 153) D80_152 rfl rfl ?_
      intro z15 r16 _; unfold inR at r16
      refine r_vI (c := 39) (args := [vI x5, vR 1, vI z15]) (rest := []) (pc' := 156) D80_153 rfl ck_9_virtual_105 TE81 rfl (Nat.le_of_ble_eq_true rfl) ⟨Nat.le_of_ble_eq_true rfl, Nat.le_of_ble_eq_true rfl⟩ sc_39 ⟨rfl, by decide⟩ HN.1 (dp_0 hd rfl) (k81_39x E (dp_n hd rfl) HN x5 z15 kn (i0) (by omega) (by omega) (by omega) (by omega) (by omega)) ?_
      intro v17 M18 q25
      obtain ⟨H19, f20, q21, q22, q23, q24⟩ := q25
      have f26 := fN.tr (f20.up rfl)
      have hp27 := i1.fr f20 (by decide)
      have hp28 := i5.fr f20 (by decide)
      obtain ⟨kn2, hkn⟩ : ∃ q, q = gi M18 39 15 := ⟨_, rfl⟩
      have ktr := q24; clear q24
      rw [← hkn] at ktr
      have kgp := hp27.up (show kn ≤ kn2 by omega)
      refine s_blx (lv' := [(5, vI v17), (0, vR 39), (1, vR 1), (2, vI sentence), (3, vI lightWord), (4, vI x4), (6, vI x6)]) (st' := [vR 39]) B80_156_159 rfl ?_
      refine r_gfix (r := 44) (pc' := 162) D80_159 rfl gf_9_24_39 H19.1 ?_
      refine s_blx (lv' := [(5, vI v17), (0, vR 39), (1, vR 1), (2, vI sentence), (3, vI lightWord), (4, vI x4), (6, vI x6)]) (st' := [vI 1, vI v17, vR 44]) B80_162_165 rfl ?_
      refine r_zast (pc' := 166) D80_165 rfl sc_44 H19 (by omega) (by omega) (show 0 ≤ 1 ∧ 1 ≤ 1 by omega) ?_
      intro M29 u30 H31 p32
      have f33 := f26.wr u30 rfl
      have hp34 := hp28.wr u30 (by decide)
      have hp35 := ktr.wr u30 (by decide)
      have hp36 := kgp.wr u30 (by decide)
      refine s_blx (lv' := [(5, vI v17), (0, vR 39), (1, vR 1), (2, vI sentence), (3, vI lightWord), (4, vI x4), (6, vI x6)]) (st' := [vR 39]) B80_166_167 rfl ?_
      refine r_gfix (r := 51) (pc' := 170) D80_167 rfl gf_9_46_39 H31.1 ?_
      refine s_blx (lv' := [(5, vI v17), (0, vR 39), (1, vR 1), (2, vI sentence), (3, vI lightWord), (4, vI x4), (6, vI x6)]) (st' := [vI v17, vI ((sentence * 9) + x4), vR 51]) B80_170_179 rfl ?_
      refine r_iast (pc' := 180) D80_179 rfl sc_51 H31 (by omega) (by unfold inR; omega) (show 0 ≤ v17 ∧ v17 ≤ 144 by omega) ?_
      intro M37 u38 H39 p40
      have f41 := f33.wr u38 rfl
      have hp42 := hp34.wr u38 (by decide)
      have hp43 := hp35.wr u38 (by decide)
      have kg : gi M37 39 15 = kn2 := ((u38.gi_ne (by omega) (Or.inl (by decide))).trans ((u30.gi_ne (by omega) (Or.inl (by decide))).trans (hkn.symm)))
      have kl : gi M37 52 sentence = gi N 52 sentence := ((u38.gi_ne (by omega) (Or.inl (by decide))).trans ((u30.gi_ne (by omega) (Or.inl (by decide))).trans ((f20.g rfl).trans (rfl))))
      have kl6 : gi M37 6 sentence = gi N 6 sentence := ((u38.gi_ne (by omega) (Or.inl (by decide))).trans ((u30.gi_ne (by omega) (Or.inl (by decide))).trans ((f20.g rfl).trans (rfl))))
      have kgd : GT 51 kn2 M37 := (GP.set (k := x4) (by rw [show x4 = x6 by omega]; exact hp36) u38 (by omega) (by omega) (by omega) (by omega) (fun q _ _ => (H31.2 52 q 0 8 rfl).2)).done (show gi M37 52 sentence < x4 + 1 by omega)
      have kt1 : TR 40 (gi M37 39 15) M37 := by rw [kg]; exact hp43
      have kt2 : GT 51 (gi M37 39 15) M37 := by rw [kg]; exact kgd
      have kt3 : LK 52 (sentence + 1) M37 := hp42.next (by omega)
      have g44 : gi M37 39 15 = kn2 := (u38.gi_ne (by omega) (Or.inl (by decide))).trans ((u30.gi_ne (by omega) (Or.inl (by decide))).trans (hkn.symm))
      exact r_retV D80_180 rfl (⟨H39, f41, by omega, kt1, kt2, kt3⟩)
    · refine s_blx (lv' := [(0, vR 39), (1, vR 1), (2, vI sentence), (3, vI lightWord), (4, vI x4), (5, vI x5), (6, vI x6)]) (st' := [vI (x6 + 1), vI sentence, vR 1]) B80_29_35 rfl ?_
      refine r_vIp (c := 1) (args := [vI sentence, vI (x6 + 1)]) (rest := []) (pc' := 38) D80_35 rfl ck_9_virtual_97 TE70 rfl (Nat.le_of_ble_eq_true rfl) ⟨Nat.le_of_ble_eq_true rfl, Nat.le_of_ble_eq_true rfl⟩ sc_1 ⟨rfl, by decide⟩ HN.1 (dp_0 hd rfl) (k70_1x E (dp_n hd rfl) HN sentence (x6 + 1) (by omega) (by omega)) ?_
      intro v45 q49
      obtain ⟨q47, q48⟩ := q49
      have kcb := q48; clear q48
      refine s_blx (lv' := [(7, vI v45), (0, vR 39), (1, vR 1), (2, vI sentence), (3, vI lightWord), (4, vI x4), (5, vI x5), (6, vI x6)]) (st' := [vI v45, vR 1]) B80_38_43 rfl ?_
      refine r_vIp (c := 1) (args := [vI v45]) (rest := []) (pc' := 46) D80_43 rfl ck_9_virtual_101 TE72 rfl (Nat.le_of_ble_eq_true rfl) ⟨Nat.le_of_ble_eq_true rfl, Nat.le_of_ble_eq_true rfl⟩ sc_1 ⟨rfl, by decide⟩ HN.1 (dp_0 hd rfl) (k72_1x E (dp_n hd rfl) HN v45 (by omega)) ?_
      intro v50 q54
      obtain ⟨q52, q53⟩ := q54
      have kfi := q53; clear q53
      refine s_blx (lv' := [(8, vI v50), (7, vI v45), (0, vR 39), (1, vR 1), (2, vI sentence), (3, vI lightWord), (4, vI x4), (5, vI x5), (6, vI x6)]) (st' := [vI sentence, vI v50]) B80_46_51 rfl ?_
      refine r_icmp (tgt := 72) (pc' := 54) D80_51 rfl rfl (by unfold inR; omega) (fun (c55 : sentence ≤ v50) => ?_) (fun (c55 : ¬ (sentence ≤ v50)) => ?_)
      · refine s_blx (lv' := [(8, vI v50), (7, vI v45), (0, vR 39), (1, vR 1), (2, vI sentence), (3, vI lightWord), (4, vI x4), (5, vI x5), (6, vI x6)]) (st' := [vI v45, vR 1, vI x5, vR 39]) B80_72_78 rfl ?_
        refine r_vI (c := 39) (args := [vI x5, vR 1, vI v45]) (rest := []) (pc' := 81) D80_78 rfl ck_9_virtual_105 TE81 rfl (Nat.le_of_ble_eq_true rfl) ⟨Nat.le_of_ble_eq_true rfl, Nat.le_of_ble_eq_true rfl⟩ sc_39 ⟨rfl, by decide⟩ HN.1 (dp_0 hd rfl) (k81_39x E (dp_n hd rfl) HN x5 v45 kn (i0) (by omega) (by omega) (by omega) (by omega) (by omega)) ?_
        intro v56 M57 q64
        obtain ⟨H58, f59, q60, q61, q62, q63⟩ := q64
        have f65 := fN.tr (f59.up rfl)
        have hp66 := i1.fr f59 (by decide)
        have hp67 := i5.fr f59 (by decide)
        obtain ⟨kn2, hkn⟩ : ∃ q, q = gi M57 39 15 := ⟨_, rfl⟩
        have ktr := q63; clear q63
        rw [← hkn] at ktr
        have kgp := hp66.up (show kn ≤ kn2 by omega)
        refine s_blx (lv' := [(5, vI v56), (8, vI v50), (7, vI v45), (0, vR 39), (1, vR 1), (2, vI sentence), (3, vI lightWord), (4, vI x4), (6, vI x6)]) (st' := [vR 1]) B80_81_84 rfl ?_
        refine r_gfix (r := 5) (pc' := 87) D80_84 rfl gf_9_109_1 H58.1 ?_
        refine s_blx (lv' := [(5, vI v56), (8, vI v50), (7, vI v45), (0, vR 39), (1, vR 1), (2, vI sentence), (3, vI lightWord), (4, vI x4), (6, vI x6)]) (st' := [vI ((sentence * 8) + x6), vR 5]) B80_87_94 rfl ?_
        refine r_iald (pc' := 95) D80_94 rfl sc_5 H58.1 (by omega) ?_
        intro w68 e69 r70
        have b_w68 := H58.2 5 ((sentence * 8) + x6) 0 29 rfl
        rw [← e69] at b_w68; clear r70
        refine s_blx (lv' := [(9, vI w68), (5, vI v56), (8, vI v50), (7, vI v45), (0, vR 39), (1, vR 1), (2, vI sentence), (3, vI lightWord), (4, vI x4), (6, vI x6)]) (st' := [vR 39]) B80_95_98 rfl ?_
        refine r_gfix (r := 43) (pc' := 101) D80_98 rfl gf_9_21_39 H58.1 ?_
        refine s_blx (lv' := [(9, vI w68), (5, vI v56), (8, vI v50), (7, vI v45), (0, vR 39), (1, vR 1), (2, vI sentence), (3, vI lightWord), (4, vI x4), (6, vI x6)]) (st' := [vI v56, vR 43, vI v56, vR 43]) B80_101_104 rfl ?_
        refine r_iald (pc' := 105) D80_104 rfl sc_43 H58.1 (by omega) ?_
        intro w71 e72 r73
        unfold inR at r73
        refine s_blx (lv' := [(9, vI w68), (5, vI v56), (8, vI v50), (7, vI v45), (0, vR 39), (1, vR 1), (2, vI sentence), (3, vI lightWord), (4, vI x4), (6, vI x6)]) (st' := [vI lightWord, vI w68, vI w71, vI v56, vR 43]) B80_105_108 rfl ?_
        refine r_icmp (tgt := 115) (pc' := 111) D80_108 rfl rfl (by unfold inR; omega) (fun (c74 : w68 ≠ lightWord) => ?_) (fun (c74 : ¬ (w68 ≠ lightWord)) => ?_)
        · refine s_blx (lv' := [(9, vI w68), (5, vI v56), (8, vI v50), (7, vI v45), (0, vR 39), (1, vR 1), (2, vI sentence), (3, vI lightWord), (4, vI x4), (6, vI x6)]) (st' := [vR 1, vI w71, vI v56, vR 43]) B80_115_116 rfl ?_
          refine r_gfix (r := 2) (pc' := 119) D80_116 rfl gf_9_112_1 H58.1 ?_
          refine s_blx (lv' := [(9, vI w68), (5, vI v56), (8, vI v50), (7, vI v45), (0, vR 39), (1, vR 1), (2, vI sentence), (3, vI lightWord), (4, vI x4), (6, vI x6)]) (st' := [vI (0 + w68), vR 2, vI w71, vI v56, vR 43]) B80_119_123 rfl ?_
          refine r_iald (pc' := 124) D80_123 rfl sc_2 H58.1 (by omega) ?_
          intro w75 e76 r77
          have b_w75 := H58.2 2 (0 + w68) 0 60 rfl
          rw [← e76] at b_w75; clear r77
          refine s_blx (lv' := [(9, vI w68), (5, vI v56), (8, vI v50), (7, vI v45), (0, vR 39), (1, vR 1), (2, vI sentence), (3, vI lightWord), (4, vI x4), (6, vI x6)]) (st' := [vI (w71 + w75), vI v56, vR 43]) B80_124_125 rfl ?_
          refine r_norm ?_
          intro z78 r79 _; unfold inR at r79
          refine r_iast (pc' := 126) D80_125 rfl sc_43 H58 (by omega) (by unfold inR; omega) trivial ?_
          intro M80 u81 H82 p83
          have f84 := f65.wr u81 rfl
          have hp85 := hp67.wr u81 (by decide)
          have hp86 := ktr.wr u81 (by decide)
          have hp87 := kgp.wr u81 (by decide)
          refine s_blx (lv' := [(9, vI w68), (5, vI v56), (8, vI v50), (7, vI v45), (0, vR 39), (1, vR 1), (2, vI sentence), (3, vI lightWord), (4, vI x4), (6, vI x6)]) (st' := [vR 39]) B80_126_127 rfl ?_
          refine r_gfix (r := 51) (pc' := 130) D80_127 rfl gf_9_46_39 H82.1 ?_
          refine s_blx (lv' := [(9, vI w68), (5, vI v56), (8, vI v50), (7, vI v45), (0, vR 39), (1, vR 1), (2, vI sentence), (3, vI lightWord), (4, vI x4), (6, vI x6)]) (st' := [vI v56, vI ((sentence * 9) + x6), vR 51]) B80_130_139 rfl ?_
          refine r_iast (pc' := 140) D80_139 rfl sc_51 H82 (by omega) (by unfold inR; omega) (show 0 ≤ v56 ∧ v56 ≤ 144 by omega) ?_
          intro M88 u89 H90 p91
          have f92 := f84.wr u89 rfl
          have hp93 := hp85.wr u89 (by decide)
          have hp94 := hp86.wr u89 (by decide)
          have kgs := GP.set (k := x6) hp87 u89 (by omega) (by omega) (by omega) (by omega) (fun q _ _ => (H82.2 52 q 0 8 rfl).2)
          refine s_blx (lv' := [(6, vI (x6 + 1)), (9, vI w68), (5, vI v56), (8, vI v50), (7, vI v45), (0, vR 39), (1, vR 1), (2, vI sentence), (3, vI lightWord), (4, vI x4)]) (st' := []) B80_140_143 rfl ?_
          refine r_goto (tgt := 22) D80_143 rfl ?_
          refine r_loc (lv' := [(0, vR 39), (1, vR 1), (2, vI sentence), (3, vI lightWord), (4, vI x4), (5, vI v56), (6, vI (x6 + 1))]) ⟨rfl, rfl, rfl, rfl, rfl, rfl, rfl, trivial⟩ rfl rfl ?_
          have g95 : gi M88 39 15 = kn2 := (u89.gi_ne (by omega) (Or.inl (by decide))).trans ((u81.gi_ne (by omega) (Or.inl (by decide))).trans (hkn.symm))
          have g96 : gi M88 52 sentence = gi N 52 sentence := (u89.gi_ne (by omega) (Or.inl (by decide))).trans ((u81.gi_ne (by omega) (Or.inl (by decide))).trans ((f59.g rfl).trans (rfl)))
          have g97 : gi M88 6 sentence = gi N 6 sentence := (u89.gi_ne (by omega) (Or.inl (by decide))).trans ((u81.gi_ne (by omega) (Or.inl (by decide))).trans ((f59.g rfl).trans (rfl)))
          have g98 : gi M88 1 10 = gi N 1 10 := (u89.gi_ne (by omega) (Or.inl (by decide))).trans ((u81.gi_ne (by omega) (Or.inl (by decide))).trans ((f59.g rfl).trans (rfl)))
          exact ih x4 v56 (x6 + 1) kn2 M88 H90 f92 (hp94) (kgs) (by omega) (by omega) (by omega) (hp93) (by omega) (by omega) (by omega) (by omega) (by omega) (by omega) (by omega) (by omega) (by omega) (by omega) (by omega) (by omega)
        · refine s_blx (lv' := [(9, vI w68), (5, vI v56), (8, vI v50), (7, vI v45), (0, vR 39), (1, vR 1), (2, vI sentence), (3, vI lightWord), (4, vI x4), (6, vI x6)]) (st' := [vI 0, vI w71, vI v56, vR 43]) B80_111_112 rfl ?_
          refine r_goto (tgt := 124) D80_112 rfl ?_
          refine s_blx (lv' := [(9, vI w68), (5, vI v56), (8, vI v50), (7, vI v45), (0, vR 39), (1, vR 1), (2, vI sentence), (3, vI lightWord), (4, vI x4), (6, vI x6)]) (st' := [vI (w71 + 0), vI v56, vR 43]) B80_124_125 rfl ?_
          refine r_iast (pc' := 126) D80_125 rfl sc_43 H58 (by omega) (by unfold inR; omega) trivial ?_
          intro M99 u100 H101 p102
          have f103 := f65.wr u100 rfl
          have hp104 := hp67.wr u100 (by decide)
          have hp105 := ktr.wr u100 (by decide)
          have hp106 := kgp.wr u100 (by decide)
          refine s_blx (lv' := [(9, vI w68), (5, vI v56), (8, vI v50), (7, vI v45), (0, vR 39), (1, vR 1), (2, vI sentence), (3, vI lightWord), (4, vI x4), (6, vI x6)]) (st' := [vR 39]) B80_126_127 rfl ?_
          refine r_gfix (r := 51) (pc' := 130) D80_127 rfl gf_9_46_39 H101.1 ?_
          refine s_blx (lv' := [(9, vI w68), (5, vI v56), (8, vI v50), (7, vI v45), (0, vR 39), (1, vR 1), (2, vI sentence), (3, vI lightWord), (4, vI x4), (6, vI x6)]) (st' := [vI v56, vI ((sentence * 9) + x6), vR 51]) B80_130_139 rfl ?_
          refine r_iast (pc' := 140) D80_139 rfl sc_51 H101 (by omega) (by unfold inR; omega) (show 0 ≤ v56 ∧ v56 ≤ 144 by omega) ?_
          intro M107 u108 H109 p110
          have f111 := f103.wr u108 rfl
          have hp112 := hp104.wr u108 (by decide)
          have hp113 := hp105.wr u108 (by decide)
          have kgs := GP.set (k := x6) hp106 u108 (by omega) (by omega) (by omega) (by omega) (fun q _ _ => (H101.2 52 q 0 8 rfl).2)
          refine s_blx (lv' := [(6, vI (x6 + 1)), (9, vI w68), (5, vI v56), (8, vI v50), (7, vI v45), (0, vR 39), (1, vR 1), (2, vI sentence), (3, vI lightWord), (4, vI x4)]) (st' := []) B80_140_143 rfl ?_
          refine r_goto (tgt := 22) D80_143 rfl ?_
          refine r_loc (lv' := [(0, vR 39), (1, vR 1), (2, vI sentence), (3, vI lightWord), (4, vI x4), (5, vI v56), (6, vI (x6 + 1))]) ⟨rfl, rfl, rfl, rfl, rfl, rfl, rfl, trivial⟩ rfl rfl ?_
          have g114 : gi M107 39 15 = kn2 := (u108.gi_ne (by omega) (Or.inl (by decide))).trans ((u100.gi_ne (by omega) (Or.inl (by decide))).trans (hkn.symm))
          have g115 : gi M107 52 sentence = gi N 52 sentence := (u108.gi_ne (by omega) (Or.inl (by decide))).trans ((u100.gi_ne (by omega) (Or.inl (by decide))).trans ((f59.g rfl).trans (rfl)))
          have g116 : gi M107 6 sentence = gi N 6 sentence := (u108.gi_ne (by omega) (Or.inl (by decide))).trans ((u100.gi_ne (by omega) (Or.inl (by decide))).trans ((f59.g rfl).trans (rfl)))
          have g117 : gi M107 1 10 = gi N 1 10 := (u108.gi_ne (by omega) (Or.inl (by decide))).trans ((u100.gi_ne (by omega) (Or.inl (by decide))).trans ((f59.g rfl).trans (rfl)))
          exact ih x4 v56 (x6 + 1) kn2 M107 H109 f111 (hp113) (kgs) (by omega) (by omega) (by omega) (hp112) (by omega) (by omega) (by omega) (by omega) (by omega) (by omega) (by omega) (by omega) (by omega) (by omega) (by omega) (by omega)
      · refine s_blx (lv' := [(8, vI v50), (7, vI v45), (0, vR 39), (1, vR 1), (2, vI sentence), (3, vI lightWord), (4, vI x4), (5, vI x5), (6, vI x6)]) (st' := [vR 39]) B80_54_55 rfl ?_
        refine r_gfix (r := 51) (pc' := 58) D80_55 rfl gf_9_46_39 HN.1 ?_
        refine s_blx (lv' := [(8, vI v50), (7, vI v45), (0, vR 39), (1, vR 1), (2, vI sentence), (3, vI lightWord), (4, vI x4), (5, vI x5), (6, vI x6)]) (st' := [vI ((v50 * 9) + x6), vR 51]) B80_58_66 rfl ?_
        refine r_iald (pc' := 67) D80_66 rfl sc_51 HN.1 (by omega) ?_
        intro w118 e119 r120
        have b_w118 := HN.2 51 ((v50 * 9) + x6) 0 144 rfl
        rw [← e119] at b_w118; clear r120
        have ka := kcb v50 (by omega) (by omega) (kfi (by omega))
        have kb := i5 v50 (by omega) (by omega) ka.1
        have kp := i1.1 v50 (by omega) (by omega) (by omega) (show 1 ≤ gi N 52 v50 by omega) x6 (by omega) (show x6 ≤ gi N 52 v50 by omega)
        rw [← e119] at kp
        refine s_blx (lv' := [(5, vI w118), (8, vI v50), (7, vI v45), (0, vR 39), (1, vR 1), (2, vI sentence), (3, vI lightWord), (4, vI x4), (6, vI x6)]) (st' := []) B80_67_69 rfl ?_
        refine r_goto (tgt := 126) D80_69 rfl ?_
        refine s_blx (lv' := [(5, vI w118), (8, vI v50), (7, vI v45), (0, vR 39), (1, vR 1), (2, vI sentence), (3, vI lightWord), (4, vI x4), (6, vI x6)]) (st' := [vR 39]) B80_126_127 rfl ?_
        refine r_gfix (r := 51) (pc' := 130) D80_127 rfl gf_9_46_39 HN.1 ?_
        refine s_blx (lv' := [(5, vI w118), (8, vI v50), (7, vI v45), (0, vR 39), (1, vR 1), (2, vI sentence), (3, vI lightWord), (4, vI x4), (6, vI x6)]) (st' := [vI w118, vI ((sentence * 9) + x6), vR 51]) B80_130_139 rfl ?_
        refine r_iast (pc' := 140) D80_139 rfl sc_51 HN (by omega) (by unfold inR; omega) (show 0 ≤ w118 ∧ w118 ≤ 144 by omega) ?_
        intro M121 u122 H123 p124
        have f125 := fN.wr u122 rfl
        have hp126 := i0.wr u122 (by decide)
        have hp127 := i5.wr u122 (by decide)
        have kgs := GP.set (k := x6) i1 u122 (by omega) (by omega) (by omega) (by omega) (fun q _ _ => (HN.2 52 q 0 8 rfl).2)
        refine s_blx (lv' := [(6, vI (x6 + 1)), (5, vI w118), (8, vI v50), (7, vI v45), (0, vR 39), (1, vR 1), (2, vI sentence), (3, vI lightWord), (4, vI x4)]) (st' := []) B80_140_143 rfl ?_
        refine r_goto (tgt := 22) D80_143 rfl ?_
        refine r_loc (lv' := [(0, vR 39), (1, vR 1), (2, vI sentence), (3, vI lightWord), (4, vI x4), (5, vI w118), (6, vI (x6 + 1))]) ⟨rfl, rfl, rfl, rfl, rfl, rfl, rfl, trivial⟩ rfl rfl ?_
        have g128 : gi M121 39 15 = gi N 39 15 := (u122.gi_ne (by omega) (Or.inl (by decide))).trans (rfl)
        have g129 : gi M121 52 sentence = gi N 52 sentence := (u122.gi_ne (by omega) (Or.inl (by decide))).trans (rfl)
        have g130 : gi M121 6 sentence = gi N 6 sentence := (u122.gi_ne (by omega) (Or.inl (by decide))).trans (rfl)
        have g131 : gi M121 1 10 = gi N 1 10 := (u122.gi_ne (by omega) (Or.inl (by decide))).trans (rfl)
        exact ih x4 w118 (x6 + 1) kn M121 H123 f125 (hp126) (kgs) (by omega) (by omega) (by omega) (hp127) (by omega) (by omega) (by omega) (by omega) (by omega) (by omega) (by omega) (by omega) (by omega) (by omega) (by omega) (by omega)
set_option maxRecDepth 4000 in
theorem k80_39x {base : Nat} {X : Nat → Option mC} {G : Nat → Value} (E : EnvOK base X G) {d : Nat} (hd : 4 ≤ d) {M : mH} (H : HI base M) (sentence : Int) (lightWord : Int) (n : Int) (h0 : TR 40 n M) (h1 : GT 51 n M) (h2 : gi M 39 15 = n) (h3 : 1 ≤ n ∧ n ≤ 145) (h4 : 0 ≤ sentence ∧ sentence ≤ 15) (h5 : -2147483648 ≤ lightWord ∧ lightWord ≤ 2147483647) (h6 : LK 52 sentence M) (h7 : sentence < gi M 1 10) : sOk base X G d T80 [vR 39, vR 1, vI sentence, vI lightWord] M (pV (fun M' => HI base M' ∧ Fr [(39, 16), (40, 0), (41, 0), (42, 0), (43, 0), (44, 0), (45, 0), (46, 0), (47, 0), (48, 0), (49, 0), (50, 0), (51, 0), (52, 0), (54, 0)] M M' ∧ (1 ≤ gi M' 39 15 ∧ gi M' 39 15 ≤ 145) ∧ (TR 40 (gi M' 39 15) M') ∧ (GT 51 (gi M' 39 15) M') ∧ (LK 52 (sentence + 1) M'))) := by
  have f0 : Fr [(39, 16), (40, 0), (41, 0), (42, 0), (43, 0), (44, 0), (45, 0), (46, 0), (47, 0), (48, 0), (49, 0), (50, 0), (51, 0), (52, 0), (54, 0)] M M := Fr.rf
  refine sOk.of (show sRn base X G d T80 0 [(0, vR 39), (1, vR 1), (2, vI sentence), (3, vI lightWord)] [] M _ from ?_)
  refine s_blx (lv' := [(0, vR 39), (1, vR 1), (2, vI sentence), (3, vI lightWord)]) (st' := [vR 1]) B80_0_1 rfl ?_
  refine r_gfix (r := 6) (pc' := 4) D80_1 rfl gf_9_96_1 H.1 ?_
  refine s_blx (lv' := [(0, vR 39), (1, vR 1), (2, vI sentence), (3, vI lightWord)]) (st' := [vI sentence, vR 6]) B80_4_5 rfl ?_
  refine r_iald (pc' := 6) D80_5 rfl sc_6 H.1 (by omega) ?_
  intro w1 e2 r3
  have b_w1 := H.2 6 (sentence) 0 8 rfl
  rw [← e2] at b_w1; clear r3
  refine s_blx (lv' := [(4, vI w1), (0, vR 39), (1, vR 1), (2, vI sentence), (3, vI lightWord)]) (st' := [vR 39]) B80_6_9 rfl ?_
  refine r_gfix (r := 52) (pc' := 12) D80_9 rfl gf_9_49_39 H.1 ?_
  refine s_blx (lv' := [(4, vI w1), (0, vR 39), (1, vR 1), (2, vI sentence), (3, vI lightWord)]) (st' := [vI w1, vI sentence, vR 52]) B80_12_15 rfl ?_
  refine r_iast (pc' := 16) D80_15 rfl sc_52 H (by omega) (by unfold inR; omega) (show 0 ≤ w1 ∧ w1 ≤ 8 by omega) ?_
  intro M4 u5 H6 p7
  have f8 := f0.wr u5 rfl
  have hp9 := h0.wr u5 (by decide)
  have kgp := h1.begin u5 (by omega)
  have klk := h6.setlen u5 (by omega) (by decide)
  refine s_blx (lv' := [(6, vI 0), (5, vI 0), (4, vI w1), (0, vR 39), (1, vR 1), (2, vI sentence), (3, vI lightWord)]) (st' := []) B80_16_22 rfl ?_
  refine r_loc (lv' := [(0, vR 39), (1, vR 1), (2, vI sentence), (3, vI lightWord), (4, vI w1), (5, vI 0), (6, vI 0)]) ⟨rfl, rfl, rfl, rfl, rfl, rfl, rfl, trivial⟩ rfl rfl ?_
  have g10 : gi M4 39 15 = gi M 39 15 := (u5.gi_ne (by omega) (Or.inl (by decide))).trans (rfl)
  have g11 : gi M4 52 sentence = w1 := p7
  have g12 : gi M4 6 sentence = w1 := (u5.gi_ne (by omega) (Or.inl (by decide))).trans (e2.symm)
  have g13 : gi M4 1 10 = gi M 1 10 := (u5.gi_ne (by omega) (Or.inl (by decide))).trans (rfl)
  exact (L_k80_39x E hd H sentence lightWord n h0 h1 h2 h3 h4 h5 h6 h7 (((8 - 0) * 1 + 0 : Int) + 1).toNat) w1 0 0 n M4 H6 f8 (hp9) (kgp) (by omega) (by omega) (by omega) (klk) (by omega) (by omega) (by omega) (by omega) (by omega) (by omega) (by omega) (by omega) (by omega) (by omega) (by omega) (by omega)
set_option maxRecDepth 4000 in
theorem L_k79_39x {base : Nat} {X : Nat → Option mC} {G : Nat → Value} (E : EnvOK base X G) {d : Nat} (hd : 5 ≤ d) {M : mH} (H : HI base M) (lightWord : Int) (h0 : -2147483648 ≤ lightWord ∧ lightWord ≤ 2147483647) : ∀ mz : Nat, (∀ (x3 kn : Int) (N : mH), HI base N → Fr [(39, 16), (39, 17), (39, 18), (40, 0), (41, 0), (42, 0), (43, 0), (44, 0), (45, 0), (46, 0), (47, 0), (48, 0), (49, 0), (50, 0), (51, 0), (52, 0), (53, 0), (54, 0)] M N → (TR 40 kn N) → (GT 51 kn N) → (LK 52 x3 N) → (gi N 39 15 = kn) → (1 ≤ kn ∧ kn ≤ 145) → (0 ≤ x3) → (x3 ≤ 16) → (16 - x3) * 1 + 0 < (mz : Int) → sRn base X G d T79 53 [(0, vR 39), (1, vR 1), (2, vI lightWord), (3, vI x3)] [] N (s_Q base (pV (fun M' => HI base M' ∧ Fr [(39, 16), (39, 17), (39, 18), (40, 0), (41, 0), (42, 0), (43, 0), (44, 0), (45, 0), (46, 0), (47, 0), (48, 0), (49, 0), (50, 0), (51, 0), (52, 0), (53, 0), (54, 0)] M M' ∧ (1 ≤ gi M' 39 15 ∧ gi M' 39 15 ≤ 145) ∧ (TR 40 (gi M' 39 15) M') ∧ (GT 51 (gi M' 39 15) M'))))) := by
  have f0 : Fr [(39, 16), (39, 17), (39, 18), (40, 0), (41, 0), (42, 0), (43, 0), (44, 0), (45, 0), (46, 0), (47, 0), (48, 0), (49, 0), (50, 0), (51, 0), (52, 0), (53, 0), (54, 0)] M M := Fr.rf
  intro mz
  induction mz with
  | zero => exact fun x3 kn N _ _ z0 z1 z2 z3 z4 z5 z6 z7 => by omega
  | succ mz ih =>
    intro x3 kn N HN fN i0 i1 i2 i3 i4 i5 i6 hmu
    refine s_blx (lv' := [(0, vR 39), (1, vR 1), (2, vI lightWord), (3, vI x3)]) (st' := [vR 1, vI x3]) B79_53_55 rfl ?_
    refine r_gint (ki := 10) (pc' := 58) D79_55 rfl gf_9_85_1 rfl HN.1 ?_
    intro w41 e42 r43
    have b_w41 := HN.2 1 (10) 0 16 rfl
    rw [← e42] at b_w41; clear r43
    refine r_icmp (tgt := 82) (pc' := 61) D79_58 rfl rfl (by unfold inR; omega) (fun (c44 : w41 ≤ x3) => ?_) (fun (c44 : ¬ (w41 ≤ x3)) => ?_)
    · exact r_retV D79_82 rfl (⟨HN, fN, by omega, by rw [i3]; exact i0, by rw [i3]; exact i1⟩)
    · refine s_blx (lv' := [(0, vR 39), (1, vR 1), (2, vI lightWord), (3, vI x3)]) (st' := [vI x3, vR 1]) B79_61_63 rfl ?_
      refine r_vIp (c := 1) (args := [vI x3]) (rest := []) (pc' := 66) D79_63 rfl ck_9_virtual_88 TE67 rfl (Nat.le_of_ble_eq_true rfl) ⟨Nat.le_of_ble_eq_true rfl, Nat.le_of_ble_eq_true rfl⟩ sc_1 ⟨rfl, by decide⟩ HN.1 (dp_0 hd rfl) (k67_1x E (dp_n hd rfl) HN x3 (by omega)) ?_
      intro v45 q51
      obtain ⟨q47, q48, q49, q50⟩ := q51
      have klk : v45 = 0 → LK 52 (x3 + 1) N := fun h => i2.skip (q50 h)
      have ksp := q49; clear q49
      refine r_ifc (tgt := 76) (pc' := 69) D79_66 rfl rfl (by unfold inR; omega) (fun (c52 : v45 = 0) => ?_) (fun (c52 : ¬ (v45 = 0)) => ?_)
      · refine s_blx (lv' := [(3, vI (x3 + 1)), (0, vR 39), (1, vR 1), (2, vI lightWord)]) (st' := []) B79_76_79 rfl ?_
        refine r_goto (tgt := 53) D79_79 rfl ?_
        refine r_loc (lv' := [(0, vR 39), (1, vR 1), (2, vI lightWord), (3, vI (x3 + 1))]) ⟨rfl, rfl, rfl, rfl, trivial⟩ rfl rfl ?_
        exact ih (x3 + 1) kn N HN fN (i0) (i1) ((klk (by omega))) (by omega) (by omega) (by omega) (by omega) (by omega)
      · refine s_blx (lv' := [(0, vR 39), (1, vR 1), (2, vI lightWord), (3, vI x3)]) (st' := [vI lightWord, vI x3, vR 1, vR 39]) B79_69_73 rfl ?_
        have g53 : gi N 1 10 = w41 := e42.symm
        refine r_vV (c := 39) (args := [vR 1, vI x3, vI lightWord]) (rest := []) (pc' := 76) D79_73 rfl ck_9_virtual_92 TE80 rfl (Nat.le_of_ble_eq_true rfl) ⟨Nat.le_of_ble_eq_true rfl, Nat.le_of_ble_eq_true rfl⟩ sc_39 ⟨rfl, by decide⟩ HN.1 (dp_0 hd rfl) (k80_39x E (dp_n hd rfl) HN x3 lightWord kn (i0) (i1) (by omega) (by omega) (by omega) (by omega) (i2) ((ksp (by omega)).2.1)) ?_
        intro M55 q62
        obtain ⟨H56, f57, q58, q59, q60, q61⟩ := q62
        have f63 := fN.tr (f57.up rfl)
        obtain ⟨kn2, hkn⟩ : ∃ q, q = gi M55 39 15 := ⟨_, rfl⟩
        have ktr := q59; clear q59
        have kgt := q60; clear q60
        rw [← hkn] at ktr kgt
        refine s_blx (lv' := [(3, vI (x3 + 1)), (0, vR 39), (1, vR 1), (2, vI lightWord)]) (st' := []) B79_76_79 rfl ?_
        refine r_goto (tgt := 53) D79_79 rfl ?_
        refine r_loc (lv' := [(0, vR 39), (1, vR 1), (2, vI lightWord), (3, vI (x3 + 1))]) ⟨rfl, rfl, rfl, rfl, trivial⟩ rfl rfl ?_
        have g64 : gi M55 39 15 = kn2 := hkn.symm
        exact ih (x3 + 1) kn2 M55 H56 f63 (ktr) (kgt) (q61) (by omega) (by omega) (by omega) (by omega) (by omega)
set_option maxRecDepth 4000 in
theorem k79_39x {base : Nat} {X : Nat → Option mC} {G : Nat → Value} (E : EnvOK base X G) {d : Nat} (hd : 5 ≤ d) {M : mH} (H : HI base M) (lightWord : Int) (h0 : -2147483648 ≤ lightWord ∧ lightWord ≤ 2147483647) : sOk base X G d T79 [vR 39, vR 1, vI lightWord] M (pV (fun M' => HI base M' ∧ Fr [(39, 16), (39, 17), (39, 18), (40, 0), (41, 0), (42, 0), (43, 0), (44, 0), (45, 0), (46, 0), (47, 0), (48, 0), (49, 0), (50, 0), (51, 0), (52, 0), (53, 0), (54, 0)] M M' ∧ (1 ≤ gi M' 39 15 ∧ gi M' 39 15 ≤ 145) ∧ (TR 40 (gi M' 39 15) M') ∧ (GT 51 (gi M' 39 15) M'))) := by
  have f0 : Fr [(39, 16), (39, 17), (39, 18), (40, 0), (41, 0), (42, 0), (43, 0), (44, 0), (45, 0), (46, 0), (47, 0), (48, 0), (49, 0), (50, 0), (51, 0), (52, 0), (53, 0), (54, 0)] M M := Fr.rf
  refine sOk.of (show sRn base X G d T79 0 [(0, vR 39), (1, vR 1), (2, vI lightWord)] [] M _ from ?_)
  refine s_blx (lv' := [(0, vR 39), (1, vR 1), (2, vI lightWord)]) (st' := [vR 1]) B79_0_1 rfl ?_
  refine r_gfix (r := 3) (pc' := 4) D79_1 rfl gf_9_68_1 H.1 ?_
  refine s_blx (lv' := [(0, vR 39), (1, vR 1), (2, vI lightWord)]) (st' := [vR 39, vI 0, vR 3]) B79_4_6 rfl ?_
  refine r_gfix (r := 53) (pc' := 9) D79_6 rfl gf_9_52_39 H.1 ?_
  refine s_blx (lv' := [(0, vR 39), (1, vR 1), (2, vI lightWord)]) (st' := [vI 9, vI 0, vR 53, vI 0, vR 3]) B79_9_12 rfl ?_
  refine r_acpy (pc' := 15) D79_12 rfl mc_9_static_71 sp_9_71 (Nat.le_of_ble_eq_true rfl) sc_3 sc_53 H (by omega) (fun j h0 h1 => (show 0 ≤ _ ∧ _ ≤ 1000 from by have q := H.2 3 (0 + j) 0 1000 rfl; omega)) ?_
  intro M1 u2 H3
  have f4 := f0.cp u2 (fun _ => rfl)
  refine s_blx (lv' := [(0, vR 39), (1, vR 1), (2, vI lightWord)]) (st' := [vR 1, vR 39]) B79_15_17 rfl ?_
  refine r_gint (ki := 2) (pc' := 20) D79_17 rfl gf_9_77_1 rfl H3.1 ?_
  intro w5 e6 r7
  have b_w5 := H3.2 1 (2) 0 5 rfl
  rw [← e6] at b_w5; clear r7
  refine r_pint (ki := 16) (pc' := 23) D79_20 rfl pf_9_62_39 rfl H3 (by unfold inR; omega) (show 0 ≤ w5 ∧ w5 ≤ 5 by omega) ?_
  intro M8 u9 H10 p11
  have f12 := f4.wr u9 rfl
  refine s_blx (lv' := [(0, vR 39), (1, vR 1), (2, vI lightWord)]) (st' := [vR 1, vR 39]) B79_23_25 rfl ?_
  refine r_gint (ki := 5) (pc' := 28) D79_25 rfl gf_9_78_1 rfl H10.1 ?_
  intro w13 e14 r15
  have b_w13 := H10.2 1 (5) 0 3 rfl
  rw [← e14] at b_w13; clear r15
  refine r_pint (ki := 17) (pc' := 31) D79_28 rfl pf_9_65_39 rfl H10 (by unfold inR; omega) (show 0 ≤ w13 ∧ w13 ≤ 3 by omega) ?_
  intro M16 u17 H18 p19
  have f20 := f12.wr u17 rfl
  refine s_blx (lv' := [(0, vR 39), (1, vR 1), (2, vI lightWord)]) (st' := [vR 39]) B79_31_32 rfl ?_
  refine r_gfix (r := 52) (pc' := 35) D79_32 rfl gf_9_49_39 H18.1 ?_
  refine s_blx (lv' := [(0, vR 39), (1, vR 1), (2, vI lightWord)]) (st' := [vI 0, vR 52]) B79_35_36 rfl ?_
  refine r_sV (args := [vR 52, vI 0]) (rest := []) (pc' := 39) D79_36 rfl ck_9_static_79 TE278 rfl (Nat.le_of_ble_eq_true rfl) ⟨Nat.le_of_ble_eq_true rfl, Nat.le_of_ble_eq_true rfl⟩ (by decide) (dp_0 hd rfl) (k278_52x E (dp_n hd rfl) H18 0 (by omega)) ?_
  intro M22 q26
  obtain ⟨H23, f24, q25⟩ := q26
  have f27 := f20.tr (f24.up rfl)
  have kz := q25; clear q25
  have kgt := GT.zero (a := 51) (n := 1) kz
  refine s_blx (lv' := [(0, vR 39), (1, vR 1), (2, vI lightWord)]) (st' := [vI 1, vR 39]) B79_39_41 rfl ?_
  refine r_pint (ki := 15) (pc' := 44) D79_41 rfl pf_9_58_39 rfl H23 (by unfold inR; omega) (show 0 ≤ 1 ∧ 1 ≤ 145 by omega) ?_
  intro M28 u29 H30 p31
  have f32 := f27.wr u29 rfl
  have hp33 := kgt.wr u29 (by decide)
  refine s_blx (lv' := [(0, vR 39), (1, vR 1), (2, vI lightWord)]) (st' := [vR 39]) B79_44_45 rfl ?_
  refine r_gfix (r := 40) (pc' := 48) D79_45 rfl gf_9_11_39 H30.1 ?_
  refine s_blx (lv' := [(0, vR 39), (1, vR 1), (2, vI lightWord)]) (st' := [vI (-1), vI 0, vR 40]) B79_48_50 rfl ?_
  refine r_iast (pc' := 51) D79_50 rfl sc_40 H30 (by omega) (by unfold inR; omega) (show (-1) ≤ (-1) ∧ (-1) ≤ 144 by omega) ?_
  intro M34 u35 H36 p37
  have f38 := f32.wr u35 rfl
  have hp39 := hp33.wr u35 (by decide)
  have ktr := TR.one (a := 40) p37
  refine s_blx (lv' := [(3, vI 0), (0, vR 39), (1, vR 1), (2, vI lightWord)]) (st' := []) B79_51_53 rfl ?_
  refine r_loc (lv' := [(0, vR 39), (1, vR 1), (2, vI lightWord), (3, vI 0)]) ⟨rfl, rfl, rfl, rfl, trivial⟩ rfl rfl ?_
  have g40 : gi M34 39 15 = 1 := (u35.gi_ne (by decide) (Or.inl (by decide))).trans (p31)
  exact (L_k79_39x E hd H lightWord h0 (((16 - 0) * 1 + 0 : Int) + 1).toNat) 0 1 M34 H36 f38 (ktr) (hp39) (LK.zero) (by omega) (by omega) (by omega) (by omega) (by omega)
