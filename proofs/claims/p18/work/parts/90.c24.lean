/-! What stays where things are made; lemmas for the frame Fz. -/
theorem HI.m {base : Nat} {M : mH} (H : HI base M) : 111 ≤ M.1 := H.1.1
theorem Nw.gi {M M' : mH} {x : mC} (w : Nw M x M') (hM : 111 ≤ M.1) {c : Nat} (hc : c < 111) (i : Int) : gi M' c i = gi M c i := (w.same (by omega)).gi i
theorem TR.of {a : Nat} {n : Int} {M M' : mH} (h : TR a n M) (e1 : ∀ i : Int, gi M' a i = gi M a i) (e2 : ∀ i : Int, gi M' (a + 1) i = gi M (a + 1) i) : TR a n M' := by
  intro p h1 h2
  rw [e1, e2]
  exact h p h1 h2
theorem GT.of {a : Nat} {n : Int} {M M' : mH} (h : GT a n M) (e1 : ∀ i : Int, gi M' a i = gi M a i) (e2 : ∀ i : Int, gi M' (a + 1) i = gi M (a + 1) i) : GT a n M' := by
  intro q h1 h2 h4 t h5 h6
  rw [e2] at h4 h6; rw [e1]; exact h q h1 h2 h4 t h5 h6
theorem TR.nw {a : Nat} {n : Int} {M M' : mH} {x : mC} (h : TR a n M) (w : Nw M x M') (hM : 111 ≤ M.1) (ha : a + 1 < 111) : TR a n M' := h.of (fun i => w.gi hM (by omega) i) (fun i => w.gi hM ha i)
theorem GT.nw {a : Nat} {n : Int} {M M' : mH} {x : mC} (h : GT a n M) (w : Nw M x M') (hM : 111 ≤ M.1) (ha : a + 1 < 111) : GT a n M' := h.of (fun i => w.gi hM (by omega) i) (fun i => w.gi hM ha i)
theorem Fz.gs {L : List (Nat × Nat)} {M0 M : mH} (h : Fz L M0 M) (hM : 111 ≤ M0.1) {c : Nat} (hc : c < 111) (k : ∀ i, s_md L c i = false) (i : Int) : gi M c i = gi M0 c i := by
  unfold gi
  rw [(h.2.1 c (by omega)).2.2 _ (k _) (Or.inl hc)]
theorem TR.fz {a : Nat} {n : Int} {L : List (Nat × Nat)} {M M' : mH} (h : TR a n M) (hM : 111 ≤ M.1) (f : Fz L M M') (hc : (s_al L (fun c => c != a && c != a + 1) && decide (a + 1 < 111)) = true) : TR a n M' := by
  rw [Bool.and_eq_true, decide_eq_true_eq] at hc
  exact h.of (f.gs hM (by omega) (fun i => s_al_ok hc.1 (by simp))) (f.gs hM hc.2 (fun i => s_al_ok hc.1 (by simp)))
theorem GT.fz {a : Nat} {n : Int} {L : List (Nat × Nat)} {M M' : mH} (h : GT a n M) (hM : 111 ≤ M.1) (f : Fz L M M') (hc : (s_al L (fun c => c != a && c != a + 1) && decide (a + 1 < 111)) = true) : GT a n M' := by
  rw [Bool.and_eq_true, decide_eq_true_eq] at hc
  exact h.of (f.gs hM (by omega) (fun i => s_al_ok hc.1 (by simp))) (f.gs hM hc.2 (fun i => s_al_ok hc.1 (by simp)))
theorem GT.fq {a : Nat} {n : Int} {L : List (Nat × Nat)} {M M' : mH} (h : GT a n M) (f : Fq L M M') (hc : (s_al L (fun c => c != a && c != a + 1) && decide (a + 1 < 111)) = true) : GT a n M' := by
  rw [Bool.and_eq_true, decide_eq_true_eq] at hc
  refine h.of (fun i => ?_) (fun i => ?_)
  · unfold gi; rw [(f.2.2.1 a).2.2 _ (s_al_ok hc.1 (by simp)) (Or.inl (by omega))]
  · unfold gi; rw [(f.2.2.1 (a + 1)).2.2 _ (s_al_ok hc.1 (by simp)) (Or.inl hc.2)]
theorem RN.fz {base Lc : Nat} {hw : Int} {L : List (Nat × Nat)} {M M' : mH} (h : RN base Lc hw M) (hM : 111 ≤ M.1) (f : Fz L M M') (hc : (s_al L (fun c => c != Lc) && decide (Lc < 111)) = true) : RN base Lc hw M' := by
  rw [Bool.and_eq_true, decide_eq_true_eq] at hc
  have e : ∀ i, hv M' Lc i = hv M Lc i := fun i => (f.2.1 Lc (by omega)).2.2 i (s_al_ok hc.1 (by simp)) (Or.inl hc.2)
  refine ⟨fun p h1 h2 => ?_, fun p h1 h2 => by rw [e]; exact h.2 p h1 h2⟩
  obtain ⟨r, a, b⟩ := h.1 p h1 h2
  exact ⟨r, by rw [e]; exact a, f.2.2 r b⟩
theorem HB.fz {base : Nat} {L : List (Nat × Nat)} {M M' : mH} (h : HB base M) (hM : 111 ≤ M.1) (f : Fz L M M') (hc : (s_al L (fun c => decide (c < 111) && c != 9) && !s_md L 1 12) = true) : HB base M' := by
  rw [Bool.and_eq_true] at hc
  have hc9 : ∀ i, s_md L 9 i = false := fun i => s_al_ok hc.1 (by simp)
  have hl : s_al L (fun c => decide (c < 111)) = true := by
    have := hc.1
    unfold s_al at this ⊢
    rw [List.all_eq_true] at this ⊢
    intro q hq
    have := this q hq
    rw [Bool.and_eq_true] at this
    exact this.1
  intro t h1 h2
  have e : gi M' 1 12 = gi M 1 12 := by
    unfold gi
    rw [if_pos (by decide), if_pos (by decide), (f.2.1 1 (by omega)).2.2 _ (by simpa using hc.2) (Or.inl (by decide))]
  rw [e] at h2
  obtain ⟨hb, nh, nc, a, b, c⟩ := h t h1 h2
  exact ⟨hb, nh, nc, by rw [(f.2.1 9 (by omega)).2.2 _ (hc9 _) (Or.inl (by decide))]; exact a, b.fz f hl, c⟩
/-- how much room rows take -/
noncomputable def RM (M : mH) (k : Int) (M' : mH) : Prop := (M'.1 : Int) = (M.1 : Int) + k ∧ (M'.2.1 : Int) = (M.2.1 : Int) + 1111 * k
theorem RM.rf {M : mH} {k : Int} : RM M (k - k) M := by unfold RM; omega
theorem RM.eq {M M' : mH} {k k' : Int} (h : RM M k M') (e : k = k') : RM M k' M' := by rw [← e]; exact h
theorem RM.wr {M M1 M2 : mH} {k : Int} {c i : Nat} {v : Value} (h : RM M k M1) (u : Wr M1 c i v M2) (_ : True) : RM M k M2 := by
  unfold RM at h ⊢; rw [u.n1, u.n2]; exact h
theorem RM.nw {M M1 M2 : mH} {k : Int} {z : Nat} {g : Nat → Value} (h : RM M k M1) (w : Nw M1 (z, 1111, g) M2) : RM M (k + 1) M2 := by
  have e : M2.2.1 = M1.2.1 + 1111 := w.n2
  unfold RM at h ⊢; rw [w.n1, e]; omega
theorem RM.fq {M M1 M2 : mH} {k : Int} {L : List (Nat × Nat)} (h : RM M k M1) (f : Fq L M1 M2) (_ : True) : RM M k M2 := by
  unfold RM at h ⊢; rw [f.1, f.2.1]; exact h
theorem RM.fr {M M1 M2 : mH} {k : Int} {L : List (Nat × Nat)} (h : RM M k M1) (f : Fr L M1 M2) (_ : True) : RM M k M2 := by
  unfold RM at h ⊢; rw [f.1, f.2.1]; exact h
theorem RM.tr {M M1 M2 : mH} {k k' : Int} (h : RM M k M1) (h' : RM M1 k' M2) : RM M (k + k') M2 := by
  unfold RM at h h' ⊢; omega
noncomputable def T47 : mT := (7, yX7_solve, cX7_solve, 4, (some .long))
set_option maxRecDepth 10000 in
theorem TE47 : sy_m[47]? = some T47 := rfl
theorem B47_0_2 : s_dk T47.2.2.1 0 [.aload_n 0, .iload_n 1] 2 = true := by decide +kernel
theorem pf_7_27_36 : s_pf 7 27 36 = some (4, 2) := by decide +kernel
theorem D47_2 : decode T47.2.2.1 2 = .ok (.putfield 27, 3) := by decide +kernel
theorem B47_5_7 : s_dk T47.2.2.1 5 [.aload_n 0, .dup] 7 = true := by decide +kernel
theorem D47_7 : decode T47.2.2.1 7 = .ok (.getfield 23, 3) := by decide +kernel
theorem B47_10_12 : s_dk T47.2.2.1 10 [.lconst 1, .ladd] 12 = true := by decide +kernel
theorem pf_7_23_36 : s_pf 7 23 36 = some (3, 3) := by decide +kernel
theorem D47_12 : decode T47.2.2.1 12 = .ok (.putfield 23, 3) := by decide +kernel
theorem B47_15_17 : s_dk T47.2.2.1 15 [.iconst 1, .istore_n 2] 17 = true := by decide +kernel
theorem B47_17_19 : s_dk T47.2.2.1 17 [.iload_n 2, .aload_n 0] 19 = true := by decide +kernel
theorem D47_19 : decode T47.2.2.1 19 = .ok (.getfield 31, 3) := by decide +kernel
theorem gf_7_35_20 : s_gf 7 35 20 = some (15, 1) := by decide +kernel
theorem D47_22 : decode T47.2.2.1 22 = .ok (.getfield 35, 3) := by decide +kernel
theorem D47_25 : decode T47.2.2.1 25 = .ok (.if_icmp .ge 71, 3) := by decide +kernel
theorem B47_96_101 : s_dk T47.2.2.1 96 [.aload_n 0, .iconst 0, .iconst 0, .iconst 0, .iconst 0] 101 = true := by decide +kernel
theorem D47_101 : decode T47.2.2.1 101 = .ok (.invokevirtual 46, 3) := by decide +kernel
theorem D47_104 : decode T47.2.2.1 104 = .ok (.lreturn, 1) := by decide +kernel
theorem B47_28_29 : s_dk T47.2.2.1 28 [.aload_n 0] 29 = true := by decide +kernel
theorem D47_29 : decode T47.2.2.1 29 = .ok (.getfield 13, 3) := by decide +kernel
theorem B47_32_33 : s_dk T47.2.2.1 32 [.iload_n 2] 33 = true := by decide +kernel
theorem D47_33 : decode T47.2.2.1 33 = .ok (.aaload, 1) := by decide +kernel
theorem D47_34 : decode T47.2.2.1 34 = .ok (.ifnonnull 14, 3) := by decide +kernel
theorem B47_48_50 : s_dk T47.2.2.1 48 [.iconst 0, .istore_n 3] 50 = true := by decide +kernel
theorem B47_37_38 : s_dk T47.2.2.1 37 [.aload_n 0] 38 = true := by decide +kernel
theorem D47_38 : decode T47.2.2.1 38 = .ok (.getfield 13, 3) := by decide +kernel
theorem B47_41_45 : s_dk T47.2.2.1 41 [.iload_n 2, .sipush 1111] 45 = true := by decide +kernel
theorem D47_45 : decode T47.2.2.1 45 = .ok (.newarray .long, 2) := by decide +kernel
theorem D47_47 : decode T47.2.2.1 47 = .ok (.aastore, 1) := by decide +kernel
theorem B47_50_52 : s_dk T47.2.2.1 50 [.iload_n 3, .iconst 4] 52 = true := by decide +kernel
theorem D47_52 : decode T47.2.2.1 52 = .ok (.if_icmp .ge 38, 3) := by decide +kernel
theorem B47_55_56 : s_dk T47.2.2.1 55 [.aload_n 0] 56 = true := by decide +kernel
theorem D47_56 : decode T47.2.2.1 56 = .ok (.getfield 19, 3) := by decide +kernel
theorem B47_59_65 : s_dk T47.2.2.1 59 [.iload_n 2, .iconst 4, .imul, .iload_n 3, .iadd, .aload_n 0] 65 = true := by decide +kernel
theorem D47_65 : decode T47.2.2.1 65 = .ok (.getfield 31, 3) := by decide +kernel
theorem D47_68 : decode T47.2.2.1 68 = .ok (.getfield 39, 3) := by decide +kernel
theorem B47_71_72 : s_dk T47.2.2.1 71 [.iload_n 2] 72 = true := by decide +kernel
theorem D47_72 : decode T47.2.2.1 72 = .ok (.iaload, 1) := by decide +kernel
theorem B47_73_74 : s_dk T47.2.2.1 73 [.aload_n 0] 74 = true := by decide +kernel
theorem D47_74 : decode T47.2.2.1 74 = .ok (.getfield 31, 3) := by decide +kernel
theorem B47_77_79 : s_dk T47.2.2.1 77 [.iload_n 2, .iload_n 3] 79 = true := by decide +kernel
theorem D47_79 : decode T47.2.2.1 79 = .ok (.invokevirtual 42, 3) := by decide +kernel
theorem ck_7_virtual_42 : m_call 7 (.invokevirtual 42) = some (0, 92, 2) := by decide +kernel
theorem B47_82_83 : s_dk T47.2.2.1 82 [.imul] 83 = true := by decide +kernel
theorem D47_83 : decode T47.2.2.1 83 = .ok (.iastore, 1) := by decide +kernel
theorem B47_84_87 : s_dk T47.2.2.1 84 [.iinc 3 1] 87 = true := by decide +kernel
theorem D47_87 : decode T47.2.2.1 87 = .ok (.goto (-37), 3) := by decide +kernel
theorem B47_90_93 : s_dk T47.2.2.1 90 [.iinc 2 1] 93 = true := by decide +kernel
theorem D47_93 : decode T47.2.2.1 93 = .ok (.goto (-76), 3) := by decide +kernel
theorem pf_7_27_55 : s_pf 7 27 55 = some (4, 2) := by decide +kernel
theorem pf_7_23_55 : s_pf 7 23 55 = some (3, 3) := by decide +kernel
theorem gf_7_35_39 : s_gf 7 35 39 = some (15, 1) := by decide +kernel
set_option maxRecDepth 4000 in
theorem L_k47_36x {base : Nat} {X : Nat → Option mC} {G : Nat → Value} (E : EnvOK base X G) {d : Nat} (hd : 175 ≤ d) {M : mH} (H : HI base M) (withGuesses : Int) (n : Int) (hw : Int) (h0 : (withGuesses = 0 ∨ withGuesses = 1)) (h1 : RN base 37 hw M) (h2 : TR 21 n M) (h3 : gi M 20 15 = n) (h4 : 1 ≤ n ∧ n ≤ 145) (h5 : 1 ≤ hw ∧ hw ≤ 145) : ∀ mz : Nat, (∀ (x2 hw2 : Int) (N : mH), HI base N → Fz [(36, 4), (36, 5), (37, 0), (38, 0)] M N → (RN base 37 hw2 N) → (TR 21 n N) → (gi N 20 15 = n) → (1 ≤ n ∧ n ≤ 145) → (1 ≤ hw ∧ hw ≤ hw2 ∧ hw2 ≤ 145) → (RM M (hw2 - hw) N) → (1 ≤ x2 ∧ x2 ≤ n ∧ x2 ≤ hw2) → (1 ≤ x2) → (x2 ≤ 145) → (145 - x2) * 6 + 5 < (mz : Int) → sRn base X G d T47 17 [(0, vR 36), (2, vI x2)] [] N (s_Q base (pL (fun v M' => HI base M' ∧ Fz [(36, 4), (36, 5), (37, 0), (38, 0)] M M' ∧ (∃ hw2 : Int, (hw ≤ hw2 ∧ hw2 ≤ 145 ∧ n ≤ hw2) ∧ RN base 37 hw2 M' ∧ RM M (hw2 - hw) M'))))) ∧ (∀ (x2 x3 hw2 : Int) (N : mH), HI base N → Fz [(36, 4), (36, 5), (37, 0), (38, 0)] M N → (RN base 37 hw2 N) → (TR 21 n N) → (gi N 20 15 = n) → (1 ≤ n ∧ n ≤ 145) → (1 ≤ hw ∧ hw ≤ hw2 ∧ hw2 ≤ 145) → (RM M (hw2 - hw) N) → (1 ≤ x2 ∧ x2 < n ∧ x2 < hw2) → (1 ≤ x2) → (x2 ≤ 144) → (0 ≤ x3) → (x3 ≤ 4) → (145 - x2) * 6 + 0 + (4 - x3) * 1 + 0 < (mz : Int) → sRn base X G d T47 50 [(0, vR 36), (2, vI x2), (3, vI x3)] [] N (s_Q base (pL (fun v M' => HI base M' ∧ Fz [(36, 4), (36, 5), (37, 0), (38, 0)] M M' ∧ (∃ hw2 : Int, (hw ≤ hw2 ∧ hw2 ≤ 145 ∧ n ≤ hw2) ∧ RN base 37 hw2 M' ∧ RM M (hw2 - hw) M'))))) := by
  have f0 : Fz [(36, 4), (36, 5), (37, 0), (38, 0)] M M := Fz.rf
  intro mz
  induction mz with
  | zero => exact ⟨fun x2 hw2 N _ _ z0 z1 z2 z3 z4 z5 z6 z7 z8 z9 => by omega, fun x2 x3 hw2 N _ _ z0 z1 z2 z3 z4 z5 z6 z7 z8 z9 z10 z11 => by omega⟩
  | succ mz ih =>
    refine ⟨?_, ?_⟩
    · intro x2 hw2 N HN fN i0 i1 i2 i3 i4 i5 i6 i7 i8 hmu
      refine s_blx (lv' := [(0, vR 36), (2, vI x2)]) (st' := [vR 36, vI x2]) B47_17_19 rfl ?_
      refine r_gfix (r := 20) (pc' := 22) D47_19 rfl gf_7_31_36 HN.1 ?_
      refine r_gint (ki := 15) (pc' := 25) D47_22 rfl gf_7_35_20 rfl HN.1 ?_
      intro w23 e24 r25
      have e26 : n = w23 := (e24.trans (i2)).symm
      subst e26
      refine r_icmp (tgt := 96) (pc' := 28) D47_25 rfl rfl (by unfold inR; omega) (fun (c27 : n ≤ x2) => ?_) (fun (c27 : ¬ (n ≤ x2)) => ?_)
      · refine s_blx (lv' := [(0, vR 36), (2, vI x2)]) (st' := [vI 0, vI 0, vI 0, vI 0, vR 36]) B47_96_101 rfl ?_
        refine r_vL (c := 36) (args := [vI 0, vI 0, vI 0, vI 0]) (rest := []) (pc' := 104) D47_101 rfl ck_7_virtual_46 TE56 rfl (Nat.le_of_ble_eq_true rfl) ⟨Nat.le_of_ble_eq_true rfl, Nat.le_of_ble_eq_true rfl⟩ sc_36 ⟨rfl, by decide⟩ HN.1 (by omega) (k56_36 E (rr := 41) (k52_36r E 41) (by omega) HN 0 0 0 0 n ((i0.rw (show n ≤ hw2 by omega))) (i1) (by omega) (by omega) (by omega) (by omega) (by omega)) ?_
        intro v28 M29 q32
        obtain ⟨H30, f31⟩ := q32
        have f33 := fN.tr (f31.z.up rfl)
        have hp34 := i0.fq f31 (by decide)
        have hp35 := i1.fq f31 (by decide)
        have hp36 := i5.fq f31 (by decide)
        exact r_lretL D47_104 rfl (⟨H30, f33, ⟨hw2, by omega, hp34, hp36⟩⟩)
      · refine s_blx (lv' := [(0, vR 36), (2, vI x2)]) (st' := [vR 36]) B47_28_29 rfl ?_
        refine r_gfix (r := 37) (pc' := 32) D47_29 rfl gf_7_13_36 HN.1 ?_
        refine s_blx (lv' := [(0, vR 36), (2, vI x2)]) (st' := [vI x2, vR 37]) B47_32_33 rfl ?_
        by_cases kc40 : x2 < hw2
        · obtain ⟨r37, a38, a39⟩ := i0.1 (x2) (by omega) kc40
          refine r_aald (v := vR r37) (pc' := 34) D47_33 rfl sc_37 (by decide) HN.1 (by omega) a38 ?_
          refine r_ifnonnull (q := some (.inl r37)) (tgt := 48) (pc' := 37) D47_34 rfl rfl (fun hq_ => ?_) (fun hq_ => ?_)
          · refine s_blx (lv' := [(3, vI 0), (0, vR 36), (2, vI x2)]) (st' := []) B47_48_50 rfl ?_
            refine r_loc (lv' := [(0, vR 36), (2, vI x2), (3, vI 0)]) ⟨rfl, rfl, rfl, trivial⟩ rfl rfl ?_
            exact ih.2 x2 0 hw2 N HN fN (i0) (i1) (by omega) (by omega) (by omega) (i5) (by omega) (by omega) (by omega) (by omega) (by omega) (by omega)
          · exact absurd hq_ (by simp)
        · refine r_aald (v := vN) (pc' := 34) D47_33 rfl sc_37 (by decide) HN.1 (by omega) (i0.2 (x2) (by omega) (by omega)) ?_
          refine r_ifnonnull (q := none) (tgt := 48) (pc' := 37) D47_34 rfl rfl (fun hq_ => ?_) (fun hq_ => ?_)
          · exact absurd hq_ (by simp)
          · refine s_blx (lv' := [(0, vR 36), (2, vI x2)]) (st' := [vR 36]) B47_37_38 rfl ?_
            refine r_gfix (r := 37) (pc' := 41) D47_38 rfl gf_7_13_36 HN.1 ?_
            refine s_blx (lv' := [(0, vR 36), (2, vI x2)]) (st' := [vI 1111, vI x2, vR 37]) B47_41_45 rfl ?_
            refine r_newL (pc' := 47) D47_45 rfl (by omega) ?_
            intro M41 w42
            have H43 := HN.nw w42
            have f44 := fN.nw w42
            have hp45 := i1.nw w42 HN.m (by decide)
            have hp46 := (i5.nw w42).eq (show hw2 - hw + 1 = (hw2 + 1) - hw by omega)
            refine r_aastL (pc' := 48) D47_47 rfl sc_37 rg_37 H43 (by rw [w42.n1]; omega) (by unfold hk; rw [w42.at]) (by omega) ?_
            intro M47 u48 H49
            have f50 := f44.wr u48 rfl
            have ku_ := u48
            rw [show x2 = hw2 by omega] at ku_
            have krn_ := i0.grow HN.m (by decide) (by omega) w42 ku_
            have hp51 := hp45.wr u48 (by decide)
            have hp52 := hp46.wr u48 (by decide)
            refine s_blx (lv' := [(3, vI 0), (0, vR 36), (2, vI x2)]) (st' := []) B47_48_50 rfl ?_
            refine r_loc (lv' := [(0, vR 36), (2, vI x2), (3, vI 0)]) ⟨rfl, rfl, rfl, trivial⟩ rfl rfl ?_
            have g53 : gi M47 20 15 = n := (u48.gi_ne (by omega) (Or.inl (by decide))).trans ((w42.gi HN.m (by decide) _).trans (i2))
            exact ih.2 x2 0 (hw2 + 1) M47 H49 f50 (krn_) (hp51) (by omega) (by omega) (by omega) (hp52) (by omega) (by omega) (by omega) (by omega) (by omega) (by omega)
    · intro x2 x3 hw2 N HN fN i0 i1 i2 i3 i4 i5 i6 i7 i8 i9 i10 hmu
      refine s_blx (lv' := [(0, vR 36), (2, vI x2), (3, vI x3)]) (st' := [vI 4, vI x3]) B47_50_52 rfl ?_
      refine r_icmp (tgt := 90) (pc' := 55) D47_52 rfl rfl (by unfold inR; omega) (fun (c54 : 4 ≤ x3) => ?_) (fun (c54 : ¬ (4 ≤ x3)) => ?_)
      · refine s_blx (lv' := [(2, vI (x2 + 1)), (0, vR 36), (3, vI x3)]) (st' := []) B47_90_93 rfl ?_
        refine r_goto (tgt := 17) D47_93 rfl ?_
        refine r_loc (lv' := [(0, vR 36), (2, vI (x2 + 1))]) ⟨rfl, rfl, trivial⟩ rfl rfl ?_
        exact ih.1 (x2 + 1) hw2 N HN fN (i0) (i1) (by omega) (by omega) (by omega) (i5) (by omega) (by omega) (by omega) (by omega)
      · refine s_blx (lv' := [(0, vR 36), (2, vI x2), (3, vI x3)]) (st' := [vR 36]) B47_55_56 rfl ?_
        refine r_gfix (r := 38) (pc' := 59) D47_56 rfl gf_7_19_36 HN.1 ?_
        refine s_blx (lv' := [(0, vR 36), (2, vI x2), (3, vI x3)]) (st' := [vR 36, vI ((x2 * 4) + x3), vR 38]) B47_59_65 rfl ?_
        refine r_gfix (r := 20) (pc' := 68) D47_65 rfl gf_7_31_36 HN.1 ?_
        refine r_gfix (r := 23) (pc' := 71) D47_68 rfl gf_7_39_20 HN.1 ?_
        refine s_blx (lv' := [(0, vR 36), (2, vI x2), (3, vI x3)]) (st' := [vI x2, vR 23, vI ((x2 * 4) + x3), vR 38]) B47_71_72 rfl ?_
        refine r_iald (pc' := 73) D47_72 rfl sc_23 HN.1 (by omega) ?_
        intro w55 e56 r57
        unfold inR at r57
        refine s_blx (lv' := [(0, vR 36), (2, vI x2), (3, vI x3)]) (st' := [vR 36, vI w55, vI ((x2 * 4) + x3), vR 38]) B47_73_74 rfl ?_
        refine r_gfix (r := 20) (pc' := 77) D47_74 rfl gf_7_31_36 HN.1 ?_
        refine s_blx (lv' := [(0, vR 36), (2, vI x2), (3, vI x3)]) (st' := [vI x3, vI x2, vR 20, vI w55, vI ((x2 * 4) + x3), vR 38]) B47_77_79 rfl ?_
        refine r_vIp (c := 20) (args := [vI x2, vI x3]) (rest := [vI w55, vI ((x2 * 4) + x3), vR 38]) (pc' := 82) D47_79 rfl ck_7_virtual_42 TE92 rfl (Nat.le_of_ble_eq_true rfl) ⟨Nat.le_of_ble_eq_true rfl, Nat.le_of_ble_eq_true rfl⟩ sc_20 ⟨rfl, by decide⟩ HN.1 (dp_0 hd rfl) (k92_20 E (dp_n hd rfl) HN x2 x3 (by omega) (by omega)) ?_
        intro v58 q61
        have q60 := q61; clear q61
        refine s_blx (lv' := [(0, vR 36), (2, vI x2), (3, vI x3)]) (st' := [vI (w55 * v58), vI ((x2 * 4) + x3), vR 38]) B47_82_83 rfl ?_
        refine r_norm ?_
        intro z62 r63 _; unfold inR at r63
        refine r_iast (pc' := 84) D47_83 rfl sc_38 HN (by omega) (by unfold inR; omega) trivial ?_
        intro M64 u65 H66 p67
        have f68 := fN.wr u65 rfl
        have hp69 := i0.wr u65 (by decide)
        have hp70 := i1.wr u65 (by decide)
        have hp71 := i5.wr u65 (by decide)
        refine s_blx (lv' := [(3, vI (x3 + 1)), (0, vR 36), (2, vI x2)]) (st' := []) B47_84_87 rfl ?_
        refine r_goto (tgt := 50) D47_87 rfl ?_
        refine r_loc (lv' := [(0, vR 36), (2, vI x2), (3, vI (x3 + 1))]) ⟨rfl, rfl, rfl, trivial⟩ rfl rfl ?_
        have g72 : gi M64 20 15 = n := (u65.gi_ne (by omega) (Or.inl (by decide))).trans (i2)
        exact ih.2 x2 (x3 + 1) hw2 M64 H66 f68 (hp69) (hp70) (by omega) (by omega) (by omega) (hp71) (by omega) (by omega) (by omega) (by omega) (by omega) (by omega)
set_option maxRecDepth 4000 in
theorem k47_36x {base : Nat} {X : Nat → Option mC} {G : Nat → Value} (E : EnvOK base X G) {d : Nat} (hd : 175 ≤ d) {M : mH} (H : HI base M) (withGuesses : Int) (n : Int) (hw : Int) (h0 : (withGuesses = 0 ∨ withGuesses = 1)) (h1 : RN base 37 hw M) (h2 : TR 21 n M) (h3 : gi M 20 15 = n) (h4 : 1 ≤ n ∧ n ≤ 145) (h5 : 1 ≤ hw ∧ hw ≤ 145) : sOk base X G d T47 [vR 36, vI withGuesses] M (pL (fun v M' => HI base M' ∧ Fz [(36, 4), (36, 5), (37, 0), (38, 0)] M M' ∧ (∃ hw2 : Int, (hw ≤ hw2 ∧ hw2 ≤ 145 ∧ n ≤ hw2) ∧ RN base 37 hw2 M' ∧ RM M (hw2 - hw) M'))) := by
  have f0 : Fz [(36, 4), (36, 5), (37, 0), (38, 0)] M M := Fz.rf
  refine sOk.of (show sRn base X G d T47 0 [(0, vR 36), (1, vI withGuesses)] [] M _ from ?_)
  refine s_blx (lv' := [(0, vR 36), (1, vI withGuesses)]) (st' := [vI withGuesses, vR 36]) B47_0_2 rfl ?_
  refine r_pbool (ki := 4) (pc' := 5) D47_2 rfl pf_7_27_36 rfl H (by omega) (show 0 ≤ withGuesses ∧ withGuesses ≤ 1 by omega) ?_
  intro M1 u2 H3 p4
  have f5 := f0.wr u2 rfl
  have hp6 := h1.wr u2 (by decide)
  have hp7 := h2.wr u2 (by decide)
  have hp8 := (RM.rf (M := M) (k := hw)).wr u2 (by decide)
  refine s_blx (lv' := [(0, vR 36), (1, vI withGuesses)]) (st' := [vR 36, vR 36]) B47_5_7 rfl ?_
  refine r_glong (ki := 3) (pc' := 10) D47_7 rfl gf_7_23_36 rfl H3.1 ?_
  intro w9 e10 r11
  clear r11
  refine s_blx (lv' := [(0, vR 36), (1, vI withGuesses)]) (st' := [vL (w9 + 1), vR 36]) B47_10_12 rfl ?_
  refine r_normL ?_
  intro z12 r13 _; unfold inJ at r13
  refine r_plong (ki := 3) (pc' := 15) D47_12 rfl pf_7_23_36 rfl H3 (by unfold inJ; omega) trivial ?_
  intro M14 u15 H16 p17
  have f18 := f5.wr u15 rfl
  have hp19 := hp6.wr u15 (by decide)
  have hp20 := hp7.wr u15 (by decide)
  have hp21 := hp8.wr u15 (by decide)
  refine s_blx (lv' := [(2, vI 1), (0, vR 36), (1, vI withGuesses)]) (st' := []) B47_15_17 rfl ?_
  refine r_loc (lv' := [(0, vR 36), (2, vI 1)]) ⟨rfl, rfl, trivial⟩ rfl rfl ?_
  have g22 : gi M14 20 15 = n := (u15.gi_ne (by decide) (Or.inl (by decide))).trans ((u2.gi_ne (by decide) (Or.inl (by decide))).trans (h3))
  exact (L_k47_36x E hd H withGuesses n hw h0 h1 h2 h3 h4 h5 (((145 - 1) * 6 + 5 : Int) + 1).toNat).1 1 hw M14 H16 f18 (hp19) (hp20) (by omega) (by omega) (by omega) (hp21) (by omega) (by omega) (by omega) (by omega)
set_option maxRecDepth 4000 in
theorem L_k47_55x {base : Nat} {X : Nat → Option mC} {G : Nat → Value} (E : EnvOK base X G) {d : Nat} (hd : 175 ≤ d) {M : mH} (H : HI base M) (withGuesses : Int) (n : Int) (hw : Int) (h0 : (withGuesses = 0 ∨ withGuesses = 1)) (h1 : RN base 56 hw M) (h2 : TR 40 n M) (h3 : gi M 39 15 = n) (h4 : 1 ≤ n ∧ n ≤ 145) (h5 : 1 ≤ hw ∧ hw ≤ 145) : ∀ mz : Nat, (∀ (x2 hw2 : Int) (N : mH), HI base N → Fz [(55, 4), (55, 5), (56, 0), (57, 0)] M N → (RN base 56 hw2 N) → (TR 40 n N) → (gi N 39 15 = n) → (1 ≤ n ∧ n ≤ 145) → (1 ≤ hw ∧ hw ≤ hw2 ∧ hw2 ≤ 145) → (RM M (hw2 - hw) N) → (1 ≤ x2 ∧ x2 ≤ n ∧ x2 ≤ hw2) → (1 ≤ x2) → (x2 ≤ 145) → (145 - x2) * 6 + 5 < (mz : Int) → sRn base X G d T47 17 [(0, vR 55), (2, vI x2)] [] N (s_Q base (pL (fun v M' => HI base M' ∧ Fz [(55, 4), (55, 5), (56, 0), (57, 0)] M M' ∧ (∃ hw2 : Int, (hw ≤ hw2 ∧ hw2 ≤ 145 ∧ n ≤ hw2) ∧ RN base 56 hw2 M' ∧ RM M (hw2 - hw) M'))))) ∧ (∀ (x2 x3 hw2 : Int) (N : mH), HI base N → Fz [(55, 4), (55, 5), (56, 0), (57, 0)] M N → (RN base 56 hw2 N) → (TR 40 n N) → (gi N 39 15 = n) → (1 ≤ n ∧ n ≤ 145) → (1 ≤ hw ∧ hw ≤ hw2 ∧ hw2 ≤ 145) → (RM M (hw2 - hw) N) → (1 ≤ x2 ∧ x2 < n ∧ x2 < hw2) → (1 ≤ x2) → (x2 ≤ 144) → (0 ≤ x3) → (x3 ≤ 4) → (145 - x2) * 6 + 0 + (4 - x3) * 1 + 0 < (mz : Int) → sRn base X G d T47 50 [(0, vR 55), (2, vI x2), (3, vI x3)] [] N (s_Q base (pL (fun v M' => HI base M' ∧ Fz [(55, 4), (55, 5), (56, 0), (57, 0)] M M' ∧ (∃ hw2 : Int, (hw ≤ hw2 ∧ hw2 ≤ 145 ∧ n ≤ hw2) ∧ RN base 56 hw2 M' ∧ RM M (hw2 - hw) M'))))) := by
  have f0 : Fz [(55, 4), (55, 5), (56, 0), (57, 0)] M M := Fz.rf
  intro mz
  induction mz with
  | zero => exact ⟨fun x2 hw2 N _ _ z0 z1 z2 z3 z4 z5 z6 z7 z8 z9 => by omega, fun x2 x3 hw2 N _ _ z0 z1 z2 z3 z4 z5 z6 z7 z8 z9 z10 z11 => by omega⟩
  | succ mz ih =>
    refine ⟨?_, ?_⟩
    · intro x2 hw2 N HN fN i0 i1 i2 i3 i4 i5 i6 i7 i8 hmu
      refine s_blx (lv' := [(0, vR 55), (2, vI x2)]) (st' := [vR 55, vI x2]) B47_17_19 rfl ?_
      refine r_gfix (r := 39) (pc' := 22) D47_19 rfl gf_7_31_55 HN.1 ?_
      refine r_gint (ki := 15) (pc' := 25) D47_22 rfl gf_7_35_39 rfl HN.1 ?_
      intro w23 e24 r25
      have e26 : n = w23 := (e24.trans (i2)).symm
      subst e26
      refine r_icmp (tgt := 96) (pc' := 28) D47_25 rfl rfl (by unfold inR; omega) (fun (c27 : n ≤ x2) => ?_) (fun (c27 : ¬ (n ≤ x2)) => ?_)
      · refine s_blx (lv' := [(0, vR 55), (2, vI x2)]) (st' := [vI 0, vI 0, vI 0, vI 0, vR 55]) B47_96_101 rfl ?_
        refine r_vL (c := 55) (args := [vI 0, vI 0, vI 0, vI 0]) (rest := []) (pc' := 104) D47_101 rfl ck_7_virtual_46 TE56 rfl (Nat.le_of_ble_eq_true rfl) ⟨Nat.le_of_ble_eq_true rfl, Nat.le_of_ble_eq_true rfl⟩ sc_55 ⟨rfl, by decide⟩ HN.1 (by omega) (k56_55 E (rr := 41) (k52_55r E 41) (by omega) HN 0 0 0 0 n ((i0.rw (show n ≤ hw2 by omega))) (i1) (by omega) (by omega) (by omega) (by omega) (by omega)) ?_
        intro v28 M29 q32
        obtain ⟨H30, f31⟩ := q32
        have f33 := fN.tr (f31.z.up rfl)
        have hp34 := i0.fq f31 (by decide)
        have hp35 := i1.fq f31 (by decide)
        have hp36 := i5.fq f31 (by decide)
        exact r_lretL D47_104 rfl (⟨H30, f33, ⟨hw2, by omega, hp34, hp36⟩⟩)
      · refine s_blx (lv' := [(0, vR 55), (2, vI x2)]) (st' := [vR 55]) B47_28_29 rfl ?_
        refine r_gfix (r := 56) (pc' := 32) D47_29 rfl gf_7_13_55 HN.1 ?_
        refine s_blx (lv' := [(0, vR 55), (2, vI x2)]) (st' := [vI x2, vR 56]) B47_32_33 rfl ?_
        by_cases kc40 : x2 < hw2
        · obtain ⟨r37, a38, a39⟩ := i0.1 (x2) (by omega) kc40
          refine r_aald (v := vR r37) (pc' := 34) D47_33 rfl sc_56 (by decide) HN.1 (by omega) a38 ?_
          refine r_ifnonnull (q := some (.inl r37)) (tgt := 48) (pc' := 37) D47_34 rfl rfl (fun hq_ => ?_) (fun hq_ => ?_)
          · refine s_blx (lv' := [(3, vI 0), (0, vR 55), (2, vI x2)]) (st' := []) B47_48_50 rfl ?_
            refine r_loc (lv' := [(0, vR 55), (2, vI x2), (3, vI 0)]) ⟨rfl, rfl, rfl, trivial⟩ rfl rfl ?_
            exact ih.2 x2 0 hw2 N HN fN (i0) (i1) (by omega) (by omega) (by omega) (i5) (by omega) (by omega) (by omega) (by omega) (by omega) (by omega)
          · exact absurd hq_ (by simp)
        · refine r_aald (v := vN) (pc' := 34) D47_33 rfl sc_56 (by decide) HN.1 (by omega) (i0.2 (x2) (by omega) (by omega)) ?_
          refine r_ifnonnull (q := none) (tgt := 48) (pc' := 37) D47_34 rfl rfl (fun hq_ => ?_) (fun hq_ => ?_)
          · exact absurd hq_ (by simp)
          · refine s_blx (lv' := [(0, vR 55), (2, vI x2)]) (st' := [vR 55]) B47_37_38 rfl ?_
            refine r_gfix (r := 56) (pc' := 41) D47_38 rfl gf_7_13_55 HN.1 ?_
            refine s_blx (lv' := [(0, vR 55), (2, vI x2)]) (st' := [vI 1111, vI x2, vR 56]) B47_41_45 rfl ?_
            refine r_newL (pc' := 47) D47_45 rfl (by omega) ?_
            intro M41 w42
            have H43 := HN.nw w42
            have f44 := fN.nw w42
            have hp45 := i1.nw w42 HN.m (by decide)
            have hp46 := (i5.nw w42).eq (show hw2 - hw + 1 = (hw2 + 1) - hw by omega)
            refine r_aastL (pc' := 48) D47_47 rfl sc_56 rg_56 H43 (by rw [w42.n1]; omega) (by unfold hk; rw [w42.at]) (by omega) ?_
            intro M47 u48 H49
            have f50 := f44.wr u48 rfl
            have ku_ := u48
            rw [show x2 = hw2 by omega] at ku_
            have krn_ := i0.grow HN.m (by decide) (by omega) w42 ku_
            have hp51 := hp45.wr u48 (by decide)
            have hp52 := hp46.wr u48 (by decide)
            refine s_blx (lv' := [(3, vI 0), (0, vR 55), (2, vI x2)]) (st' := []) B47_48_50 rfl ?_
            refine r_loc (lv' := [(0, vR 55), (2, vI x2), (3, vI 0)]) ⟨rfl, rfl, rfl, trivial⟩ rfl rfl ?_
            have g53 : gi M47 39 15 = n := (u48.gi_ne (by omega) (Or.inl (by decide))).trans ((w42.gi HN.m (by decide) _).trans (i2))
            exact ih.2 x2 0 (hw2 + 1) M47 H49 f50 (krn_) (hp51) (by omega) (by omega) (by omega) (hp52) (by omega) (by omega) (by omega) (by omega) (by omega) (by omega)
    · intro x2 x3 hw2 N HN fN i0 i1 i2 i3 i4 i5 i6 i7 i8 i9 i10 hmu
      refine s_blx (lv' := [(0, vR 55), (2, vI x2), (3, vI x3)]) (st' := [vI 4, vI x3]) B47_50_52 rfl ?_
      refine r_icmp (tgt := 90) (pc' := 55) D47_52 rfl rfl (by unfold inR; omega) (fun (c54 : 4 ≤ x3) => ?_) (fun (c54 : ¬ (4 ≤ x3)) => ?_)
      · refine s_blx (lv' := [(2, vI (x2 + 1)), (0, vR 55), (3, vI x3)]) (st' := []) B47_90_93 rfl ?_
        refine r_goto (tgt := 17) D47_93 rfl ?_
        refine r_loc (lv' := [(0, vR 55), (2, vI (x2 + 1))]) ⟨rfl, rfl, trivial⟩ rfl rfl ?_
        exact ih.1 (x2 + 1) hw2 N HN fN (i0) (i1) (by omega) (by omega) (by omega) (i5) (by omega) (by omega) (by omega) (by omega)
      · refine s_blx (lv' := [(0, vR 55), (2, vI x2), (3, vI x3)]) (st' := [vR 55]) B47_55_56 rfl ?_
        refine r_gfix (r := 57) (pc' := 59) D47_56 rfl gf_7_19_55 HN.1 ?_
        refine s_blx (lv' := [(0, vR 55), (2, vI x2), (3, vI x3)]) (st' := [vR 55, vI ((x2 * 4) + x3), vR 57]) B47_59_65 rfl ?_
        refine r_gfix (r := 39) (pc' := 68) D47_65 rfl gf_7_31_55 HN.1 ?_
        refine r_gfix (r := 42) (pc' := 71) D47_68 rfl gf_7_39_39 HN.1 ?_
        refine s_blx (lv' := [(0, vR 55), (2, vI x2), (3, vI x3)]) (st' := [vI x2, vR 42, vI ((x2 * 4) + x3), vR 57]) B47_71_72 rfl ?_
        refine r_iald (pc' := 73) D47_72 rfl sc_42 HN.1 (by omega) ?_
        intro w55 e56 r57
        unfold inR at r57
        refine s_blx (lv' := [(0, vR 55), (2, vI x2), (3, vI x3)]) (st' := [vR 55, vI w55, vI ((x2 * 4) + x3), vR 57]) B47_73_74 rfl ?_
        refine r_gfix (r := 39) (pc' := 77) D47_74 rfl gf_7_31_55 HN.1 ?_
        refine s_blx (lv' := [(0, vR 55), (2, vI x2), (3, vI x3)]) (st' := [vI x3, vI x2, vR 39, vI w55, vI ((x2 * 4) + x3), vR 57]) B47_77_79 rfl ?_
        refine r_vIp (c := 39) (args := [vI x2, vI x3]) (rest := [vI w55, vI ((x2 * 4) + x3), vR 57]) (pc' := 82) D47_79 rfl ck_7_virtual_42 TE92 rfl (Nat.le_of_ble_eq_true rfl) ⟨Nat.le_of_ble_eq_true rfl, Nat.le_of_ble_eq_true rfl⟩ sc_39 ⟨rfl, by decide⟩ HN.1 (dp_0 hd rfl) (k92_39 E (dp_n hd rfl) HN x2 x3 (by omega) (by omega)) ?_
        intro v58 q61
        have q60 := q61; clear q61
        refine s_blx (lv' := [(0, vR 55), (2, vI x2), (3, vI x3)]) (st' := [vI (w55 * v58), vI ((x2 * 4) + x3), vR 57]) B47_82_83 rfl ?_
        refine r_norm ?_
        intro z62 r63 _; unfold inR at r63
        refine r_iast (pc' := 84) D47_83 rfl sc_57 HN (by omega) (by unfold inR; omega) trivial ?_
        intro M64 u65 H66 p67
        have f68 := fN.wr u65 rfl
        have hp69 := i0.wr u65 (by decide)
        have hp70 := i1.wr u65 (by decide)
        have hp71 := i5.wr u65 (by decide)
        refine s_blx (lv' := [(3, vI (x3 + 1)), (0, vR 55), (2, vI x2)]) (st' := []) B47_84_87 rfl ?_
        refine r_goto (tgt := 50) D47_87 rfl ?_
        refine r_loc (lv' := [(0, vR 55), (2, vI x2), (3, vI (x3 + 1))]) ⟨rfl, rfl, rfl, trivial⟩ rfl rfl ?_
        have g72 : gi M64 39 15 = n := (u65.gi_ne (by omega) (Or.inl (by decide))).trans (i2)
        exact ih.2 x2 (x3 + 1) hw2 M64 H66 f68 (hp69) (hp70) (by omega) (by omega) (by omega) (hp71) (by omega) (by omega) (by omega) (by omega) (by omega) (by omega)
set_option maxRecDepth 4000 in
theorem k47_55x {base : Nat} {X : Nat → Option mC} {G : Nat → Value} (E : EnvOK base X G) {d : Nat} (hd : 175 ≤ d) {M : mH} (H : HI base M) (withGuesses : Int) (n : Int) (hw : Int) (h0 : (withGuesses = 0 ∨ withGuesses = 1)) (h1 : RN base 56 hw M) (h2 : TR 40 n M) (h3 : gi M 39 15 = n) (h4 : 1 ≤ n ∧ n ≤ 145) (h5 : 1 ≤ hw ∧ hw ≤ 145) : sOk base X G d T47 [vR 55, vI withGuesses] M (pL (fun v M' => HI base M' ∧ Fz [(55, 4), (55, 5), (56, 0), (57, 0)] M M' ∧ (∃ hw2 : Int, (hw ≤ hw2 ∧ hw2 ≤ 145 ∧ n ≤ hw2) ∧ RN base 56 hw2 M' ∧ RM M (hw2 - hw) M'))) := by
  have f0 : Fz [(55, 4), (55, 5), (56, 0), (57, 0)] M M := Fz.rf
  refine sOk.of (show sRn base X G d T47 0 [(0, vR 55), (1, vI withGuesses)] [] M _ from ?_)
  refine s_blx (lv' := [(0, vR 55), (1, vI withGuesses)]) (st' := [vI withGuesses, vR 55]) B47_0_2 rfl ?_
  refine r_pbool (ki := 4) (pc' := 5) D47_2 rfl pf_7_27_55 rfl H (by omega) (show 0 ≤ withGuesses ∧ withGuesses ≤ 1 by omega) ?_
  intro M1 u2 H3 p4
  have f5 := f0.wr u2 rfl
  have hp6 := h1.wr u2 (by decide)
  have hp7 := h2.wr u2 (by decide)
  have hp8 := (RM.rf (M := M) (k := hw)).wr u2 (by decide)
  refine s_blx (lv' := [(0, vR 55), (1, vI withGuesses)]) (st' := [vR 55, vR 55]) B47_5_7 rfl ?_
  refine r_glong (ki := 3) (pc' := 10) D47_7 rfl gf_7_23_55 rfl H3.1 ?_
  intro w9 e10 r11
  clear r11
  refine s_blx (lv' := [(0, vR 55), (1, vI withGuesses)]) (st' := [vL (w9 + 1), vR 55]) B47_10_12 rfl ?_
  refine r_normL ?_
  intro z12 r13 _; unfold inJ at r13
  refine r_plong (ki := 3) (pc' := 15) D47_12 rfl pf_7_23_55 rfl H3 (by unfold inJ; omega) trivial ?_
  intro M14 u15 H16 p17
  have f18 := f5.wr u15 rfl
  have hp19 := hp6.wr u15 (by decide)
  have hp20 := hp7.wr u15 (by decide)
  have hp21 := hp8.wr u15 (by decide)
  refine s_blx (lv' := [(2, vI 1), (0, vR 55), (1, vI withGuesses)]) (st' := []) B47_15_17 rfl ?_
  refine r_loc (lv' := [(0, vR 55), (2, vI 1)]) ⟨rfl, rfl, trivial⟩ rfl rfl ?_
  have g22 : gi M14 39 15 = n := (u15.gi_ne (by decide) (Or.inl (by decide))).trans ((u2.gi_ne (by decide) (Or.inl (by decide))).trans (h3))
  exact (L_k47_55x E hd H withGuesses n hw h0 h1 h2 h3 h4 h5 (((145 - 1) * 6 + 5 : Int) + 1).toNat).1 1 hw M14 H16 f18 (hp19) (hp20) (by omega) (by omega) (by omega) (hp21) (by omega) (by omega) (by omega) (by omega)
