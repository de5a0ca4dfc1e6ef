/-! A habit is made. -/
noncomputable def T15 : mT := (3, yX3_init, cX3_init, 4, none)
set_option maxRecDepth 10000 in
theorem TE15 : sy_m[15]? = some T15 := rfl
theorem D15_1 : decode T15.2.2.1 1 = .ok (.invokespecial 1, 3) := by decide +kernel
theorem D15_6 : decode T15.2.2.1 6 = .ok (.putfield 7, 3) := by decide +kernel
theorem D15_11 : decode T15.2.2.1 11 = .ok (.putfield 13, 3) := by decide +kernel
theorem D15_16 : decode T15.2.2.1 16 = .ok (.putfield 16, 3) := by decide +kernel
theorem D15_19 : decode T15.2.2.1 19 = .ok (.return_, 1) := by decide +kernel
noncomputable def T17 : mT := (4, yX4_readHabit, cX4_readHabit, 3, (some (.object "GlassBox$Habit")))
set_option maxRecDepth 10000 in
theorem TE17 : sy_m[17]? = some T17 := rfl
theorem D17_65 : decode T17.2.2.1 65 = .ok (.new 60, 3) := by decide +kernel
theorem D17_70 : decode T17.2.2.1 70 = .ok (.getfield 28, 3) := by decide +kernel
theorem D17_74 : decode T17.2.2.1 74 = .ok (.getfield 34, 3) := by decide +kernel
theorem D17_77 : decode T17.2.2.1 77 = .ok (.invokestatic 62, 3) := by decide +kernel
theorem D17_81 : decode T17.2.2.1 81 = .ok (.getfield 31, 3) := by decide +kernel
theorem D17_85 : decode T17.2.2.1 85 = .ok (.getfield 34, 3) := by decide +kernel
theorem D17_88 : decode T17.2.2.1 88 = .ok (.invokestatic 62, 3) := by decide +kernel
theorem D17_92 : decode T17.2.2.1 92 = .ok (.getfield 37, 3) := by decide +kernel
theorem D17_96 : decode T17.2.2.1 96 = .ok (.getfield 40, 3) := by decide +kernel
theorem D17_99 : decode T17.2.2.1 99 = .ok (.invokestatic 62, 3) := by decide +kernel
theorem D17_102 : decode T17.2.2.1 102 = .ok (.invokespecial 68, 3) := by decide +kernel
theorem D17_105 : decode T17.2.2.1 105 = .ok (.areturn, 1) := by decide +kernel
theorem B15_0_1 : s_dk T15.2.2.1 0 [.aload_n 0] 1 = true := by decide +kernel
theorem B15_4_6 : s_dk T15.2.2.1 4 [.aload_n 0, .aload_n 1] 6 = true := by decide +kernel
theorem B15_9_11 : s_dk T15.2.2.1 9 [.aload_n 0, .aload_n 2] 11 = true := by decide +kernel
theorem B15_14_16 : s_dk T15.2.2.1 14 [.aload_n 0, .aload_n 3] 16 = true := by decide +kernel
theorem B17_68_70 : s_dk T17.2.2.1 68 [.dup, .aload_n 0] 70 = true := by decide +kernel
theorem B17_73_74 : s_dk T17.2.2.1 73 [.aload_n 0] 74 = true := by decide +kernel
theorem B17_80_81 : s_dk T17.2.2.1 80 [.aload_n 0] 81 = true := by decide +kernel
theorem B17_84_85 : s_dk T17.2.2.1 84 [.aload_n 0] 85 = true := by decide +kernel
theorem B17_91_92 : s_dk T17.2.2.1 91 [.aload_n 0] 92 = true := by decide +kernel
theorem B17_95_96 : s_dk T17.2.2.1 95 [.aload_n 0] 96 = true := by decide +kernel
theorem ck_4_static_62 : m_call 4 (.invokestatic 62) = some (1, 279, 2) := by decide +kernel
theorem ck_4_special_68 : m_call 4 (.invokespecial 68) = some (2, 15, 3) := by decide +kernel
theorem mc_3_special_1 : m_call 3 (.invokespecial 1) = none := by decide +kernel
theorem sp_3_1 : m_sp 3 1 = some 0 := by decide +kernel
theorem gf_4_34_14 : s_gf 4 34 14 = some (7, 1) := by decide +kernel
theorem fi_3_7 : m_fi 3 7 = some (3, 0) := by decide +kernel
theorem fi_3_13 : m_fi 3 13 = some (3, 1) := by decide +kernel
theorem fi_3_16 : m_fi 3 16 = some (3, 2) := by decide +kernel
theorem nw_4_60 : m_nw 4 60 = some 3 := by decide +kernel
section
variable {base : Nat} {X : Nat → Option mC} {G : Nat → Value}
/-- what the constructor of a habit leaves -/
noncomputable def HC (base r a b c : Nat) (M M' : mH) : Prop := M'.1 = M.1 ∧ M'.2.1 = M.2.1 ∧ hk M' r = 3 ∧ hz M' r = 3 ∧ (hv M' r 0 = .ref (base + a) ∧ hv M' r 1 = .ref (base + b) ∧ hv M' r 2 = .ref (base + c)) ∧ ∀ q, q ≠ r → sameC q M M'
theorem k15 {r a b c d : Nat} {M : mH} (hr : r < M.1) (hk1 : hk M r = 3) (hz1 : hz M r = 3) : sOk base X G d T15 [vR r, vR a, vR b, vR c] M (pV (HC base r a b c M)) := by
  refine sOk.of (show sRn base X G d T15 0 [(0, vR r), (1, vR a), (2, vR b), (3, vR c)] [] M _ from ?_)
  refine s_blx (lv' := [(0, vR r), (1, vR a), (2, vR b), (3, vR c)]) (st' := [vR r]) B15_0_1 rfl ?_
  refine r_obj (pc' := 4) D15_1 rfl mc_3_special_1 sp_3_1 (Nat.le_of_ble_eq_true rfl) ?_
  refine s_blx (lv' := [(0, vR r), (1, vR a), (2, vR b), (3, vR c)]) (st' := [vR a, vR r]) B15_4_6 rfl ?_
  refine r_pv (ty := .array .int) (pc' := 9) D15_6 rfl fi_3_7 hr hk1 (by rw [hz1]; decide) rfl rfl rfl (Or.inr ⟨by decide, by decide⟩) ?_
  intro M1 u1
  refine s_blx (lv' := [(0, vR r), (1, vR a), (2, vR b), (3, vR c)]) (st' := [vR b, vR r]) B15_9_11 rfl ?_
  refine r_pv (ty := .array .int) (pc' := 14) D15_11 rfl fi_3_13 (by rw [u1.n1]; exact hr) (by rw [u1.k]; exact hk1) (by rw [u1.z, hz1]; decide) rfl rfl rfl (Or.inr ⟨by decide, by decide⟩) ?_
  intro M2 u2
  refine s_blx (lv' := [(0, vR r), (1, vR a), (2, vR b), (3, vR c)]) (st' := [vR c, vR r]) B15_14_16 rfl ?_
  refine r_pv (ty := .array .int) (pc' := 19) D15_16 rfl fi_3_16 (by rw [u2.n1, u1.n1]; exact hr) (by rw [u2.k, u1.k]; exact hk1) (by rw [u2.z, u1.z, hz1]; decide) rfl rfl rfl (Or.inr ⟨by decide, by decide⟩) ?_
  intro M3 u3
  refine r_retV D15_19 rfl ⟨by rw [u3.n1, u2.n1, u1.n1], by rw [u3.n2, u2.n2, u1.n2], by rw [u3.k, u2.k, u1.k]; exact hk1, by rw [u3.z, u2.z, u1.z]; exact hz1, ⟨?_, ?_, ?_⟩, fun q hq => ((u1.same hq).tr (u2.same hq)).tr (u3.same hq)⟩
  · rw [u3.ne (Or.inr (by decide)), u2.ne (Or.inr (by decide)), u1.eq]; rfl
  · rw [u3.ne (Or.inr (by decide)), u2.eq]; rfl
  · rw [u3.eq]; rfl
/-- what readHabit makes -/
noncomputable def RH (base : Nat) (M : mH) (v : Option (Nat ⊕ Nat)) (M' : mH) : Prop := HI base M' ∧ v = some (.inl M.1) ∧ M'.1 = M.1 + 4 ∧ M'.2.1 ≤ M.2.1 + 427 ∧ (∀ r, r < M.1 → sameC r M M') ∧ ∃ n u : Int, IsHab base M.1 n u M' ∧ (0 ≤ n ∧ n ≤ 12) ∧ 0 ≤ u ∧ u ≤ 400
theorem t17 {d : Nat} (hd : 2 ≤ d) {M : mH} (H : HI base M) {u : Int} (hu : gi M 14 9 = u) (hcd : CD u M) (hen : EN (gi M 14 7) u M) {P : Option (Nat ⊕ Nat) → mH → Prop} (hP : ∀ v M', RH base M v M' → P v M') : sRn base X G d T17 65 [(0, vR 14)] [] M (s_Q base (pA P)) := by
  have hl : shL.length = 111 := rfl
  have hM := H.1.1
  have hub := H.2 14 9 0 400 rfl
  have hnb := H.2 14 7 0 12 rfl
  rw [hu] at hub
  refine r_new (ci := 3) (pc' := 68) D17_65 rfl nw_4_60 ?_
  intro M1 w1
  have H1 := H.nw w1
  have s1 : ∀ c, c < M.1 → sameC c M M1 := fun c hc => w1.same (by omega)
  refine s_blx (lv' := [(0, vR 14)]) (st' := [vR 14, vR M.1, vR M.1]) B17_68_70 rfl ?_
  refine r_gfix (r := 17) (pc' := 73) D17_70 rfl gf_4_28_14 H1.1 ?_
  refine s_blx (lv' := [(0, vR 14)]) (st' := [vR 14, vR 17, vR M.1, vR M.1]) B17_73_74 rfl ?_
  refine r_gint (ki := 7) (pc' := 77) D17_74 rfl gf_4_34_14 rfl H1.1 ?_
  intro n1 e1 r1
  have en : gi M 14 7 = n1 := by rw [e1, (s1 14 (by omega)).gi]
  rw [en] at hen hnb
  refine r_calls (args := [vR 17, vI n1]) (rest := [vR M.1, vR M.1]) (pc' := 80) D17_77 rfl ck_4_static_62 TE279 rfl (Nat.le_of_ble_eq_true rfl) ⟨Nat.le_of_ble_eq_true rfl, Nat.le_of_ble_eq_true rfl⟩ (by decide) (by omega) (k279 H1 sc_17 ⟨by omega, by omega, by decide⟩) ?_
  intro v M2 p
  obtain ⟨q, hq, hco⟩ := p
  obtain ⟨hqq, H2, m2, l2, s2, ia2, g2⟩ := hco
  subst hqq
  subst hq
  show sRn base X G d T17 80 [(0, vR 14)] [vR M1.1, vR M.1, vR M.1] M2 _
  refine s_blx (lv' := [(0, vR 14)]) (st' := [vR 14, vR M1.1, vR M.1, vR M.1]) B17_80_81 rfl ?_
  refine r_gfix (r := 18) (pc' := 84) D17_81 rfl gf_4_31_14 H2.1 ?_
  refine s_blx (lv' := [(0, vR 14)]) (st' := [vR 14, vR 18, vR M1.1, vR M.1, vR M.1]) B17_84_85 rfl ?_
  refine r_gint (ki := 7) (pc' := 88) D17_85 rfl gf_4_34_14 rfl H2.1 ?_
  intro n2 e2 r2
  have w1n := w1.n1
  have en2 : n2 = n1 := by rw [e2, (s2 14 (by omega)).gi, ← e1]
  subst en2
  refine r_calls (args := [vR 18, vI n2]) (rest := [vR M1.1, vR M.1, vR M.1]) (pc' := 91) D17_88 rfl ck_4_static_62 TE279 rfl (Nat.le_of_ble_eq_true rfl) ⟨Nat.le_of_ble_eq_true rfl, Nat.le_of_ble_eq_true rfl⟩ (by decide) (by omega) (k279 H2 sc_18 ⟨by omega, by omega, by decide⟩) ?_
  intro v M3 p
  obtain ⟨q, hq, hco⟩ := p
  obtain ⟨hqq, H3, m3, l3, s3, ia3, g3⟩ := hco
  subst hqq
  subst hq
  show sRn base X G d T17 91 [(0, vR 14)] [vR M2.1, vR M1.1, vR M.1, vR M.1] M3 _
  refine s_blx (lv' := [(0, vR 14)]) (st' := [vR 14, vR M2.1, vR M1.1, vR M.1, vR M.1]) B17_91_92 rfl ?_
  refine r_gfix (r := 19) (pc' := 95) D17_92 rfl gf_4_37_14 H3.1 ?_
  refine s_blx (lv' := [(0, vR 14)]) (st' := [vR 14, vR 19, vR M2.1, vR M1.1, vR M.1, vR M.1]) B17_95_96 rfl ?_
  refine r_gint (ki := 9) (pc' := 99) D17_96 rfl gf_4_40_14 rfl H3.1 ?_
  intro u1 e3 r3
  have eu : u1 = u := by rw [e3, (s3 14 (by omega)).gi, (s2 14 (by omega)).gi, (s1 14 (by omega)).gi, hu]
  subst eu
  refine r_calls (args := [vR 19, vI u1]) (rest := [vR M2.1, vR M1.1, vR M.1, vR M.1]) (pc' := 102) D17_99 rfl ck_4_static_62 TE279 rfl (Nat.le_of_ble_eq_true rfl) ⟨Nat.le_of_ble_eq_true rfl, Nat.le_of_ble_eq_true rfl⟩ (by decide) (by omega) (k279 H3 sc_19 ⟨by omega, by omega, by decide⟩) ?_
  intro v M4 p
  obtain ⟨q, hq, hco⟩ := p
  obtain ⟨hqq, H4, m4, l4, s4, ia4, g4⟩ := hco
  subst hqq
  subst hq
  show sRn base X G d T17 102 [(0, vR 14)] [vR M3.1, vR M2.1, vR M1.1, vR M.1, vR M.1] M4 _
  have c1 : M1.2.2 M.1 = (3, m_cnt 3, m_dflt 3) := w1.at
  have k4 : hk M4 M.1 = 3 := by
    rw [(s4 M.1 (by omega)).1, (s3 M.1 (by omega)).1, (s2 M.1 (by omega)).1]; unfold hk; rw [c1]
  have z4 : hz M4 M.1 = 3 := by
    rw [(s4 M.1 (by omega)).2.1, (s3 M.1 (by omega)).2.1, (s2 M.1 (by omega)).2.1]; unfold hz; rw [c1]; rfl
  refine r_sV (args := [vR M.1, vR M1.1, vR M2.1, vR M3.1]) (rest := [vR M.1]) (pc' := 105) D17_102 rfl ck_4_special_68 TE15 rfl (Nat.le_of_ble_eq_true rfl) ⟨Nat.le_of_ble_eq_true rfl, Nat.le_of_ble_eq_true rfl⟩ (by decide) (by omega) (k15 (by omega) k4 z4) ?_
  intro M5 hc
  obtain ⟨m5, l5, k5, z5, ⟨v0, v1, v2⟩, s5⟩ := hc
  refine r_aret (q := some (.inl M.1)) D17_105 rfl ⟨_, rfl, hP _ _ ?_⟩
  have e1' : M1.1 = M.1 + 1 := w1n
  have e2' : M2.1 = M.1 + 2 := by omega
  have e3' : M3.1 = M.1 + 3 := by omega
  have sA : ∀ r, r < M.1 → sameC r M M5 := fun r hr => ((((s1 r hr).tr (s2 r (by omega))).tr (s3 r (by omega))).tr (s4 r (by omega))).tr (s5 r (by omega))
  have sH : sameC (M.1 + 1) M2 M5 := ((s3 _ (by omega)).tr (s4 _ (by omega))).tr (s5 _ (by omega))
  have sE : sameC (M.1 + 2) M3 M5 := (s4 _ (by omega)).tr (s5 _ (by omega))
  have sC : sameC (M.1 + 3) M4 M5 := s5 _ (by omega)
  rw [e1'] at ia2 g2 v0
  rw [e2'] at ia3 g3 v1
  rw [e3'] at ia4 g4 v2
  have ln := w1.n2
  have l0 : (m_cnt 3) = 3 := rfl
  refine ⟨H4.of (by omega) (fun c hc => s5 c (by omega)), rfl, by omega, ?_, sA, n2, u1, ⟨by omega, by omega, k5, z5, ⟨v0, v1, v2⟩, ia2.of sH, ia3.of sE, ⟨by omega, by omega, ia4.of sC, by omega, fun j a b => ?_⟩, by omega, fun j a b => ?_⟩, by omega, by omega, by omega⟩
  · rw [l5, l4, l3, l2, ln]
    show M.2.1 + m_cnt 3 + n2.toNat + n2.toNat + u1.toNat ≤ _
    rw [l0]
    omega
  · rw [sC.gi, g4 j a b, (s3 19 (by omega)).gi, (s2 19 (by omega)).gi, (s1 19 (by omega)).gi]
    exact hcd j a b
  · rw [sE.gi, g3 j a b, (s2 18 (by omega)).gi, (s1 18 (by omega)).gi]
    exact hen j a b
end
