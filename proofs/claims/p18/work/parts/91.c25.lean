/-! The class's tree, as long as it is fresh. -/
noncomputable abbrev TGd (M : mH) : Prop := (1 ≤ gi M 20 15 ∧ gi M 20 15 ≤ 145) ∧ TR 21 (gi M 20 15) M ∧ GT 32 (gi M 20 15) M
noncomputable abbrev SF (M : mH) : Prop := gi M 0 9 = 0 → TGd M
theorem TGd.of {M M' : mH} (h : TGd M) (e0 : gi M' 20 15 = gi M 20 15) (e1 : ∀ i : Int, gi M' 21 i = gi M 21 i) (e2 : ∀ i : Int, gi M' 22 i = gi M 22 i) (e3 : ∀ i : Int, gi M' 32 i = gi M 32 i) (e4 : ∀ i : Int, gi M' 33 i = gi M 33 i) : TGd M' := by
  obtain ⟨a, b, c⟩ := h
  unfold TGd
  rw [e0]
  exact ⟨a, b.of e1 e2, c.of e3 e4⟩
theorem SF.of {M M' : mH} (h : SF M) (e : gi M' 0 9 = gi M 0 9) (e0 : gi M' 20 15 = gi M 20 15) (e1 : ∀ i : Int, gi M' 21 i = gi M 21 i) (e2 : ∀ i : Int, gi M' 22 i = gi M 22 i) (e3 : ∀ i : Int, gi M' 32 i = gi M 32 i) (e4 : ∀ i : Int, gi M' 33 i = gi M 33 i) : SF M' := fun q => (h (by rw [← e]; exact q)).of e0 e1 e2 e3 e4
theorem Fr.gs {L : List (Nat × Nat)} {M0 M : mH} (h : Fr L M0 M) {c : Nat} (k : ∀ i, s_md L c i = false) (i : Int) : gi M c i = gi M0 c i := h.g (k _)
theorem Fq.gs {L : List (Nat × Nat)} {M0 M : mH} (h : Fq L M0 M) {c : Nat} (hc : c < 111) (k : ∀ i, s_md L c i = false) (i : Int) : gi M c i = gi M0 c i := by
  unfold gi
  rw [(h.2.2.1 c).2.2 _ (k _) (Or.inl hc)]
noncomputable def tgL (L : List (Nat × Nat)) : Bool := s_al L (fun c => !(c == 21 || c == 22 || c == 32 || c == 33)) && !s_md L 20 15
theorem tgL_ok {L : List (Nat × Nat)} (h : tgL L = true) : (∀ c, c = 21 ∨ c = 22 ∨ c = 32 ∨ c = 33 → ∀ i, s_md L c i = false) ∧ s_md L 20 15 = false := by
  unfold tgL at h
  rw [Bool.and_eq_true] at h
  exact ⟨fun c hc i => s_al_ok h.1 (by rcases hc with rfl | rfl | rfl | rfl <;> rfl), by simpa using h.2⟩
theorem TGd.fr {L : List (Nat × Nat)} {M M' : mH} (h : TGd M) (f : Fr L M M') (hc : tgL L = true) : TGd M' := by
  obtain ⟨a, b⟩ := tgL_ok hc
  exact h.of (f.g b) (f.gs (a 21 (by simp))) (f.gs (a 22 (by simp))) (f.gs (a 32 (by simp))) (f.gs (a 33 (by simp)))
theorem TGd.fz {L : List (Nat × Nat)} {M M' : mH} (h : TGd M) (hM : 111 ≤ M.1) (f : Fz L M M') (hc : tgL L = true) : TGd M' := by
  obtain ⟨a, b⟩ := tgL_ok hc
  exact h.of (f.g hM (by simp [b])) (f.gs hM (by decide) (a 21 (by simp))) (f.gs hM (by decide) (a 22 (by simp))) (f.gs hM (by decide) (a 32 (by simp))) (f.gs hM (by decide) (a 33 (by simp)))
theorem SF.fr {L : List (Nat × Nat)} {M M' : mH} (h : SF M) (f : Fr L M M') (hc : (tgL L && !s_md L 0 9) = true) : SF M' := by
  rw [Bool.and_eq_true] at hc
  exact fun q => (h (by rw [← q]; exact (f.g (i := 9) (by simpa using hc.2)).symm)).fr f hc.1
theorem SF.fz {L : List (Nat × Nat)} {M M' : mH} (h : SF M) (hM : 111 ≤ M.1) (f : Fz L M M') (hc : (tgL L && !s_md L 0 9) = true) : SF M' := by
  rw [Bool.and_eq_true] at hc
  exact fun q => (h (by rw [← q]; exact (f.g (i := 9) hM (by simpa using hc.2)).symm)).fz hM f hc.1
theorem SF.stale {M : mH} (h : gi M 0 9 = 1) : SF M := fun q => by omega
theorem TGd.wr {M M' : mH} {c i : Nat} {v : Value} (h : TGd M) (u : Wr M c i v M') (hc : c ≠ 21 ∧ c ≠ 22 ∧ c ≠ 32 ∧ c ≠ 33 ∧ (c ≠ 20 ∨ i ≠ 15)) : TGd M' := by
  have e : ∀ k, k ≠ c → ∀ j : Int, gi M' k j = gi M k j := fun k hk j => by unfold gi; rw [u.ne (Or.inl hk)]
  refine h.of ?_ (e _ (Ne.symm hc.1)) (e _ (Ne.symm hc.2.1)) (e _ (Ne.symm hc.2.2.1)) (e _ (Ne.symm hc.2.2.2.1))
  unfold gi
  rw [if_pos (by decide), if_pos (by decide), u.ne]
  rcases hc.2.2.2.2 with q | q
  · exact Or.inl (Ne.symm q)
  · exact Or.inr (Ne.symm q)
theorem SF.wr {M M' : mH} {c i : Nat} {v : Value} (h : SF M) (u : Wr M c i v M') (hc : c ≠ 21 ∧ c ≠ 22 ∧ c ≠ 32 ∧ c ≠ 33 ∧ (c ≠ 20 ∨ i ≠ 15) ∧ (c ≠ 0 ∨ i ≠ 9)) : SF M' := fun q => TGd.wr (h (by
  rw [← q]
  unfold gi
  rw [if_pos (by decide), if_pos (by decide), u.ne]
  rcases hc.2.2.2.2.2 with z | z
  · exact Or.inl (Ne.symm z)
  · exact Or.inr (Ne.symm z))) u ⟨hc.1, hc.2.1, hc.2.2.1, hc.2.2.2.1, hc.2.2.2.2.1⟩
noncomputable def T107 : mT := (10, yX10_best, cX10_best, 1, (some .long))
set_option maxRecDepth 10000 in
theorem TE107 : sy_m[107]? = some T107 := rfl
theorem B107_0_1 : s_dk T107.2.2.1 0 [.aload_n 0] 1 = true := by decide +kernel
theorem D107_1 : decode T107.2.2.1 1 = .ok (.getfield 61, 3) := by decide +kernel
theorem B107_4_5 : s_dk T107.2.2.1 4 [.aload_n 0] 5 = true := by decide +kernel
theorem D107_5 : decode T107.2.2.1 5 = .ok (.getfield 10, 3) := by decide +kernel
theorem B107_8_9 : s_dk T107.2.2.1 8 [.iconst (-1)] 9 = true := by decide +kernel
theorem D107_9 : decode T107.2.2.1 9 = .ok (.invokevirtual 213, 3) := by decide +kernel
theorem B107_12_13 : s_dk T107.2.2.1 12 [.aload_n 0] 13 = true := by decide +kernel
theorem D107_13 : decode T107.2.2.1 13 = .ok (.getfield 64, 3) := by decide +kernel
theorem B107_16_17 : s_dk T107.2.2.1 16 [.iconst 1] 17 = true := by decide +kernel
theorem D107_17 : decode T107.2.2.1 17 = .ok (.invokevirtual 217, 3) := by decide +kernel
theorem ck_10_virtual_217 : m_call 10 (.invokevirtual 217) = some (0, 47, 1) := by decide +kernel
theorem D107_20 : decode T107.2.2.1 20 = .ok (.lreturn, 1) := by decide +kernel
noncomputable def T117 : mT := (10, yX10_guessing, cX10_guessing, 3, (some .long))
set_option maxRecDepth 10000 in
theorem TE117 : sy_m[117]? = some T117 := rfl
theorem B117_0_1 : s_dk T117.2.2.1 0 [.aload_n 0] 1 = true := by decide +kernel
theorem D117_1 : decode T117.2.2.1 1 = .ok (.invokevirtual 252, 3) := by decide +kernel
theorem B117_4_5 : s_dk T117.2.2.1 4 [.aload_n 0] 5 = true := by decide +kernel
theorem gf_10_53_0 : s_gf 10 53 0 = some (8, 39) := by decide +kernel
theorem D117_5 : decode T117.2.2.1 5 = .ok (.getfield 53, 3) := by decide +kernel
theorem B117_8_9 : s_dk T117.2.2.1 8 [.iconst 1] 9 = true := by decide +kernel
theorem D117_9 : decode T117.2.2.1 9 = .ok (.invokevirtual 217, 3) := by decide +kernel
theorem B117_12_14 : s_dk T117.2.2.1 12 [.lstore_n 1, .aload_n 0] 14 = true := by decide +kernel
theorem D117_14 : decode T117.2.2.1 14 = .ok (.getfield 53, 3) := by decide +kernel
theorem B117_17_18 : s_dk T117.2.2.1 17 [.iconst 0] 18 = true := by decide +kernel
theorem D117_18 : decode T117.2.2.1 18 = .ok (.invokevirtual 217, 3) := by decide +kernel
theorem B117_21_23 : s_dk T117.2.2.1 21 [.lload_n 1, .lsub] 23 = true := by decide +kernel
theorem D117_23 : decode T117.2.2.1 23 = .ok (.lreturn, 1) := by decide +kernel
noncomputable def T139 : mT := (10, yX10_sparedBy, cX10_sparedBy, 4, (some .long))
set_option maxRecDepth 10000 in
theorem TE139 : sy_m[139]? = some T139 := rfl
theorem B139_0_1 : s_dk T139.2.2.1 0 [.aload_n 0] 1 = true := by decide +kernel
theorem D139_1 : decode T139.2.2.1 1 = .ok (.getfield 10, 3) := by decide +kernel
theorem D139_4 : decode T139.2.2.1 4 = .ok (.getfield 116, 3) := by decide +kernel
theorem B139_7_10 : s_dk T139.2.2.1 7 [.iconst 0, .iload_n 1, .iadd] 10 = true := by decide +kernel
theorem D139_10 : decode T139.2.2.1 10 = .ok (.iaload, 1) := by decide +kernel
theorem D139_11 : decode T139.2.2.1 11 = .ok (.ifCond .eq 14, 3) := by decide +kernel
theorem B139_25_26 : s_dk T139.2.2.1 25 [.lconst 0] 26 = true := by decide +kernel
theorem D139_26 : decode T139.2.2.1 26 = .ok (.lreturn, 1) := by decide +kernel
theorem B139_14_15 : s_dk T139.2.2.1 14 [.aload_n 0] 15 = true := by decide +kernel
theorem D139_15 : decode T139.2.2.1 15 = .ok (.getfield 10, 3) := by decide +kernel
theorem B139_18_19 : s_dk T139.2.2.1 18 [.iload_n 1] 19 = true := by decide +kernel
theorem D139_19 : decode T139.2.2.1 19 = .ok (.invokevirtual 335, 3) := by decide +kernel
theorem ck_10_virtual_335 : m_call 10 (.invokevirtual 335) = some (0, 68, 1) := by decide +kernel
theorem D139_22 : decode T139.2.2.1 22 = .ok (.ifCond .ne 5, 3) := by decide +kernel
theorem B139_27_28 : s_dk T139.2.2.1 27 [.aload_n 0] 28 = true := by decide +kernel
theorem D139_28 : decode T139.2.2.1 28 = .ok (.getfield 44, 3) := by decide +kernel
theorem B139_31_32 : s_dk T139.2.2.1 31 [.aload_n 0] 32 = true := by decide +kernel
theorem D139_32 : decode T139.2.2.1 32 = .ok (.getfield 10, 3) := by decide +kernel
theorem B139_35_36 : s_dk T139.2.2.1 35 [.iload_n 1] 36 = true := by decide +kernel
theorem D139_36 : decode T139.2.2.1 36 = .ok (.invokevirtual 213, 3) := by decide +kernel
theorem B139_39_41 : s_dk T139.2.2.1 39 [.aload_n 0, .iconst 1] 41 = true := by decide +kernel
theorem D139_41 : decode T139.2.2.1 41 = .ok (.putfield 57, 3) := by decide +kernel
theorem B139_44_46 : s_dk T139.2.2.1 44 [.lload_n 2, .aload_n 0] 46 = true := by decide +kernel
theorem D139_46 : decode T139.2.2.1 46 = .ok (.getfield 53, 3) := by decide +kernel
theorem B139_49_50 : s_dk T139.2.2.1 49 [.iconst 1] 50 = true := by decide +kernel
theorem D139_50 : decode T139.2.2.1 50 = .ok (.invokevirtual 217, 3) := by decide +kernel
theorem B139_53_54 : s_dk T139.2.2.1 53 [.lsub] 54 = true := by decide +kernel
theorem D139_54 : decode T139.2.2.1 54 = .ok (.lreturn, 1) := by decide +kernel
noncomputable def T118 : mT := (10, yX10_write, cX10_write, 10, (some .long))
set_option maxRecDepth 10000 in
theorem TE118 : sy_m[118]? = some T118 := rfl
theorem B118_0_2 : s_dk T118.2.2.1 0 [.iload_n 1, .iconst (-1)] 2 = true := by decide +kernel
theorem D118_2 : decode T118.2.2.1 2 = .ok (.if_icmp .eq 17, 3) := by decide +kernel
theorem B118_19_20 : s_dk T118.2.2.1 19 [.aload_n 0] 20 = true := by decide +kernel
theorem D118_20 : decode T118.2.2.1 20 = .ok (.invokevirtual 252, 3) := by decide +kernel
theorem B118_23_24 : s_dk T118.2.2.1 23 [.aload_n 0] 24 = true := by decide +kernel
theorem D118_24 : decode T118.2.2.1 24 = .ok (.getfield 44, 3) := by decide +kernel
theorem D118_27 : decode T118.2.2.1 27 = .ok (.invokevirtual 271, 3) := by decide +kernel
theorem ck_10_virtual_271 : m_call 10 (.invokevirtual 271) = some (0, 91, 0) := by decide +kernel
theorem D118_30 : decode T118.2.2.1 30 = .ok (.ifCond .ne 16, 3) := by decide +kernel
theorem B118_46_47 : s_dk T118.2.2.1 46 [.aload_n 0] 47 = true := by decide +kernel
theorem D118_47 : decode T118.2.2.1 47 = .ok (.getfield 53, 3) := by decide +kernel
theorem B118_50_51 : s_dk T118.2.2.1 50 [.iconst 1] 51 = true := by decide +kernel
theorem D118_51 : decode T118.2.2.1 51 = .ok (.invokevirtual 217, 3) := by decide +kernel
theorem B118_54_57 : s_dk T118.2.2.1 54 [.lstore_n 2, .iload_n 1, .iconst (-1)] 57 = true := by decide +kernel
theorem D118_57 : decode T118.2.2.1 57 = .ok (.if_icmp .eq 10, 3) := by decide +kernel
theorem B118_67_76 : s_dk T118.2.2.1 67 [.lconst 0, .lstore 4, .iconst (-1), .istore 6, .iconst 0, .istore 7] 76 = true := by decide +kernel
theorem B118_33_35 : s_dk T118.2.2.1 33 [.iload_n 1, .iconst (-1)] 35 = true := by decide +kernel
theorem D118_35 : decode T118.2.2.1 35 = .ok (.if_icmp .ne 9, 3) := by decide +kernel
theorem D118_38 : decode T118.2.2.1 38 = .ok (.ldc2_w 269, 3) := by decide +kernel
theorem D118_41 : decode T118.2.2.1 41 = .ok (.goto 4, 3) := by decide +kernel
theorem D118_45 : decode T118.2.2.1 45 = .ok (.lreturn, 1) := by decide +kernel
theorem B118_5_9 : s_dk T118.2.2.1 5 [.iload_n 1, .iconst 0, .bipush 29] 9 = true := by decide +kernel
theorem D118_9 : decode T118.2.2.1 9 = .ok (.invokestatic 102, 3) := by decide +kernel
theorem D118_12 : decode T118.2.2.1 12 = .ok (.ifCond .ne 7, 3) := by decide +kernel
theorem B118_60_63 : s_dk T118.2.2.1 60 [.aload_n 0, .iload_n 1, .lload_n 2] 63 = true := by decide +kernel
theorem D118_63 : decode T118.2.2.1 63 = .ok (.invokevirtual 275, 3) := by decide +kernel
theorem ck_10_virtual_275 : m_call 10 (.invokevirtual 275) = some (0, 139, 2) := by decide +kernel
theorem D118_66 : decode T118.2.2.1 66 = .ok (.lreturn, 1) := by decide +kernel
theorem B118_44_45 : s_dk T118.2.2.1 44 [.lconst 0] 45 = true := by decide +kernel
theorem D118_15 : decode T118.2.2.1 15 = .ok (.ldc2_w 269, 3) := by decide +kernel
theorem D118_18 : decode T118.2.2.1 18 = .ok (.lreturn, 1) := by decide +kernel
theorem B118_76_80 : s_dk T118.2.2.1 76 [.iload 7, .bipush 30] 80 = true := by decide +kernel
theorem D118_80 : decode T118.2.2.1 80 = .ok (.if_icmp .ge 34, 3) := by decide +kernel
theorem B118_83_87 : s_dk T118.2.2.1 83 [.aload_n 0, .iload 7, .lload_n 2] 87 = true := by decide +kernel
theorem D118_87 : decode T118.2.2.1 87 = .ok (.invokevirtual 275, 3) := by decide +kernel
theorem B118_90_96 : s_dk T118.2.2.1 90 [.lstore 8, .lload 8, .lload 4] 96 = true := by decide +kernel
theorem D118_96 : decode T118.2.2.1 96 = .ok (.lcmp, 1) := by decide +kernel
theorem D118_97 : decode T118.2.2.1 97 = .ok (.ifCond .le 11, 3) := by decide +kernel
theorem B118_108_111 : s_dk T118.2.2.1 108 [.iinc 7 1] 111 = true := by decide +kernel
theorem D118_111 : decode T118.2.2.1 111 = .ok (.goto (-35), 3) := by decide +kernel
theorem B118_100_111 : s_dk T118.2.2.1 100 [.lload 8, .lstore 4, .iload 7, .istore 6, .iinc 7 1] 111 = true := by decide +kernel
theorem B118_114_116 : s_dk T118.2.2.1 114 [.iload 6] 116 = true := by decide +kernel
theorem D118_116 : decode T118.2.2.1 116 = .ok (.i2l, 1) := by decide +kernel
theorem D118_117 : decode T118.2.2.1 117 = .ok (.lreturn, 1) := by decide +kernel
set_option maxRecDepth 4000 in
theorem k138s {base : Nat} {X : Nat → Option mC} {G : Nat → Value} (E : EnvOK base X G) {d : Nat} (hd : 6 ≤ d) {M : mH} (H : HI base M) (h0 : SF M) : sOk base X G d T138 [vR 0] M (pV (fun M' => HI base M' ∧ Fr [(0, 10), (20, 16), (20, 17), (20, 18), (21, 0), (22, 0), (23, 0), (24, 0), (25, 0), (26, 0), (27, 0), (28, 0), (29, 0), (30, 0), (31, 0), (32, 0), (33, 0), (34, 0), (35, 0)] M M' ∧ (TGd M'))) := by
  have f0 : Fr [(0, 10), (20, 16), (20, 17), (20, 18), (21, 0), (22, 0), (23, 0), (24, 0), (25, 0), (26, 0), (27, 0), (28, 0), (29, 0), (30, 0), (31, 0), (32, 0), (33, 0), (34, 0), (35, 0)] M M := Fr.rf
  refine sOk.of (show sRn base X G d T138 0 [(0, vR 0)] [] M _ from ?_)
  refine s_blx (lv' := [(0, vR 0)]) (st' := [vR 0]) B138_0_1 rfl ?_
  refine r_gint (ki := 9) (pc' := 4) D138_1 rfl gf_10_57_0 rfl H.1 ?_
  intro w1 e2 r3
  have b_w1 := H.2 0 (9) 0 1 rfl
  rw [← e2] at b_w1; clear r3
  refine r_ifc (tgt := 24) (pc' := 7) D138_4 rfl rfl (by unfold inR; omega) (fun (c4 : w1 = 0) => ?_) (fun (c4 : ¬ (w1 = 0)) => ?_)
  · exact r_retV D138_24 rfl (⟨H, f0, by first | exact h0 (by omega) | exact ⟨⟨by rw [kg]; exact kq0.1, by rw [kg]; exact kq0.2⟩, by rw [kg]; exact kq1.wr ku (by decide), by rw [kg]; exact kq2.wr ku (by decide)⟩⟩)
  · refine s_blx (lv' := [(0, vR 0)]) (st' := [vR 0]) B138_7_8 rfl ?_
    refine r_gfix (r := 20) (pc' := 11) D138_8 rfl gf_10_44_0 H.1 ?_
    refine s_blx (lv' := [(0, vR 0)]) (st' := [vR 0, vR 20]) B138_11_12 rfl ?_
    refine r_gfix (r := 1) (pc' := 15) D138_12 rfl gf_10_10_0 H.1 ?_
    refine s_blx (lv' := [(0, vR 0)]) (st' := [vI (-1), vR 1, vR 20]) B138_15_16 rfl ?_
    refine r_vV (c := 20) (args := [vR 1, vI (-1)]) (rest := []) (pc' := 19) D138_16 rfl ck_10_virtual_213 TE79 rfl (Nat.le_of_ble_eq_true rfl) ⟨Nat.le_of_ble_eq_true rfl, Nat.le_of_ble_eq_true rfl⟩ sc_20 ⟨rfl, by decide⟩ H.1 (dp_0 hd rfl) (k79_20x E (dp_n hd rfl) H (-1) (by omega)) ?_
    intro M6 q12
    obtain ⟨H7, f8, q9, q10, q11⟩ := q12
    have f13 := f0.tr (f8.up rfl)
    have kq0 := q9; clear q9
    have kq1 := q10; clear q10
    have kq2 := q11; clear q11
    refine s_blx (lv' := [(0, vR 0)]) (st' := [vI 0, vR 0]) B138_19_21 rfl ?_
    refine r_pbool (ki := 9) (pc' := 24) D138_21 rfl pf_10_57_0 rfl H7 (by omega) (show 0 ≤ 0 ∧ 0 ≤ 1 by omega) ?_
    intro M14 u15 H16 p17
    have f18 := f13.wr u15 rfl
    have ku := u15
    have kg : gi M14 20 15 = gi M6 20 15 := ku.gi_ne (by decide) (Or.inl (by decide))
    exact r_retV D138_24 rfl (⟨H16, f18, by first | exact h0 (by omega) | exact ⟨⟨by rw [kg]; exact kq0.1, by rw [kg]; exact kq0.2⟩, by rw [kg]; exact kq1.wr ku (by decide), by rw [kg]; exact kq2.wr ku (by decide)⟩⟩)
set_option maxRecDepth 4000 in
theorem k107k {base : Nat} {X : Nat → Option mC} {G : Nat → Value} (E : EnvOK base X G) {d : Nat} (hd : 176 ≤ d) {M : mH} (H : HI base M) (hw : Int) (h0 : RN base 56 hw M) (h1 : 1 ≤ hw ∧ hw ≤ 145) : sOk base X G d T107 [vR 0] M (pL (fun v M' => HI base M' ∧ Fz [(39, 16), (39, 17), (39, 18), (40, 0), (41, 0), (42, 0), (43, 0), (44, 0), (45, 0), (46, 0), (47, 0), (48, 0), (49, 0), (50, 0), (51, 0), (52, 0), (53, 0), (54, 0), (55, 4), (55, 5), (56, 0), (57, 0)] M M' ∧ (∃ hw2 n : Int, (hw ≤ hw2 ∧ hw2 ≤ 145 ∧ 1 ≤ n ∧ n ≤ hw2) ∧ RN base 56 hw2 M' ∧ TR 40 n M' ∧ GT 51 n M' ∧ RM M (hw2 - hw) M'))) := by
  have f0 : Fz [(39, 16), (39, 17), (39, 18), (40, 0), (41, 0), (42, 0), (43, 0), (44, 0), (45, 0), (46, 0), (47, 0), (48, 0), (49, 0), (50, 0), (51, 0), (52, 0), (53, 0), (54, 0), (55, 4), (55, 5), (56, 0), (57, 0)] M M := Fz.rf
  refine sOk.of (show sRn base X G d T107 0 [(0, vR 0)] [] M _ from ?_)
  refine s_blx (lv' := [(0, vR 0)]) (st' := [vR 0]) B107_0_1 rfl ?_
  refine r_gfix (r := 39) (pc' := 4) D107_1 rfl gf_10_61_0 H.1 ?_
  refine s_blx (lv' := [(0, vR 0)]) (st' := [vR 0, vR 39]) B107_4_5 rfl ?_
  refine r_gfix (r := 1) (pc' := 8) D107_5 rfl gf_10_10_0 H.1 ?_
  refine s_blx (lv' := [(0, vR 0)]) (st' := [vI (-1), vR 1, vR 39]) B107_8_9 rfl ?_
  refine r_vV (c := 39) (args := [vR 1, vI (-1)]) (rest := []) (pc' := 12) D107_9 rfl ck_10_virtual_213 TE79 rfl (Nat.le_of_ble_eq_true rfl) ⟨Nat.le_of_ble_eq_true rfl, Nat.le_of_ble_eq_true rfl⟩ sc_39 ⟨rfl, by decide⟩ H.1 (dp_0 hd rfl) (k79_39x E (dp_n hd rfl) H (-1) (by omega)) ?_
  intro M2 q8
  obtain ⟨H3, f4, q5, q6, q7⟩ := q8
  have f9 := f0.tr ((f4.q rfl).z.up rfl)
  have hp10 := h0.fr f4 (by decide)
  have hp11 := (RM.rf (M := M) (k := hw)).fr f4 (by decide)
  obtain ⟨kn, hkn⟩ : ∃ q, q = gi M2 39 15 := ⟨_, rfl⟩
  have ktr := q6
  have kgt := q7
  have kb := q5
  rw [← hkn] at ktr kgt kb
  refine s_blx (lv' := [(0, vR 0)]) (st' := [vR 0]) B107_12_13 rfl ?_
  refine r_gfix (r := 55) (pc' := 16) D107_13 rfl gf_10_64_0 H3.1 ?_
  refine s_blx (lv' := [(0, vR 0)]) (st' := [vI 1, vR 55]) B107_16_17 rfl ?_
  have krm0 := hp11
  have g12 : gi M2 39 15 = kn := hkn.symm
  refine r_vL (c := 55) (args := [vI 1]) (rest := []) (pc' := 20) D107_17 rfl ck_10_virtual_217 TE47 rfl (Nat.le_of_ble_eq_true rfl) ⟨Nat.le_of_ble_eq_true rfl, Nat.le_of_ble_eq_true rfl⟩ sc_55 ⟨rfl, by decide⟩ H3.1 (dp_0 hd rfl) (k47_55x E (dp_n hd rfl) H3 1 kn hw (by omega) (hp10) (ktr) (by omega) (by omega) (by omega)) ?_
  intro v13 M14 q18
  obtain ⟨H15, f16, q17⟩ := q18
  have f19 := f9.tr (f16.up rfl)
  have hp20 := ktr.fz H3.m f16 (by decide)
  have hp21 := kgt.fz H3.m f16 (by decide)
  obtain ⟨hw2, hb2, hrn2, hrm2⟩ := q17
  have krm := (krm0.tr hrm2).eq (show hw - hw + (hw2 - hw) = hw2 - hw by omega)
  exact r_lretL D107_20 rfl (⟨H15, f19, ⟨hw2, kn, by omega, hrn2, hp20, hp21, krm⟩⟩)
set_option maxRecDepth 4000 in
theorem k117k {base : Nat} {X : Nat → Option mC} {G : Nat → Value} (E : EnvOK base X G) {d : Nat} (hd : 176 ≤ d) {M : mH} (H : HI base M) (hw : Int) (h0 : SF M) (h1 : RN base 37 hw M) (h2 : 1 ≤ hw ∧ hw ≤ 145) : sOk base X G d T117 [vR 0] M (pL (fun v M' => HI base M' ∧ Fz [(0, 10), (20, 16), (20, 17), (20, 18), (21, 0), (22, 0), (23, 0), (24, 0), (25, 0), (26, 0), (27, 0), (28, 0), (29, 0), (30, 0), (31, 0), (32, 0), (33, 0), (34, 0), (35, 0), (36, 4), (36, 5), (37, 0), (38, 0)] M M' ∧ (∃ hw2 : Int, (hw ≤ hw2 ∧ hw2 ≤ 145) ∧ RN base 37 hw2 M' ∧ RM M (hw2 - hw) M') ∧ (TGd M'))) := by
  have f0 : Fz [(0, 10), (20, 16), (20, 17), (20, 18), (21, 0), (22, 0), (23, 0), (24, 0), (25, 0), (26, 0), (27, 0), (28, 0), (29, 0), (30, 0), (31, 0), (32, 0), (33, 0), (34, 0), (35, 0), (36, 4), (36, 5), (37, 0), (38, 0)] M M := Fz.rf
  refine sOk.of (show sRn base X G d T117 0 [(0, vR 0)] [] M _ from ?_)
  refine s_blx (lv' := [(0, vR 0)]) (st' := [vR 0]) B117_0_1 rfl ?_
  refine r_vV (c := 0) (args := []) (rest := []) (pc' := 4) D117_1 rfl ck_10_virtual_252 TE138 rfl (Nat.le_of_ble_eq_true rfl) ⟨Nat.le_of_ble_eq_true rfl, Nat.le_of_ble_eq_true rfl⟩ sc_0 ⟨rfl, by decide⟩ H.1 (dp_0 hd rfl) (k138s E (dp_n hd rfl) H (h0)) ?_
  intro M2 q6
  obtain ⟨H3, f4, q5⟩ := q6
  have f7 := f0.tr ((f4.q rfl).z.up rfl)
  have hp8 := h1.fr f4 (by decide)
  have hp9 := (RM.rf (M := M) (k := hw)).fr f4 (by decide)
  obtain ⟨kn, hkn⟩ : ∃ q, q = gi M2 20 15 := ⟨_, rfl⟩
  have ktg : TGd M2 := q5
  have ksf : SF M2 := fun _ => ktg
  have ktr := ktg.2.1
  have kb := ktg.1
  rw [← hkn] at ktr kb
  refine s_blx (lv' := [(0, vR 0)]) (st' := [vR 0]) B117_4_5 rfl ?_
  refine r_gfix (r := 36) (pc' := 8) D117_5 rfl gf_10_53_0 H3.1 ?_
  refine s_blx (lv' := [(0, vR 0)]) (st' := [vI 1, vR 36]) B117_8_9 rfl ?_
  have krma := hp9
  have g10 : gi M2 20 15 = kn := hkn.symm
  refine r_vL (c := 36) (args := [vI 1]) (rest := []) (pc' := 12) D117_9 rfl ck_10_virtual_217 TE47 rfl (Nat.le_of_ble_eq_true rfl) ⟨Nat.le_of_ble_eq_true rfl, Nat.le_of_ble_eq_true rfl⟩ sc_36 ⟨rfl, by decide⟩ H3.1 (dp_0 hd rfl) (k47_36x E (dp_n hd rfl) H3 1 kn hw (by omega) (hp8) (ktr) (by omega) (by omega) (by omega)) ?_
  intro v11 M12 q16
  obtain ⟨H13, f14, q15⟩ := q16
  have f17 := f7.tr (f14.up rfl)
  have hp18 := ktr.fz H3.m f14 (by decide)
  have hp19 := ktg.fz H3.m f14 (by decide)
  have hp20 := ksf.fz H3.m f14 (by decide)
  obtain ⟨hw2, hba, hrna, hrma⟩ := q15
  have krna := (krma.tr hrma).eq (show hw - hw + (hw2 - hw) = hw2 - hw by omega)
  refine s_blx (lv' := [(1, vL v11), (0, vR 0)]) (st' := [vR 0]) B117_12_14 rfl ?_
  refine r_gfix (r := 36) (pc' := 17) D117_14 rfl gf_10_53_0 H13.1 ?_
  refine s_blx (lv' := [(1, vL v11), (0, vR 0)]) (st' := [vI 0, vR 36]) B117_17_18 rfl ?_
  have krmb := krna
  have g21 : gi M12 20 15 = kn := (f14.g H3.m rfl).trans (hkn.symm)
  refine r_vL (c := 36) (args := [vI 0]) (rest := []) (pc' := 21) D117_18 rfl ck_10_virtual_217 TE47 rfl (Nat.le_of_ble_eq_true rfl) ⟨Nat.le_of_ble_eq_true rfl, Nat.le_of_ble_eq_true rfl⟩ sc_36 ⟨rfl, by decide⟩ H13.1 (dp_0 hd rfl) (k47_36x E (dp_n hd rfl) H13 0 kn hw2 (by omega) (hrna) (hp18) (by omega) (by omega) (by omega)) ?_
  intro v22 M23 q27
  obtain ⟨H24, f25, q26⟩ := q27
  have f28 := f17.tr (f25.up rfl)
  have hp29 := hp18.fz H13.m f25 (by decide)
  have hp30 := hp19.fz H13.m f25 (by decide)
  have hp31 := hp20.fz H13.m f25 (by decide)
  obtain ⟨hw3, hbb, hrnb, hrmb⟩ := q26
  have krnb := (krmb.tr hrmb).eq (show hw2 - hw + (hw3 - hw2) = hw3 - hw by omega)
  refine s_blx (lv' := [(1, vL v11), (0, vR 0)]) (st' := [vL (v22 - v11)]) B117_21_23 rfl ?_
  exact r_lretL D117_23 rfl (⟨H24, f28, ⟨hw3, by omega, hrnb, krnb⟩, hp30⟩)
set_option maxRecDepth 4000 in
theorem k139k {base : Nat} {X : Nat → Option mC} {G : Nat → Value} (E : EnvOK base X G) {d : Nat} (hd : 176 ≤ d) {M : mH} (H : HI base M) (word : Int) (least : Int) (hw : Int) (h0 : SF M) (h1 : RN base 37 hw M) (h2 : 1 ≤ hw ∧ hw ≤ 145) (h3 : 0 ≤ word ∧ word ≤ 29) : sOk base X G d T139 [vR 0, vI word, vL least] M (pL (fun v M' => HI base M' ∧ Fz [(0, 10), (20, 16), (20, 17), (20, 18), (21, 0), (22, 0), (23, 0), (24, 0), (25, 0), (26, 0), (27, 0), (28, 0), (29, 0), (30, 0), (31, 0), (32, 0), (33, 0), (34, 0), (35, 0), (36, 4), (36, 5), (37, 0), (38, 0)] M M' ∧ (∃ hw2 : Int, (hw ≤ hw2 ∧ hw2 ≤ 145) ∧ RN base 37 hw2 M' ∧ RM M (hw2 - hw) M') ∧ (SF M'))) := by
  have f0 : Fz [(0, 10), (20, 16), (20, 17), (20, 18), (21, 0), (22, 0), (23, 0), (24, 0), (25, 0), (26, 0), (27, 0), (28, 0), (29, 0), (30, 0), (31, 0), (32, 0), (33, 0), (34, 0), (35, 0), (36, 4), (36, 5), (37, 0), (38, 0)] M M := Fz.rf
  refine sOk.of (show sRn base X G d T139 0 [(0, vR 0), (1, vI word), (2, vL least)] [] M _ from ?_)
  refine s_blx (lv' := [(0, vR 0), (1, vI word), (2, vL least)]) (st' := [vR 0]) B139_0_1 rfl ?_
  refine r_gfix (r := 1) (pc' := 4) D139_1 rfl gf_10_10_0 H.1 ?_
  refine r_gfix (r := 2) (pc' := 7) D139_4 rfl gf_10_116_1 H.1 ?_
  refine s_blx (lv' := [(0, vR 0), (1, vI word), (2, vL least)]) (st' := [vI (0 + word), vR 2]) B139_7_10 rfl ?_
  refine r_iald (pc' := 11) D139_10 rfl sc_2 H.1 (by omega) ?_
  intro w1 e2 r3
  have b_w1 := H.2 2 (0 + word) 0 60 rfl
  rw [← e2] at b_w1; clear r3
  refine r_ifc (tgt := 25) (pc' := 14) D139_11 rfl rfl (by unfold inR; omega) (fun (c4 : w1 = 0) => ?_) (fun (c4 : ¬ (w1 = 0)) => ?_)
  · refine s_blx (lv' := [(0, vR 0), (1, vI word), (2, vL least)]) (st' := [vL 0]) B139_25_26 rfl ?_
    exact r_lretL D139_26 rfl (⟨H, f0, ⟨hw, by omega, h1, (RM.rf (M := M) (k := hw))⟩, h0⟩)
  · refine s_blx (lv' := [(0, vR 0), (1, vI word), (2, vL least)]) (st' := [vR 0]) B139_14_15 rfl ?_
    refine r_gfix (r := 1) (pc' := 18) D139_15 rfl gf_10_10_0 H.1 ?_
    refine s_blx (lv' := [(0, vR 0), (1, vI word), (2, vL least)]) (st' := [vI word, vR 1]) B139_18_19 rfl ?_
    refine r_vIp (c := 1) (args := [vI word]) (rest := []) (pc' := 22) D139_19 rfl ck_10_virtual_335 TE68 rfl (Nat.le_of_ble_eq_true rfl) ⟨Nat.le_of_ble_eq_true rfl, Nat.le_of_ble_eq_true rfl⟩ sc_1 ⟨rfl, by decide⟩ H.1 (dp_0 hd rfl) (k68_1 E (dp_n hd rfl) H word (by omega)) ?_
    intro v5 q8
    have q7 := q8
    refine r_ifc (tgt := 27) (pc' := 25) D139_22 rfl rfl (by unfold inR; omega) (fun (c9 : v5 ≠ 0) => ?_) (fun (c9 : ¬ (v5 ≠ 0)) => ?_)
    · refine s_blx (lv' := [(0, vR 0), (1, vI word), (2, vL least)]) (st' := [vR 0]) B139_27_28 rfl ?_
      refine r_gfix (r := 20) (pc' := 31) D139_28 rfl gf_10_44_0 H.1 ?_
      refine s_blx (lv' := [(0, vR 0), (1, vI word), (2, vL least)]) (st' := [vR 0, vR 20]) B139_31_32 rfl ?_
      refine r_gfix (r := 1) (pc' := 35) D139_32 rfl gf_10_10_0 H.1 ?_
      refine s_blx (lv' := [(0, vR 0), (1, vI word), (2, vL least)]) (st' := [vI word, vR 1, vR 20]) B139_35_36 rfl ?_
      refine r_vV (c := 20) (args := [vR 1, vI word]) (rest := []) (pc' := 39) D139_36 rfl ck_10_virtual_213 TE79 rfl (Nat.le_of_ble_eq_true rfl) ⟨Nat.le_of_ble_eq_true rfl, Nat.le_of_ble_eq_true rfl⟩ sc_20 ⟨rfl, by decide⟩ H.1 (dp_0 hd rfl) (k79_20x E (dp_n hd rfl) H word (by omega)) ?_
      intro M11 q17
      obtain ⟨H12, f13, q14, q15, q16⟩ := q17
      have f18 := f0.tr ((f13.q rfl).z.up rfl)
      have hp19 := h1.fr f13 (by decide)
      have hp20 := (RM.rf (M := M) (k := hw)).fr f13 (by decide)
      obtain ⟨kn, hkn⟩ : ∃ q, q = gi M11 20 15 := ⟨_, rfl⟩
      have ktr := q15
      have kb := q14
      rw [← hkn] at ktr kb
      refine s_blx (lv' := [(0, vR 0), (1, vI word), (2, vL least)]) (st' := [vI 1, vR 0]) B139_39_41 rfl ?_
      refine r_pbool (ki := 9) (pc' := 44) D139_41 rfl pf_10_57_0 rfl H12 (by omega) (show 0 ≤ 1 ∧ 1 ≤ 1 by omega) ?_
      intro M21 u22 H23 p24
      have f25 := f18.wr u22 rfl
      have hp26 := hp19.wr u22 (by decide)
      have hp27 := hp20.wr u22 (by decide)
      have hp28 := ktr.wr u22 (by decide)
      have ksf : SF M21 := SF.stale p24
      refine s_blx (lv' := [(0, vR 0), (1, vI word), (2, vL least)]) (st' := [vR 0, vL least]) B139_44_46 rfl ?_
      refine r_gfix (r := 36) (pc' := 49) D139_46 rfl gf_10_53_0 H23.1 ?_
      refine s_blx (lv' := [(0, vR 0), (1, vI word), (2, vL least)]) (st' := [vI 1, vR 36, vL least]) B139_49_50 rfl ?_
      have krma := hp27
      have g29 : gi M21 20 15 = kn := (u22.gi_ne (by decide) (Or.inl (by decide))).trans (hkn.symm)
      refine r_vL (c := 36) (args := [vI 1]) (rest := [vL least]) (pc' := 53) D139_50 rfl ck_10_virtual_217 TE47 rfl (Nat.le_of_ble_eq_true rfl) ⟨Nat.le_of_ble_eq_true rfl, Nat.le_of_ble_eq_true rfl⟩ sc_36 ⟨rfl, by decide⟩ H23.1 (dp_0 hd rfl) (k47_36x E (dp_n hd rfl) H23 1 kn hw (by omega) (hp26) (hp28) (by omega) (by omega) (by omega)) ?_
      intro v30 M31 q35
      obtain ⟨H32, f33, q34⟩ := q35
      have f36 := f25.tr (f33.up rfl)
      have hp37 := hp28.fz H23.m f33 (by decide)
      have hp38 := ksf.fz H23.m f33 (by decide)
      obtain ⟨hw2, hba, hrna, hrma⟩ := q34
      have krna := (krma.tr hrma).eq (show hw - hw + (hw2 - hw) = hw2 - hw by omega)
      refine s_blx (lv' := [(0, vR 0), (1, vI word), (2, vL least)]) (st' := [vL (least - v30)]) B139_53_54 rfl ?_
      exact r_lretL D139_54 rfl (⟨H32, f36, ⟨hw2, by omega, hrna, krna⟩, hp38⟩)
    · refine s_blx (lv' := [(0, vR 0), (1, vI word), (2, vL least)]) (st' := [vL 0]) B139_25_26 rfl ?_
      exact r_lretL D139_26 rfl (⟨H, f0, ⟨hw, by omega, h1, (RM.rf (M := M) (k := hw))⟩, h0⟩)
set_option maxRecDepth 4000 in
theorem L_k118k {base : Nat} {X : Nat → Option mC} {G : Nat → Value} (E : EnvOK base X G) {d : Nat} (hd : 177 ≤ d) {M : mH} (H : HI base M) (word : Int) (hw : Int) (h0 : SF M) (h1 : RN base 37 hw M) (h2 : 1 ≤ hw ∧ hw ≤ 145) (h3 : -2147483648 ≤ word ∧ word ≤ 2147483647) : ∀ mz : Nat, (∀ (x2 x4 x6 x7 hw2 : Int) (N : mH), HI base N → Fz [(0, 10), (20, 16), (20, 17), (20, 18), (21, 0), (22, 0), (23, 0), (24, 0), (25, 0), (26, 0), (27, 0), (28, 0), (29, 0), (30, 0), (31, 0), (32, 0), (33, 0), (34, 0), (35, 0), (36, 4), (36, 5), (37, 0), (38, 0)] M N → (RN base 37 hw2 N) → (SF N) → (hw ≤ hw2 ∧ hw2 ≤ 145) → (RM M (hw2 - hw) N) → ((-1) ≤ x6) → (x6 ≤ 29) → (0 ≤ x7) → (x7 ≤ 30) → ((-1) ≤ word) → (word ≤ (-1)) → (30 - x7) * 1 + 0 < (mz : Int) → sRn base X G d T118 76 [(0, vR 0), (2, vL x2), (4, vL x4), (6, vI x6), (7, vI x7)] [] N (s_Q base (pL (fun v M' => HI base M' ∧ Fz [(0, 10), (20, 16), (20, 17), (20, 18), (21, 0), (22, 0), (23, 0), (24, 0), (25, 0), (26, 0), (27, 0), (28, 0), (29, 0), (30, 0), (31, 0), (32, 0), (33, 0), (34, 0), (35, 0), (36, 4), (36, 5), (37, 0), (38, 0)] M M' ∧ (∃ hw2 : Int, (hw ≤ hw2 ∧ hw2 ≤ 145) ∧ RN base 37 hw2 M' ∧ RM M (hw2 - hw) M') ∧ (SF M'))))) := by
  have f0 : Fz [(0, 10), (20, 16), (20, 17), (20, 18), (21, 0), (22, 0), (23, 0), (24, 0), (25, 0), (26, 0), (27, 0), (28, 0), (29, 0), (30, 0), (31, 0), (32, 0), (33, 0), (34, 0), (35, 0), (36, 4), (36, 5), (37, 0), (38, 0)] M M := Fz.rf
  intro mz
  induction mz with
  | zero => exact fun x2 x4 x6 x7 hw2 N _ _ z0 z1 z2 z3 z4 z5 z6 z7 z8 z9 z10 => by omega
  | succ mz ih =>
    intro x2 x4 x6 x7 hw2 N HN fN i0 i1 i2 i3 i4 i5 i6 i7 i8 i9 hmu
    refine s_blx (lv' := [(0, vR 0), (2, vL x2), (4, vL x4), (6, vI x6), (7, vI x7)]) (st' := [vI 30, vI x7]) B118_76_80 rfl ?_
    refine r_icmp (tgt := 114) (pc' := 83) D118_80 rfl rfl (by unfold inR; omega) (fun (c71 : 30 ≤ x7) => ?_) (fun (c71 : ¬ (30 ≤ x7)) => ?_)
    · refine s_blx (lv' := [(0, vR 0), (2, vL x2), (4, vL x4), (6, vI x6), (7, vI x7)]) (st' := [vI x6]) B118_114_116 rfl ?_
      refine r_i2l (pc' := 117) D118_116 rfl (by unfold inR; omega) ?_
      exact r_lretL D118_117 rfl (⟨HN, fN, ⟨hw2, by omega, i0, i3⟩, i1⟩)
    · refine s_blx (lv' := [(0, vR 0), (2, vL x2), (4, vL x4), (6, vI x6), (7, vI x7)]) (st' := [vL x2, vI x7, vR 0]) B118_83_87 rfl ?_
      have krmc := i3
      refine r_vL (c := 0) (args := [vI x7, vL x2]) (rest := []) (pc' := 90) D118_87 rfl ck_10_virtual_275 TE139 rfl (Nat.le_of_ble_eq_true rfl) ⟨Nat.le_of_ble_eq_true rfl, Nat.le_of_ble_eq_true rfl⟩ sc_0 ⟨rfl, by decide⟩ HN.1 (dp_0 hd rfl) (k139k E (dp_n hd rfl) HN x7 x2 hw2 (i1) (i0) (by omega) (by omega)) ?_
      intro v72 M73 q78
      obtain ⟨H74, f75, q76, q77⟩ := q78
      have f79 := fN.tr (f75.up rfl)
      obtain ⟨hw3, hbc, hrnc, hrmc⟩ := q76
      have krnc := (krmc.tr hrmc).eq (show hw2 - hw + (hw3 - hw2) = hw3 - hw by omega)
      refine s_blx (lv' := [(8, vL v72), (0, vR 0), (2, vL x2), (4, vL x4), (6, vI x6), (7, vI x7)]) (st' := [vL x4, vL v72]) B118_90_96 rfl ?_
      refine r_lcmp (pc' := 97) D118_96 rfl ?_
      intro z80 r81 r82
      refine r_ifc (tgt := 108) (pc' := 100) D118_97 rfl rfl (by unfold inR; omega) (fun (c83 : z80 ≤ 0) => ?_) (fun (c83 : ¬ (z80 ≤ 0)) => ?_)
      · refine s_blx (lv' := [(7, vI (x7 + 1)), (8, vL v72), (0, vR 0), (2, vL x2), (4, vL x4), (6, vI x6)]) (st' := []) B118_108_111 rfl ?_
        refine r_goto (tgt := 76) D118_111 rfl ?_
        refine r_loc (lv' := [(0, vR 0), (2, vL x2), (4, vL x4), (6, vI x6), (7, vI (x7 + 1))]) ⟨rfl, rfl, rfl, rfl, rfl, trivial⟩ rfl rfl ?_
        exact ih x2 x4 x6 (x7 + 1) hw3 M73 H74 f79 (hrnc) (q77) (by omega) (krnc) (by omega) (by omega) (by omega) (by omega) (by omega) (by omega) (by omega)
      · refine s_blx (lv' := [(7, vI (x7 + 1)), (6, vI x7), (4, vL v72), (8, vL v72), (0, vR 0), (2, vL x2)]) (st' := []) B118_100_111 rfl ?_
        refine r_goto (tgt := 76) D118_111 rfl ?_
        refine r_loc (lv' := [(0, vR 0), (2, vL x2), (4, vL v72), (6, vI x7), (7, vI (x7 + 1))]) ⟨rfl, rfl, rfl, rfl, rfl, trivial⟩ rfl rfl ?_
        exact ih x2 v72 x7 (x7 + 1) hw3 M73 H74 f79 (hrnc) (q77) (by omega) (krnc) (by omega) (by omega) (by omega) (by omega) (by omega) (by omega) (by omega)
set_option maxRecDepth 4000 in
theorem k118k {base : Nat} {X : Nat → Option mC} {G : Nat → Value} (E : EnvOK base X G) {d : Nat} (hd : 177 ≤ d) {M : mH} (H : HI base M) (word : Int) (hw : Int) (h0 : SF M) (h1 : RN base 37 hw M) (h2 : 1 ≤ hw ∧ hw ≤ 145) (h3 : -2147483648 ≤ word ∧ word ≤ 2147483647) : sOk base X G d T118 [vR 0, vI word] M (pL (fun v M' => HI base M' ∧ Fz [(0, 10), (20, 16), (20, 17), (20, 18), (21, 0), (22, 0), (23, 0), (24, 0), (25, 0), (26, 0), (27, 0), (28, 0), (29, 0), (30, 0), (31, 0), (32, 0), (33, 0), (34, 0), (35, 0), (36, 4), (36, 5), (37, 0), (38, 0)] M M' ∧ (∃ hw2 : Int, (hw ≤ hw2 ∧ hw2 ≤ 145) ∧ RN base 37 hw2 M' ∧ RM M (hw2 - hw) M') ∧ (SF M'))) := by
  have f0 : Fz [(0, 10), (20, 16), (20, 17), (20, 18), (21, 0), (22, 0), (23, 0), (24, 0), (25, 0), (26, 0), (27, 0), (28, 0), (29, 0), (30, 0), (31, 0), (32, 0), (33, 0), (34, 0), (35, 0), (36, 4), (36, 5), (37, 0), (38, 0)] M M := Fz.rf
  refine sOk.of (show sRn base X G d T118 0 [(0, vR 0), (1, vI word)] [] M _ from ?_)
  refine s_blx (lv' := [(0, vR 0), (1, vI word)]) (st' := [vI (-1), vI word]) B118_0_2 rfl ?_
  refine r_icmp (tgt := 19) (pc' := 5) D118_2 rfl rfl (by unfold inR; omega) (fun (c1 : word = (-1)) => ?_) (fun (c1 : ¬ (word = (-1))) => ?_)
  · refine s_blx (lv' := [(0, vR 0), (1, vI word)]) (st' := [vR 0]) B118_19_20 rfl ?_
    refine r_vV (c := 0) (args := []) (rest := []) (pc' := 23) D118_20 rfl ck_10_virtual_252 TE138 rfl (Nat.le_of_ble_eq_true rfl) ⟨Nat.le_of_ble_eq_true rfl, Nat.le_of_ble_eq_true rfl⟩ sc_0 ⟨rfl, by decide⟩ H.1 (dp_0 hd rfl) (k138s E (dp_n hd rfl) H (h0)) ?_
    intro M3 q7
    obtain ⟨H4, f5, q6⟩ := q7
    have f8 := f0.tr ((f5.q rfl).z.up rfl)
    have hp9 := h1.fr f5 (by decide)
    have hp10 := (RM.rf (M := M) (k := hw)).fr f5 (by decide)
    obtain ⟨kn, hkn⟩ : ∃ q, q = gi M3 20 15 := ⟨_, rfl⟩
    have ktg : TGd M3 := q6
    have ksf : SF M3 := fun _ => ktg
    have ktr := ktg.2.1
    have kb := ktg.1
    rw [← hkn] at ktr kb
    refine s_blx (lv' := [(0, vR 0), (1, vI word)]) (st' := [vR 0]) B118_23_24 rfl ?_
    refine r_gfix (r := 20) (pc' := 27) D118_24 rfl gf_10_44_0 H4.1 ?_
    refine r_vIp (c := 20) (args := []) (rest := []) (pc' := 30) D118_27 rfl ck_10_virtual_271 TE91 rfl (Nat.le_of_ble_eq_true rfl) ⟨Nat.le_of_ble_eq_true rfl, Nat.le_of_ble_eq_true rfl⟩ sc_20 ⟨rfl, by decide⟩ H4.1 (dp_0 hd rfl) (k91_20 E (dp_n hd rfl) H4 ) ?_
    intro v11 q14
    have q13 := q14; clear q14
    refine r_ifc (tgt := 46) (pc' := 33) D118_30 rfl rfl (by unfold inR; omega) (fun (c15 : v11 ≠ 0) => ?_) (fun (c15 : ¬ (v11 ≠ 0)) => ?_)
    · refine s_blx (lv' := [(0, vR 0), (1, vI word)]) (st' := [vR 0]) B118_46_47 rfl ?_
      refine r_gfix (r := 36) (pc' := 50) D118_47 rfl gf_10_53_0 H4.1 ?_
      refine s_blx (lv' := [(0, vR 0), (1, vI word)]) (st' := [vI 1, vR 36]) B118_50_51 rfl ?_
      have krma := hp10
      have g16 : gi M3 20 15 = kn := hkn.symm
      refine r_vL (c := 36) (args := [vI 1]) (rest := []) (pc' := 54) D118_51 rfl ck_10_virtual_217 TE47 rfl (Nat.le_of_ble_eq_true rfl) ⟨Nat.le_of_ble_eq_true rfl, Nat.le_of_ble_eq_true rfl⟩ sc_36 ⟨rfl, by decide⟩ H4.1 (dp_0 hd rfl) (k47_36x E (dp_n hd rfl) H4 1 kn hw (by omega) (hp9) (ktr) (by omega) (by omega) (by omega)) ?_
      intro v17 M18 q22
      obtain ⟨H19, f20, q21⟩ := q22
      have f23 := f8.tr (f20.up rfl)
      have hp24 := ktr.fz H4.m f20 (by decide)
      have hp25 := ktg.fz H4.m f20 (by decide)
      have hp26 := ksf.fz H4.m f20 (by decide)
      obtain ⟨hw2, hba, hrna, hrma⟩ := q21
      have krna := (krma.tr hrma).eq (show hw - hw + (hw2 - hw) = hw2 - hw by omega)
      refine s_blx (lv' := [(2, vL v17), (0, vR 0), (1, vI word)]) (st' := [vI (-1), vI word]) B118_54_57 rfl ?_
      refine r_icmp (tgt := 67) (pc' := 60) D118_57 rfl rfl (by unfold inR; omega) (fun (c27 : word = (-1)) => ?_) (fun (c27 : ¬ (word = (-1))) => ?_)
      · refine s_blx (lv' := [(7, vI 0), (6, vI (-1)), (4, vL 0), (2, vL v17), (0, vR 0), (1, vI word)]) (st' := []) B118_67_76 rfl ?_
        refine r_loc (lv' := [(0, vR 0), (2, vL v17), (4, vL 0), (6, vI (-1)), (7, vI 0)]) ⟨rfl, rfl, rfl, rfl, rfl, trivial⟩ rfl rfl ?_
        exact (L_k118k E hd H word hw h0 h1 h2 h3 (((30 - 0) * 1 + 0 : Int) + 1).toNat) v17 0 (-1) 0 hw2 M18 H19 f23 (hrna) (hp26) (by omega) (krna) (by omega) (by omega) (by omega) (by omega) (by omega) (by omega) (by omega)
      · exfalso; omega
    · refine s_blx (lv' := [(0, vR 0), (1, vI word)]) (st' := [vI (-1), vI word]) B118_33_35 rfl ?_
      refine r_icmp (tgt := 44) (pc' := 38) D118_35 rfl rfl (by unfold inR; omega) (fun (c28 : word ≠ (-1)) => ?_) (fun (c28 : ¬ (word ≠ (-1))) => ?_)
      · exfalso; omega
      · refine r_ldc2 (e := (-1)) (pc' := 41) D118_38 rfl cl_10_269 (by decide) ?_
        refine r_goto (tgt := 45) D118_41 rfl ?_
        exact r_lretL D118_45 rfl (⟨H4, f8, ⟨hw, by omega, hp9, hp10⟩, ksf⟩)
  · refine s_blx (lv' := [(0, vR 0), (1, vI word)]) (st' := [vI 29, vI 0, vI word]) B118_5_9 rfl ?_
    refine r_sIp (args := [vI word, vI 0, vI 29]) (rest := []) (pc' := 12) D118_9 rfl ck_10_static_102 TE142 rfl (Nat.le_of_ble_eq_true rfl) ⟨Nat.le_of_ble_eq_true rfl, Nat.le_of_ble_eq_true rfl⟩ (by decide) (dp_0 hd rfl) (k142 E (dp_n hd rfl) H word 0 29 (by omega) (by omega) (by omega)) ?_
    intro v29 q34
    obtain ⟨q31, q32, q33⟩ := q34
    refine r_ifc (tgt := 19) (pc' := 15) D118_12 rfl rfl (by unfold inR; omega) (fun (c35 : v29 ≠ 0) => ?_) (fun (c35 : ¬ (v29 ≠ 0)) => ?_)
    · refine s_blx (lv' := [(0, vR 0), (1, vI word)]) (st' := [vR 0]) B118_19_20 rfl ?_
      refine r_vV (c := 0) (args := []) (rest := []) (pc' := 23) D118_20 rfl ck_10_virtual_252 TE138 rfl (Nat.le_of_ble_eq_true rfl) ⟨Nat.le_of_ble_eq_true rfl, Nat.le_of_ble_eq_true rfl⟩ sc_0 ⟨rfl, by decide⟩ H.1 (dp_0 hd rfl) (k138s E (dp_n hd rfl) H (h0)) ?_
      intro M37 q41
      obtain ⟨H38, f39, q40⟩ := q41
      have f42 := f0.tr ((f39.q rfl).z.up rfl)
      have hp43 := h1.fr f39 (by decide)
      have hp44 := (RM.rf (M := M) (k := hw)).fr f39 (by decide)
      obtain ⟨kn, hkn⟩ : ∃ q, q = gi M37 20 15 := ⟨_, rfl⟩
      have ktg : TGd M37 := q40
      have ksf : SF M37 := fun _ => ktg
      have ktr := ktg.2.1
      have kb := ktg.1
      rw [← hkn] at ktr kb
      refine s_blx (lv' := [(0, vR 0), (1, vI word)]) (st' := [vR 0]) B118_23_24 rfl ?_
      refine r_gfix (r := 20) (pc' := 27) D118_24 rfl gf_10_44_0 H38.1 ?_
      refine r_vIp (c := 20) (args := []) (rest := []) (pc' := 30) D118_27 rfl ck_10_virtual_271 TE91 rfl (Nat.le_of_ble_eq_true rfl) ⟨Nat.le_of_ble_eq_true rfl, Nat.le_of_ble_eq_true rfl⟩ sc_20 ⟨rfl, by decide⟩ H38.1 (dp_0 hd rfl) (k91_20 E (dp_n hd rfl) H38 ) ?_
      intro v45 q48
      have q47 := q48; clear q48
      refine r_ifc (tgt := 46) (pc' := 33) D118_30 rfl rfl (by unfold inR; omega) (fun (c49 : v45 ≠ 0) => ?_) (fun (c49 : ¬ (v45 ≠ 0)) => ?_)
      · refine s_blx (lv' := [(0, vR 0), (1, vI word)]) (st' := [vR 0]) B118_46_47 rfl ?_
        refine r_gfix (r := 36) (pc' := 50) D118_47 rfl gf_10_53_0 H38.1 ?_
        refine s_blx (lv' := [(0, vR 0), (1, vI word)]) (st' := [vI 1, vR 36]) B118_50_51 rfl ?_
        have krma := hp44
        have g50 : gi M37 20 15 = kn := hkn.symm
        refine r_vL (c := 36) (args := [vI 1]) (rest := []) (pc' := 54) D118_51 rfl ck_10_virtual_217 TE47 rfl (Nat.le_of_ble_eq_true rfl) ⟨Nat.le_of_ble_eq_true rfl, Nat.le_of_ble_eq_true rfl⟩ sc_36 ⟨rfl, by decide⟩ H38.1 (dp_0 hd rfl) (k47_36x E (dp_n hd rfl) H38 1 kn hw (by omega) (hp43) (ktr) (by omega) (by omega) (by omega)) ?_
        intro v51 M52 q56
        obtain ⟨H53, f54, q55⟩ := q56
        have f57 := f42.tr (f54.up rfl)
        have hp58 := ktr.fz H38.m f54 (by decide)
        have hp59 := ktg.fz H38.m f54 (by decide)
        have hp60 := ksf.fz H38.m f54 (by decide)
        obtain ⟨hw2, hba, hrna, hrma⟩ := q55
        have krna := (krma.tr hrma).eq (show hw - hw + (hw2 - hw) = hw2 - hw by omega)
        refine s_blx (lv' := [(2, vL v51), (0, vR 0), (1, vI word)]) (st' := [vI (-1), vI word]) B118_54_57 rfl ?_
        refine r_icmp (tgt := 67) (pc' := 60) D118_57 rfl rfl (by unfold inR; omega) (fun (c61 : word = (-1)) => ?_) (fun (c61 : ¬ (word = (-1))) => ?_)
        · exfalso; omega
        · refine s_blx (lv' := [(2, vL v51), (0, vR 0), (1, vI word)]) (st' := [vL v51, vI word, vR 0]) B118_60_63 rfl ?_
          have krmb := krna
          refine r_vL (c := 0) (args := [vI word, vL v51]) (rest := []) (pc' := 66) D118_63 rfl ck_10_virtual_275 TE139 rfl (Nat.le_of_ble_eq_true rfl) ⟨Nat.le_of_ble_eq_true rfl, Nat.le_of_ble_eq_true rfl⟩ sc_0 ⟨rfl, by decide⟩ H53.1 (dp_0 hd rfl) (k139k E (dp_n hd rfl) H53 word v51 hw2 (hp60) (hrna) (by omega) (by omega)) ?_
          intro v62 M63 q68
          obtain ⟨H64, f65, q66, q67⟩ := q68
          have f69 := f57.tr (f65.up rfl)
          obtain ⟨hw3, hbb, hrnb, hrmb⟩ := q66
          have krnb := (krmb.tr hrmb).eq (show hw2 - hw + (hw3 - hw2) = hw3 - hw by omega)
          exact r_lretL D118_66 rfl (⟨H64, f69, ⟨hw3, by omega, hrnb, krnb⟩, q67⟩)
      · refine s_blx (lv' := [(0, vR 0), (1, vI word)]) (st' := [vI (-1), vI word]) B118_33_35 rfl ?_
        refine r_icmp (tgt := 44) (pc' := 38) D118_35 rfl rfl (by unfold inR; omega) (fun (c70 : word ≠ (-1)) => ?_) (fun (c70 : ¬ (word ≠ (-1))) => ?_)
        · refine s_blx (lv' := [(0, vR 0), (1, vI word)]) (st' := [vL 0]) B118_44_45 rfl ?_
          exact r_lretL D118_45 rfl (⟨H38, f42, ⟨hw, by omega, hp43, hp44⟩, ksf⟩)
        · exfalso; omega
    · refine r_ldc2 (e := (-1)) (pc' := 18) D118_15 rfl cl_10_269 (by decide) ?_
      exact r_lretL D118_18 rfl (⟨H, f0, ⟨hw, by omega, h1, (RM.rf (M := M) (k := hw))⟩, h0⟩)
set_option maxRecDepth 4000 in
theorem k108z {base : Nat} {X : Nat → Option mC} {G : Nat → Value} (E : EnvOK base X G) {d : Nat} (hd : 178 ≤ d) {M : mH} (H : HI base M) (sentence : Int) (second : Int) (said : Int) (n : Int) (h0 : RW base 56 n M) (h1 : TR 40 n M) (h2 : GT 51 n M) (h3 : 0 ≤ n ∧ n ≤ 145) (h4 : -2147483648 ≤ sentence ∧ sentence ≤ 2147483647) (h5 : -2147483648 ≤ second ∧ second ≤ 2147483647) (h6 : -2147483648 ≤ said ∧ said ≤ 2147483647) : sOk base X G d T108 [vR 0, vI sentence, vI second, vI said] M (pI (fun v M' => HI base M' ∧ Fq [(57, 0)] M M' ∧ (-2147483648 ≤ v ∧ v ≤ 2147483647))) := by
  have f0 : Fq [(57, 0)] M M := Fq.rf
  refine sOk.of (show sRn base X G d T108 0 [(0, vR 0), (1, vI sentence), (2, vI second), (3, vI said)] [] M _ from ?_)
  refine s_blx (lv' := [(0, vR 0), (1, vI sentence), (2, vI second), (3, vI said)]) (st' := [vI 1110, vI 0, vI said]) B108_0_5 rfl ?_
  refine r_sIp (args := [vI said, vI 0, vI 1110]) (rest := []) (pc' := 8) D108_5 rfl ck_10_static_102 TE142 rfl (Nat.le_of_ble_eq_true rfl) ⟨Nat.le_of_ble_eq_true rfl, Nat.le_of_ble_eq_true rfl⟩ (by decide) (dp_0 hd rfl) (k142 E (dp_n hd rfl) H said 0 1110 (by omega) (by omega) (by omega)) ?_
  intro v1 q6
  obtain ⟨q3, q4, q5⟩ := q6
  refine r_ifc (tgt := 27) (pc' := 11) D108_8 rfl rfl (by unfold inR; omega) (fun (c7 : v1 = 0) => ?_) (fun (c7 : ¬ (v1 = 0)) => ?_)
  · refine s_blx (lv' := [(0, vR 0), (1, vI sentence), (2, vI second), (3, vI said)]) (st' := [vI (-1)]) B108_27_28 rfl ?_
    exact r_iretI D108_28 rfl (⟨H, f0, by omega⟩)
  · refine s_blx (lv' := [(0, vR 0), (1, vI sentence), (2, vI second), (3, vI said)]) (st' := [vR 0, vI 0, vI second]) B108_11_14 rfl ?_
    refine r_gfix (r := 39) (pc' := 17) D108_14 rfl gf_10_61_0 H.1 ?_
    refine s_blx (lv' := [(0, vR 0), (1, vI sentence), (2, vI second), (3, vI said)]) (st' := [vI sentence, vR 39, vI 0, vI second]) B108_17_18 rfl ?_
    refine r_vIp (c := 39) (args := [vI sentence]) (rest := [vI 0, vI second]) (pc' := 21) D108_18 rfl ck_10_virtual_221 TE83 rfl (Nat.le_of_ble_eq_true rfl) ⟨Nat.le_of_ble_eq_true rfl, Nat.le_of_ble_eq_true rfl⟩ sc_39 ⟨rfl, by decide⟩ H.1 (dp_0 hd rfl) (k83_39k E (dp_n hd rfl) H sentence (by omega)) ?_
    intro v8 q12
    obtain ⟨q10, q11⟩ := q12
    refine r_sIp (args := [vI second, vI 0, vI v8]) (rest := []) (pc' := 24) D108_21 rfl ck_10_static_102 TE142 rfl (Nat.le_of_ble_eq_true rfl) ⟨Nat.le_of_ble_eq_true rfl, Nat.le_of_ble_eq_true rfl⟩ (by decide) (dp_0 hd rfl) (k142 E (dp_n hd rfl) H second 0 v8 (by omega) (by omega) (by omega)) ?_
    intro v13 q18
    obtain ⟨q15, q16, q17⟩ := q18
    refine r_ifc (tgt := 29) (pc' := 27) D108_24 rfl rfl (by unfold inR; omega) (fun (c19 : v13 ≠ 0) => ?_) (fun (c19 : ¬ (v13 ≠ 0)) => ?_)
    · refine s_blx (lv' := [(0, vR 0), (1, vI sentence), (2, vI second), (3, vI said)]) (st' := [vR 0]) B108_29_30 rfl ?_
      refine r_gfix (r := 55) (pc' := 33) D108_30 rfl gf_10_64_0 H.1 ?_
      refine s_blx (lv' := [(0, vR 0), (1, vI sentence), (2, vI second), (3, vI said)]) (st' := [vR 0, vR 55]) B108_33_34 rfl ?_
      refine r_gfix (r := 39) (pc' := 37) D108_34 rfl gf_10_61_0 H.1 ?_
      refine s_blx (lv' := [(0, vR 0), (1, vI sentence), (2, vI second), (3, vI said)]) (st' := [vI second, vI sentence, vR 39, vR 55]) B108_37_39 rfl ?_
      refine r_vIp (c := 39) (args := [vI sentence, vI second]) (rest := [vR 55]) (pc' := 42) D108_39 rfl ck_10_virtual_224 TE84 rfl (Nat.le_of_ble_eq_true rfl) ⟨Nat.le_of_ble_eq_true rfl, Nat.le_of_ble_eq_true rfl⟩ sc_39 ⟨rfl, by decide⟩ H.1 (dp_0 hd rfl) (k84_39k E (dp_n hd rfl) H sentence second n (h2) (by omega) (by omega) (by omega)) ?_
      intro v20 q24
      obtain ⟨q22, q23⟩ := q24
      refine s_blx (lv' := [(0, vR 0), (1, vI sentence), (2, vI second), (3, vI said)]) (st' := [vI said, vI v20, vR 55]) B108_42_43 rfl ?_
      refine r_vI (c := 55) (args := [vI v20, vI said]) (rest := []) (pc' := 46) D108_43 rfl ck_10_virtual_227 TE48 rfl (Nat.le_of_ble_eq_true rfl) ⟨Nat.le_of_ble_eq_true rfl, Nat.le_of_ble_eq_true rfl⟩ sc_55 ⟨rfl, by decide⟩ H.1 (dp_0 hd rfl) (k48_55x E (dp_n hd rfl) H v20 said n (h0) (h1) (by omega) (by omega) (by omega)) ?_
      intro v25 M26 q30
      obtain ⟨H27, f28, q29⟩ := q30
      have f31 := f0.tr (f28.up rfl)
      exact r_iretI D108_46 rfl (⟨H27, f31, by omega⟩)
    · refine s_blx (lv' := [(0, vR 0), (1, vI sentence), (2, vI second), (3, vI said)]) (st' := [vI (-1)]) B108_27_28 rfl ?_
      exact r_iretI D108_28 rfl (⟨H, f0, by omega⟩)
