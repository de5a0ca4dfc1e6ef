noncomputable def T109 : mT := (10, yX10_plan, cX10_plan, 7, (some .int))
set_option maxRecDepth 10000 in
theorem TE109 : sy_m[109]? = some T109 := rfl
theorem B109_0_4 : s_dk T109.2.2.1 0 [.iload_n 2, .iconst 0, .bipush 11] 4 = true := by decide +kernel
theorem D109_4 : decode T109.2.2.1 4 = .ok (.invokestatic 102, 3) := by decide +kernel
theorem D109_7 : decode T109.2.2.1 7 = .ok (.ifCond .eq 15, 3) := by decide +kernel
theorem B109_22_23 : s_dk T109.2.2.1 22 [.iconst (-1)] 23 = true := by decide +kernel
theorem D109_23 : decode T109.2.2.1 23 = .ok (.ireturn, 1) := by decide +kernel
theorem B109_10_11 : s_dk T109.2.2.1 10 [.aload_n 0] 11 = true := by decide +kernel
theorem D109_11 : decode T109.2.2.1 11 = .ok (.getfield 61, 3) := by decide +kernel
theorem B109_14_15 : s_dk T109.2.2.1 14 [.iload_n 1] 15 = true := by decide +kernel
theorem D109_15 : decode T109.2.2.1 15 = .ok (.invokevirtual 221, 3) := by decide +kernel
theorem B109_18_19 : s_dk T109.2.2.1 18 [.iconst 1] 19 = true := by decide +kernel
theorem D109_19 : decode T109.2.2.1 19 = .ok (.if_icmp .ge 5, 3) := by decide +kernel
theorem B109_24_29 : s_dk T109.2.2.1 24 [.iconst 0, .istore_n 3, .iconst 0, .istore 4] 29 = true := by decide +kernel
theorem B109_29_32 : s_dk T109.2.2.1 29 [.iload 4, .iload_n 2] 32 = true := by decide +kernel
theorem D109_32 : decode T109.2.2.1 32 = .ok (.if_icmp .gt 63, 3) := by decide +kernel
theorem B109_35_36 : s_dk T109.2.2.1 35 [.aload_n 0] 36 = true := by decide +kernel
theorem D109_36 : decode T109.2.2.1 36 = .ok (.getfield 61, 3) := by decide +kernel
theorem B109_39_42 : s_dk T109.2.2.1 39 [.iload_n 1, .iload 4] 42 = true := by decide +kernel
theorem D109_42 : decode T109.2.2.1 42 = .ok (.invokevirtual 224, 3) := by decide +kernel
theorem B109_45_48 : s_dk T109.2.2.1 45 [.istore 5, .aload_n 0] 48 = true := by decide +kernel
theorem D109_48 : decode T109.2.2.1 48 = .ok (.getfield 64, 3) := by decide +kernel
theorem B109_51_54 : s_dk T109.2.2.1 51 [.iload 5, .iload_n 3] 54 = true := by decide +kernel
theorem D109_54 : decode T109.2.2.1 54 = .ok (.invokevirtual 227, 3) := by decide +kernel
theorem B109_57_62 : s_dk T109.2.2.1 57 [.istore 6, .iload 4, .iload_n 2] 62 = true := by decide +kernel
theorem D109_62 : decode T109.2.2.1 62 = .ok (.if_icmp .ne 6, 3) := by decide +kernel
theorem B109_68_71 : s_dk T109.2.2.1 68 [.iload 6, .iconst 4] 71 = true := by decide +kernel
theorem D109_71 : decode T109.2.2.1 71 = .ok (.if_icmp .ne 5, 3) := by decide +kernel
theorem B109_76_77 : s_dk T109.2.2.1 76 [.aload_n 0] 77 = true := by decide +kernel
theorem D109_77 : decode T109.2.2.1 77 = .ok (.getfield 61, 3) := by decide +kernel
theorem B109_80_85 : s_dk T109.2.2.1 80 [.iload 5, .iload_n 3, .iload 6] 85 = true := by decide +kernel
theorem D109_85 : decode T109.2.2.1 85 = .ok (.invokevirtual 230, 3) := by decide +kernel
theorem ck_10_virtual_230 : m_call 10 (.invokevirtual 230) = some (0, 89, 3) := by decide +kernel
theorem B109_88_92 : s_dk T109.2.2.1 88 [.istore_n 3, .iinc 4 1] 92 = true := by decide +kernel
theorem D109_92 : decode T109.2.2.1 92 = .ok (.goto (-63), 3) := by decide +kernel
theorem B109_74_75 : s_dk T109.2.2.1 74 [.iconst (-1)] 75 = true := by decide +kernel
theorem D109_75 : decode T109.2.2.1 75 = .ok (.ireturn, 1) := by decide +kernel
theorem B109_65_67 : s_dk T109.2.2.1 65 [.iload 6] 67 = true := by decide +kernel
theorem D109_67 : decode T109.2.2.1 67 = .ok (.ireturn, 1) := by decide +kernel
theorem B109_95_96 : s_dk T109.2.2.1 95 [.iconst (-1)] 96 = true := by decide +kernel
theorem D109_96 : decode T109.2.2.1 96 = .ok (.ireturn, 1) := by decide +kernel
set_option maxRecDepth 4000 in
theorem L_k44y {base : Nat} {X : Nat → Option mC} {G : Nat → Value} (E : EnvOK base X G) {d : Nat} (hd : 0 ≤ d) {M : mH} (H : HI base M) (said : Int) (done : Int) (at_ : Int) (h0 : 0 ≤ done ∧ done ≤ 3 ∧ 0 ≤ said ∧ said ≤ 1110) (h1 : (done = 0 ∧ said = 0) ∨ (done = 1 ∧ 1 ≤ said ∧ said ≤ 10) ∨ (done = 2 ∧ 11 ≤ said ∧ said ≤ 110) ∨ (done = 3 ∧ 111 ≤ said ∧ said ≤ 1110)) (h2 : 0 ≤ at_ ∧ at_ ≤ 2) : ∀ mz : Nat, (∀ (x3 x4 : Int), (at_ < done) → (at_ ≤ x4 ∧ x4 ≤ done - 1) → (1 ≤ x3 ∧ x3 ≤ 1110) → (done - 1 - x4 = 0 → x3 = said) → (done - 1 - x4 = 1 → x3 = (said - 1) / 10) → (done - 1 - x4 = 2 → x3 = ((said - 1) / 10 - 1) / 10) → (0 ≤ x3) → (x3 ≤ 1110) → (0 ≤ x4) → (x4 ≤ 2) → (1 ≤ done) → (done ≤ 3) → (x4 + 0) * 1 + 0 < (mz : Int) → sRn base X G d T44 14 [(2, vI at_), (3, vI x3), (4, vI x4)] [] M (s_Q base (pI (fun v M' => M' = M ∧ (-1 ≤ v ∧ v ≤ 9) ∧ (done = 1 → at_ = 0 → v = said - 1) ∧ (done = 2 → at_ = 0 → v = (said - 11) / 10) ∧ (done = 2 → at_ = 1 → v = (said - 11) % 10) ∧ (done = 3 → at_ = 0 → v = (said - 111) / 100) ∧ (done = 3 → at_ = 1 → v = (said - 111) / 10 % 10) ∧ (done = 3 → at_ = 2 → v = (said - 111) % 10) ∧ (done ≤ at_ → v = -1))))) := by
  intro mz
  induction mz with
  | zero => exact fun x3 x4 z0 z1 z2 z3 z4 z5 z6 z7 z8 z9 z10 z11 z12 => by omega
  | succ mz ih =>
    intro x3 x4 i0 i1 i2 i3 i4 i5 i6 i7 i8 i9 i10 i11 hmu
    refine s_blx (lv' := [(2, vI at_), (3, vI x3), (4, vI x4)]) (st' := [vI at_, vI x4]) B44_14_17 rfl ?_
    refine r_icmp (tgt := 33) (pc' := 20) D44_17 rfl rfl (by unfold inR; omega) (fun (c2 : x4 ≤ at_) => ?_) (fun (c2 : ¬ (x4 ≤ at_)) => ?_)
    · refine s_blx (lv' := [(2, vI at_), (3, vI x3), (4, vI x4)]) (st' := [vI 10, vI (x3 - 1)]) B44_33_38 rfl ?_
      refine r_irem (pc' := 39) D44_38 rfl (by omega) ?_
      exact r_iretI D44_39 rfl (⟨rfl, by omega, by omega, by omega, by omega, by omega, by omega, by omega, by omega⟩)
    · refine s_blx (lv' := [(2, vI at_), (3, vI x3), (4, vI x4)]) (st' := [vI 10, vI (x3 - 1)]) B44_20_25 rfl ?_
      refine r_idiv (pc' := 26) D44_25 rfl (by omega) ?_
      refine s_blx (lv' := [(4, vI (x4 + (-1))), (3, vI ((x3 - 1) / 10)), (2, vI at_)]) (st' := []) B44_26_30 rfl ?_
      refine r_goto (tgt := 14) D44_30 rfl ?_
      refine r_loc (lv' := [(2, vI at_), (3, vI ((x3 - 1) / 10)), (4, vI (x4 + (-1)))]) ⟨rfl, rfl, rfl, trivial⟩ rfl rfl ?_
      exact ih ((x3 - 1) / 10) (x4 + (-1)) (by omega) (by omega) (by omega) (by omega) (by omega) (by omega) (by omega) (by omega) (by omega) (by omega) (by omega) (by omega) (by omega)
set_option maxRecDepth 4000 in
theorem k44y {base : Nat} {X : Nat → Option mC} {G : Nat → Value} (E : EnvOK base X G) {d : Nat} (hd : 0 ≤ d) {M : mH} (H : HI base M) (said : Int) (done : Int) (at_ : Int) (h0 : 0 ≤ done ∧ done ≤ 3 ∧ 0 ≤ said ∧ said ≤ 1110) (h1 : (done = 0 ∧ said = 0) ∨ (done = 1 ∧ 1 ≤ said ∧ said ≤ 10) ∨ (done = 2 ∧ 11 ≤ said ∧ said ≤ 110) ∨ (done = 3 ∧ 111 ≤ said ∧ said ≤ 1110)) (h2 : 0 ≤ at_ ∧ at_ ≤ 2) : sOk base X G d T44 [vI said, vI done, vI at_] M (pI (fun v M' => M' = M ∧ (-1 ≤ v ∧ v ≤ 9) ∧ (done = 1 → at_ = 0 → v = said - 1) ∧ (done = 2 → at_ = 0 → v = (said - 11) / 10) ∧ (done = 2 → at_ = 1 → v = (said - 11) % 10) ∧ (done = 3 → at_ = 0 → v = (said - 111) / 100) ∧ (done = 3 → at_ = 1 → v = (said - 111) / 10 % 10) ∧ (done = 3 → at_ = 2 → v = (said - 111) % 10) ∧ (done ≤ at_ → v = -1))) := by
  refine sOk.of (show sRn base X G d T44 0 [(0, vI said), (1, vI done), (2, vI at_)] [] M _ from ?_)
  refine s_blx (lv' := [(0, vI said), (1, vI done), (2, vI at_)]) (st' := [vI done, vI at_]) B44_0_2 rfl ?_
  refine r_icmp (tgt := 7) (pc' := 5) D44_2 rfl rfl (by unfold inR; omega) (fun (c1 : at_ < done) => ?_) (fun (c1 : ¬ (at_ < done)) => ?_)
  · refine s_blx (lv' := [(4, vI (done - 1)), (3, vI said), (0, vI said), (1, vI done), (2, vI at_)]) (st' := []) B44_7_14 rfl ?_
    refine r_loc (lv' := [(2, vI at_), (3, vI said), (4, vI (done - 1))]) ⟨rfl, rfl, rfl, trivial⟩ rfl rfl ?_
    exact (L_k44y E hd H said done at_ h0 h1 h2 ((((done - 1) + 0) * 1 + 0 : Int) + 1).toNat) said (done - 1) (by omega) (by omega) (by omega) (by omega) (by omega) (by omega) (by omega) (by omega) (by omega) (by omega) (by omega) (by omega) (by omega)
  · refine s_blx (lv' := [(0, vI said), (1, vI done), (2, vI at_)]) (st' := [vI (-1)]) B44_5_6 rfl ?_
    exact r_iretI D44_6 rfl (⟨rfl, by omega, by omega, by omega, by omega, by omega, by omega, by omega, by omega⟩)
set_option maxRecDepth 4000 in
theorem L_k45y {base : Nat} {X : Nat → Option mC} {G : Nat → Value} (E : EnvOK base X G) {d : Nat} (hd : 1 ≤ d) {M : mH} (H : HI base M) (said : Int) (done : Int) (at_ : Int) (digit : Int) (h0 : 0 ≤ done ∧ done ≤ 3 ∧ 0 ≤ said ∧ said ≤ 1110) (h1 : (done = 0 ∧ said = 0) ∨ (done = 1 ∧ 1 ≤ said ∧ said ≤ 10) ∨ (done = 2 ∧ 11 ≤ said ∧ said ≤ 110) ∨ (done = 3 ∧ 111 ≤ said ∧ said ≤ 1110)) (h2 : 0 ≤ at_ ∧ at_ ≤ 2) (h3 : -1 ≤ digit ∧ digit ≤ 7) : ∀ mz : Nat, (∀ (x4 x5 dg : Int), ((at_ ≤ x5 ∧ x5 ≤ done - 1) ∨ (x5 = done - 1 ∧ done ≤ at_)) → (-1 ≤ x5 ∧ x5 ≤ 2) → (-1 ≤ dg ∧ dg ≤ 9) → (done ≤ at_ → dg = -1) → (done - 1 - x5 = 0 → x4 = digit - dg) → (done - 1 - x5 = 1 → x4 = 10 * (digit - dg)) → (done - 1 - x5 = 2 → x4 = 100 * (digit - dg)) → (-1000 ≤ x4 ∧ x4 ≤ 1000) → (DGk said done at_ dg) → ((-10000) ≤ x4) → (x4 ≤ 10000) → ((-1) ≤ x5) → (x5 ≤ 2) → (x5 + 1) * 1 + 0 < (mz : Int) → sRn base X G d T45 15 [(0, vI said), (2, vI at_), (4, vI x4), (5, vI x5)] [] M (s_Q base (pI (fun v M' => M' = M ∧ (0 ≤ v ∧ v ≤ 1110))))) := by
  intro mz
  induction mz with
  | zero => exact fun x4 x5 dg z0 z1 z2 z3 z4 z5 z6 z7 z8 z9 z10 z11 z12 z13 => by omega
  | succ mz ih =>
    intro x4 x5 dg i0 i1 i2 i3 i4 i5 i6 i7 i8 i9 i10 i11 i12 hmu
    refine s_blx (lv' := [(0, vI said), (2, vI at_), (4, vI x4), (5, vI x5)]) (st' := [vI at_, vI x5]) B45_15_18 rfl ?_
    refine r_icmp (tgt := 34) (pc' := 21) D45_18 rfl rfl (by unfold inR; omega) (fun (c12 : x5 ≤ at_) => ?_) (fun (c12 : ¬ (x5 ≤ at_)) => ?_)
    · refine s_blx (lv' := [(0, vI said), (2, vI at_), (4, vI x4), (5, vI x5)]) (st' := [vI (said + x4)]) B45_34_38 rfl ?_
      exact r_iretI D45_38 rfl (⟨rfl, chg h1 h2 h3 i0 (by assumption) i3 i4 i5 i6 i8.1 i8.2.1 i8.2.2.1 i8.2.2.2.1 i8.2.2.2.2.1 i8.2.2.2.2.2⟩)
    · refine s_blx (lv' := [(5, vI (x5 + (-1))), (4, vI (x4 * 10)), (0, vI said), (2, vI at_)]) (st' := []) B45_21_31 rfl ?_
      refine r_goto (tgt := 15) D45_31 rfl ?_
      refine r_loc (lv' := [(0, vI said), (2, vI at_), (4, vI (x4 * 10)), (5, vI (x5 + (-1)))]) ⟨rfl, rfl, rfl, rfl, trivial⟩ rfl rfl ?_
      exact ih (x4 * 10) (x5 + (-1)) dg (by omega) (by omega) (i2) (i3) (by omega) (by omega) (by omega) (by omega) (i8) (by omega) (by omega) (by omega) (by omega) (by omega)
set_option maxRecDepth 4000 in
theorem k45y {base : Nat} {X : Nat → Option mC} {G : Nat → Value} (E : EnvOK base X G) {d : Nat} (hd : 1 ≤ d) {M : mH} (H : HI base M) (said : Int) (done : Int) (at_ : Int) (digit : Int) (h0 : 0 ≤ done ∧ done ≤ 3 ∧ 0 ≤ said ∧ said ≤ 1110) (h1 : (done = 0 ∧ said = 0) ∨ (done = 1 ∧ 1 ≤ said ∧ said ≤ 10) ∨ (done = 2 ∧ 11 ≤ said ∧ said ≤ 110) ∨ (done = 3 ∧ 111 ≤ said ∧ said ≤ 1110)) (h2 : 0 ≤ at_ ∧ at_ ≤ 2) (h3 : -1 ≤ digit ∧ digit ≤ 7) : sOk base X G d T45 [vI said, vI done, vI at_, vI digit] M (pI (fun v M' => M' = M ∧ (0 ≤ v ∧ v ≤ 1110))) := by
  refine sOk.of (show sRn base X G d T45 0 [(0, vI said), (1, vI done), (2, vI at_), (3, vI digit)] [] M _ from ?_)
  refine s_blx (lv' := [(0, vI said), (1, vI done), (2, vI at_), (3, vI digit)]) (st' := [vI at_, vI done, vI said, vI digit]) B45_0_4 rfl ?_
  refine r_sIp (args := [vI said, vI done, vI at_]) (rest := [vI digit]) (pc' := 7) D45_4 rfl ck_6_static_9 TE44 rfl (Nat.le_of_ble_eq_true rfl) ⟨Nat.le_of_ble_eq_true rfl, Nat.le_of_ble_eq_true rfl⟩ (by decide) (dp_0 hd rfl) (k44y E (dp_n hd rfl) H said done at_ (by omega) (by omega) (by omega)) ?_
  intro v1 q11
  obtain ⟨q3, q4, q5, q6, q7, q8, q9, q10⟩ := q11
  have kdg : DGk said done at_ v1 := ⟨q4, q5, q6, q7, q8, q9⟩
  clear q4 q5 q6 q7 q8 q9
  refine s_blx (lv' := [(5, vI (done - 1)), (4, vI (digit - v1)), (0, vI said), (1, vI done), (2, vI at_), (3, vI digit)]) (st' := []) B45_7_15 rfl ?_
  refine r_loc (lv' := [(0, vI said), (2, vI at_), (4, vI (digit - v1)), (5, vI (done - 1))]) ⟨rfl, rfl, rfl, rfl, trivial⟩ rfl rfl ?_
  exact (L_k45y E hd H said done at_ digit h0 h1 h2 h3 ((((done - 1) + 1) * 1 + 0 : Int) + 1).toNat) (digit - v1) (done - 1) v1 (by omega) (by omega) (by omega) (by omega) (by omega) (by omega) (by omega) (by omega) (kdg) (by omega) (by omega) (by omega) (by omega) (by omega)
set_option maxRecDepth 4000 in
theorem k88_39l {base : Nat} {X : Nat → Option mC} {G : Nat → Value} (E : EnvOK base X G) {d : Nat} (hd : 2 ≤ d) {M : mH} (H : HI base M) (place : Int) (said : Int) (slot : Int) (h0 : 0 ≤ place ∧ place ≤ 144) (h1 : 0 ≤ said ∧ said ≤ 1110) (h2 : 0 ≤ slot ∧ slot ≤ 2) : sOk base X G d T88 [vR 39, vI place, vI said, vI slot] M (pI (fun v M' => M' = M ∧ (0 ≤ v ∧ v ≤ 1110))) := by
  refine sOk.of (show sRn base X G d T88 0 [(0, vR 39), (1, vI place), (2, vI said), (3, vI slot)] [] M _ from ?_)
  refine s_blx (lv' := [(0, vR 39), (1, vI place), (2, vI said), (3, vI slot)]) (st' := [vI said, vI said]) B88_0_2 rfl ?_
  refine r_sIp (args := [vI said]) (rest := [vI said]) (pc' := 5) D88_2 rfl ck_9_static_143 TE42 rfl (Nat.le_of_ble_eq_true rfl) ⟨Nat.le_of_ble_eq_true rfl, Nat.le_of_ble_eq_true rfl⟩ (by decide) (dp_0 hd rfl) (k42 E (dp_n hd rfl) H said (by omega)) ?_
  intro v1 q8
  obtain ⟨q3, q4, q5, q6, q7⟩ := q8
  obtain ⟨u9, f10, g11, g12, h13, k14⟩ := E.1 6 _ rfl
  refine r_gst (pc' := 8) D88_5 rfl st_9_148 g11 ?_
  refine s_blx (lv' := [(0, vR 39), (1, vI place), (2, vI said), (3, vI slot)]) (st' := [vR 39, vA u9, vI v1, vI said]) B88_8_9 rfl ?_
  refine r_gint (ki := 16) (pc' := 12) D88_9 rfl gf_9_62_39 rfl H.1 ?_
  intro w15 e16 r17
  have b_w15 := H.2 39 (16) 0 5 rfl
  rw [← e16] at b_w15; clear r17
  refine s_blx (lv' := [(0, vR 39), (1, vI place), (2, vI said), (3, vI slot)]) (st' := [vI ((w15 * 3) + slot), vA u9, vI v1, vI said]) B88_12_16 rfl ?_
  refine r_ialdT (pc' := 17) D88_16 rfl h13 g12 k14 (by first | omega | (show _ ∧ _ ∧ _; simp only [List.length]; omega)) ?_
  intro w18 e19 r20
  have b_w18 := tb_6 ((w15 * 3) + slot).toNat (by omega)
  rw [← e19] at b_w18; clear r20
  refine s_blx (lv' := [(0, vR 39), (1, vI place), (2, vI said), (3, vI slot)]) (st' := [vR 39, vI w18, vI v1, vI said]) B88_17_18 rfl ?_
  refine r_gfix (r := 47) (pc' := 21) D88_18 rfl gf_9_34_39 H.1 ?_
  refine s_blx (lv' := [(0, vR 39), (1, vI place), (2, vI said), (3, vI slot)]) (st' := [vI ((place * 3) + slot), vR 47, vI w18, vI v1, vI said]) B88_21_26 rfl ?_
  refine r_iald (pc' := 27) D88_26 rfl sc_47 H.1 (by omega) ?_
  intro w21 e22 r23
  have b_w21 := H.2 47 ((place * 3) + slot) (-1) 7 rfl
  rw [← e22] at b_w21; clear r23
  refine r_sIp (args := [vI said, vI v1, vI w18, vI w21]) (rest := []) (pc' := 30) D88_27 rfl ck_9_static_161 TE45 rfl (Nat.le_of_ble_eq_true rfl) ⟨Nat.le_of_ble_eq_true rfl, Nat.le_of_ble_eq_true rfl⟩ (by decide) (dp_0 hd rfl) (k45y E (dp_n hd rfl) H said v1 w18 w21 (by omega) (by omega) (by omega) (by omega)) ?_
  intro v24 q27
  have q26 := q27; clear q27
  exact r_iretI D88_30 rfl (⟨rfl, by omega⟩)
set_option maxRecDepth 4000 in
theorem k89_39l {base : Nat} {X : Nat → Option mC} {G : Nat → Value} (E : EnvOK base X G) {d : Nat} (hd : 3 ≤ d) {M : mH} (H : HI base M) (place : Int) (said : Int) (move : Int) (h0 : 0 ≤ place ∧ place ≤ 144) (h1 : 0 ≤ said ∧ said ≤ 1110) (h2 : 0 ≤ move ∧ move ≤ 31) (h3 : (move = 0 ∨ move = 4 ∨ (20 ≤ move ∧ move ≤ 22)) ∨ (said ≤ 110 ∧ 1 ≤ move ∧ move ≤ 17)) : sOk base X G d T89 [vR 39, vI place, vI said, vI move] M (pI (fun v M' => M' = M ∧ (0 ≤ v ∧ v ≤ 1110))) := by
  refine sOk.of (show sRn base X G d T89 0 [(0, vR 39), (1, vI place), (2, vI said), (3, vI move)] [] M _ from ?_)
  refine s_blx (lv' := [(0, vR 39), (1, vI place), (2, vI said), (3, vI move)]) (st' := [vI 20, vI move]) B89_0_3 rfl ?_
  refine r_icmp (tgt := 17) (pc' := 6) D89_3 rfl rfl (by unfold inR; omega) (fun (c1 : move < 20) => ?_) (fun (c1 : ¬ (move < 20)) => ?_)
  · refine s_blx (lv' := [(0, vR 39), (1, vI place), (2, vI said), (3, vI move)]) (st' := [vI 10, vI move]) B89_17_20 rfl ?_
    refine r_icmp (tgt := 32) (pc' := 23) D89_20 rfl rfl (by unfold inR; omega) (fun (c2 : move < 10) => ?_) (fun (c2 : ¬ (move < 10)) => ?_)
    · refine s_blx (lv' := [(0, vR 39), (1, vI place), (2, vI said), (3, vI move)]) (st' := [vI move]) B89_32_33 rfl ?_
      refine r_tsw (tgt := fun k => if k = 1 then 60 else if k = 2 then 79 else if k = 3 then 86 else 0) (td := 93) D89_33 (by unfold inR; omega) ?_ rfl ?_ ?_
      · intro k h1 h2
        have hk : k = 1 ∨ k = 2 ∨ k = 3 := by omega
        rcases hk with rfl | rfl | rfl <;> exact ⟨_, rfl, rfl⟩
      · intro k h1 h2 c3
        have hk : k = 1 ∨ k = 2 ∨ k = 3 := by omega
        clear h1 h2
        rcases hk with rfl | rfl | rfl
        · show sRn _ _ _ _ _ 60 _ _ _ _
          refine s_blx (lv' := [(0, vR 39), (1, vI place), (2, vI said), (3, vI move)]) (st' := [vR 39, vI said]) B89_60_62 rfl ?_
          refine r_gfix (r := 47) (pc' := 65) D89_62 rfl gf_9_34_39 H.1 ?_
          refine s_blx (lv' := [(0, vR 39), (1, vI place), (2, vI said), (3, vI move)]) (st' := [vI said, vI place, vR 39, vR 47, vI said]) B89_65_68 rfl ?_
          refine r_sIp (args := [vI said]) (rest := [vI place, vR 39, vR 47, vI said]) (pc' := 71) D89_68 rfl ck_9_static_143 TE42 rfl (Nat.le_of_ble_eq_true rfl) ⟨Nat.le_of_ble_eq_true rfl, Nat.le_of_ble_eq_true rfl⟩ (by decide) (dp_0 hd rfl) (k42 E (dp_n hd rfl) H said (by omega)) ?_
          intro v4 q11
          obtain ⟨q6, q7, q8, q9, q10⟩ := q11
          refine r_vIp (c := 39) (args := [vI place, vI v4]) (rest := [vR 47, vI said]) (pc' := 74) D89_71 rfl ck_9_virtual_171 TE85 rfl (Nat.le_of_ble_eq_true rfl) ⟨Nat.le_of_ble_eq_true rfl, Nat.le_of_ble_eq_true rfl⟩ sc_39 ⟨rfl, by decide⟩ H.1 (dp_0 hd rfl) (k85_39 E (dp_n hd rfl) H place v4 (by omega) (by omega)) ?_
          intro v12 q15
          have q14 := q15; clear q15
          refine r_iald (pc' := 75) D89_74 rfl sc_47 H.1 (by omega) ?_
          intro w16 e17 r18
          have b_w16 := H.2 47 (v12) (-1) 7 rfl
          rw [← e17] at b_w16; clear r18
          refine r_sIp (args := [vI said, vI w16]) (rest := []) (pc' := 78) D89_75 rfl ck_9_static_168 TE43 rfl (Nat.le_of_ble_eq_true rfl) ⟨Nat.le_of_ble_eq_true rfl, Nat.le_of_ble_eq_true rfl⟩ (by decide) (dp_0 hd rfl) (k43 E (dp_n hd rfl) H said w16 (by omega) (by omega)) ?_
          intro v19 q22
          have q21 := q22; clear q22
          exact r_iretI D89_78 rfl (⟨rfl, by omega⟩)
        · show sRn _ _ _ _ _ 79 _ _ _ _
          refine s_blx (lv' := [(0, vR 39), (1, vI place), (2, vI said), (3, vI move)]) (st' := [vI 8, vI said]) B89_79_82 rfl ?_
          refine r_sIp (args := [vI said, vI 8]) (rest := []) (pc' := 85) D89_82 rfl ck_9_static_168 TE43 rfl (Nat.le_of_ble_eq_true rfl) ⟨Nat.le_of_ble_eq_true rfl, Nat.le_of_ble_eq_true rfl⟩ (by decide) (dp_0 hd rfl) (k43 E (dp_n hd rfl) H said 8 (by omega) (by omega)) ?_
          intro v23 q26
          have q25 := q26; clear q26
          exact r_iretI D89_85 rfl (⟨rfl, by omega⟩)
        · show sRn _ _ _ _ _ 86 _ _ _ _
          refine s_blx (lv' := [(0, vR 39), (1, vI place), (2, vI said), (3, vI move)]) (st' := [vI 9, vI said]) B89_86_89 rfl ?_
          refine r_sIp (args := [vI said, vI 9]) (rest := []) (pc' := 92) D89_89 rfl ck_9_static_168 TE43 rfl (Nat.le_of_ble_eq_true rfl) ⟨Nat.le_of_ble_eq_true rfl, Nat.le_of_ble_eq_true rfl⟩ (by decide) (dp_0 hd rfl) (k43 E (dp_n hd rfl) H said 9 (by omega) (by omega)) ?_
          intro v27 q30
          have q29 := q30; clear q30
          exact r_iretI D89_92 rfl (⟨rfl, by omega⟩)
      · intro c3
        refine s_blx (lv' := [(0, vR 39), (1, vI place), (2, vI said), (3, vI move)]) (st' := [vI said]) B89_93_94 rfl ?_
        exact r_iretI D89_94 rfl (⟨rfl, by omega⟩)
    · refine s_blx (lv' := [(0, vR 39), (1, vI place), (2, vI said), (3, vI move)]) (st' := [vI (move - 10), vI said]) B89_23_28 rfl ?_
      refine r_sIp (args := [vI said, vI (move - 10)]) (rest := []) (pc' := 31) D89_28 rfl ck_9_static_168 TE43 rfl (Nat.le_of_ble_eq_true rfl) ⟨Nat.le_of_ble_eq_true rfl, Nat.le_of_ble_eq_true rfl⟩ (by decide) (dp_0 hd rfl) (k43 E (dp_n hd rfl) H said (move - 10) (by omega) (by omega)) ?_
      intro v31 q34
      have q33 := q34; clear q34
      exact r_iretI D89_31 rfl (⟨rfl, by omega⟩)
  · refine s_blx (lv' := [(0, vR 39), (1, vI place), (2, vI said), (3, vI move)]) (st' := [vI (move - 20), vI said, vI place, vR 39]) B89_6_13 rfl ?_
    refine r_vIp (c := 39) (args := [vI place, vI said, vI (move - 20)]) (rest := []) (pc' := 16) D89_13 rfl ck_9_virtual_165 TE88 rfl (Nat.le_of_ble_eq_true rfl) ⟨Nat.le_of_ble_eq_true rfl, Nat.le_of_ble_eq_true rfl⟩ sc_39 ⟨rfl, by decide⟩ H.1 (dp_0 hd rfl) (k88_39l E (dp_n hd rfl) H place said (move - 20) (by omega) (by omega) (by omega)) ?_
    intro v35 q38
    have q37 := q38; clear q38
    exact r_iretI D89_16 rfl (⟨rfl, by omega⟩)
set_option maxRecDepth 4000 in
theorem L_k109k {base : Nat} {X : Nat → Option mC} {G : Nat → Value} (E : EnvOK base X G) {d : Nat} (hd : 178 ≤ d) {M : mH} (H : HI base M) (sentence : Int) (second : Int) (n : Int) (h0 : RW base 56 n M) (h1 : TR 40 n M) (h2 : GT 51 n M) (h3 : 0 ≤ n ∧ n ≤ 145) (h4 : -2147483648 ≤ sentence ∧ sentence ≤ 2147483647) (h5 : -2147483648 ≤ second ∧ second ≤ 2147483647) : ∀ mz : Nat, (∀ (x3 x4 : Int) (N : mH), HI base N → Fq [(57, 0)] M N → (RW base 56 n N) → (TR 40 n N) → (GT 51 n N) → (0 ≤ x3 ∧ x3 ≤ 1110) → (1 ≤ gi N 52 sentence) → (0 ≤ sentence ∧ sentence ≤ 15) → (0 ≤ second ∧ second ≤ 11) → (0 ≤ x4 ∧ x4 ≤ 12) → (0 ≤ x3) → (x3 ≤ 1110) → (0 ≤ x4) → (x4 ≤ 12) → (0 ≤ second) → (second ≤ 11) → (12 - x4) * 1 + 0 < (mz : Int) → sRn base X G d T109 29 [(0, vR 0), (1, vI sentence), (2, vI second), (3, vI x3), (4, vI x4)] [] N (s_Q base (pI (fun v M' => HI base M' ∧ Fq [(57, 0)] M M' ∧ (-2147483648 ≤ v ∧ v ≤ 2147483647))))) := by
  have f0 : Fq [(57, 0)] M M := Fq.rf
  intro mz
  induction mz with
  | zero => exact fun x3 x4 N _ _ z0 z1 z2 z3 z4 z5 z6 z7 z8 z9 z10 z11 z12 z13 z14 => by omega
  | succ mz ih =>
    intro x3 x4 N HN fN i0 i1 i2 i3 i4 i5 i6 i7 i8 i9 i10 i11 i12 i13 hmu
    refine s_blx (lv' := [(0, vR 0), (1, vI sentence), (2, vI second), (3, vI x3), (4, vI x4)]) (st' := [vI second, vI x4]) B109_29_32 rfl ?_
    refine r_icmp (tgt := 95) (pc' := 35) D109_32 rfl rfl (by unfold inR; omega) (fun (c15 : second < x4) => ?_) (fun (c15 : ¬ (second < x4)) => ?_)
    · refine s_blx (lv' := [(0, vR 0), (1, vI sentence), (2, vI second), (3, vI x3), (4, vI x4)]) (st' := [vI (-1)]) B109_95_96 rfl ?_
      exact r_iretI D109_96 rfl (⟨HN, fN, by omega⟩)
    · refine s_blx (lv' := [(0, vR 0), (1, vI sentence), (2, vI second), (3, vI x3), (4, vI x4)]) (st' := [vR 0]) B109_35_36 rfl ?_
      refine r_gfix (r := 39) (pc' := 39) D109_36 rfl gf_10_61_0 HN.1 ?_
      refine s_blx (lv' := [(0, vR 0), (1, vI sentence), (2, vI second), (3, vI x3), (4, vI x4)]) (st' := [vI x4, vI sentence, vR 39]) B109_39_42 rfl ?_
      refine r_vIp (c := 39) (args := [vI sentence, vI x4]) (rest := []) (pc' := 45) D109_42 rfl ck_10_virtual_224 TE84 rfl (Nat.le_of_ble_eq_true rfl) ⟨Nat.le_of_ble_eq_true rfl, Nat.le_of_ble_eq_true rfl⟩ sc_39 ⟨rfl, by decide⟩ HN.1 (dp_0 hd rfl) (k84_39k E (dp_n hd rfl) HN sentence x4 n (i2) (by omega) (by omega) (by omega)) ?_
      intro v16 q20
      obtain ⟨q18, q19⟩ := q20
      refine s_blx (lv' := [(5, vI v16), (0, vR 0), (1, vI sentence), (2, vI second), (3, vI x3), (4, vI x4)]) (st' := [vR 0]) B109_45_48 rfl ?_
      refine r_gfix (r := 55) (pc' := 51) D109_48 rfl gf_10_64_0 HN.1 ?_
      refine s_blx (lv' := [(5, vI v16), (0, vR 0), (1, vI sentence), (2, vI second), (3, vI x3), (4, vI x4)]) (st' := [vI x3, vI v16, vR 55]) B109_51_54 rfl ?_
      refine r_vI (c := 55) (args := [vI v16, vI x3]) (rest := []) (pc' := 57) D109_54 rfl ck_10_virtual_227 TE48 rfl (Nat.le_of_ble_eq_true rfl) ⟨Nat.le_of_ble_eq_true rfl, Nat.le_of_ble_eq_true rfl⟩ sc_55 ⟨rfl, by decide⟩ HN.1 (dp_0 hd rfl) (k48_55l E (dp_n hd rfl) HN v16 x3 n (i0) (i1) (by omega) (by omega) (by omega)) ?_
      intro v21 M22 q27
      obtain ⟨H23, f24, q25, q26⟩ := q27
      have f28 := fN.tr (f24.up rfl)
      have hp29 := i0.fq f24 (by decide)
      have hp30 := i1.fq f24 (by decide)
      have hp31 := i2.fq f24 (by decide)
      refine s_blx (lv' := [(6, vI v21), (5, vI v16), (0, vR 0), (1, vI sentence), (2, vI second), (3, vI x3), (4, vI x4)]) (st' := [vI second, vI x4]) B109_57_62 rfl ?_
      refine r_icmp (tgt := 68) (pc' := 65) D109_62 rfl rfl (by unfold inR; omega) (fun (c32 : x4 ≠ second) => ?_) (fun (c32 : ¬ (x4 ≠ second)) => ?_)
      · refine s_blx (lv' := [(6, vI v21), (5, vI v16), (0, vR 0), (1, vI sentence), (2, vI second), (3, vI x3), (4, vI x4)]) (st' := [vI 4, vI v21]) B109_68_71 rfl ?_
        refine r_icmp (tgt := 76) (pc' := 74) D109_71 rfl rfl (by unfold inR; omega) (fun (c33 : v21 ≠ 4) => ?_) (fun (c33 : ¬ (v21 ≠ 4)) => ?_)
        · refine s_blx (lv' := [(6, vI v21), (5, vI v16), (0, vR 0), (1, vI sentence), (2, vI second), (3, vI x3), (4, vI x4)]) (st' := [vR 0]) B109_76_77 rfl ?_
          refine r_gfix (r := 39) (pc' := 80) D109_77 rfl gf_10_61_0 H23.1 ?_
          refine s_blx (lv' := [(6, vI v21), (5, vI v16), (0, vR 0), (1, vI sentence), (2, vI second), (3, vI x3), (4, vI x4)]) (st' := [vI v21, vI x3, vI v16, vR 39]) B109_80_85 rfl ?_
          refine r_vIp (c := 39) (args := [vI v16, vI x3, vI v21]) (rest := []) (pc' := 88) D109_85 rfl ck_10_virtual_230 TE89 rfl (Nat.le_of_ble_eq_true rfl) ⟨Nat.le_of_ble_eq_true rfl, Nat.le_of_ble_eq_true rfl⟩ sc_39 ⟨rfl, by decide⟩ H23.1 (dp_0 hd rfl) (k89_39l E (dp_n hd rfl) H23 v16 x3 v21 (by omega) (by omega) (by omega) (by omega)) ?_
          intro v34 q37
          have q36 := q37; clear q37
          refine s_blx (lv' := [(4, vI (x4 + 1)), (3, vI v34), (6, vI v21), (5, vI v16), (0, vR 0), (1, vI sentence), (2, vI second)]) (st' := []) B109_88_92 rfl ?_
          refine r_goto (tgt := 29) D109_92 rfl ?_
          refine r_loc (lv' := [(0, vR 0), (1, vI sentence), (2, vI second), (3, vI v34), (4, vI (x4 + 1))]) ⟨rfl, rfl, rfl, rfl, rfl, trivial⟩ rfl rfl ?_
          have g38 : gi M22 52 sentence = gi N 52 sentence := (f24.g rfl).trans (rfl)
          exact ih v34 (x4 + 1) M22 H23 f28 (hp29) (hp30) (hp31) (by omega) (by omega) (by omega) (by omega) (by omega) (by omega) (by omega) (by omega) (by omega) (by omega) (by omega) (by omega)
        · refine s_blx (lv' := [(6, vI v21), (5, vI v16), (0, vR 0), (1, vI sentence), (2, vI second), (3, vI x3), (4, vI x4)]) (st' := [vI (-1)]) B109_74_75 rfl ?_
          exact r_iretI D109_75 rfl (⟨H23, f28, by omega⟩)
      · refine s_blx (lv' := [(6, vI v21), (5, vI v16), (0, vR 0), (1, vI sentence), (2, vI second), (3, vI x3), (4, vI x4)]) (st' := [vI v21]) B109_65_67 rfl ?_
        exact r_iretI D109_67 rfl (⟨H23, f28, by omega⟩)
set_option maxRecDepth 4000 in
theorem k109k {base : Nat} {X : Nat → Option mC} {G : Nat → Value} (E : EnvOK base X G) {d : Nat} (hd : 178 ≤ d) {M : mH} (H : HI base M) (sentence : Int) (second : Int) (n : Int) (h0 : RW base 56 n M) (h1 : TR 40 n M) (h2 : GT 51 n M) (h3 : 0 ≤ n ∧ n ≤ 145) (h4 : -2147483648 ≤ sentence ∧ sentence ≤ 2147483647) (h5 : -2147483648 ≤ second ∧ second ≤ 2147483647) : sOk base X G d T109 [vR 0, vI sentence, vI second] M (pI (fun v M' => HI base M' ∧ Fq [(57, 0)] M M' ∧ (-2147483648 ≤ v ∧ v ≤ 2147483647))) := by
  have f0 : Fq [(57, 0)] M M := Fq.rf
  refine sOk.of (show sRn base X G d T109 0 [(0, vR 0), (1, vI sentence), (2, vI second)] [] M _ from ?_)
  refine s_blx (lv' := [(0, vR 0), (1, vI sentence), (2, vI second)]) (st' := [vI 11, vI 0, vI second]) B109_0_4 rfl ?_
  refine r_sIp (args := [vI second, vI 0, vI 11]) (rest := []) (pc' := 7) D109_4 rfl ck_10_static_102 TE142 rfl (Nat.le_of_ble_eq_true rfl) ⟨Nat.le_of_ble_eq_true rfl, Nat.le_of_ble_eq_true rfl⟩ (by decide) (dp_0 hd rfl) (k142 E (dp_n hd rfl) H second 0 11 (by omega) (by omega) (by omega)) ?_
  intro v1 q6
  obtain ⟨q3, q4, q5⟩ := q6
  refine r_ifc (tgt := 22) (pc' := 10) D109_7 rfl rfl (by unfold inR; omega) (fun (c7 : v1 = 0) => ?_) (fun (c7 : ¬ (v1 = 0)) => ?_)
  · refine s_blx (lv' := [(0, vR 0), (1, vI sentence), (2, vI second)]) (st' := [vI (-1)]) B109_22_23 rfl ?_
    exact r_iretI D109_23 rfl (⟨H, f0, by omega⟩)
  · refine s_blx (lv' := [(0, vR 0), (1, vI sentence), (2, vI second)]) (st' := [vR 0]) B109_10_11 rfl ?_
    refine r_gfix (r := 39) (pc' := 14) D109_11 rfl gf_10_61_0 H.1 ?_
    refine s_blx (lv' := [(0, vR 0), (1, vI sentence), (2, vI second)]) (st' := [vI sentence, vR 39]) B109_14_15 rfl ?_
    refine r_vIp (c := 39) (args := [vI sentence]) (rest := []) (pc' := 18) D109_15 rfl ck_10_virtual_221 TE83 rfl (Nat.le_of_ble_eq_true rfl) ⟨Nat.le_of_ble_eq_true rfl, Nat.le_of_ble_eq_true rfl⟩ sc_39 ⟨rfl, by decide⟩ H.1 (dp_0 hd rfl) (k83_39k E (dp_n hd rfl) H sentence (by omega)) ?_
    intro v8 q12
    obtain ⟨q10, q11⟩ := q12
    refine s_blx (lv' := [(0, vR 0), (1, vI sentence), (2, vI second)]) (st' := [vI 1, vI v8]) B109_18_19 rfl ?_
    refine r_icmp (tgt := 24) (pc' := 22) D109_19 rfl rfl (by unfold inR; omega) (fun (c13 : 1 ≤ v8) => ?_) (fun (c13 : ¬ (1 ≤ v8)) => ?_)
    · refine s_blx (lv' := [(4, vI 0), (3, vI 0), (0, vR 0), (1, vI sentence), (2, vI second)]) (st' := []) B109_24_29 rfl ?_
      refine r_loc (lv' := [(0, vR 0), (1, vI sentence), (2, vI second), (3, vI 0), (4, vI 0)]) ⟨rfl, rfl, rfl, rfl, rfl, trivial⟩ rfl rfl ?_
      have g14 : gi M 52 sentence = gi M 52 sentence := rfl
      exact (L_k109k E hd H sentence second n h0 h1 h2 h3 h4 h5 (((12 - 0) * 1 + 0 : Int) + 1).toNat) 0 0 M H f0 (h0) (h1) (h2) (by omega) (by omega) (by omega) (by omega) (by omega) (by omega) (by omega) (by omega) (by omega) (by omega) (by omega) (by omega)
    · refine s_blx (lv' := [(0, vR 0), (1, vI sentence), (2, vI second)]) (st' := [vI (-1)]) B109_22_23 rfl ?_
      exact r_iretI D109_23 rfl (⟨H, f0, by omega⟩)
