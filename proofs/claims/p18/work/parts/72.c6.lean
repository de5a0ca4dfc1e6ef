/-! The String: its length, its letters. -/
theorem s_c255 : ∀ n : Fin 256, ((Int32.ofInt ((n.val : Nat) : Int)).toUInt32 % 65536).toInt32 = Int32.ofInt ((n.val : Nat) : Int) := by decide +kernel
theorem s_c {e : Int} (h : 0 ≤ e ∧ e ≤ 255) : ((Int32.ofInt e).toUInt32 % 65536).toInt32 = Int32.ofInt e := by
  have := s_c255 ⟨e.toNat, by omega⟩
  rw [show (((⟨e.toNat, by omega⟩ : Fin 256).val : Nat) : Int) = e from by show ((e.toNat : Nat) : Int) = e; omega] at this
  exact this
section
variable {base : Nat} {X : Nat → Option mC} {G : Nat → Value} {d : Nat} {t : mT} {pc pc' : Nat} {lv : sL} {st : List mV} {M : mH} {Q : Option Value → mH → Prop}
theorem r_gstI {i g : Nat} {e : Int} (hd : decode t.2.2.1 pc = .ok (.getstatic i, 3)) (hn : pc + 3 = pc') (hs : m_st t.1 i = some g) (hg : G g = .int (Int32.ofInt e)) (h : sRn base X G d t pc' lv (vI e :: st) M Q) : sRn base X G d t pc lv st M Q := by
  subst hn
  refine m_Rn.step (z := (pc + 3, em_l base lv, em_s base (vI e :: st), M)) hd rfl rfl ?_ h
  have e1 : m_stD base X G t.1 (t.2.1.name == "<init>") pc (em_l base lv) (em_s base st) M (.getstatic i) = some (pc + 3, em_l base lv, em_s base (vI e :: st), M) := by
    simp only [m_stD, hs, hg]
    rfl
  unfold m_step
  simp only [m_spc, m_stC, m_stA, m_stB]
  rw [if_pos (show 3 = m_len (.getstatic i) from rfl), e1]
theorem r_gstN {i g : Nat} (hd : decode t.2.2.1 pc = .ok (.getstatic i, 3)) (hn : pc + 3 = pc') (hs : m_st t.1 i = some g) (hg : G g = .null) (h : sRn base X G d t pc' lv (vN :: st) M Q) : sRn base X G d t pc lv st M Q := by
  subst hn
  refine m_Rn.step (z := (pc + 3, em_l base lv, em_s base (vN :: st), M)) hd rfl rfl ?_ h
  have e1 : m_stD base X G t.1 (t.2.1.name == "<init>") pc (em_l base lv) (em_s base st) M (.getstatic i) = some (pc + 3, em_l base lv, em_s base (vN :: st), M) := by
    simp only [m_stD, hs, hg]
    rfl
  unfold m_step
  simp only [m_spc, m_stC, m_stA, m_stB]
  rw [if_pos (show 3 = m_len (.getstatic i) from rfl), e1]
theorem r_ldcS {a : Nat} (hd : decode t.2.2.1 pc = .ok (.ldc 90, 2)) (hn : pc + 2 = pc') (ho : t.1 = 4) (hc : m_ci t.1 90 = none) (hg : G 9 = .ref a) (h : sRn base X G d t pc' lv (vA a :: st) M Q) : sRn base X G d t pc lv st M Q := by
  subst hn
  refine m_Rn.step (z := (pc + 2, em_l base lv, em_s base (vA a :: st), M)) hd rfl rfl ?_ h
  have e1 : m_stD base X G t.1 (t.2.1.name == "<init>") pc (em_l base lv) (em_s base st) M (.ldc 90) = some (pc + 2, em_l base lv, em_s base (vA a :: st), M) := by
    simp only [m_stD, ho, hg]
    rfl
  unfold m_step
  simp only [m_spc, m_stC, m_stA, m_stB, hc]
  rw [if_pos (show 2 = m_len (.ldc 90) from rfl), e1]
theorem r_gfS9 {a b : Nat} (hd : decode t.2.2.1 pc = .ok (.getfield 9, 3)) (hn : pc + 3 = pc') (ho : t.1 = 13) (hg : G 9 = .ref a) (hb : G 10 = .ref b) (h : sRn base X G d t pc' lv (vA b :: st) M Q) : sRn base X G d t pc lv (vA a :: st) M Q := by
  subst hn
  refine m_Rn.step (z := (pc + 3, em_l base lv, em_s base (vA b :: st), M)) hd rfl rfl ?_ h
  have e1 : m_stD base X G t.1 (t.2.1.name == "<init>") pc (em_l base lv) (em_s base (vA a :: st)) M (.getfield 9) = some (pc + 3, em_l base lv, em_s base (vA b :: st), M) := by
    simp only [m_stD, if_pos ho, em_s, List.map_cons]
    show (if G 9 = .ref a then (if (9 : Nat) = 9 then some (pc + 3, em_l base lv, G 10 :: st.map (em base), M) else if (9 : Nat) = 15 then some (pc + 3, em_l base lv, .int 0 :: st.map (em base), M) else none) else none) = _
    rw [if_pos hg, if_pos rfl, hb]
    rfl
  unfold m_step
  simp only [m_spc, m_stC, m_stA, m_stB]
  rw [if_pos (show 3 = m_len (.getfield 9) from rfl), e1]
theorem r_gfS15 {a : Nat} (hd : decode t.2.2.1 pc = .ok (.getfield 15, 3)) (hn : pc + 3 = pc') (ho : t.1 = 13) (hg : G 9 = .ref a) (h : sRn base X G d t pc' lv (vI 0 :: st) M Q) : sRn base X G d t pc lv (vA a :: st) M Q := by
  subst hn
  refine m_Rn.step (z := (pc + 3, em_l base lv, em_s base (vI 0 :: st), M)) hd rfl rfl ?_ h
  have e1 : m_stD base X G t.1 (t.2.1.name == "<init>") pc (em_l base lv) (em_s base (vA a :: st)) M (.getfield 15) = some (pc + 3, em_l base lv, em_s base (vI 0 :: st), M) := by
    simp only [m_stD, if_pos ho, em_s, List.map_cons]
    show (if G 9 = .ref a then (if (15 : Nat) = 9 then some (pc + 3, em_l base lv, G 10 :: st.map (em base), M) else if (15 : Nat) = 15 then some (pc + 3, em_l base lv, .int 0 :: st.map (em base), M) else none) else none) = _
    rw [if_pos hg, if_neg (by decide), if_pos rfl]
    rfl
  unfold m_step
  simp only [m_spc, m_stC, m_stA, m_stB]
  rw [if_pos (show 3 = m_len (.getfield 15) from rfl), e1]
theorem r_baldA {a n : Nat} {f : Nat → Value} {e w : Int} (hd : decode t.2.2.1 pc = .ok (.baload, 1)) (hn : pc + 1 = pc') (hX : X a = some (1003, n, f)) (hlt : a < base) (he : 0 ≤ e ∧ e < (n : Int) ∧ e ≤ 2147483647) (hf : f e.toNat = .int (Int32.ofInt w)) (h : sRn base X G d t pc' lv (vI w :: st) M Q) : sRn base X G d t pc lv (vI e :: vA a :: st) M Q :=
  r_ld (w := vA a) (x := (1003, n, f)) (v := vI w) hd hn rfl rfl (by unfold m_at; rw [if_pos hlt, hX]) rfl he hf h
theorem r_i2c {e : Int} (hd : decode t.2.2.1 pc = .ok (.i2c, 1)) (hn : pc + 1 = pc') (he : 0 ≤ e ∧ e ≤ 255) (h : sRn base X G d t pc' lv (vI e :: st) M Q) : sRn base X G d t pc lv (vI e :: st) M Q := by
  subst hn
  refine r_B (st := st) (v := .int ((Int32.ofInt e).toUInt32 % 65536).toInt32) hd rfl rfl rfl rfl rfl rfl rfl ?_
  rw [s_c he]; exact h
theorem r_cret {e : Int} {P' : Int → mH → Prop} (hd : decode t.2.2.1 pc = .ok (.ireturn, 1)) (hr : t.2.2.2.2 = some .char) (he : 0 ≤ e ∧ e ≤ 255) (h : P' e M) : sRn base X G d t pc lv [vI e] M (s_Q base (pI P')) := by
  refine m_Rn.ret hd (r := some (.int (Int32.ofInt e))) ?_ ⟨some (vI e), rfl, ⟨e, rfl, h⟩⟩
  have q : narrow .char (.int (Int32.ofInt e)) = .int (Int32.ofInt e) := by
    show Value.int ((Int32.ofInt e).toUInt32 % 65536).toInt32 = _
    rw [s_c he]
  simp [m_ret, em_s, em, hr, q]
theorem r_bret0 {P' : Int → mH → Prop} (hd : decode t.2.2.1 pc = .ok (.ireturn, 1)) (hr : t.2.2.2.2 = some .byte) (h : P' 0 M) : sRn base X G d t pc lv [vI 0] M (s_Q base (pI P')) := by
  refine m_Rn.ret hd (r := some (.int (Int32.ofInt 0))) ?_ ⟨some (vI 0), rfl, ⟨0, rfl, h⟩⟩
  rw [hr]; rfl
theorem r_callS {ins : Instr} {k : Nat × Nat × Nat} {t' : mT} {a : Nat} {args rest : List mV} {P : Option mV → mH → Prop} (hd : decode t.2.2.1 pc = .ok (ins, 3)) (hn : pc + 3 = pc') (hk : m_call t.1 ins = some k) (ht : sy_m[k.2.1]? = some t') (ha : s_args k.1 k.2.2 st = some (vA a :: args, rest)) (h1 : s_sz rest ≤ 8) (h2 : s_sz (vA a :: args) ≤ t'.2.2.2.1 ∧ t'.2.2.2.1 ≤ 45) (h4 : t'.1 = 13) (h9 : G 9 = .ref a) (hd0 : 0 < d)
    (h : sOk base X G (d - 1) t' (vA a :: args) M P) (hh : ∀ v M', P v M' → sRn base X G d t pc' lv (v.toList ++ rest) M' Q) : sRn base X G d t pc lv st M Q := by
  refine r_cv hd hn hk ht ha h1 h2 ?_ hd0 h hh
  unfold m_recv
  split
  · simp only [em_s, List.map_cons]
    rw [show em base (vA a) = Value.ref a from rfl]
    dsimp only
    first | (rw [if_pos h4]; exact decide_eq_true h9) | exact decide_eq_true h9
  · rfl
end
noncomputable def T268 : mT := (13, yJ0_length_8abf5, cJ0_length_8abf5, 1, (some .int))
set_option maxRecDepth 10000 in
theorem TE268 : sy_m[268]? = some T268 := rfl
theorem D268_1 : decode T268.2.2.1 1 = .ok (.getfield 9, 3) := by decide +kernel
theorem D268_4 : decode T268.2.2.1 4 = .ok (.arraylength, 1) := by decide +kernel
theorem D268_6 : decode T268.2.2.1 6 = .ok (.invokevirtual 335, 3) := by decide +kernel
theorem D268_9 : decode T268.2.2.1 9 = .ok (.ishr, 1) := by decide +kernel
theorem D268_10 : decode T268.2.2.1 10 = .ok (.ireturn, 1) := by decide +kernel
noncomputable def T269 : mT := (13, yJ0_charAt_5068e, cJ0_charAt_5068e, 2, (some .char))
set_option maxRecDepth 10000 in
theorem TE269 : sy_m[269]? = some T269 := rfl
theorem D269_1 : decode T269.2.2.1 1 = .ok (.invokevirtual 492, 3) := by decide +kernel
theorem D269_4 : decode T269.2.2.1 4 = .ok (.ifCond .eq 12, 3) := by decide +kernel
theorem D269_8 : decode T269.2.2.1 8 = .ok (.getfield 9, 3) := by decide +kernel
theorem D269_12 : decode T269.2.2.1 12 = .ok (.invokestatic 495, 3) := by decide +kernel
theorem D269_15 : decode T269.2.2.1 15 = .ok (.ireturn, 1) := by decide +kernel
noncomputable def T270 : mT := (13, yJ0_coder_7d493, cJ0_coder_7d493, 1, (some .byte))
set_option maxRecDepth 10000 in
theorem TE270 : sy_m[270]? = some T270 := rfl
theorem D270_0 : decode T270.2.2.1 0 = .ok (.getstatic 38, 3) := by decide +kernel
theorem D270_3 : decode T270.2.2.1 3 = .ok (.ifCond .eq 10, 3) := by decide +kernel
theorem D270_7 : decode T270.2.2.1 7 = .ok (.getfield 15, 3) := by decide +kernel
theorem D270_10 : decode T270.2.2.1 10 = .ok (.goto 4, 3) := by decide +kernel
theorem D270_14 : decode T270.2.2.1 14 = .ok (.ireturn, 1) := by decide +kernel
noncomputable def T271 : mT := (13, yJ0_isLatin1_aae02, cJ0_isLatin1_aae02, 1, (some .boolean))
set_option maxRecDepth 10000 in
theorem TE271 : sy_m[271]? = some T271 := rfl
theorem D271_0 : decode T271.2.2.1 0 = .ok (.getstatic 38, 3) := by decide +kernel
theorem D271_3 : decode T271.2.2.1 3 = .ok (.ifCond .eq 14, 3) := by decide +kernel
theorem D271_7 : decode T271.2.2.1 7 = .ok (.getfield 15, 3) := by decide +kernel
theorem D271_10 : decode T271.2.2.1 10 = .ok (.ifCond .ne 7, 3) := by decide +kernel
theorem D271_14 : decode T271.2.2.1 14 = .ok (.goto 4, 3) := by decide +kernel
theorem D271_18 : decode T271.2.2.1 18 = .ok (.ireturn, 1) := by decide +kernel
noncomputable def T272 : mT := (13, yJ0_checkIndex_df160, cJ0_checkIndex_df160, 2, none)
set_option maxRecDepth 10000 in
theorem TE272 : sy_m[272]? = some T272 := rfl
theorem D272_2 : decode T272.2.2.1 2 = .ok (.getstatic 1053, 3) := by decide +kernel
theorem D272_5 : decode T272.2.2.1 5 = .ok (.invokestatic 1059, 3) := by decide +kernel
theorem D272_9 : decode T272.2.2.1 9 = .ok (.return_, 1) := by decide +kernel
noncomputable def T273 : mT := (14, yJ1_charAt_3b067, cJ1_charAt_3b067, 2, (some .char))
set_option maxRecDepth 10000 in
theorem TE273 : sy_m[273]? = some T273 := rfl
theorem D273_2 : decode T273.2.2.1 2 = .ok (.arraylength, 1) := by decide +kernel
theorem D273_3 : decode T273.2.2.1 3 = .ok (.invokestatic 9, 3) := by decide +kernel
theorem D273_8 : decode T273.2.2.1 8 = .ok (.baload, 1) := by decide +kernel
theorem D273_12 : decode T273.2.2.1 12 = .ok (.iand, 1) := by decide +kernel
theorem D273_13 : decode T273.2.2.1 13 = .ok (.i2c, 1) := by decide +kernel
theorem D273_14 : decode T273.2.2.1 14 = .ok (.ireturn, 1) := by decide +kernel
noncomputable def T280 : mT := (16, yJ3_checkIndex_8e157, cJ3_checkIndex_8e157, 3, (some .int))
set_option maxRecDepth 10000 in
theorem TE280 : sy_m[280]? = some T280 := rfl
theorem D280_1 : decode T280.2.2.1 1 = .ok (.ifCond .lt 8, 3) := by decide +kernel
theorem D280_6 : decode T280.2.2.1 6 = .ok (.if_icmp .lt 10, 3) := by decide +kernel
theorem D280_17 : decode T280.2.2.1 17 = .ok (.ireturn, 1) := by decide +kernel
theorem st_13_38 : m_st 13 38 = some 7 := by decide +kernel
theorem st_13_1053 : m_st 13 1053 = some 8 := by decide +kernel
theorem ck_13_virtual_335 : m_call 13 (.invokevirtual 335) = some (0, 270, 0) := by decide +kernel
theorem ck_13_virtual_492 : m_call 13 (.invokevirtual 492) = some (0, 271, 0) := by decide +kernel
theorem ck_13_static_495 : m_call 13 (.invokestatic 495) = some (1, 273, 2) := by decide +kernel
theorem ck_13_static_1059 : m_call 13 (.invokestatic 1059) = some (1, 280, 3) := by decide +kernel
theorem ck_14_static_9 : m_call 14 (.invokestatic 9) = some (1, 272, 2) := by decide +kernel
theorem B268_0_1 : s_dk T268.2.2.1 0 [.aload_n 0] 1 = true := by decide +kernel
theorem B268_5_6 : s_dk T268.2.2.1 5 [.aload_n 0] 6 = true := by decide +kernel
theorem B269_0_1 : s_dk T269.2.2.1 0 [.aload_n 0] 1 = true := by decide +kernel
theorem B269_7_8 : s_dk T269.2.2.1 7 [.aload_n 0] 8 = true := by decide +kernel
theorem B269_11_12 : s_dk T269.2.2.1 11 [.iload_n 1] 12 = true := by decide +kernel
theorem B270_6_7 : s_dk T270.2.2.1 6 [.aload_n 0] 7 = true := by decide +kernel
theorem B271_6_7 : s_dk T271.2.2.1 6 [.aload_n 0] 7 = true := by decide +kernel
theorem B271_13_14 : s_dk T271.2.2.1 13 [.iconst 1] 14 = true := by decide +kernel
theorem B272_0_2 : s_dk T272.2.2.1 0 [.iload_n 0, .iload_n 1] 2 = true := by decide +kernel
theorem B272_8_9 : s_dk T272.2.2.1 8 [.pop] 9 = true := by decide +kernel
theorem B273_0_2 : s_dk T273.2.2.1 0 [.iload_n 1, .aload_n 0] 2 = true := by decide +kernel
theorem B273_6_8 : s_dk T273.2.2.1 6 [.aload_n 0, .iload_n 1] 8 = true := by decide +kernel
theorem B273_9_12 : s_dk T273.2.2.1 9 [.sipush 255] 12 = true := by decide +kernel
theorem B280_0_1 : s_dk T280.2.2.1 0 [.iload_n 0] 1 = true := by decide +kernel
theorem B280_4_6 : s_dk T280.2.2.1 4 [.iload_n 0, .iload_n 1] 6 = true := by decide +kernel
theorem B280_16_17 : s_dk T280.2.2.1 16 [.iload_n 0] 17 = true := by decide +kernel
section
variable {base : Nat} {X : Nat → Option mC} {G : Nat → Value}
theorem k270 (E : EnvOK base X G) {u d : Nat} {M : mH} (h9 : G 9 = .ref u) : sOk base X G d T270 [vA u] M (pI (fun v M' => M' = M ∧ v = 0)) := by
  refine sOk.of (show sRn base X G d T270 0 [(0, vA u)] [] M _ from ?_)
  refine r_gstI (e := 1) (pc' := 3) D270_0 rfl st_13_38 E.2.1 ?_
  refine r_ifc (tgt := 13) (pc' := 6) D270_3 rfl rfl (by unfold inR; omega) (fun (c : (1 : Int) = 0) => ?_) (fun _ => ?_)
  · exfalso; omega
  refine s_blx (lv' := [(0, vA u)]) (st' := [vA u]) B270_6_7 rfl ?_
  refine r_gfS15 (pc' := 10) D270_7 rfl rfl h9 ?_
  refine r_goto (tgt := 14) D270_10 rfl ?_
  exact r_bret0 D270_14 rfl ⟨rfl, rfl⟩
theorem k271 (E : EnvOK base X G) {u d : Nat} {M : mH} (h9 : G 9 = .ref u) : sOk base X G d T271 [vA u] M (pI (fun v M' => M' = M ∧ v = 1)) := by
  refine sOk.of (show sRn base X G d T271 0 [(0, vA u)] [] M _ from ?_)
  refine r_gstI (e := 1) (pc' := 3) D271_0 rfl st_13_38 E.2.1 ?_
  refine r_ifc (tgt := 17) (pc' := 6) D271_3 rfl rfl (by unfold inR; omega) (fun (c : (1 : Int) = 0) => ?_) (fun _ => ?_)
  · exfalso; omega
  refine s_blx (lv' := [(0, vA u)]) (st' := [vA u]) B271_6_7 rfl ?_
  refine r_gfS15 (pc' := 10) D271_7 rfl rfl h9 ?_
  refine r_ifc (tgt := 17) (pc' := 13) D271_10 rfl rfl (by unfold inR; omega) (fun (c : (0 : Int) ≠ 0) => ?_) (fun _ => ?_)
  · exfalso; omega
  refine s_blx (lv' := [(0, vA u)]) (st' := [vI 1]) B271_13_14 rfl ?_
  refine r_goto (tgt := 18) D271_14 rfl ?_
  exact r_zretI D271_18 rfl (by omega) ⟨rfl, rfl⟩
theorem k268 (E : EnvOK base X G) {u b d : Nat} {f : Nat → Value} {M : mH} (hd : 1 ≤ d) (h9 : G 9 = .ref u) (h10 : G 10 = .ref b) (hb : b < base) (hX : X b = some (1003, 104, f)) : sOk base X G d T268 [vA u] M (pI (fun v M' => M' = M ∧ v = 104)) := by
  refine sOk.of (show sRn base X G d T268 0 [(0, vA u)] [] M _ from ?_)
  refine s_blx (lv' := [(0, vA u)]) (st' := [vA u]) B268_0_1 rfl ?_
  refine r_gfS9 (pc' := 4) D268_1 rfl rfl h9 h10 ?_
  refine r_lenv (w := vA b) (x := (1003, 104, f)) (pc' := 5) D268_4 rfl rfl (by unfold m_at; rw [if_pos hb, hX]) (show 1000 ≤ 1003 by decide) ?_
  refine s_blx (lv' := [(0, vA u)]) (st' := [vA u, vI 104]) B268_5_6 rfl ?_
  refine r_callS (args := []) (rest := [vI 104]) (pc' := 9) D268_6 rfl ck_13_virtual_335 TE270 rfl (Nat.le_of_ble_eq_true rfl) ⟨Nat.le_of_ble_eq_true rfl, Nat.le_of_ble_eq_true rfl⟩ rfl h9 (by omega) (k270 E h9) ?_
  intro v M' p
  obtain ⟨w, rfl, rfl, rfl⟩ := p
  show sRn base X G d T268 9 [(0, vA u)] [vI 0, vI 104] _ _
  refine r_bin (pc' := 10) D268_9 rfl rfl ?_
  intro z hz kz
  have e : z = 104 := by
    have q := congrArg Int32.toInt kz
    rw [s_i32 hz] at q
    rw [q]; decide
  subst e
  exact r_iretI D268_10 rfl ⟨rfl, rfl⟩
theorem k280 {i n : Int} {w : mV} {d : Nat} {M : mH} (h : 0 ≤ i ∧ i < n ∧ n ≤ 1000) (hw : w = vN ∨ ∃ a, w = vA a) : sOk base X G d T280 [vI i, vI n, w] M (pI (fun v M' => M' = M ∧ v = i)) := by
  rcases hw with rfl | ⟨a, rfl⟩
  · refine sOk.of (show sRn base X G d T280 0 [(0, vI i), (1, vI n), (2, vN)] [] M _ from ?_)
    refine s_blx (lv' := [(0, vI i), (1, vI n), (2, vN)]) (st' := [vI i]) B280_0_1 rfl ?_
    refine r_ifc (tgt := 9) (pc' := 4) D280_1 rfl rfl (by unfold inR; omega) (fun (c : i < 0) => ?_) (fun _ => ?_)
    · exfalso; omega
    refine s_blx (lv' := [(0, vI i), (1, vI n), (2, vN)]) (st' := [vI n, vI i]) B280_4_6 rfl ?_
    refine r_icmp (tgt := 16) (pc' := 9) D280_6 rfl rfl (by unfold inR; omega) (fun _ => ?_) (fun (c : ¬ (i < n)) => ?_)
    · refine s_blx (lv' := [(0, vI i), (1, vI n), (2, vN)]) (st' := [vI i]) B280_16_17 rfl ?_
      exact r_iretI D280_17 rfl ⟨rfl, rfl⟩
    · exfalso; omega
  · refine sOk.of (show sRn base X G d T280 0 [(0, vI i), (1, vI n), (2, vA a)] [] M _ from ?_)
    refine s_blx (lv' := [(0, vI i), (1, vI n), (2, vA a)]) (st' := [vI i]) B280_0_1 rfl ?_
    refine r_ifc (tgt := 9) (pc' := 4) D280_1 rfl rfl (by unfold inR; omega) (fun (c : i < 0) => ?_) (fun _ => ?_)
    · exfalso; omega
    refine s_blx (lv' := [(0, vI i), (1, vI n), (2, vA a)]) (st' := [vI n, vI i]) B280_4_6 rfl ?_
    refine r_icmp (tgt := 16) (pc' := 9) D280_6 rfl rfl (by unfold inR; omega) (fun _ => ?_) (fun (c : ¬ (i < n)) => ?_)
    · refine s_blx (lv' := [(0, vI i), (1, vI n), (2, vA a)]) (st' := [vI i]) B280_16_17 rfl ?_
      exact r_iretI D280_17 rfl ⟨rfl, rfl⟩
    · exfalso; omega
theorem k272 (E : EnvOK base X G) {i n : Int} {d : Nat} {M : mH} (hd : 1 ≤ d) (h : 0 ≤ i ∧ i < n ∧ n ≤ 1000) : sOk base X G d T272 [vI i, vI n] M (pV (fun M' => M' = M)) := by
  refine sOk.of (show sRn base X G d T272 0 [(0, vI i), (1, vI n)] [] M _ from ?_)
  refine s_blx (lv' := [(0, vI i), (1, vI n)]) (st' := [vI n, vI i]) B272_0_2 rfl ?_
  rcases E.2.2.1 with g | ⟨a, g⟩
  · refine r_gstN (pc' := 5) D272_2 rfl st_13_1053 g ?_
    refine r_sI (args := [vI i, vI n, vN]) (rest := []) (pc' := 8) D272_5 rfl ck_13_static_1059 TE280 rfl (Nat.le_of_ble_eq_true rfl) ⟨Nat.le_of_ble_eq_true rfl, Nat.le_of_ble_eq_true rfl⟩ (by decide) (by omega) (k280 h (Or.inl rfl)) ?_
    intro v M' q
    obtain ⟨rfl, -⟩ := q
    refine s_blx (lv' := [(0, vI i), (1, vI n)]) (st' := []) B272_8_9 rfl ?_
    exact r_retV D272_9 rfl rfl
  · refine r_gst (pc' := 5) D272_2 rfl st_13_1053 g ?_
    refine r_sI (args := [vI i, vI n, vA a]) (rest := []) (pc' := 8) D272_5 rfl ck_13_static_1059 TE280 rfl (Nat.le_of_ble_eq_true rfl) ⟨Nat.le_of_ble_eq_true rfl, Nat.le_of_ble_eq_true rfl⟩ (by decide) (by omega) (k280 h (Or.inr ⟨a, rfl⟩)) ?_
    intro v M' q
    obtain ⟨rfl, -⟩ := q
    refine s_blx (lv' := [(0, vI i), (1, vI n)]) (st' := []) B272_8_9 rfl ?_
    exact r_retV D272_9 rfl rfl
theorem k273 (E : EnvOK base X G) {b d : Nat} {f : Nat → Value} {i : Int} {M : mH} (hd : 2 ≤ d) (hi : 0 ≤ i ∧ i < 104) (hb : b < base) (hX : X b = some (1003, 104, f)) (hf : ∀ j, j < 104 → f j = .int (sy_str.getD j 0)) : sOk base X G d T273 [vA b, vI i] M (pI (fun v M' => M' = M ∧ 0 ≤ v ∧ v ≤ 255)) := by
  refine sOk.of (show sRn base X G d T273 0 [(0, vA b), (1, vI i)] [] M _ from ?_)
  refine s_blx (lv' := [(0, vA b), (1, vI i)]) (st' := [vA b, vI i]) B273_0_2 rfl ?_
  refine r_lenv (w := vA b) (x := (1003, 104, f)) (pc' := 3) D273_2 rfl rfl (by unfold m_at; rw [if_pos hb, hX]) (show 1000 ≤ 1003 by decide) ?_
  refine r_sV (args := [vI i, vI 104]) (rest := []) (pc' := 6) D273_3 rfl ck_14_static_9 TE272 rfl (Nat.le_of_ble_eq_true rfl) ⟨Nat.le_of_ble_eq_true rfl, Nat.le_of_ble_eq_true rfl⟩ (by decide) (dp_0 hd rfl) (k272 E (dp_n hd rfl) (by omega)) ?_
  intro M' q
  subst q
  refine s_blx (lv' := [(0, vA b), (1, vI i)]) (st' := [vI i, vA b]) B273_6_8 rfl ?_
  refine r_baldA (w := (sy_str.getD i.toNat 0).toInt) (pc' := 9) D273_8 rfl hX hb (by omega) (by rw [hf _ (by omega), Int32.ofInt_toInt]) ?_
  refine s_blx (lv' := [(0, vA b), (1, vI i)]) (st' := [vI 255, vI (sy_str.getD i.toNat 0).toInt]) B273_9_12 rfl ?_
  refine r_and255 (pc' := 13) D273_12 rfl ?_
  generalize (sy_str.getD i.toNat 0).toInt = w
  refine r_i2c (pc' := 14) D273_13 rfl (by omega) ?_
  exact r_cret D273_14 rfl (by omega) ⟨rfl, by omega, by omega⟩
theorem k269 (E : EnvOK base X G) {u b d : Nat} {f : Nat → Value} {i : Int} {M : mH} (hd : 3 ≤ d) (hi : 0 ≤ i ∧ i < 104) (h9 : G 9 = .ref u) (h10 : G 10 = .ref b) (hb : b < base) (hX : X b = some (1003, 104, f)) (hf : ∀ j, j < 104 → f j = .int (sy_str.getD j 0)) : sOk base X G d T269 [vA u, vI i] M (pI (fun v M' => M' = M ∧ 0 ≤ v ∧ v ≤ 255)) := by
  refine sOk.of (show sRn base X G d T269 0 [(0, vA u), (1, vI i)] [] M _ from ?_)
  refine s_blx (lv' := [(0, vA u), (1, vI i)]) (st' := [vA u]) B269_0_1 rfl ?_
  refine r_callS (args := []) (rest := []) (pc' := 4) D269_1 rfl ck_13_virtual_492 TE271 rfl (Nat.le_of_ble_eq_true rfl) ⟨Nat.le_of_ble_eq_true rfl, Nat.le_of_ble_eq_true rfl⟩ rfl h9 (by omega) (k271 E h9) ?_
  intro v M' p
  obtain ⟨w, rfl, rfl, rfl⟩ := p
  show sRn base X G d T269 4 [(0, vA u), (1, vI i)] [vI 1] _ _
  refine r_ifc (tgt := 16) (pc' := 7) D269_4 rfl rfl (by unfold inR; omega) (fun (c : (1 : Int) = 0) => ?_) (fun _ => ?_)
  · exfalso; omega
  refine s_blx (lv' := [(0, vA u), (1, vI i)]) (st' := [vA u]) B269_7_8 rfl ?_
  refine r_gfS9 (pc' := 11) D269_8 rfl rfl h9 h10 ?_
  refine s_blx (lv' := [(0, vA u), (1, vI i)]) (st' := [vI i, vA b]) B269_11_12 rfl ?_
  refine r_sI (args := [vA b, vI i]) (rest := []) (pc' := 15) D269_12 rfl ck_13_static_495 TE273 rfl (Nat.le_of_ble_eq_true rfl) ⟨Nat.le_of_ble_eq_true rfl, Nat.le_of_ble_eq_true rfl⟩ (by decide) (dp_0 hd rfl) (k273 E (dp_n hd rfl) hi hb hX hf) ?_
  intro v M' q
  obtain ⟨rfl, q1, q2⟩ := q
  exact r_cret D269_15 rfl ⟨q1, q2⟩ ⟨rfl, q1, q2⟩
end
