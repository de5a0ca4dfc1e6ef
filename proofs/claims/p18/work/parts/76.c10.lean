/-! Arrays are made. -/
noncomputable def Nw (M : mH) (x : mC) (M' : mH) : Prop := M' = m_new M x
theorem Nw.n1 {M M' : mH} {x : mC} (h : Nw M x M') : M'.1 = M.1 + 1 := by rw [h]; rfl
theorem Nw.n2 {M M' : mH} {x : mC} (h : Nw M x M') : M'.2.1 = M.2.1 + x.2.1 := by rw [h]; rfl
theorem Nw.at {M M' : mH} {x : mC} (h : Nw M x M') : M'.2.2 M.1 = x := by
  rw [h]
  show (if M.1 = M.1 then x else M.2.2 M.1) = x
  rw [if_pos rfl]
theorem Nw.ne {M M' : mH} {x : mC} (h : Nw M x M') {c : Nat} (hc : c ≠ M.1) : M'.2.2 c = M.2.2 c := by
  rw [h]
  show (if c = M.1 then x else M.2.2 c) = M.2.2 c
  rw [if_neg hc]
theorem Nw.same {M M' : mH} {x : mC} (h : Nw M x M') {c : Nat} (hc : c ≠ M.1) : sameC c M M' := by
  unfold sameC hk hz hv
  rw [h.ne hc]
  exact ⟨rfl, rfl, fun _ => rfl⟩
theorem rg_dyn {c : Nat} (hc : 111 ≤ c) (j : Int) : rg c j = none := by
  unfold rg
  split <;> first | rfl | omega
theorem HI.of {base : Nat} {M M' : mH} (H : HI base M) (hn : M.1 ≤ M'.1) (hs : ∀ c, c < 111 → sameC c M M') : HI base M' := by
  have hl : shL.length = 111 := rfl
  refine ⟨⟨by have := H.1.1; omega, fun c q hq => ?_⟩, fun c j lo hi h => ?_⟩
  · have hc := (List.getElem?_eq_some_iff.mp hq).1
    have s := hs c (by omega)
    obtain ⟨h1, h2, h3⟩ := H.1.2 c q hq
    exact ⟨by rw [s.1]; exact h1, by rw [s.2.1]; exact h2, fun i hi => by rw [s.2.2]; exact h3 i hi⟩
  · by_cases hc : c < 111
    · rw [(hs c hc).gi]; exact H.2 c j lo hi h
    · rw [rg_dyn (by omega)] at h; cases h
theorem HI.nw {base : Nat} {M M' : mH} {x : mC} (H : HI base M) (h : Nw M x M') : HI base M' := by
  have hl : shL.length = 111 := rfl
  have h1 := H.1.1
  exact H.of (by rw [h.n1]; omega) (fun c hc => h.same (by omega))
theorem Cp.same {M M' : mH} {s sp dd dp n : Nat} (h : Cp M s sp dd dp n M') {c : Nat} (hc : c ≠ dd) : sameC c M M' := ⟨h.k c, h.z c, fun i => h.ne hc i⟩
theorem sameC.tr {r : Nat} {M M1 M2 : mH} (a : sameC r M M1) (b : sameC r M1 M2) : sameC r M M2 := ⟨b.1.trans a.1, b.2.1.trans a.2.1, fun i => (b.2.2 i).trans (a.2.2 i)⟩
section
variable {base : Nat} {X : Nat → Option mC} {G : Nat → Value} {d : Nat} {t : mT} {pc pc' : Nat} {lv : sL} {st : List mV} {M : mH} {Q : Option Value → mH → Prop}
theorem s_clamp {n : Int} (h : inR n) (h0 : 0 ≤ n) : (Int32.ofInt n).toNatClampNeg = n.toNat := by
  show (Int32.ofInt n).toInt.toNat = _
  rw [s_i32 h]
theorem r_newI {n : Int} (hd : decode t.2.2.1 pc = .ok (.newarray .int, 2)) (hn : pc + 2 = pc') (h0 : 0 ≤ n ∧ n ≤ 1000000) (h : ∀ M', Nw M (1000, n.toNat, fun _ => .int 0) M' → sRn base X G d t pc' lv (vR M.1 :: st) M' Q) : sRn base X G d t pc lv (vI n :: st) M Q := by
  subst hn
  have hr : inR n := by unfold inR; omega
  refine m_Rn.step (z := (pc + 2, em_l base lv, em_s base (vR M.1 :: st), m_new M (1000, n.toNat, fun _ => .int 0))) hd rfl rfl ?_ (h _ rfl)
  have e : m_stD base X G t.1 (t.2.1.name == "<init>") pc (em_l base lv) (em_s base (vI n :: st)) M (.newarray .int) = some (pc + 2, em_l base lv, em_s base (vR M.1 :: st), m_new M (1000, n.toNat, fun _ => .int 0)) := by
    show (if 0 ≤ (Int32.ofInt n).toInt ∧ (Int32.ofInt n).toInt ≤ 1000000 then some (pc + 2, em_l base lv, Value.ref (base + M.1) :: em_s base st, m_new M (1000, (Int32.ofInt n).toNatClampNeg, fun _ => .int 0)) else none) = _
    rw [s_i32 hr, if_pos h0, s_clamp hr h0.1]
    rfl
  unfold m_step
  simp only [m_spc, m_stC, m_stA, m_stB]
  rw [if_pos (show 2 = m_len (.newarray .int) from rfl), e]
theorem r_newL {n : Int} (hd : decode t.2.2.1 pc = .ok (.newarray .long, 2)) (hn : pc + 2 = pc') (h0 : 0 ≤ n ∧ n ≤ 1000000) (h : ∀ M', Nw M (1001, n.toNat, fun _ => .long 0) M' → sRn base X G d t pc' lv (vR M.1 :: st) M' Q) : sRn base X G d t pc lv (vI n :: st) M Q := by
  subst hn
  have hr : inR n := by unfold inR; omega
  refine m_Rn.step (z := (pc + 2, em_l base lv, em_s base (vR M.1 :: st), m_new M (1001, n.toNat, fun _ => .long 0))) hd rfl rfl ?_ (h _ rfl)
  have e : m_stD base X G t.1 (t.2.1.name == "<init>") pc (em_l base lv) (em_s base (vI n :: st)) M (.newarray .long) = some (pc + 2, em_l base lv, em_s base (vR M.1 :: st), m_new M (1001, n.toNat, fun _ => .long 0)) := by
    show (if 0 ≤ (Int32.ofInt n).toInt ∧ (Int32.ofInt n).toInt ≤ 1000000 then some (pc + 2, em_l base lv, Value.ref (base + M.1) :: em_s base st, m_new M (1001, (Int32.ofInt n).toNatClampNeg, fun _ => .long 0)) else none) = _
    rw [s_i32 hr, if_pos h0, s_clamp hr h0.1]
    rfl
  unfold m_step
  simp only [m_spc, m_stC, m_stA, m_stB]
  rw [if_pos (show 2 = m_len (.newarray .long) from rfl), e]
theorem r_new {i ci : Nat} (hd : decode t.2.2.1 pc = .ok (.new i, 3)) (hn : pc + 3 = pc') (hc : m_nw t.1 i = some ci) (h : ∀ M', Nw M (ci, m_cnt ci, m_dflt ci) M' → sRn base X G d t pc' lv (vR M.1 :: st) M' Q) : sRn base X G d t pc lv st M Q := by
  subst hn
  refine m_Rn.step (z := (pc + 3, em_l base lv, em_s base (vR M.1 :: st), m_new M (ci, m_cnt ci, m_dflt ci))) hd rfl rfl ?_ (h _ rfl)
  have e : m_stD base X G t.1 (t.2.1.name == "<init>") pc (em_l base lv) (em_s base st) M (.new i) = some (pc + 3, em_l base lv, em_s base (vR M.1 :: st), m_new M (ci, m_cnt ci, m_dflt ci)) := by
    simp only [m_stD, hc]
    rfl
  unfold m_step
  simp only [m_spc, m_stC, m_stA, m_stB]
  rw [if_pos (show 3 = m_len (.new i) from rfl), e]
theorem r_clone {i r : Nat} (hd : decode t.2.2.1 pc = .ok (.invokevirtual i, 3)) (hn : pc + 3 = pc') (hkk : m_call t.1 (.invokevirtual i) = none) (hs : m_sp t.1 i = some 5) (h1 : s_sz st ≤ 8) (hr : r < M.1) (hk1 : hk M r = 1000) (h : ∀ M', Nw M (M.2.2 r) M' → sRn base X G d t pc' lv (vR M.1 :: st) M' Q) : sRn base X G d t pc lv (vR r :: st) M Q := by
  subst hn
  refine m_Rn.step (z := (pc + 3, em_l base lv, em_s base (vR M.1 :: st), m_new M (M.2.2 r))) hd rfl hkk ?_ (h _ rfl)
  unfold m_step
  have hsm := s_sm (base := base) h1
  have e : m_spc base X t.1 pc (em_l base lv) (em_s base (vR r :: st)) M (.invokevirtual i) = some (pc + 3, em_l base lv, em_s base (vR M.1 :: st), m_new M (M.2.2 r)) := by
    simp only [m_spc, if_pos hs, em_s, List.map_cons]
    show (match m_own base M (base + r) with
      | some x => if x.1 = 1000 ∧ m_sm (st.map (em base)) = true then some (pc + 3, em_l base lv, Value.ref (base + M.1) :: st.map (em base), m_new M x) else none
      | none => none) = _
    rw [m_own_own hr]
    dsimp only
    rw [if_pos ⟨hk1, hsm⟩]
    rfl
  rw [e]
  rfl
theorem r_ccast {r : Nat} (hd : decode t.2.2.1 pc = .ok (.checkcast 317, 3)) (hn : pc + 3 = pc') (ho : t.1 = 18) (hr : r < M.1) (hk1 : hk M r = 1000) (h : sRn base X G d t pc' lv (vR r :: st) M Q) : sRn base X G d t pc lv (vR r :: st) M Q := by
  subst hn
  refine m_Rn.step (z := (pc + 3, em_l base lv, em_s base (vR r :: st), M)) hd rfl rfl ?_ h
  unfold m_step
  have e : m_spc base X t.1 pc (em_l base lv) (em_s base (vR r :: st)) M (.checkcast 317) = some (pc + 3, em_l base lv, em_s base (vR r :: st), M) := by
    simp only [m_spc, ho, em_s, List.map_cons]
    show (match m_own base M (base + r) with
      | some x => if x.1 = 1000 then some (pc + 3, em_l base lv, Value.ref (base + r) :: st.map (em base), M) else none
      | none => none) = _
    rw [m_own_own hr]
    dsimp only
    rw [if_pos (show (M.2.2 r).1 = 1000 from hk1)]
    rfl
  rw [e]
  rfl
theorem r_acpyG {i s dd : Nat} {sp dp n : Int} (hd : decode t.2.2.1 pc = .ok (.invokestatic i, 3)) (hn : pc + 3 = pc') (hkk : m_call t.1 (.invokestatic i) = none) (hs : m_sp t.1 i = some 1) (h1 : s_sz st ≤ 8) (hcs : s < M.1 ∧ hk M s = 1000) (hcd : dd < M.1 ∧ hk M dd = 1000) (hb : 0 ≤ sp ∧ 0 ≤ dp ∧ 0 ≤ n ∧ sp + n ≤ (hz M s : Int) ∧ dp + n ≤ (hz M dd : Int) ∧ sp + n ≤ 2147483647 ∧ dp + n ≤ 2147483647)
    (h : ∀ M', Cp M s sp.toNat dd dp.toNat n.toNat M' → sRn base X G d t pc' lv st M' Q) : sRn base X G d t pc lv (vI n :: vI dp :: vR dd :: vI sp :: vR s :: st) M Q := by
  subst hn
  have e1 : (Int32.ofInt sp).toInt = sp := s_i32 (by unfold inR; omega)
  have e2 : (Int32.ofInt dp).toInt = dp := s_i32 (by unfold inR; omega)
  have e3 : (Int32.ofInt n).toInt = n := s_i32 (by unfold inR; omega)
  have e1' : (Int32.ofInt sp).toNatClampNeg = sp.toNat := s_clamp (by unfold inR; omega) hb.1
  have e2' : (Int32.ofInt dp).toNatClampNeg = dp.toNat := s_clamp (by unfold inR; omega) hb.2.1
  have e3' : (Int32.ofInt n).toNatClampNeg = n.toNat := s_clamp (by unfold inR; omega) hb.2.2.1
  have hcp : Cp M s sp.toNat dd dp.toNat n.toNat (m_put base M (base + dd) (hk M dd, hz M dd, va_cpy (M.2.2 s).2.2 (M.2.2 dd).2.2 sp.toNat dp.toNat n.toNat)) := by
    unfold Cp m_put
    rw [Nat.add_sub_cancel_left]
  refine m_Rn.step (z := (pc + 3, em_l base lv, em_s base st, m_put base M (base + dd) (hk M dd, hz M dd, va_cpy (M.2.2 s).2.2 (M.2.2 dd).2.2 sp.toNat dp.toNat n.toNat))) hd rfl hkk ?_ (h _ hcp)
  unfold m_step
  have hsm := s_sm (base := base) h1
  have k1 : (M.2.2 s).1 = 1000 := hcs.2
  have k2 : (M.2.2 dd).1 = 1000 := hcd.2
  have b4 : sp + n ≤ ((M.2.2 s).2.1 : Int) := hb.2.2.2.1
  have b5 : dp + n ≤ ((M.2.2 dd).2.1 : Int) := hb.2.2.2.2.1
  have e : m_spc base X t.1 pc (em_l base lv) (em_s base (vI n :: vI dp :: vR dd :: vI sp :: vR s :: st)) M (.invokestatic i) = some (pc + 3, em_l base lv, em_s base st, m_put base M (base + dd) (hk M dd, hz M dd, va_cpy (M.2.2 s).2.2 (M.2.2 dd).2.2 sp.toNat dp.toNat n.toNat)) := by
    simp only [m_spc, hs, em_s, List.map_cons, em, m_cp, m_at_own hcs.1, m_own_own hcd.1, e1, e2, e3, e1', e2', e3', k1, k2]
    unfold em_s at hsm
    rw [if_pos ⟨trivial, by decide, by decide, hb.1, hb.2.1, hb.2.2.1, b4, b5, hsm⟩]
    simp only [hk, hz, k2]
  rw [e]
  rfl
end
noncomputable def T279 : mT := (18, yJ7_copyOf_59c91, cJ7_copyOf_59c91, 3, (some (.array .int)))
set_option maxRecDepth 10000 in
theorem TE279 : sy_m[279]? = some T279 := rfl
theorem D279_2 : decode T279.2.2.1 2 = .ok (.arraylength, 1) := by decide +kernel
theorem D279_3 : decode T279.2.2.1 3 = .ok (.if_icmp .ne 11, 3) := by decide +kernel
theorem D279_7 : decode T279.2.2.1 7 = .ok (.invokevirtual 316, 3) := by decide +kernel
theorem D279_10 : decode T279.2.2.1 10 = .ok (.checkcast 317, 3) := by decide +kernel
theorem D279_13 : decode T279.2.2.1 13 = .ok (.areturn, 1) := by decide +kernel
theorem D279_15 : decode T279.2.2.1 15 = .ok (.newarray .int, 2) := by decide +kernel
theorem D279_23 : decode T279.2.2.1 23 = .ok (.arraylength, 1) := by decide +kernel
theorem D279_25 : decode T279.2.2.1 25 = .ok (.invokestatic 304, 3) := by decide +kernel
theorem D279_28 : decode T279.2.2.1 28 = .ok (.invokestatic 150, 3) := by decide +kernel
theorem D279_32 : decode T279.2.2.1 32 = .ok (.areturn, 1) := by decide +kernel
theorem mc_18_static_304 : m_call 18 (.invokestatic 304) = none := by decide +kernel
theorem sp_18_304 : m_sp 18 304 = some 3 := by decide +kernel
theorem mc_18_static_150 : m_call 18 (.invokestatic 150) = none := by decide +kernel
theorem sp_18_150 : m_sp 18 150 = some 1 := by decide +kernel
theorem mc_18_virtual_316 : m_call 18 (.invokevirtual 316) = none := by decide +kernel
theorem sp_18_316 : m_sp 18 316 = some 5 := by decide +kernel
theorem B279_0_2 : s_dk T279.2.2.1 0 [.iload_n 1, .aload_n 0] 2 = true := by decide +kernel
theorem B279_6_7 : s_dk T279.2.2.1 6 [.aload_n 0] 7 = true := by decide +kernel
theorem B279_14_15 : s_dk T279.2.2.1 14 [.iload_n 1] 15 = true := by decide +kernel
theorem B279_17_23 : s_dk T279.2.2.1 17 [.astore_n 2, .aload_n 0, .iconst 0, .aload_n 2, .iconst 0, .aload_n 0] 23 = true := by decide +kernel
theorem B279_24_25 : s_dk T279.2.2.1 24 [.iload_n 1] 25 = true := by decide +kernel
theorem B279_31_32 : s_dk T279.2.2.1 31 [.aload_n 2] 32 = true := by decide +kernel
section
variable {base : Nat} {X : Nat → Option mC} {G : Nat → Value}
/-- what copyOf answers -/
noncomputable def CO (base c : Nat) (n : Int) (M : mH) (v : Option (Nat ⊕ Nat)) (M' : mH) : Prop := v = some (.inl M.1) ∧ HI base M' ∧ M'.1 = M.1 + 1 ∧ M'.2.1 = M.2.1 + n.toNat ∧ (∀ r, r ≠ M.1 → sameC r M M') ∧ IA M.1 n M' ∧ ∀ j : Int, 0 ≤ j → j < n → gi M' M.1 j = gi M c j
theorem k279 {c nc d : Nat} {n : Int} {M : mH} (H : HI base M) (hc : shL[c]? = some (1000, nc, [1])) (hn : 0 ≤ n ∧ n ≤ (nc : Int) ∧ nc ≤ 1000) : sOk base X G d T279 [vR c, vI n] M (pA (CO base c n M)) := by
  have hl : shL.length = 111 := rfl
  have hM := H.1.1
  have hcl : c < 111 := by have := (List.getElem?_eq_some_iff.mp hc).1; omega
  obtain ⟨g1, g2, g3⟩ := H.1.2 c _ hc
  have gI : ∀ i, i < nc → ∃ x : Int32, hv M c i = .int x := fun i hi => by
    have := g3 i hi
    exact this
  refine sOk.of (show sRn base X G d T279 0 [(0, vR c), (1, vI n)] [] M _ from ?_)
  refine s_blx (lv' := [(0, vR c), (1, vI n)]) (st' := [vR c, vI n]) B279_0_2 rfl ?_
  refine r_len (ni := (nc : Int)) (pc' := 3) D279_2 rfl hc (by decide) rfl H.1 ?_
  refine r_icmp (tgt := 14) (pc' := 6) D279_3 rfl rfl (by unfold inR; omega) (fun (hne : n ≠ (nc : Int)) => ?_) (fun (heq : ¬ (n ≠ (nc : Int))) => ?_)
  · refine s_blx (lv' := [(0, vR c), (1, vI n)]) (st' := [vI n]) B279_14_15 rfl ?_
    refine r_newI (pc' := 17) D279_15 rfl (by omega) ?_
    intro M1 w
    have H1 := H.nw w
    have hk1 : hk M1 M.1 = 1000 := by unfold hk; rw [w.at]
    have hz1 : hz M1 M.1 = n.toNat := by unfold hz; rw [w.at]
    have hv1 : ∀ i, hv M1 M.1 i = .int 0 := fun i => by unfold hv; rw [w.at]
    have sc := w.same (c := c) (by omega)
    refine s_blx (lv' := [(2, vR M.1), (0, vR c), (1, vI n)]) (st' := [vR c, vI 0, vR M.1, vI 0, vR c]) B279_17_23 rfl ?_
    refine r_len (ni := (nc : Int)) (pc' := 24) D279_23 rfl hc (by decide) rfl H1.1 ?_
    refine s_blx (lv' := [(2, vR M.1), (0, vR c), (1, vI n)]) (st' := [vI n, vI (nc : Int), vI 0, vR M.1, vI 0, vR c]) B279_24_25 rfl ?_
    refine r_min (pc' := 28) D279_25 rfl mc_18_static_304 sp_18_304 (Nat.le_of_ble_eq_true rfl) (by unfold inR; omega) ?_
    intro z z1 z2 z3
    have ez : z = n := by omega
    subst ez
    refine r_acpyG (pc' := 31) D279_28 rfl mc_18_static_150 sp_18_150 (Nat.le_of_ble_eq_true rfl) ⟨by rw [w.n1]; omega, by rw [sc.1]; exact g1⟩ ⟨by rw [w.n1]; omega, hk1⟩ ⟨by omega, by omega, by omega, by rw [sc.2.1, g2]; show (0 : Int) + z ≤ (nc : Int); omega, by rw [hz1]; omega, by omega, by omega⟩ ?_
    intro M2 q
    refine s_blx (lv' := [(2, vR M.1), (0, vR c), (1, vI z)]) (st' := [vR M.1]) B279_31_32 rfl ?_
    refine r_aret (q := some (.inl M.1)) D279_32 rfl ⟨_, rfl, rfl, ?_, by rw [q.n1, w.n1], by rw [q.n2, w.n2], fun r hr => (w.same hr).tr (q.same hr), ?_, ?_⟩
    · exact H1.of (by rw [q.n1]; exact Nat.le_refl _) (fun r hr => q.same (by omega))
    · refine ⟨by rw [q.k]; exact hk1, by rw [q.z, hz1]; omega, fun i hi => ?_⟩
      rw [q.eq]
      by_cases hh : (0 : Int).toNat ≤ i ∧ i < (0 : Int).toNat + z.toNat
      · rw [if_pos hh, sc.2.2]
        exact gI _ (by have := hh.2; simp at this ⊢; omega)
      · rw [if_neg hh]; exact ⟨0, hv1 i⟩
    · intro j j1 j2
      rw [q.gi_in (by simp; omega) (by simp; omega), sc.gi]
      congr 1
      simp
  · have e : n = (nc : Int) := by omega
    subst e
    refine s_blx (lv' := [(0, vR c), (1, vI (nc : Int))]) (st' := [vR c]) B279_6_7 rfl ?_
    refine r_clone (pc' := 10) D279_7 rfl mc_18_virtual_316 sp_18_316 (Nat.le_of_ble_eq_true rfl) (by omega) g1 ?_
    intro M1 w
    have hk1 : hk M1 M.1 = 1000 := by unfold hk; rw [w.at]; exact g1
    refine r_ccast (pc' := 13) D279_10 rfl rfl (by rw [w.n1]; omega) hk1 ?_
    refine r_aret (q := some (.inl M.1)) D279_13 rfl ⟨_, rfl, rfl, H.nw w, w.n1, ?_, fun r hr => w.same hr, ?_, ?_⟩
    · rw [w.n2]
      show M.2.1 + hz M c = _
      rw [g2]
      show M.2.1 + nc = _
      omega
    · refine ⟨hk1, ?_, fun i hi => ?_⟩
      · unfold hz; rw [w.at]
        show ((hz M c : Nat) : Int) = _
        rw [g2]
      · unfold hv; rw [w.at]
        exact gI i (by omega)
    · intro j j1 j2
      unfold gi hv
      rw [w.at]
end
