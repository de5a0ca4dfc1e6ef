set_option maxRecDepth 4000 in
theorem k220x {base : Nat} {X : Nat → Option mC} {G : Nat → Value} (E : EnvOK base X G) {d : Nat} (hd : 2 ≤ d) {M : mH} (H : HI base M) (tk : Int) (tok : Int) (F : Int → Int) (C : Int → Int) (h0 : PC C M) (h1 : ∀ j : Int, 0 ≤ j → F (j + 1) = dl (F j) (C j)) (h2 : gi M 77 36 = tk) (h3 : C tk = 0) (h4 : 0 ≤ tk ∧ tk ≤ 400) (h5 : gi M 77 37 = tok) (h6 : 0 ≤ tok ∧ tok ≤ tk) (h7 : gi M 77 39 = -1) (h8 : tok < tk) : sOk base X G d T220 [vR 77] M (pV (fun M' => HI base M' ∧ Fr [(77, 38), (77, 39), (77, 40)] M M' ∧ (tok ≤ gi M' 77 37 ∧ gi M' 77 37 ≤ tk) ∧ (gi M' 77 39 = -1 → F (gi M' 77 37) = dl (F tok) (C tok)))) := by
  have f0 : Fr [(77, 38), (77, 39), (77, 40)] M M := Fr.rf
  refine sOk.of (show sRn base X G d T220 0 [(0, vR 77)] [] M _ from ?_)
  refine s_blx (lv' := [(0, vR 77)]) (st' := [vR 77]) B220_0_1 rfl ?_
  refine r_gint (ki := 38) (pc' := 4) D220_1 rfl gf_11_334_77 rfl H.1 ?_
  intro w1 e2 r3
  unfold inR at r3
  refine s_blx (lv' := [(0, vR 77)]) (st' := [vI 50, vI w1]) B220_4_6 rfl ?_
  refine r_icmp (tgt := 13) (pc' := 9) D220_6 rfl rfl (by unfold inR; omega) (fun (c4 : w1 ≠ 50) => ?_) (fun (c4 : ¬ (w1 ≠ 50)) => ?_)
  · refine s_blx (lv' := [(0, vR 77)]) (st' := [vR 77, vR 77]) B220_13_15 rfl ?_
    refine r_gint (ki := 38) (pc' := 18) D220_15 rfl gf_11_334_77 rfl H.1 ?_
    intro w5 e6 r7
    have e8 : w1 = w5 := (e6.trans (e2.symm)).symm
    subst e8
    refine s_blx (lv' := [(0, vR 77)]) (st' := [vI (w1 + 1), vR 77]) B220_18_20 rfl ?_
    refine r_norm ?_
    intro z9 r10 _; unfold inR at r10
    refine r_pint (ki := 38) (pc' := 23) D220_20 rfl pf_11_334_77 rfl H (by unfold inR; omega) trivial ?_
    intro M11 u12 H13 p14
    have f15 := f0.wr u12 rfl
    refine s_blx (lv' := [(0, vR 77)]) (st' := [vR 77]) B220_23_24 rfl ?_
    have g16 : gi M11 77 39 = gi M 77 39 := (u12.gi_ne (by decide) (Or.inr (by decide))).trans (rfl)
    refine r_vIp (c := 77) (args := []) (rest := []) (pc' := 27) D220_24 rfl ck_11_virtual_321 TE216 rfl (Nat.le_of_ble_eq_true rfl) ⟨Nat.le_of_ble_eq_true rfl, Nat.le_of_ble_eq_true rfl⟩ sc_77 ⟨rfl, by decide⟩ H13.1 (dp_0 hd rfl) (k216x E (dp_n hd rfl) H13 ) ?_
    intro v17 q22
    obtain ⟨q19, q20, q21⟩ := q22
    refine r_ifc (tgt := 40) (pc' := 30) D220_27 rfl rfl (by unfold inR; omega) (fun (c23 : v17 = 0) => ?_) (fun (c23 : ¬ (v17 = 0)) => ?_)
    · have g24 : gi M11 77 37 = tok := (u12.gi_ne (by decide) (Or.inr (by decide))).trans (h5)
      have g25 : gi M11 77 39 = gi M 77 39 := (u12.gi_ne (by decide) (Or.inr (by decide))).trans (rfl)
      exact r_retV D220_40 rfl (⟨H13, f15, by rw [g24]; omega, by rw [g24, g25]; omega⟩)
    · refine s_blx (lv' := [(0, vR 77)]) (st' := [vR 77, vR 77]) B220_30_32 rfl ?_
      refine r_gint (ki := 37) (pc' := 35) D220_32 rfl gf_11_325_77 rfl H13.1 ?_
      intro w26 e27 r28
      have e29 : tok = w26 := (e27.trans ((u12.gi_ne (by decide) (Or.inr (by decide))).trans (h5))).symm
      subst e29
      refine s_blx (lv' := [(0, vR 77)]) (st' := [vI (tok + 1), vR 77]) B220_35_37 rfl ?_
      refine r_pint (ki := 37) (pc' := 40) D220_37 rfl pf_11_325_77 rfl H13 (by unfold inR; omega) (show 0 ≤ (tok + 1) ∧ (tok + 1) ≤ 400 by omega) ?_
      intro M30 u31 H32 p33
      have f34 := f15.wr u31 rfl
      have kd := h1 tok (by omega)
      have g35 : gi M30 77 37 = tok + 1 := p33
      have g36 : gi M30 77 39 = gi M 77 39 := (u31.gi_ne (by decide) (Or.inr (by decide))).trans ((u12.gi_ne (by decide) (Or.inr (by decide))).trans (rfl))
      exact r_retV D220_40 rfl (⟨H32, f34, by rw [g35]; omega, by rw [g35, g36]; omega⟩)
  · refine s_blx (lv' := [(0, vR 77)]) (st' := [vR 77]) B220_9_10 rfl ?_
    refine r_vV (c := 77) (args := []) (rest := []) (pc' := 13) D220_10 rfl ck_11_virtual_331 TE217 rfl (Nat.le_of_ble_eq_true rfl) ⟨Nat.le_of_ble_eq_true rfl, Nat.le_of_ble_eq_true rfl⟩ sc_77 ⟨rfl, by decide⟩ H.1 (dp_0 hd rfl) (k217x E (dp_n hd rfl) H ) ?_
    intro M38 q42
    obtain ⟨H39, f40, q41⟩ := q42
    have f43 := f0.tr (f40.up rfl)
    obtain ⟨t44, ht45⟩ : ∃ q, q = gi M38 77 39 := ⟨_, rfl⟩
    rw [← ht45] at q41
    refine s_blx (lv' := [(0, vR 77)]) (st' := [vR 77, vR 77]) B220_13_15 rfl ?_
    refine r_gint (ki := 38) (pc' := 18) D220_15 rfl gf_11_334_77 rfl H39.1 ?_
    intro w46 e47 r48
    have e49 : w1 = w46 := (e47.trans ((f40.g rfl).trans (e2.symm))).symm
    subst e49
    refine s_blx (lv' := [(0, vR 77)]) (st' := [vI (w1 + 1), vR 77]) B220_18_20 rfl ?_
    refine r_pint (ki := 38) (pc' := 23) D220_20 rfl pf_11_334_77 rfl H39 (by unfold inR; omega) trivial ?_
    intro M50 u51 H52 p53
    have f54 := f43.wr u51 rfl
    refine s_blx (lv' := [(0, vR 77)]) (st' := [vR 77]) B220_23_24 rfl ?_
    have g55 : gi M50 77 39 = t44 := (u51.gi_ne (by decide) (Or.inr (by decide))).trans (ht45.symm)
    refine r_vIp (c := 77) (args := []) (rest := []) (pc' := 27) D220_24 rfl ck_11_virtual_321 TE216 rfl (Nat.le_of_ble_eq_true rfl) ⟨Nat.le_of_ble_eq_true rfl, Nat.le_of_ble_eq_true rfl⟩ sc_77 ⟨rfl, by decide⟩ H52.1 (dp_0 hd rfl) (k216x E (dp_n hd rfl) H52 ) ?_
    intro v56 q61
    obtain ⟨q58, q59, q60⟩ := q61
    refine r_ifc (tgt := 40) (pc' := 30) D220_27 rfl rfl (by unfold inR; omega) (fun (c62 : v56 = 0) => ?_) (fun (c62 : ¬ (v56 = 0)) => ?_)
    · have g63 : gi M50 77 37 = tok := (u51.gi_ne (by decide) (Or.inr (by decide))).trans ((f40.g rfl).trans (h5))
      have g64 : gi M50 77 39 = t44 := (u51.gi_ne (by decide) (Or.inr (by decide))).trans (ht45.symm)
      exact r_retV D220_40 rfl (⟨H52, f54, by rw [g63]; omega, by rw [g63, g64]; omega⟩)
    · refine s_blx (lv' := [(0, vR 77)]) (st' := [vR 77, vR 77]) B220_30_32 rfl ?_
      refine r_gint (ki := 37) (pc' := 35) D220_32 rfl gf_11_325_77 rfl H52.1 ?_
      intro w65 e66 r67
      have e68 : tok = w65 := (e66.trans ((u51.gi_ne (by decide) (Or.inr (by decide))).trans ((f40.g rfl).trans (h5)))).symm
      subst e68
      refine s_blx (lv' := [(0, vR 77)]) (st' := [vI (tok + 1), vR 77]) B220_35_37 rfl ?_
      refine r_pint (ki := 37) (pc' := 40) D220_37 rfl pf_11_325_77 rfl H52 (by unfold inR; omega) (show 0 ≤ (tok + 1) ∧ (tok + 1) ≤ 400 by omega) ?_
      intro M69 u70 H71 p72
      have f73 := f54.wr u70 rfl
      have kd := h1 tok (by omega)
      have g74 : gi M69 77 37 = tok + 1 := p72
      have g75 : gi M69 77 39 = t44 := (u70.gi_ne (by decide) (Or.inr (by decide))).trans ((u51.gi_ne (by decide) (Or.inr (by decide))).trans (ht45.symm))
      exact r_retV D220_40 rfl (⟨H71, f73, by rw [g74]; omega, by rw [g74, g75]; omega⟩)
