set_option maxRecDepth 4000 in
theorem k218x {base : Nat} {X : Nat → Option mC} {G : Nat → Value} (E : EnvOK base X G) {d : Nat} (hd : 1 ≤ d) {M : mH} (H : HI base M) (c : Int) (tk : Int) (tok : Int) (F : Int → Int) (C : Int → Int) (h0 : PC C M) (h1 : ∀ j : Int, 0 ≤ j → F (j + 1) = dl (F j) (C j)) (h2 : gi M 77 36 = tk) (h3 : C tk = 0) (h4 : 0 ≤ tk ∧ tk ≤ 400) (h5 : gi M 77 37 = tok) (h6 : 0 ≤ tok ∧ tok ≤ tk) (h7 : -2147483648 ≤ c ∧ c ≤ 2147483647) (h8 : c ≠ 0) : sOk base X G d T218 [vR 77, vI c] M (pI (fun v M' => HI base M' ∧ Fr [(77, 38)] M M' ∧ (v = 0 ∨ v = 1) ∧ (tok ≤ gi M' 77 37 ∧ gi M' 77 37 ≤ tk) ∧ (v = 1 → gi M' 77 37 = tok + 1 ∧ C tok = c ∧ gi M 77 39 = -1 ∧ F (gi M' 77 37) = dl (F tok) c) ∧ (v = 0 → gi M' 77 37 = tok ∧ F (gi M' 77 37) = F tok ∧ C (gi M' 77 37) = C tok ∧ (gi M 77 39 ≠ -1 ∨ C tok ≠ c)))) := by
  have f0 : Fr [(77, 38)] M M := Fr.rf
  refine sOk.of (show sRn base X G d T218 0 [(0, vR 77), (1, vI c)] [] M _ from ?_)
  refine s_blx (lv' := [(0, vR 77), (1, vI c)]) (st' := [vR 77]) B218_0_1 rfl ?_
  refine r_vIp (c := 77) (args := []) (rest := []) (pc' := 4) D218_1 rfl ck_11_virtual_321 TE216 rfl (Nat.le_of_ble_eq_true rfl) ⟨Nat.le_of_ble_eq_true rfl, Nat.le_of_ble_eq_true rfl⟩ sc_77 ⟨rfl, by decide⟩ H.1 (dp_0 hd rfl) (k216x E (dp_n hd rfl) H ) ?_
  intro v1 q6
  obtain ⟨q3, q4, q5⟩ := q6
  refine r_ifc (tgt := 24) (pc' := 7) D218_4 rfl rfl (by unfold inR; omega) (fun (c7 : v1 = 0) => ?_) (fun (c7 : ¬ (v1 = 0)) => ?_)
  · refine s_blx (lv' := [(2, vI 0), (0, vR 77), (1, vI c)]) (st' := [vI 0]) B218_24_27 rfl ?_
    refine r_ifc (tgt := 40) (pc' := 30) D218_27 rfl rfl (by unfold inR; omega) (fun (c8 : 0 = 0) => ?_) (fun (c8 : ¬ (0 = 0)) => ?_)
    · refine s_blx (lv' := [(2, vI 0), (0, vR 77), (1, vI c)]) (st' := [vI 0]) B218_40_41 rfl ?_
      have g9 : gi M 77 37 = tok := h5
      exact r_zretI D218_41 rfl (by omega) (⟨H, f0, by omega, by rw [g9]; omega, by rw [g9]; omega, by rw [g9]; omega⟩)
    · exfalso; omega
  · refine s_blx (lv' := [(0, vR 77), (1, vI c)]) (st' := [vR 77]) B218_7_8 rfl ?_
    refine r_gfix (r := 97) (pc' := 11) D218_8 rfl gf_11_78_77 H.1 ?_
    refine s_blx (lv' := [(0, vR 77), (1, vI c)]) (st' := [vR 77, vR 97]) B218_11_12 rfl ?_
    refine r_gint (ki := 37) (pc' := 15) D218_12 rfl gf_11_325_77 rfl H.1 ?_
    intro w10 e11 r12
    have e13 : tok = w10 := (e11.trans (h5)).symm
    subst e13
    refine r_iald (pc' := 16) D218_15 rfl sc_97 H.1 (by omega) ?_
    intro w14 e15 r16
    unfold inR at r16
    have kc := h0 tok
    have kn := tk_lt (t := tok) h3 (by omega)
    refine s_blx (lv' := [(0, vR 77), (1, vI c)]) (st' := [vI c, vI w14]) B218_16_17 rfl ?_
    refine r_icmp (tgt := 24) (pc' := 20) D218_17 rfl rfl (by unfold inR; omega) (fun (c17 : w14 ≠ c) => ?_) (fun (c17 : ¬ (w14 ≠ c)) => ?_)
    · refine s_blx (lv' := [(2, vI 0), (0, vR 77), (1, vI c)]) (st' := [vI 0]) B218_24_27 rfl ?_
      refine r_ifc (tgt := 40) (pc' := 30) D218_27 rfl rfl (by unfold inR; omega) (fun (c18 : 0 = 0) => ?_) (fun (c18 : ¬ (0 = 0)) => ?_)
      · refine s_blx (lv' := [(2, vI 0), (0, vR 77), (1, vI c)]) (st' := [vI 0]) B218_40_41 rfl ?_
        have g19 : gi M 77 37 = tok := h5
        exact r_zretI D218_41 rfl (by omega) (⟨H, f0, by omega, by rw [g19]; omega, by rw [g19]; omega, by rw [g19]; omega⟩)
      · exfalso; omega
    · refine s_blx (lv' := [(0, vR 77), (1, vI c)]) (st' := [vI 1]) B218_20_21 rfl ?_
      refine r_goto (tgt := 25) D218_21 rfl ?_
      refine s_blx (lv' := [(2, vI 1), (0, vR 77), (1, vI c)]) (st' := [vI 1]) B218_25_27 rfl ?_
      refine r_ifc (tgt := 40) (pc' := 30) D218_27 rfl rfl (by unfold inR; omega) (fun (c20 : 1 = 0) => ?_) (fun (c20 : ¬ (1 = 0)) => ?_)
      · exfalso; omega
      · refine s_blx (lv' := [(2, vI 1), (0, vR 77), (1, vI c)]) (st' := [vR 77, vR 77]) B218_30_32 rfl ?_
        refine r_gint (ki := 37) (pc' := 35) D218_32 rfl gf_11_325_77 rfl H.1 ?_
        intro w21 e22 r23
        have e24 : tok = w21 := (e22.trans (h5)).symm
        subst e24
        refine s_blx (lv' := [(2, vI 1), (0, vR 77), (1, vI c)]) (st' := [vI (tok + 1), vR 77]) B218_35_37 rfl ?_
        refine r_pint (ki := 37) (pc' := 40) D218_37 rfl pf_11_325_77 rfl H (by unfold inR; omega) (show 0 ≤ (tok + 1) ∧ (tok + 1) ≤ 400 by omega) ?_
        intro M25 u26 H27 p28
        have f29 := f0.wr u26 rfl
        have kd := h1 tok (by omega)
        have ke : C tok = c := by omega
        rw [ke] at kd
        refine s_blx (lv' := [(2, vI 1), (0, vR 77), (1, vI c)]) (st' := [vI 1]) B218_40_41 rfl ?_
        have g30 : gi M25 77 37 = tok + 1 := p28
        exact r_zretI D218_41 rfl (by omega) (⟨H27, f29, by omega, by rw [g30]; omega, by rw [g30]; omega, by rw [g30]; omega⟩)
