set_option maxRecDepth 4000 in
theorem k233x {base : Nat} {X : Nat → Option mC} {G : Nat → Value} (E : EnvOK base X G) {d : Nat} (hd : 1 ≤ d) {M : mH} (H : HI base M) (c : Int) (a : Int) (e : Int) (gg : Int) (F : Int → Int) (C : Int → Int) (h0 : KC C M) (h1 : ∀ j : Int, a ≤ j → j < e → F (j + 1) = dl (F j) (C j) ∧ F (j + 1) ≠ 0) (h2 : F e = 2 ∨ F e = 20 ∨ F e = 2001) (h3 : gi M 77 41 = e) (h4 : 0 ≤ a ∧ e ≤ 3200) (h5 : gi M 77 40 = gg) (h6 : a ≤ gg ∧ gg ≤ e) (h7 : -2147483648 ≤ c ∧ c ≤ 2147483647) (h8 : c ≠ 0) : sOk base X G d T233 [vR 77, vI c] M (pI (fun v M' => HI base M' ∧ Fr [(77, 41)] M M' ∧ (v = 0 ∨ v = 1) ∧ (gg ≤ gi M' 77 40 ∧ gi M' 77 40 ≤ e) ∧ (v = 1 → gi M' 77 40 = gg + 1 ∧ C gg = c ∧ F (gi M' 77 40) = dl (F gg) c ∧ F (gi M' 77 40) ≠ 0) ∧ (v = 0 → gi M' 77 40 = gg ∧ F (gi M' 77 40) = F gg ∧ C (gi M' 77 40) = C gg ∧ (e ≤ gg ∨ C gg ≠ c)))) := by
  have f0 : Fr [(77, 41)] M M := Fr.rf
  refine sOk.of (show sRn base X G d T233 0 [(0, vR 77), (1, vI c)] [] M _ from ?_)
  refine s_blx (lv' := [(0, vR 77), (1, vI c)]) (st' := [vR 77, vR 77]) B233_0_2 rfl ?_
  refine r_gint (ki := 40) (pc' := 5) D233_2 rfl gf_11_378_77 rfl H.1 ?_
  intro w1 e2 r3
  have e4 : gg = w1 := (e2.trans (h5)).symm
  subst e4
  have g5 : gi M 77 41 = e := h3
  refine r_vIp (c := 77) (args := [vI gg]) (rest := []) (pc' := 8) D233_5 rfl ck_11_virtual_381 TE232 rfl (Nat.le_of_ble_eq_true rfl) ⟨Nat.le_of_ble_eq_true rfl, Nat.le_of_ble_eq_true rfl⟩ sc_77 ⟨rfl, by decide⟩ H.1 (dp_0 hd rfl) (k232x E (dp_n hd rfl) H gg e C (h0) (by omega) (by omega) (by omega)) ?_
  intro v6 q11
  obtain ⟨q8, q9, q10⟩ := q11
  refine s_blx (lv' := [(0, vR 77), (1, vI c)]) (st' := [vI c, vI v6]) B233_8_9 rfl ?_
  refine r_icmp (tgt := 16) (pc' := 12) D233_9 rfl rfl (by unfold inR; omega) (fun (c12 : v6 ≠ c) => ?_) (fun (c12 : ¬ (v6 ≠ c)) => ?_)
  · refine s_blx (lv' := [(2, vI 0), (0, vR 77), (1, vI c)]) (st' := [vI 0]) B233_16_19 rfl ?_
    refine r_ifc (tgt := 32) (pc' := 22) D233_19 rfl rfl (by unfold inR; omega) (fun (c13 : 0 = 0) => ?_) (fun (c13 : ¬ (0 = 0)) => ?_)
    · refine s_blx (lv' := [(2, vI 0), (0, vR 77), (1, vI c)]) (st' := [vI 0]) B233_32_33 rfl ?_
      have g14 : gi M 77 40 = gg := h5
      exact r_zretI D233_33 rfl (by omega) (⟨H, f0, by omega, by rw [g14]; omega, by rw [g14]; omega, by rw [g14]; omega⟩)
    · exfalso; omega
  · refine s_blx (lv' := [(0, vR 77), (1, vI c)]) (st' := [vI 1]) B233_12_13 rfl ?_
    refine r_goto (tgt := 17) D233_13 rfl ?_
    refine s_blx (lv' := [(2, vI 1), (0, vR 77), (1, vI c)]) (st' := [vI 1]) B233_17_19 rfl ?_
    refine r_ifc (tgt := 32) (pc' := 22) D233_19 rfl rfl (by unfold inR; omega) (fun (c15 : 1 = 0) => ?_) (fun (c15 : ¬ (1 = 0)) => ?_)
    · exfalso; omega
    · refine s_blx (lv' := [(2, vI 1), (0, vR 77), (1, vI c)]) (st' := [vR 77, vR 77]) B233_22_24 rfl ?_
      refine r_gint (ki := 40) (pc' := 27) D233_24 rfl gf_11_378_77 rfl H.1 ?_
      intro w16 e17 r18
      have e19 : gg = w16 := (e17.trans (h5)).symm
      subst e19
      refine s_blx (lv' := [(2, vI 1), (0, vR 77), (1, vI c)]) (st' := [vI (gg + 1), vR 77]) B233_27_29 rfl ?_
      refine r_pint (ki := 40) (pc' := 32) D233_29 rfl pf_11_378_77 rfl H (by unfold inR; omega) trivial ?_
      intro M20 u21 H22 p23
      have f24 := f0.wr u21 rfl
      have kd := h1 gg (by omega) (by omega)
      have ke : C gg = c := by omega
      rw [ke] at kd
      refine s_blx (lv' := [(2, vI 1), (0, vR 77), (1, vI c)]) (st' := [vI 1]) B233_32_33 rfl ?_
      have g25 : gi M20 77 40 = gg + 1 := p23
      exact r_zretI D233_33 rfl (by omega) (⟨H22, f24, by omega, by rw [g25]; omega, by rw [g25]; omega, by rw [g25]; omega⟩)
