set_option maxRecDepth 4000 in
theorem k186f {base : Nat} {X : Nat → Option mC} {G : Nat → Value} (E : EnvOK base X G) {d : Nat} (hd : 2 ≤ d) {M : mH} (H : HI base M) (said : Int) (slot : Int) (o : Int) (U : Int → Int) (h0 : TB M) (h1 : C3 84 U M) (h2 : gi M 78 473 = o) (h3 : 0 ≤ said ∧ said ≤ 1110) (h4 : 0 ≤ slot ∧ slot ≤ 2) : sOk base X G d T186 [vR 77, vI said, vI slot] M (pI (fun v M' => M' = M ∧ (v = 0 ∨ v = 1) ∧ (v = 1 → CM o U said slot) ∧ (v = 0 → ¬ CM o U said slot))) := by
  refine sOk.of (show sRn base X G d T186 0 [(0, vR 77), (1, vI said), (2, vI slot)] [] M _ from ?_)
  refine s_blx (lv' := [(0, vR 77), (1, vI said), (2, vI slot)]) (st' := [vI slot, vR 77]) B186_0_2 rfl ?_
  have g1 : gi M 78 473 = o := h2
  refine r_vIp (c := 77) (args := [vI slot]) (rest := []) (pc' := 5) D186_2 rfl ck_11_virtual_209 TE185 rfl (Nat.le_of_ble_eq_true rfl) ⟨Nat.le_of_ble_eq_true rfl, Nat.le_of_ble_eq_true rfl⟩ sc_77 ⟨rfl, by decide⟩ H.1 (dp_0 hd rfl) (k185f E (dp_n hd rfl) H slot o (by omega) (by omega)) ?_
  intro v2 q6
  obtain ⟨q4, q5⟩ := q6
  have ko := H.2 78 473 0 5 (rk_order (by omega))
  have ki := q5
  have ku : ∀ i : Int, 0 ≤ i → i ≤ 2 → sl o i = slot → i = v2 := fun i h1 h2 h3 => sl_inj (o := o) (by omega) (by omega) (by omega) (by rw [h3, ki])
  refine s_blx (lv' := [(3, vI v2), (0, vR 77), (1, vI said), (2, vI slot)]) (st' := [vR 77, vI v2]) B186_5_8 rfl ?_
  refine r_gfix (r := 81) (pc' := 11) D186_8 rfl gf_11_24_77 H.1 ?_
  refine s_blx (lv' := [(3, vI v2), (0, vR 77), (1, vI said), (2, vI slot)]) (st' := [vI said, vR 81, vI v2]) B186_11_12 rfl ?_
  refine r_iald (pc' := 13) D186_12 rfl sc_81 H.1 (by omega) ?_
  intro w7 e8 r9
  have b_w7 := H.2 81 (said) 0 3 rfl
  rw [← e8] at b_w7; clear r9
  have kd : w7 = DN said := by have q := (h0).dn (s := said) (by omega); omega
  refine r_icmp (tgt := 64) (pc' := 16) D186_13 rfl rfl (by unfold inR; omega) (fun (c10 : w7 ≤ v2) => ?_) (fun (c10 : ¬ (w7 ≤ v2)) => ?_)
  · refine s_blx (lv' := [(3, vI v2), (0, vR 77), (1, vI said), (2, vI slot)]) (st' := [vI 0]) B186_64_65 rfl ?_
    exact r_zretI D186_65 rfl (by omega) (⟨rfl, by omega, by first | exact fun _ => ⟨v2, by omega, by omega, ki, by omega, by omega, by omega, by omega⟩ | exact fun h => absurd h (by omega), by first | exact fun h => absurd h (by omega) | (intro _ h; obtain ⟨i, a1, a2, a3, a4, a5, a6, a7⟩ := h; have e := ku i a1 a2 a3; subst e; omega)⟩)
  · refine s_blx (lv' := [(3, vI v2), (0, vR 77), (1, vI said), (2, vI slot)]) (st' := [vR 77]) B186_16_17 rfl ?_
    refine r_gfix (r := 82) (pc' := 20) D186_17 rfl gf_11_27_77 H.1 ?_
    refine s_blx (lv' := [(3, vI v2), (0, vR 77), (1, vI said), (2, vI slot)]) (st' := [vI ((3 * said) + v2), vR 82]) B186_20_25 rfl ?_
    refine r_iald (pc' := 26) D186_25 rfl sc_82 H.1 (by omega) ?_
    intro w11 e12 r13
    have b_w11 := H.2 82 ((3 * said) + v2) 0 9 rfl
    rw [← e12] at b_w11; clear r13
    have kg : v2 < DN said → w11 = DG said v2 := fun h => by rw [e12]; exact (h0).dg (by omega) (by omega) h
    refine s_blx (lv' := [(3, vI v2), (0, vR 77), (1, vI said), (2, vI slot)]) (st' := [vI 8, vI w11]) B186_26_28 rfl ?_
    refine r_icmp (tgt := 64) (pc' := 31) D186_28 rfl rfl (by unfold inR; omega) (fun (c14 : 8 ≤ w11) => ?_) (fun (c14 : ¬ (8 ≤ w11)) => ?_)
    · refine s_blx (lv' := [(3, vI v2), (0, vR 77), (1, vI said), (2, vI slot)]) (st' := [vI 0]) B186_64_65 rfl ?_
      exact r_zretI D186_65 rfl (by omega) (⟨rfl, by omega, by first | exact fun _ => ⟨v2, by omega, by omega, ki, by omega, by omega, by omega, by omega⟩ | exact fun h => absurd h (by omega), by first | exact fun h => absurd h (by omega) | (intro _ h; obtain ⟨i, a1, a2, a3, a4, a5, a6, a7⟩ := h; have e := ku i a1 a2 a3; subst e; omega)⟩)
    · refine s_blx (lv' := [(3, vI v2), (0, vR 77), (1, vI said), (2, vI slot)]) (st' := [vR 77]) B186_31_32 rfl ?_
      refine r_gfix (r := 84) (pc' := 35) D186_32 rfl gf_11_33_77 H.1 ?_
      refine s_blx (lv' := [(3, vI v2), (0, vR 77), (1, vI said), (2, vI slot)]) (st' := [vI slot, vR 84]) B186_35_36 rfl ?_
      refine r_iald (pc' := 37) D186_36 rfl sc_84 H.1 (by omega) ?_
      intro w15 e16 r17
      have b_w15 := H.2 84 (slot) (-1) 7 rfl
      rw [← e16] at b_w15; clear r17
      have ks : w15 = U slot := by have q := (h1) slot (by omega) (by omega); omega
      refine s_blx (lv' := [(3, vI v2), (0, vR 77), (1, vI said), (2, vI slot)]) (st' := [vI (-1), vI w15]) B186_37_38 rfl ?_
      refine r_icmp (tgt := 64) (pc' := 41) D186_38 rfl rfl (by unfold inR; omega) (fun (c18 : w15 = (-1)) => ?_) (fun (c18 : ¬ (w15 = (-1))) => ?_)
      · refine s_blx (lv' := [(3, vI v2), (0, vR 77), (1, vI said), (2, vI slot)]) (st' := [vI 0]) B186_64_65 rfl ?_
        exact r_zretI D186_65 rfl (by omega) (⟨rfl, by omega, by first | exact fun _ => ⟨v2, by omega, by omega, ki, by omega, by omega, by omega, by omega⟩ | exact fun h => absurd h (by omega), by first | exact fun h => absurd h (by omega) | (intro _ h; obtain ⟨i, a1, a2, a3, a4, a5, a6, a7⟩ := h; have e := ku i a1 a2 a3; subst e; omega)⟩)
      · refine s_blx (lv' := [(3, vI v2), (0, vR 77), (1, vI said), (2, vI slot)]) (st' := [vR 77]) B186_41_42 rfl ?_
        refine r_gfix (r := 84) (pc' := 45) D186_42 rfl gf_11_33_77 H.1 ?_
        refine s_blx (lv' := [(3, vI v2), (0, vR 77), (1, vI said), (2, vI slot)]) (st' := [vI slot, vR 84]) B186_45_46 rfl ?_
        refine r_iald (pc' := 47) D186_46 rfl sc_84 H.1 (by omega) ?_
        intro w19 e20 r21
        have e22 : w15 = w19 := (e20.trans (e16.symm)).symm
        subst e22
        refine s_blx (lv' := [(3, vI v2), (0, vR 77), (1, vI said), (2, vI slot)]) (st' := [vR 77, vI w15]) B186_47_48 rfl ?_
        refine r_gfix (r := 82) (pc' := 51) D186_48 rfl gf_11_27_77 H.1 ?_
        refine s_blx (lv' := [(3, vI v2), (0, vR 77), (1, vI said), (2, vI slot)]) (st' := [vI ((3 * said) + v2), vR 82, vI w15]) B186_51_56 rfl ?_
        refine r_iald (pc' := 57) D186_56 rfl sc_82 H.1 (by omega) ?_
        intro w23 e24 r25
        have e26 : w11 = w23 := (e24.trans (e12.symm)).symm
        subst e26
        refine r_icmp (tgt := 64) (pc' := 60) D186_57 rfl rfl (by unfold inR; omega) (fun (c27 : w15 = w11) => ?_) (fun (c27 : ¬ (w15 = w11)) => ?_)
        · refine s_blx (lv' := [(3, vI v2), (0, vR 77), (1, vI said), (2, vI slot)]) (st' := [vI 0]) B186_64_65 rfl ?_
          exact r_zretI D186_65 rfl (by omega) (⟨rfl, by omega, by first | exact fun _ => ⟨v2, by omega, by omega, ki, by omega, by omega, by omega, by omega⟩ | exact fun h => absurd h (by omega), by first | exact fun h => absurd h (by omega) | (intro _ h; obtain ⟨i, a1, a2, a3, a4, a5, a6, a7⟩ := h; have e := ku i a1 a2 a3; subst e; omega)⟩)
        · refine s_blx (lv' := [(3, vI v2), (0, vR 77), (1, vI said), (2, vI slot)]) (st' := [vI 1]) B186_60_61 rfl ?_
          refine r_goto (tgt := 65) D186_61 rfl ?_
          exact r_zretI D186_65 rfl (by omega) (⟨rfl, by omega, by first | exact fun _ => ⟨v2, by omega, by omega, ki, by omega, by omega, by omega, by omega⟩ | exact fun h => absurd h (by omega), by first | exact fun h => absurd h (by omega) | (intro _ h; obtain ⟨i, a1, a2, a3, a4, a5, a6, a7⟩ := h; have e := ku i a1 a2 a3; subst e; omega)⟩)
