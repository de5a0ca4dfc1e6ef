set_option maxRecDepth 4000 in
theorem k217x {base : Nat} {X : Nat → Option mC} {G : Nat → Value} (E : EnvOK base X G) {d : Nat} (hd : 1 ≤ d) {M : mH} (H : HI base M) : sOk base X G d T217 [vR 77] M (pV (fun M' => HI base M' ∧ Fr [(77, 40)] M M' ∧ (gi M' 77 39 ≠ -1))) := by
  have f0 : Fr [(77, 40)] M M := Fr.rf
  refine sOk.of (show sRn base X G d T217 0 [(0, vR 77)] [] M _ from ?_)
  refine s_blx (lv' := [(0, vR 77)]) (st' := [vR 77]) B217_0_1 rfl ?_
  refine r_vIp (c := 77) (args := []) (rest := []) (pc' := 4) D217_1 rfl ck_11_virtual_321 TE216 rfl (Nat.le_of_ble_eq_true rfl) ⟨Nat.le_of_ble_eq_true rfl, Nat.le_of_ble_eq_true rfl⟩ sc_77 ⟨rfl, by decide⟩ H.1 (dp_0 hd rfl) (k216x E (dp_n hd rfl) H ) ?_
  intro v1 q6
  obtain ⟨q3, q4, q5⟩ := q6
  refine r_ifc (tgt := 20) (pc' := 7) D217_4 rfl rfl (by unfold inR; omega) (fun (c7 : v1 = 0) => ?_) (fun (c7 : ¬ (v1 = 0)) => ?_)
  · exact r_retV D217_20 rfl (⟨H, f0, by omega⟩)
  · refine s_blx (lv' := [(0, vR 77)]) (st' := [vR 77, vR 77]) B217_7_9 rfl ?_
    refine r_gfix (r := 99) (pc' := 12) D217_9 rfl gf_11_84_77 H.1 ?_
    refine s_blx (lv' := [(0, vR 77)]) (st' := [vR 77, vR 99, vR 77]) B217_12_13 rfl ?_
    refine r_gint (ki := 37) (pc' := 16) D217_13 rfl gf_11_325_77 rfl H.1 ?_
    intro w8 e9 r10
    have b_w8 := H.2 77 (37) 0 400 rfl
    rw [← e9] at b_w8; clear r10
    refine r_iald (pc' := 17) D217_16 rfl sc_99 H.1 (by omega) ?_
    intro w11 e12 r13
    have b_w11 := H.2 99 (w8) 0 400 rfl
    rw [← e12] at b_w11; clear r13
    refine r_pint (ki := 39) (pc' := 20) D217_17 rfl pf_11_318_77 rfl H (by unfold inR; omega) trivial ?_
    intro M14 u15 H16 p17
    have f18 := f0.wr u15 rfl
    have g19 : gi M14 77 39 = w11 := p17
    exact r_retV D217_20 rfl (⟨H16, f18, by rw [g19]; omega⟩)
