set_option maxRecDepth 4000 in
theorem k50_55 {base : Nat} {X : Nat → Option mC} {G : Nat → Value} (E : EnvOK base X G) {d : Nat} (hd : 0 ≤ d) {M : mH} (H : HI base M) (at_ : Int) (value : Int) (h0 : 0 ≤ at_ ∧ at_ ≤ 434) (h1 : 0 ≤ value ∧ value ≤ 7) : sOk base X G d T50 [vR 55, vI at_, vI value] M (pI (fun v M' => M' = M ∧ (0 ≤ v ∧ v ≤ 9))) := by
  refine sOk.of (show sRn base X G d T50 0 [(0, vR 55), (1, vI at_), (2, vI value)] [] M _ from ?_)
  refine s_blx (lv' := [(0, vR 55), (1, vI at_), (2, vI value)]) (st' := [vR 55]) B50_0_1 rfl ?_
  refine r_gfix (r := 39) (pc' := 4) D50_1 rfl gf_7_31_55 H.1 ?_
  refine r_gfix (r := 46) (pc' := 7) D50_4 rfl gf_7_78_39 H.1 ?_
  refine s_blx (lv' := [(0, vR 55), (1, vI at_), (2, vI value)]) (st' := [vI at_, vR 46]) B50_7_8 rfl ?_
  refine r_iald (pc' := 9) D50_8 rfl sc_46 H.1 (by omega) ?_
  intro w1 e2 r3
  unfold inR at r3
  refine s_blx (lv' := [(0, vR 55), (1, vI at_), (2, vI value)]) (st' := [vI value, vI w1]) B50_9_10 rfl ?_
  refine r_bin (pc' := 11) D50_10 rfl rfl ?_
  intro z4 r5 _; unfold inR at r5
  refine s_blx (lv' := [(0, vR 55), (1, vI at_), (2, vI value)]) (st' := [vI 1, vI z4]) B50_11_12 rfl ?_
  refine r_and1 (pc' := 13) D50_12 rfl ?_
  refine r_ifc (tgt := 19) (pc' := 16) D50_13 rfl rfl (by unfold inR; omega) (fun (c6 : (z4 % 2) ≠ 0) => ?_) (fun (c6 : ¬ ((z4 % 2) ≠ 0)) => ?_)
  · refine s_blx (lv' := [(0, vR 55), (1, vI at_), (2, vI value)]) (st' := [vR 55]) B50_19_20 rfl ?_
    refine r_gfix (r := 39) (pc' := 23) D50_20 rfl gf_7_31_55 H.1 ?_
    refine r_gfix (r := 47) (pc' := 26) D50_23 rfl gf_7_81_39 H.1 ?_
    refine s_blx (lv' := [(0, vR 55), (1, vI at_), (2, vI value)]) (st' := [vI at_, vR 47]) B50_26_27 rfl ?_
    refine r_iald (pc' := 28) D50_27 rfl sc_47 H.1 (by omega) ?_
    intro w7 e8 r9
    have b_w7 := H.2 47 (at_) (-1) 7 rfl
    rw [← e8] at b_w7; clear r9
    refine s_blx (lv' := [(0, vR 55), (1, vI at_), (2, vI value)]) (st' := [vI (-1), vI w7]) B50_28_29 rfl ?_
    refine r_icmp (tgt := 36) (pc' := 32) D50_29 rfl rfl (by unfold inR; omega) (fun (c10 : w7 ≠ (-1)) => ?_) (fun (c10 : ¬ (w7 ≠ (-1))) => ?_)
    · refine s_blx (lv' := [(0, vR 55), (1, vI at_), (2, vI value)]) (st' := [vI 8]) B50_36_38 rfl ?_
      exact r_iretI D50_38 rfl (⟨rfl, by omega⟩)
    · refine s_blx (lv' := [(0, vR 55), (1, vI at_), (2, vI value)]) (st' := [vI value]) B50_32_33 rfl ?_
      refine r_goto (tgt := 38) D50_33 rfl ?_
      exact r_iretI D50_38 rfl (⟨rfl, by omega⟩)
  · refine s_blx (lv' := [(0, vR 55), (1, vI at_), (2, vI value)]) (st' := [vI 9]) B50_16_18 rfl ?_
    exact r_iretI D50_18 rfl (⟨rfl, by omega⟩)
