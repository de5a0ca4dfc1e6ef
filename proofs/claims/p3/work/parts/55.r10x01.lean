set_option maxRecDepth 4000 in
theorem k216x {base : Nat} {X : Nat → Option mC} {G : Nat → Value} (E : EnvOK base X G) {d : Nat} (hd : 0 ≤ d) {M : mH} (H : HI base M) : sOk base X G d T216 [vR 77] M (pI (fun v M' => M' = M ∧ (v = 0 ∨ v = 1) ∧ (v = 1 → gi M 77 39 = -1) ∧ (v = 0 → gi M 77 39 ≠ -1))) := by
  refine sOk.of (show sRn base X G d T216 0 [(0, vR 77)] [] M _ from ?_)
  refine s_blx (lv' := [(0, vR 77)]) (st' := [vR 77]) B216_0_1 rfl ?_
  refine r_gint (ki := 39) (pc' := 4) D216_1 rfl gf_11_318_77 rfl H.1 ?_
  intro w1 e2 r3
  unfold inR at r3
  refine s_blx (lv' := [(0, vR 77)]) (st' := [vI (-1), vI w1]) B216_4_5 rfl ?_
  refine r_icmp (tgt := 12) (pc' := 8) D216_5 rfl rfl (by unfold inR; omega) (fun (c4 : w1 ≠ (-1)) => ?_) (fun (c4 : ¬ (w1 ≠ (-1))) => ?_)
  · refine s_blx (lv' := [(0, vR 77)]) (st' := [vI 0]) B216_12_13 rfl ?_
    exact r_zretI D216_13 rfl (by omega) (⟨rfl, by omega, by omega, by omega⟩)
  · refine s_blx (lv' := [(0, vR 77)]) (st' := [vI 1]) B216_8_9 rfl ?_
    refine r_goto (tgt := 13) D216_9 rfl ?_
    exact r_zretI D216_13 rfl (by omega) (⟨rfl, by omega, by omega, by omega⟩)
