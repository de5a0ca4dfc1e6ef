set_option maxRecDepth 4000 in
theorem k234x {base : Nat} {X : Nat → Option mC} {G : Nat → Value} (E : EnvOK base X G) {d : Nat} (hd : 0 ≤ d) {M : mH} (H : HI base M) (v_ : Int) (live : Int) (h0 : (live = 0 ∨ live = 1)) : sOk base X G d T234 [vR 77, vL v_, vI live] M (pL (fun v M' => HI base M' ∧ Fr [(77, 43)] M M')) := by
  have f0 : Fr [(77, 43)] M M := Fr.rf
  refine sOk.of (show sRn base X G d T234 0 [(0, vR 77), (1, vL v_), (3, vI live)] [] M _ from ?_)
  refine s_blx (lv' := [(0, vR 77), (1, vL v_), (3, vI live)]) (st' := [vI live]) B234_0_1 rfl ?_
  refine r_ifc (tgt := 25) (pc' := 4) D234_1 rfl rfl (by unfold inR; omega) (fun (c1 : live = 0) => ?_) (fun (c1 : ¬ (live = 0)) => ?_)
  · refine s_blx (lv' := [(0, vR 77), (1, vL v_), (3, vI live)]) (st' := [vR 77]) B234_25_26 rfl ?_
    refine r_gint (ki := 42) (pc' := 29) D234_26 rfl gf_11_388_77 rfl H.1 ?_
    intro w2 e3 r4
    have b_w2 := H.2 77 (42) 0 1 rfl
    rw [← e3] at b_w2; clear r4
    refine r_ifc (tgt := 36) (pc' := 32) D234_29 rfl rfl (by unfold inR; omega) (fun (c5 : w2 = 0) => ?_) (fun (c5 : ¬ (w2 = 0)) => ?_)
    · refine s_blx (lv' := [(0, vR 77), (1, vL v_), (3, vI live)]) (st' := [vL v_]) B234_36_37 rfl ?_
      exact r_lretL D234_37 rfl (⟨H, f0⟩)
    · refine s_blx (lv' := [(0, vR 77), (1, vL v_), (3, vI live)]) (st' := [vL 0]) B234_32_33 rfl ?_
      refine r_goto (tgt := 37) D234_33 rfl ?_
      exact r_lretL D234_37 rfl (⟨H, f0⟩)
  · refine s_blx (lv' := [(0, vR 77), (1, vL v_), (3, vI live)]) (st' := [vL v_]) B234_4_5 rfl ?_
    refine r_ldc2 (e := 1000000000) (pc' := 8) D234_5 rfl cl_11_384 (by decide) ?_
    refine r_lcmp (pc' := 9) D234_8 rfl ?_
    intro z6 r7 r8
    refine r_ifc (tgt := 20) (pc' := 12) D234_9 rfl rfl (by unfold inR; omega) (fun (c9 : 0 < z6) => ?_) (fun (c9 : ¬ (0 < z6)) => ?_)
    · refine s_blx (lv' := [(0, vR 77), (1, vL v_), (3, vI live)]) (st' := [vI 1, vR 77]) B234_20_22 rfl ?_
      refine r_pbool (ki := 42) (pc' := 25) D234_22 rfl pf_11_388_77 rfl H (by omega) (show 0 ≤ 1 ∧ 1 ≤ 1 by omega) ?_
      intro M10 u11 H12 p13
      have f14 := f0.wr u11 rfl
      refine s_blx (lv' := [(0, vR 77), (1, vL v_), (3, vI live)]) (st' := [vR 77]) B234_25_26 rfl ?_
      refine r_gint (ki := 42) (pc' := 29) D234_26 rfl gf_11_388_77 rfl H12.1 ?_
      intro w15 e16 r17
      have e18 : 1 = w15 := (e16.trans (p13)).symm
      subst e18
      refine r_ifc (tgt := 36) (pc' := 32) D234_29 rfl rfl (by unfold inR; omega) (fun (c19 : 1 = 0) => ?_) (fun (c19 : ¬ (1 = 0)) => ?_)
      · exfalso; omega
      · refine s_blx (lv' := [(0, vR 77), (1, vL v_), (3, vI live)]) (st' := [vL 0]) B234_32_33 rfl ?_
        refine r_goto (tgt := 37) D234_33 rfl ?_
        exact r_lretL D234_37 rfl (⟨H12, f14⟩)
    · refine s_blx (lv' := [(0, vR 77), (1, vL v_), (3, vI live)]) (st' := [vL v_]) B234_12_13 rfl ?_
      refine r_ldc2 (e := (-1000000000)) (pc' := 16) D234_13 rfl cl_11_386 (by decide) ?_
      refine r_lcmp (pc' := 17) D234_16 rfl ?_
      intro z20 r21 r22
      refine r_ifc (tgt := 25) (pc' := 20) D234_17 rfl rfl (by unfold inR; omega) (fun (c23 : 0 ≤ z20) => ?_) (fun (c23 : ¬ (0 ≤ z20)) => ?_)
      · refine s_blx (lv' := [(0, vR 77), (1, vL v_), (3, vI live)]) (st' := [vR 77]) B234_25_26 rfl ?_
        refine r_gint (ki := 42) (pc' := 29) D234_26 rfl gf_11_388_77 rfl H.1 ?_
        intro w24 e25 r26
        have b_w24 := H.2 77 (42) 0 1 rfl
        rw [← e25] at b_w24; clear r26
        refine r_ifc (tgt := 36) (pc' := 32) D234_29 rfl rfl (by unfold inR; omega) (fun (c27 : w24 = 0) => ?_) (fun (c27 : ¬ (w24 = 0)) => ?_)
        · refine s_blx (lv' := [(0, vR 77), (1, vL v_), (3, vI live)]) (st' := [vL v_]) B234_36_37 rfl ?_
          exact r_lretL D234_37 rfl (⟨H, f0⟩)
        · refine s_blx (lv' := [(0, vR 77), (1, vL v_), (3, vI live)]) (st' := [vL 0]) B234_32_33 rfl ?_
          refine r_goto (tgt := 37) D234_33 rfl ?_
          exact r_lretL D234_37 rfl (⟨H, f0⟩)
      · refine s_blx (lv' := [(0, vR 77), (1, vL v_), (3, vI live)]) (st' := [vI 1, vR 77]) B234_20_22 rfl ?_
        refine r_pbool (ki := 42) (pc' := 25) D234_22 rfl pf_11_388_77 rfl H (by omega) (show 0 ≤ 1 ∧ 1 ≤ 1 by omega) ?_
        intro M28 u29 H30 p31
        have f32 := f0.wr u29 rfl
        refine s_blx (lv' := [(0, vR 77), (1, vL v_), (3, vI live)]) (st' := [vR 77]) B234_25_26 rfl ?_
        refine r_gint (ki := 42) (pc' := 29) D234_26 rfl gf_11_388_77 rfl H30.1 ?_
        intro w33 e34 r35
        have e36 : 1 = w33 := (e34.trans (p31)).symm
        subst e36
        refine r_ifc (tgt := 36) (pc' := 32) D234_29 rfl rfl (by unfold inR; omega) (fun (c37 : 1 = 0) => ?_) (fun (c37 : ¬ (1 = 0)) => ?_)
        · exfalso; omega
        · refine s_blx (lv' := [(0, vR 77), (1, vL v_), (3, vI live)]) (st' := [vL 0]) B234_32_33 rfl ?_
          refine r_goto (tgt := 37) D234_33 rfl ?_
          exact r_lretL D234_37 rfl (⟨H30, f32⟩)
