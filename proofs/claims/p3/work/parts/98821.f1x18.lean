set_option maxRecDepth 4000 in
theorem L_k136n {base : Nat} {X : Nat → Option mC} {G : Nat → Value} (E : EnvOK base X G) {d : Nat} (hd : 0 ≤ d) {M : mH} (H : HI base M) (four : Int) (h0 : -2147483648 ≤ four ∧ four ≤ 2147483647) (h1 : gi M 0 3 ≤ 396) : ∀ mz : Nat, (∀ (x2 : Int) (N : mH), HI base N → Fr [(0, 4), (13, 0)] M N → (x2 % 8 = 0) → (gi N 0 3 * 8 = gi M 0 3 * 8 + (24 - x2)) → (∀ i : Int, 0 ≤ i → gi N 13 i = puN (gi M 13) (gi M 0 3) (gi N 0 3) four i) → ((-8) ≤ x2) → (x2 ≤ 24) → (x2 + 8) * 1 + 0 < (mz : Int) → sRn base X G d T136 3 [(0, vR 0), (1, vI four), (2, vI x2)] [] N (s_Q base (pV (fun M' => HI base M' ∧ Fr [(0, 4), (13, 0)] M M' ∧ (gi M' 0 3 = gi M 0 3 + 4) ∧ (∀ i : Int, 0 ≤ i → gi M' 13 i = puN (gi M 13) (gi M 0 3) (gi M 0 3 + 4) four i))))) := by
  have f0 : Fr [(0, 4), (13, 0)] M M := Fr.rf
  intro mz
  induction mz with
  | zero => exact fun x2 N _ _ z0 z1 z2 z3 z4 z5 => by omega
  | succ mz ih =>
    intro x2 N HN fN i0 i1 i2 i3 i4 hmu
    refine s_blx (lv' := [(0, vR 0), (1, vI four), (2, vI x2)]) (st' := [vI x2]) B136_3_4 rfl ?_
    refine r_ifc (tgt := 39) (pc' := 7) D136_4 rfl rfl (by unfold inR; omega) (fun (c2 : x2 < 0) => ?_) (fun (c2 : ¬ (x2 < 0)) => ?_)
    · exact r_retV D136_39 rfl (⟨HN, fN, by omega, fun i hi => by rw [i2 i hi, show gi N 0 3 = gi M 0 3 + 4 by omega]⟩)
    · refine s_blx (lv' := [(0, vR 0), (1, vI four), (2, vI x2)]) (st' := [vR 0]) B136_7_8 rfl ?_
      refine r_gfix (r := 13) (pc' := 11) D136_8 rfl gf_10_20_0 HN.1 ?_
      refine s_blx (lv' := [(0, vR 0), (1, vI four), (2, vI x2)]) (st' := [vR 0, vR 13]) B136_11_12 rfl ?_
      refine r_gint (ki := 3) (pc' := 15) D136_12 rfl gf_10_24_0 rfl HN.1 ?_
      intro w3 e4 r5
      have b_w3 := HN.2 0 (3) 0 400 rfl
      rw [← e4] at b_w3; clear r5
      have kt : w3 = gi N 0 3 := e4
      refine s_blx (lv' := [(0, vR 0), (1, vI four), (2, vI x2)]) (st' := [vI x2, vI four, vI w3, vR 13]) B136_15_17 rfl ?_
      refine r_bin (pc' := 18) D136_17 rfl rfl ?_
      intro z6 r7 kq; unfold inR at r7
      refine s_blx (lv' := [(0, vR 0), (1, vI four), (2, vI x2)]) (st' := [vI 255, vI z6, vI w3, vR 13]) B136_18_21 rfl ?_
      refine r_and255 (pc' := 22) D136_21 rfl ?_
      refine r_iast (pc' := 23) D136_22 rfl sc_13 HN (by omega) (by unfold inR; omega) (show 0 ≤ (z6 % 256) ∧ (z6 % 256) ≤ 255 by omega) ?_
      intro M8 u9 H10 p11
      have f12 := fN.wr u9 rfl
      have ku1 := kuw (j := gi N 0 3) u9 (by omega)
      have kp1 : gi M8 13 (gi N 0 3) = _ := (congrArg (gi M8 13) kt.symm).trans p11
      refine s_blx (lv' := [(0, vR 0), (1, vI four), (2, vI x2)]) (st' := [vR 0, vR 0]) B136_23_25 rfl ?_
      refine r_gint (ki := 3) (pc' := 28) D136_25 rfl gf_10_24_0 rfl H10.1 ?_
      intro w13 e14 r15
      have e16 : w3 = w13 := (e14.trans ((u9.gi_ne (by omega) (Or.inl (by decide))).trans (e4.symm))).symm
      subst e16
      refine s_blx (lv' := [(0, vR 0), (1, vI four), (2, vI x2)]) (st' := [vI (w3 + 1), vR 0]) B136_28_30 rfl ?_
      refine r_pint (ki := 3) (pc' := 33) D136_30 rfl pf_10_24_0 rfl H10 (by unfold inR; omega) (show 0 ≤ (w3 + 1) ∧ (w3 + 1) ≤ 400 by omega) ?_
      intro M17 u18 H19 p20
      have f21 := f12.wr u18 rfl
      have kA := puN_step i2 ku1 kp1 u18 (by rw [p20, kt]) (by omega) (by omega) (by rw [usb kq (by omega)]; congr 1; omega)
      refine s_blx (lv' := [(2, vI (x2 + (-8))), (0, vR 0), (1, vI four)]) (st' := []) B136_33_36 rfl ?_
      refine r_goto (tgt := 3) D136_36 rfl ?_
      refine r_loc (lv' := [(0, vR 0), (1, vI four), (2, vI (x2 + (-8)))]) ⟨rfl, rfl, rfl, trivial⟩ rfl rfl ?_
      have g22 : gi M17 0 3 = w3 + 1 := p20
      exact ih (x2 + (-8)) M17 H19 f21 (by omega) (by omega) (kA) (by omega) (by omega) (by omega)
