set_option maxRecDepth 4000 in
theorem k61_1n {base : Nat} {X : Nat → Option mC} {G : Nat → Value} (E : EnvOK base X G) {d : Nat} (hd : 0 ≤ d) {M : mH} (H : HI base M) (sentence : Int) (a : Int) (b : Int) (c : Int) (h0 : 0 ≤ sentence ∧ sentence ≤ 15) (h1 : 0 ≤ a ∧ a ≤ 7) (h2 : 0 ≤ b ∧ b ≤ 7) (h3 : 0 ≤ c ∧ c ≤ 7) : sOk base X G d T61 [vR 1, vI sentence, vI a, vI b, vI c] M (pV (fun M' => HI base M' ∧ Fr [(7, 0)] M M' ∧ (∀ i : Int, gi M' 7 i = vlN (gi M 7) (sentence * 3) a b c i))) := by
  have f0 : Fr [(7, 0)] M M := Fr.rf
  refine sOk.of (show sRn base X G d T61 0 [(0, vR 1), (1, vI sentence), (2, vI a), (3, vI b), (4, vI c)] [] M _ from ?_)
  refine s_blx (lv' := [(0, vR 1), (1, vI sentence), (2, vI a), (3, vI b), (4, vI c)]) (st' := [vR 1]) B61_0_1 rfl ?_
  refine r_gfix (r := 7) (pc' := 4) D61_1 rfl gf_8_37_1 H.1 ?_
  refine s_blx (lv' := [(0, vR 1), (1, vI sentence), (2, vI a), (3, vI b), (4, vI c)]) (st' := [vI a, vI (sentence * 3), vR 7]) B61_4_8 rfl ?_
  refine r_iast (pc' := 9) D61_8 rfl sc_7 H (by omega) (by unfold inR; omega) (show 0 ≤ a ∧ a ≤ 7 by omega) ?_
  intro M1 u2 H3 p4
  have f5 := f0.wr u2 rfl
  have ku1 := u2
  have kp1 := p4
  refine s_blx (lv' := [(0, vR 1), (1, vI sentence), (2, vI a), (3, vI b), (4, vI c)]) (st' := [vR 1]) B61_9_10 rfl ?_
  refine r_gfix (r := 7) (pc' := 13) D61_10 rfl gf_8_37_1 H3.1 ?_
  refine s_blx (lv' := [(0, vR 1), (1, vI sentence), (2, vI a), (3, vI b), (4, vI c)]) (st' := [vI b, vI ((sentence * 3) + 1), vR 7]) B61_13_19 rfl ?_
  refine r_iast (pc' := 20) D61_19 rfl sc_7 H3 (by omega) (by unfold inR; omega) (show 0 ≤ b ∧ b ≤ 7 by omega) ?_
  intro M6 u7 H8 p9
  have f10 := f5.wr u7 rfl
  have ku2 := u7
  have kp2 := p9
  refine s_blx (lv' := [(0, vR 1), (1, vI sentence), (2, vI a), (3, vI b), (4, vI c)]) (st' := [vR 1]) B61_20_21 rfl ?_
  refine r_gfix (r := 7) (pc' := 24) D61_21 rfl gf_8_37_1 H8.1 ?_
  refine s_blx (lv' := [(0, vR 1), (1, vI sentence), (2, vI a), (3, vI b), (4, vI c)]) (st' := [vI c, vI ((sentence * 3) + 2), vR 7]) B61_24_31 rfl ?_
  refine r_iast (pc' := 32) D61_31 rfl sc_7 H8 (by omega) (by unfold inR; omega) (show 0 ≤ c ∧ c ≤ 7 by omega) ?_
  intro M11 u12 H13 p14
  have f15 := f10.wr u12 rfl
  have ku3 := u12
  have kp3 := p14
  exact r_retV D61_32 rfl (⟨H13, f15, vl3 (by omega) ku1 kp1 ku2 kp2 ku3 kp3⟩)
