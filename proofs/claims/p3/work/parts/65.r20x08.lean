set_option maxRecDepth 4000 in
set_option maxHeartbeats 4000000 in
theorem L_k248k {base : Nat} {X : Nat → Option mC} {G : Nat → Value} (E : EnvOK base X G) {d : Nat} (hd : 70 ≤ d) {M : mH} (H : HI base M) (text : Int) (s : Int) (K : Int → Int) (h0 : TB M) (h1 : KK K M) (h2 : GK M) (h3 : -2147483648 ≤ text ∧ text ≤ 2147483647) (h4 : -2147483648 ≤ s ∧ s ≤ 2147483647) : ∀ mz : Nat, (∀ (x3 x4 : Int) (N : mH), HI base N → Fr [(77, 7), (77, 8), (77, 9), (77, 10), (77, 14), (77, 15), (77, 16), (77, 41), (77, 42), (77, 43), (77, 46), (77, 47), (77, 49), (83, 0), (84, 0), (85, 0), (100, 0), (101, 0), (102, 0)] M N → ((-2147483648) ≤ x3) → (x3 ≤ 2147483647) → (0 ≤ x4) → (x4 ≤ 24) → (0 ≤ text) → (text ≤ 7) → (0 ≤ s) → (s ≤ 15) → (24 - x4) * 1 + 0 < (mz : Int) → sRn base X G d T248 37 [(0, vR 77), (3, vI x3), (4, vI x4)] [] N (s_Q base (pI (fun v M' => HI base M' ∧ Fr [(77, 7), (77, 8), (77, 9), (77, 10), (77, 14), (77, 15), (77, 16), (77, 41), (77, 42), (77, 43), (77, 46), (77, 47), (77, 49), (83, 0), (84, 0), (85, 0), (100, 0), (101, 0), (102, 0)] M M' ∧ (-2147483648 ≤ v ∧ v ≤ 2147483647))))) := by
  have f0 : Fr [(77, 7), (77, 8), (77, 9), (77, 10), (77, 14), (77, 15), (77, 16), (77, 41), (77, 42), (77, 43), (77, 46), (77, 47), (77, 49), (83, 0), (84, 0), (85, 0), (100, 0), (101, 0), (102, 0)] M M := Fr.rf
  intro mz
  induction mz with
  | zero => exact fun x3 x4 N _ _ z0 z1 z2 z3 z4 z5 z6 z7 z8 => by omega
  | succ mz ih =>
    intro x3 x4 N HN fN i0 i1 i2 i3 i4 i5 i6 i7 hmu
    refine s_blx (lv' := [(0, vR 77), (3, vI x3), (4, vI x4)]) (st' := [vR 77, vI x4]) B248_37_40 rfl ?_
    refine r_gint (ki := 45) (pc' := 43) D248_40 rfl gf_11_437_77 rfl HN.1 ?_
    intro w29 e30 r31
    have b_w29 := HN.2 77 (45) 0 24 rfl
    rw [← e30] at b_w29; clear r31
    refine r_icmp (tgt := 66) (pc' := 46) D248_43 rfl rfl (by unfold inR; omega) (fun (c32 : w29 ≤ x4) => ?_) (fun (c32 : ¬ (w29 ≤ x4)) => ?_)
    · refine s_blx (lv' := [(0, vR 77), (3, vI x3), (4, vI x4)]) (st' := [vI x3]) B248_66_67 rfl ?_
      exact r_iretI D248_67 rfl (⟨HN, fN, by omega⟩)
    · refine s_blx (lv' := [(0, vR 77), (3, vI x3), (4, vI x4)]) (st' := [vR 77]) B248_46_47 rfl ?_
      refine r_gfix (r := 102) (pc' := 50) D248_47 rfl gf_11_93_77 HN.1 ?_
      refine s_blx (lv' := [(0, vR 77), (3, vI x3), (4, vI x4)]) (st' := [vR 77, vI x4, vR 102]) B248_50_53 rfl ?_
      refine r_gfix (r := 101) (pc' := 56) D248_53 rfl gf_11_90_77 HN.1 ?_
      refine s_blx (lv' := [(0, vR 77), (3, vI x3), (4, vI x4)]) (st' := [vI x4, vR 101, vI x4, vR 102]) B248_56_58 rfl ?_
      refine r_iald (pc' := 59) D248_58 rfl sc_101 HN.1 (by omega) ?_
      intro w33 e34 r35
      unfold inR at r35
      refine r_iast (pc' := 60) D248_59 rfl sc_102 HN (by omega) (by unfold inR; omega) trivial ?_
      intro M36 u37 H38 p39
      have f40 := fN.wr u37 rfl
      refine s_blx (lv' := [(4, vI (x4 + 1)), (0, vR 77), (3, vI x3)]) (st' := []) B248_60_63 rfl ?_
      refine r_goto (tgt := 37) D248_63 rfl ?_
      refine r_loc (lv' := [(0, vR 77), (3, vI x3), (4, vI (x4 + 1))]) ⟨rfl, rfl, rfl, trivial⟩ rfl rfl ?_
      exact ih x3 (x4 + 1) M36 H38 f40 (by omega) (by omega) (by omega) (by omega) (by omega) (by omega) (by omega) (by omega) (by omega)
