set_option maxRecDepth 4000 in
theorem L_k53_55l {base : Nat} {X : Nat → Option mC} {G : Nat → Value} (E : EnvOK base X G) {d : Nat} (hd : 175 ≤ d) {M : mH} (H : HI base M) (place : Int) (said : Int) (done : Int) (depth : Int) (n : Int) (h0 : RW base 56 n M) (h1 : TR 40 n M) (h2 : 1 ≤ n ∧ n ≤ 145) (h3 : 0 ≤ done ∧ done ≤ 3 ∧ 0 ≤ said ∧ said ≤ 1110) (h4 : 1 ≤ place ∧ place < n) (h5 : (done = 0 ∧ said = 0) ∨ (done = 1 ∧ 1 ≤ said ∧ said ≤ 10) ∨ (done = 2 ∧ 11 ≤ said ∧ said ≤ 110) ∨ (done = 3 ∧ 111 ≤ said ∧ said ≤ 1110)) (h6 : done ≤ 2) (h7 : depth = 0) : ∀ mz : Nat, (∀ (x10 x12 x13 : Int) (N : mH), HI base N → Fq [(57, 0)] M N → (1 ≤ x10 % 32 ∧ x10 % 32 ≤ 17) → ((-2147483648) ≤ x12) → (x12 ≤ 2147483647) → (0 ≤ x13) → (x13 ≤ 8) → (8 - x13) * 1 + 0 < (mz : Int) → sRn base X G d T53 172 [(0, vR 55), (1, vI place), (2, vI said), (3, vI done), (4, vI depth), (10, vL x10), (12, vI x12), (13, vI x13)] [] N (s_Q base (pL (fun v M' => HI base M' ∧ Fq [(57, 0)] M M' ∧ (1 ≤ v % 32 ∧ v % 32 ≤ 17))))) := by
  have f0 : Fq [(57, 0)] M M := Fq.rf
  intro mz
  induction mz with
  | zero => exact fun x10 x12 x13 N _ _ z0 z1 z2 z3 z4 z5 => by omega
  | succ mz ih =>
    intro x10 x12 x13 N HN fN i0 i1 i2 i3 i4 hmu
    refine s_blx (lv' := [(0, vR 55), (1, vI place), (2, vI said), (3, vI done), (4, vI depth), (10, vL x10), (12, vI x12), (13, vI x13)]) (st' := [vI 8, vI x13]) B53_172_176 rfl ?_
    refine r_icmp (tgt := 231) (pc' := 179) D53_176 rfl rfl (by unfold inR; omega) (fun (c66 : 8 ≤ x13) => ?_) (fun (c66 : ¬ (8 ≤ x13)) => ?_)
    · refine s_blx (lv' := [(0, vR 55), (1, vI place), (2, vI said), (3, vI done), (4, vI depth), (10, vL x10), (12, vI x12), (13, vI x13)]) (st' := [vL x10]) B53_231_233 rfl ?_
      exact r_lretL D53_233 rfl (⟨HN, fN, by omega⟩)
    · refine s_blx (lv' := [(0, vR 55), (1, vI place), (2, vI said), (3, vI done), (4, vI depth), (10, vL x10), (12, vI x12), (13, vI x13)]) (st' := [vI x13, vI x12]) B53_179_183 rfl ?_
      refine r_bin (pc' := 184) D53_183 rfl rfl ?_
      intro z67 r68 _; unfold inR at r68
      refine s_blx (lv' := [(0, vR 55), (1, vI place), (2, vI said), (3, vI done), (4, vI depth), (10, vL x10), (12, vI x12), (13, vI x13)]) (st' := [vI 1, vI z67]) B53_184_185 rfl ?_
      refine r_and1 (pc' := 186) D53_185 rfl ?_
      refine s_blx (lv' := [(0, vR 55), (1, vI place), (2, vI said), (3, vI done), (4, vI depth), (10, vL x10), (12, vI x12), (13, vI x13)]) (st' := [vI 1, vI (z67 % 2)]) B53_186_187 rfl ?_
      refine r_icmp (tgt := 225) (pc' := 190) D53_187 rfl rfl (by unfold inR; omega) (fun (c69 : (z67 % 2) ≠ 1) => ?_) (fun (c69 : ¬ ((z67 % 2) ≠ 1)) => ?_)
      · refine s_blx (lv' := [(13, vI (x13 + 1)), (0, vR 55), (1, vI place), (2, vI said), (3, vI done), (4, vI depth), (10, vL x10), (12, vI x12)]) (st' := []) B53_225_228 rfl ?_
        refine r_goto (tgt := 172) D53_228 rfl ?_
        refine r_loc (lv' := [(0, vR 55), (1, vI place), (2, vI said), (3, vI done), (4, vI depth), (10, vL x10), (12, vI x12), (13, vI (x13 + 1))]) ⟨rfl, rfl, rfl, rfl, rfl, rfl, rfl, rfl, trivial⟩ rfl rfl ?_
        exact ih x10 x12 (x13 + 1) N HN fN (by omega) (by omega) (by omega) (by omega) (by omega) (by omega)
      · refine s_blx (lv' := [(0, vR 55), (1, vI place), (2, vI said), (3, vI done), (4, vI depth), (10, vL x10), (12, vI x12), (13, vI x13)]) (st' := [vI x13, vI said, vI place, vR 55]) B53_190_195 rfl ?_
        refine r_sIp (args := [vI said, vI x13]) (rest := [vI place, vR 55]) (pc' := 198) D53_195 rfl ck_7_static_113 TE43 rfl (Nat.le_of_ble_eq_true rfl) ⟨Nat.le_of_ble_eq_true rfl, Nat.le_of_ble_eq_true rfl⟩ (by decide) (dp_0 hd rfl) (k43 E (dp_n hd rfl) HN said x13 (by omega) (by omega)) ?_
        intro v70 q73
        have q72 := q73
        refine s_blx (lv' := [(0, vR 55), (1, vI place), (2, vI said), (3, vI done), (4, vI depth), (10, vL x10), (12, vI x12), (13, vI x13)]) (st' := [vI depth, vI (done + 1), vI v70, vI place, vR 55]) B53_198_203 rfl ?_
        refine r_vL (c := 55) (args := [vI place, vI v70, vI (done + 1), vI depth]) (rest := []) (pc' := 206) D53_203 rfl ck_7_virtual_90 TE55 rfl (Nat.le_of_ble_eq_true rfl) ⟨Nat.le_of_ble_eq_true rfl, Nat.le_of_ble_eq_true rfl⟩ sc_55 ⟨rfl, by decide⟩ HN.1 (by omega) (k55_55 E (rr := 41) (k52_55r E 41) (by omega) HN place v70 (done + 1) depth n ((h0.fq fN rfl)) ((h1.fq fN rfl)) (by omega) (by omega) (by omega) (by omega) (by omega)) ?_
        intro v74 M75 q78
        obtain ⟨H76, f77⟩ := q78
        have f79 := fN.tr (f77.up rfl)
        refine s_blx (lv' := [(14, vL v74), (0, vR 55), (1, vI place), (2, vI said), (3, vI done), (4, vI depth), (10, vL x10), (12, vI x12), (13, vI x13)]) (st' := [vI (10 + x13), vL v74, vL x10]) B53_206_217 rfl ?_
        refine r_sLp (args := [vL v74, vI (10 + x13)]) (rest := [vL x10]) (pc' := 220) D53_217 rfl ck_7_static_93 TE51 rfl (Nat.le_of_ble_eq_true rfl) ⟨Nat.le_of_ble_eq_true rfl, Nat.le_of_ble_eq_true rfl⟩ (by decide) (dp_0 hd rfl) (k51l E (dp_n hd rfl) H76 v74 (10 + x13) (by omega)) ?_
        intro v80 q83
        have q82 := q83
        refine r_minE (pc' := 223) D53_220 rfl mc_7_static_100 sp_7_100 (Nat.le_of_ble_eq_true rfl) ?_
        intro z84 hm85
        refine s_blx (lv' := [(13, vI (x13 + 1)), (10, vL z84), (14, vL v74), (0, vR 55), (1, vI place), (2, vI said), (3, vI done), (4, vI depth), (12, vI x12)]) (st' := []) B53_223_228 rfl ?_
        refine r_goto (tgt := 172) D53_228 rfl ?_
        refine r_loc (lv' := [(0, vR 55), (1, vI place), (2, vI said), (3, vI done), (4, vI depth), (10, vL z84), (12, vI x12), (13, vI (x13 + 1))]) ⟨rfl, rfl, rfl, rfl, rfl, rfl, rfl, rfl, trivial⟩ rfl rfl ?_
        exact ih z84 x12 (x13 + 1) M75 H76 f79 (by omega) (by omega) (by omega) (by omega) (by omega) (by omega)
