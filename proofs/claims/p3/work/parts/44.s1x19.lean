set_option maxRecDepth 4000 in
theorem L_k53_55 {base : Nat} {X : Nat → Option mC} {G : Nat → Value} (E : EnvOK base X G) {rr : Nat} (ihr : ∀ {d : Nat} (_ : 8 + 4 * rr ≤ d) {M : mH} (_ : HI base M) (place : Int) (said : Int) (done : Int) (depth : Int) (n : Int), (RW base 56 n M) → (TR 40 n M) → (1 ≤ n ∧ n ≤ 145) → (0 ≤ done ∧ done ≤ 3 ∧ 0 ≤ said ∧ said ≤ 1110) → (1 ≤ place ∧ place < n) → ((done = 0 ∧ said = 0) ∨ (done = 1 ∧ 1 ≤ said ∧ said ≤ 10) ∨ (done = 2 ∧ 11 ≤ said ∧ said ≤ 110) ∨ (done = 3 ∧ 111 ≤ said ∧ said ≤ 1110)) → (0 ≤ depth ∧ depth ≤ 41) → 41 - depth < ((rr : Nat) : Int) → sOk base X G d T52 [vR 55, vI place, vI said, vI done, vI depth] M (pL (fun v M' => HI base M' ∧ Fq [(57, 0)] M M'))) {d : Nat} (hd : 11 + 4 * rr ≤ d) {M : mH} (H : HI base M) (place : Int) (said : Int) (done : Int) (depth : Int) (n : Int) (h0 : RW base 56 n M) (h1 : TR 40 n M) (h2 : 1 ≤ n ∧ n ≤ 145) (h3 : 0 ≤ done ∧ done ≤ 3 ∧ 0 ≤ said ∧ said ≤ 1110) (h4 : 1 ≤ place ∧ place < n) (h5 : (done = 0 ∧ said = 0) ∨ (done = 1 ∧ 1 ≤ said ∧ said ≤ 10) ∨ (done = 2 ∧ 11 ≤ said ∧ said ≤ 110) ∨ (done = 3 ∧ 111 ≤ said ∧ said ≤ 1110)) (h6 : done ≤ 2) (h7 : 0 ≤ depth ∧ depth ≤ 40 ∧ 40 - depth < (rr : Int)) : ∀ mz : Nat, (∀ (x10 x12 x13 : Int) (N : mH), HI base N → Fq [(57, 0)] M N → ((-2147483648) ≤ x12) → (x12 ≤ 2147483647) → (0 ≤ x13) → (x13 ≤ 8) → (8 - x13) * 1 + 0 < (mz : Int) → sRn base X G d T53 172 [(0, vR 55), (1, vI place), (2, vI said), (3, vI done), (4, vI depth), (10, vL x10), (12, vI x12), (13, vI x13)] [] N (s_Q base (pL (fun v M' => HI base M' ∧ Fq [(57, 0)] M M')))) := by
  have f0 : Fq [(57, 0)] M M := Fq.rf
  intro mz
  induction mz with
  | zero => exact fun x10 x12 x13 N _ _ z0 z1 z2 z3 z4 => by omega
  | succ mz ih =>
    intro x10 x12 x13 N HN fN i0 i1 i2 i3 hmu
    refine s_blx (lv' := [(0, vR 55), (1, vI place), (2, vI said), (3, vI done), (4, vI depth), (10, vL x10), (12, vI x12), (13, vI x13)]) (st' := [vI 8, vI x13]) B53_172_176 rfl ?_
    refine r_icmp (tgt := 231) (pc' := 179) D53_176 rfl rfl (by unfold inR; omega) (fun (c61 : 8 ≤ x13) => ?_) (fun (c61 : ¬ (8 ≤ x13)) => ?_)
    · refine s_blx (lv' := [(0, vR 55), (1, vI place), (2, vI said), (3, vI done), (4, vI depth), (10, vL x10), (12, vI x12), (13, vI x13)]) (st' := [vL x10]) B53_231_233 rfl ?_
      exact r_lretL D53_233 rfl (⟨HN, fN⟩)
    · refine s_blx (lv' := [(0, vR 55), (1, vI place), (2, vI said), (3, vI done), (4, vI depth), (10, vL x10), (12, vI x12), (13, vI x13)]) (st' := [vI x13, vI x12]) B53_179_183 rfl ?_
      refine r_bin (pc' := 184) D53_183 rfl rfl ?_
      intro z62 r63 _; unfold inR at r63
      refine s_blx (lv' := [(0, vR 55), (1, vI place), (2, vI said), (3, vI done), (4, vI depth), (10, vL x10), (12, vI x12), (13, vI x13)]) (st' := [vI 1, vI z62]) B53_184_185 rfl ?_
      refine r_and1 (pc' := 186) D53_185 rfl ?_
      refine s_blx (lv' := [(0, vR 55), (1, vI place), (2, vI said), (3, vI done), (4, vI depth), (10, vL x10), (12, vI x12), (13, vI x13)]) (st' := [vI 1, vI (z62 % 2)]) B53_186_187 rfl ?_
      refine r_icmp (tgt := 225) (pc' := 190) D53_187 rfl rfl (by unfold inR; omega) (fun (c64 : (z62 % 2) ≠ 1) => ?_) (fun (c64 : ¬ ((z62 % 2) ≠ 1)) => ?_)
      · refine s_blx (lv' := [(13, vI (x13 + 1)), (0, vR 55), (1, vI place), (2, vI said), (3, vI done), (4, vI depth), (10, vL x10), (12, vI x12)]) (st' := []) B53_225_228 rfl ?_
        refine r_goto (tgt := 172) D53_228 rfl ?_
        refine r_loc (lv' := [(0, vR 55), (1, vI place), (2, vI said), (3, vI done), (4, vI depth), (10, vL x10), (12, vI x12), (13, vI (x13 + 1))]) ⟨rfl, rfl, rfl, rfl, rfl, rfl, rfl, rfl, trivial⟩ rfl rfl ?_
        exact ih x10 x12 (x13 + 1) N HN fN (by omega) (by omega) (by omega) (by omega) (by omega)
      · refine s_blx (lv' := [(0, vR 55), (1, vI place), (2, vI said), (3, vI done), (4, vI depth), (10, vL x10), (12, vI x12), (13, vI x13)]) (st' := [vI x13, vI said, vI place, vR 55]) B53_190_195 rfl ?_
        refine r_sIp (args := [vI said, vI x13]) (rest := [vI place, vR 55]) (pc' := 198) D53_195 rfl ck_7_static_113 TE43 rfl (Nat.le_of_ble_eq_true rfl) ⟨Nat.le_of_ble_eq_true rfl, Nat.le_of_ble_eq_true rfl⟩ (by decide) (by omega) (k43 E (by omega) HN said x13 (by omega) (by omega)) ?_
        intro v65 q68
        have q67 := q68
        refine s_blx (lv' := [(0, vR 55), (1, vI place), (2, vI said), (3, vI done), (4, vI depth), (10, vL x10), (12, vI x12), (13, vI x13)]) (st' := [vI depth, vI (done + 1), vI v65, vI place, vR 55]) B53_198_203 rfl ?_
        refine r_vL (c := 55) (args := [vI place, vI v65, vI (done + 1), vI depth]) (rest := []) (pc' := 206) D53_203 rfl ck_7_virtual_90 TE55 rfl (Nat.le_of_ble_eq_true rfl) ⟨Nat.le_of_ble_eq_true rfl, Nat.le_of_ble_eq_true rfl⟩ sc_55 ⟨rfl, by decide⟩ HN.1 (by omega) (k55_55 E ihr (by omega) HN place v65 (done + 1) depth n ((h0.fq fN rfl)) ((h1.fq fN rfl)) (by omega) (by omega) (by omega) (by omega) (by omega)) ?_
        intro v69 M70 q73
        obtain ⟨H71, f72⟩ := q73
        have f74 := fN.tr (f72.up rfl)
        refine s_blx (lv' := [(14, vL v69), (0, vR 55), (1, vI place), (2, vI said), (3, vI done), (4, vI depth), (10, vL x10), (12, vI x12), (13, vI x13)]) (st' := [vI (10 + x13), vL v69, vL x10]) B53_206_217 rfl ?_
        refine r_sLp (args := [vL v69, vI (10 + x13)]) (rest := [vL x10]) (pc' := 220) D53_217 rfl ck_7_static_93 TE51 rfl (Nat.le_of_ble_eq_true rfl) ⟨Nat.le_of_ble_eq_true rfl, Nat.le_of_ble_eq_true rfl⟩ (by decide) (by omega) (k51 E (by omega) H71 v69 (10 + x13) (by omega)) ?_
        intro v75 q77
        refine r_minX (pc' := 223) D53_220 rfl mc_7_static_100 sp_7_100 (Nat.le_of_ble_eq_true rfl) ?_
        intro z78
        refine s_blx (lv' := [(13, vI (x13 + 1)), (10, vL z78), (14, vL v69), (0, vR 55), (1, vI place), (2, vI said), (3, vI done), (4, vI depth), (12, vI x12)]) (st' := []) B53_223_228 rfl ?_
        refine r_goto (tgt := 172) D53_228 rfl ?_
        refine r_loc (lv' := [(0, vR 55), (1, vI place), (2, vI said), (3, vI done), (4, vI depth), (10, vL z78), (12, vI x12), (13, vI (x13 + 1))]) ⟨rfl, rfl, rfl, rfl, rfl, rfl, rfl, rfl, trivial⟩ rfl rfl ?_
        exact ih z78 x12 (x13 + 1) M70 H71 f74 (by omega) (by omega) (by omega) (by omega) (by omega)
