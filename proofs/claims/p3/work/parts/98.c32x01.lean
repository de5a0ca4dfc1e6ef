set_option maxRecDepth 4000 in
theorem L_k150p {base : Nat} {X : Nat → Option mC} {G : Nat → Value} (E : EnvOK base X G) {d : Nat} (hd : 0 ≤ d) {M : mH} (H : HI base M) (h0 : gi M 78 469 = 0) (h1 : gi M 78 471 = 0) (h2 : ∀ j : Int, gi M 78 j = 0) : ∀ mz : Nat, (∀ (x1 : Int) (N : mH), HI base N → Fr [(78, 0), (81, 0), (82, 0)] M N → (gi N 78 469 = 0) → (gi N 78 471 = 0) → (0 ≤ x1 ∧ x1 ≤ 30) → (CK (lpN x1) N) → (0 ≤ x1) → (x1 ≤ 30) → (30 - x1) * 1 + 5560 < (mz : Int) → sRn base X G d T150 905 [(0, vR 77), (1, vI x1)] [] N (s_Q base (pV (fun M' => HI base M' ∧ Fr [(78, 0), (81, 0), (82, 0)] M M' ∧ (TB M') ∧ (gi M' 78 469 = 0) ∧ (gi M' 78 471 = 0) ∧ (KI M'))))) ∧ (∀ (x1 : Int) (N : mH), HI base N → Fr [(78, 0), (81, 0), (82, 0)] M N → (gi N 78 469 = 0) → (gi N 78 471 = 0) → (KI N) → (TBp x1 N) → (0 ≤ x1 ∧ x1 ≤ 1111) → (0 ≤ x1) → (x1 ≤ 1111) → (1111 - x1) * 5 + 4 < (mz : Int) → sRn base X G d T150 1013 [(0, vR 77), (1, vI x1)] [] N (s_Q base (pV (fun M' => HI base M' ∧ Fr [(78, 0), (81, 0), (82, 0)] M M' ∧ (TB M') ∧ (gi M' 78 469 = 0) ∧ (gi M' 78 471 = 0) ∧ (KI M'))))) ∧ (∀ (x1 x2 x3 dn : Int) (N : mH), HI base N → Fr [(78, 0), (81, 0), (82, 0)] M N → (gi N 78 469 = 0) → (gi N 78 471 = 0) → (KI N) → (TBp x1 N) → (0 ≤ x1 ∧ x1 ≤ 1110) → (DW x1 dn x2 x3 N) → (SDk x1 dn) → (gi N 81 x1 = dn) → (-1 ≤ x3 ∧ x3 ≤ dn - 1) → (0 ≤ x2 ∧ x2 ≤ 999) → (0 ≤ dn ∧ dn ≤ 3) → (0 ≤ x1) → (x1 ≤ 1110) → (0 ≤ x2) → (x2 ≤ 999) → ((-1) ≤ x3) → (x3 ≤ 2) → (1111 - x1) * 5 + 0 + (x3 + 1) * 1 + 0 < (mz : Int) → sRn base X G d T150 1104 [(0, vR 77), (1, vI x1), (2, vI x2), (3, vI x3)] [] N (s_Q base (pV (fun M' => HI base M' ∧ Fr [(78, 0), (81, 0), (82, 0)] M M' ∧ (TB M') ∧ (gi M' 78 469 = 0) ∧ (gi M' 78 471 = 0) ∧ (KI M'))))) := by
  have f0 : Fr [(78, 0), (81, 0), (82, 0)] M M := Fr.rf
  intro mz
  induction mz with
  | zero => exact ⟨fun x1 N _ _ z0 z1 z2 z3 z4 z5 z6 => by omega, fun x1 N _ _ z0 z1 z2 z3 z4 z5 z6 z7 => by omega, fun x1 x2 x3 dn N _ _ z0 z1 z2 z3 z4 z5 z6 z7 z8 z9 z10 z11 z12 z13 z14 z15 z16 z17 => by omega⟩
  | succ mz ih =>
    refine ⟨?_, ?_, ?_⟩
    · intro x1 N HN fN i0 i1 i2 i3 i4 i5 hmu
      refine s_blx (lv' := [(0, vR 77), (1, vI x1)]) (st' := [vI 30, vI x1]) B150_905_908 rfl ?_
      refine r_icmp (tgt := 936) (pc' := 911) D150_908 rfl rfl (by unfold inR; omega) (fun (c3 : 30 ≤ x1) => ?_) (fun (c3 : ¬ (30 ≤ x1)) => ?_)
      · refine s_blx (lv' := [(0, vR 77), (1, vI x1)]) (st' := [vR 77]) B150_936_937 rfl ?_
        refine r_gfix (r := 78) (pc' := 940) D150_937 rfl gf_11_13_77 HN.1 ?_
        refine s_blx (lv' := [(0, vR 77), (1, vI x1)]) (st' := [vI 6, vI 90, vR 78]) B150_940_944 rfl ?_
        refine r_iast (pc' := 945) D150_944 rfl sc_78 HN (by omega) (by unfold inR; omega) (by show s_in (rgK _) _; rw [rk_term (by omega)]; show 0 ≤ 6 ∧ 6 ≤ 1000; omega) ?_
        intro M4 u5 H6 p7
        have f8 := fN.wr u5 rfl
        have kd0 := i3.w u5 (by omega) p7
        refine s_blx (lv' := [(0, vR 77), (1, vI x1)]) (st' := [vR 77]) B150_945_946 rfl ?_
        refine r_gfix (r := 78) (pc' := 949) D150_946 rfl gf_11_13_77 H6.1 ?_
        refine s_blx (lv' := [(0, vR 77), (1, vI x1)]) (st' := [vI 3, vI 91, vR 78]) B150_949_952 rfl ?_
        refine r_iast (pc' := 953) D150_952 rfl sc_78 H6 (by omega) (by unfold inR; omega) (by show s_in (rgK _) _; rw [rk_term (by omega)]; show 0 ≤ 3 ∧ 3 ≤ 1000; omega) ?_
        intro M9 u10 H11 p12
        have f13 := f8.wr u10 rfl
        have kd1 := kd0.w u10 (by omega) p12
        refine s_blx (lv' := [(0, vR 77), (1, vI x1)]) (st' := [vR 77]) B150_953_954 rfl ?_
        refine r_gfix (r := 78) (pc' := 957) D150_954 rfl gf_11_13_77 H11.1 ?_
        refine s_blx (lv' := [(0, vR 77), (1, vI x1)]) (st' := [vI 1, vI 92, vR 78]) B150_957_960 rfl ?_
        refine r_iast (pc' := 961) D150_960 rfl sc_78 H11 (by omega) (by unfold inR; omega) (by show s_in (rgK _) _; rw [rk_term (by omega)]; show 0 ≤ 1 ∧ 1 ≤ 1000; omega) ?_
        intro M14 u15 H16 p17
        have f18 := f13.wr u15 rfl
        have kd2 := kd1.w u15 (by omega) p17
        refine s_blx (lv' := [(0, vR 77), (1, vI x1)]) (st' := [vR 77]) B150_961_962 rfl ?_
        refine r_gfix (r := 78) (pc' := 965) D150_962 rfl gf_11_13_77 H16.1 ?_
        refine s_blx (lv' := [(0, vR 77), (1, vI x1)]) (st' := [vI 1, vI 93, vR 78]) B150_965_968 rfl ?_
        refine r_iast (pc' := 969) D150_968 rfl sc_78 H16 (by omega) (by unfold inR; omega) (by show s_in (rgK _) _; rw [rk_term (by omega)]; show 0 ≤ 1 ∧ 1 ≤ 1000; omega) ?_
        intro M19 u20 H21 p22
        have f23 := f18.wr u20 rfl
        have kd3 := kd2.w u20 (by omega) p22
        refine s_blx (lv' := [(0, vR 77), (1, vI x1)]) (st' := [vR 77]) B150_969_970 rfl ?_
        refine r_gfix (r := 78) (pc' := 973) D150_970 rfl gf_11_13_77 H21.1 ?_
        refine s_blx (lv' := [(0, vR 77), (1, vI x1)]) (st' := [vI 20, vI 94, vR 78]) B150_973_977 rfl ?_
        refine r_iast (pc' := 978) D150_977 rfl sc_78 H21 (by omega) (by unfold inR; omega) (by show s_in (rgK _) _; rw [rk_term (by omega)]; show 0 ≤ 20 ∧ 20 ≤ 1000; omega) ?_
        intro M24 u25 H26 p27
        have f28 := f23.wr u25 rfl
        have kd4 := kd3.w u25 (by omega) p27
        refine s_blx (lv' := [(0, vR 77), (1, vI x1)]) (st' := [vR 77]) B150_978_979 rfl ?_
        refine r_gfix (r := 78) (pc' := 982) D150_979 rfl gf_11_13_77 H26.1 ?_
        refine s_blx (lv' := [(0, vR 77), (1, vI x1)]) (st' := [vI 10, vI 95, vR 78]) B150_982_986 rfl ?_
        refine r_iast (pc' := 987) D150_986 rfl sc_78 H26 (by omega) (by unfold inR; omega) (by show s_in (rgK _) _; rw [rk_term (by omega)]; show 0 ≤ 10 ∧ 10 ≤ 1000; omega) ?_
        intro M29 u30 H31 p32
        have f33 := f28.wr u30 rfl
        have kd5 := kd4.w u30 (by omega) p32
        refine s_blx (lv' := [(0, vR 77), (1, vI x1)]) (st' := [vR 77]) B150_987_988 rfl ?_
        refine r_gfix (r := 78) (pc' := 991) D150_988 rfl gf_11_13_77 H31.1 ?_
        refine s_blx (lv' := [(0, vR 77), (1, vI x1)]) (st' := [vI 4, vI 96, vR 78]) B150_991_994 rfl ?_
        refine r_iast (pc' := 995) D150_994 rfl sc_78 H31 (by omega) (by unfold inR; omega) (by show s_in (rgK _) _; rw [rk_term (by omega)]; show 0 ≤ 4 ∧ 4 ≤ 1000; omega) ?_
        intro M34 u35 H36 p37
        have f38 := f33.wr u35 rfl
        have kd6 := kd5.w u35 (by omega) p37
        refine s_blx (lv' := [(0, vR 77), (1, vI x1)]) (st' := [vR 77]) B150_995_996 rfl ?_
        refine r_gfix (r := 78) (pc' := 999) D150_996 rfl gf_11_13_77 H36.1 ?_
        refine s_blx (lv' := [(0, vR 77), (1, vI x1)]) (st' := [vI 2, vI 97, vR 78]) B150_999_1002 rfl ?_
        refine r_iast (pc' := 1003) D150_1002 rfl sc_78 H36 (by omega) (by unfold inR; omega) (by show s_in (rgK _) _; rw [rk_term (by omega)]; show 0 ≤ 2 ∧ 2 ≤ 1000; omega) ?_
        intro M39 u40 H41 p42
        have f43 := f38.wr u40 rfl
        have kd7 := kd6.w u40 (by omega) p42
        refine s_blx (lv' := [(0, vR 77), (1, vI x1)]) (st' := [vR 77]) B150_1003_1004 rfl ?_
        refine r_gfix (r := 78) (pc' := 1007) D150_1004 rfl gf_11_13_77 H41.1 ?_
        refine s_blx (lv' := [(0, vR 77), (1, vI x1)]) (st' := [vI 5, vI 98, vR 78]) B150_1007_1010 rfl ?_
        refine r_iast (pc' := 1011) D150_1010 rfl sc_78 H41 (by omega) (by unfold inR; omega) (by show s_in (rgK _) _; rw [rk_term (by omega)]; show 0 ≤ 5 ∧ 5 ≤ 1000; omega) ?_
        intro M44 u45 H46 p47
        have f48 := f43.wr u45 rfl
        have kd8 := kd7.w u45 (by omega) p47
        have kci := CK.fin (show x1 = 30 by omega) kd8
        refine s_blx (lv' := [(1, vI 0), (0, vR 77)]) (st' := []) B150_1011_1013 rfl ?_
        refine r_loc (lv' := [(0, vR 77), (1, vI 0)]) ⟨rfl, rfl, trivial⟩ rfl rfl ?_
        have g49 : gi M44 78 469 = gi N 78 469 := (u45.gi_ne (by decide) (Or.inr (by decide))).trans ((u40.gi_ne (by decide) (Or.inr (by decide))).trans ((u35.gi_ne (by decide) (Or.inr (by decide))).trans ((u30.gi_ne (by decide) (Or.inr (by decide))).trans ((u25.gi_ne (by decide) (Or.inr (by decide))).trans ((u20.gi_ne (by decide) (Or.inr (by decide))).trans ((u15.gi_ne (by decide) (Or.inr (by decide))).trans ((u10.gi_ne (by decide) (Or.inr (by decide))).trans ((u5.gi_ne (by decide) (Or.inr (by decide))).trans (rfl)))))))))
        have g50 : gi M44 78 471 = gi N 78 471 := (u45.gi_ne (by decide) (Or.inr (by decide))).trans ((u40.gi_ne (by decide) (Or.inr (by decide))).trans ((u35.gi_ne (by decide) (Or.inr (by decide))).trans ((u30.gi_ne (by decide) (Or.inr (by decide))).trans ((u25.gi_ne (by decide) (Or.inr (by decide))).trans ((u20.gi_ne (by decide) (Or.inr (by decide))).trans ((u15.gi_ne (by decide) (Or.inr (by decide))).trans ((u10.gi_ne (by decide) (Or.inr (by decide))).trans ((u5.gi_ne (by decide) (Or.inr (by decide))).trans (rfl)))))))))
        exact ih.2.1 0 M44 H46 f48 (by omega) (by omega) (kci) (TBp.zero) (by omega) (by omega) (by omega) (by omega)
      · refine s_blx (lv' := [(0, vR 77), (1, vI x1)]) (st' := [vR 77]) B150_911_912 rfl ?_
        refine r_gfix (r := 78) (pc' := 915) D150_912 rfl gf_11_13_77 HN.1 ?_
        refine s_blx (lv' := [(0, vR 77), (1, vI x1)]) (st' := [vI 1, vI (0 + x1), vR 78]) B150_915_919 rfl ?_
        refine r_iast (pc' := 920) D150_919 rfl sc_78 HN (by omega) (by unfold inR; omega) (by show s_in (rgK _) _; rw [rk_load (by omega)]; show 0 ≤ 1 ∧ 1 ≤ 9; omega) ?_
        intro M51 u52 H53 p54
        have f55 := fN.wr u52 rfl
        have kc1 := i3.w u52 (by omega) p54
        refine s_blx (lv' := [(0, vR 77), (1, vI x1)]) (st' := [vR 77]) B150_920_921 rfl ?_
        refine r_gfix (r := 78) (pc' := 924) D150_921 rfl gf_11_13_77 H53.1 ?_
        refine s_blx (lv' := [(0, vR 77), (1, vI x1)]) (st' := [vI 5, vI (30 + x1), vR 78]) B150_924_929 rfl ?_
        refine r_iast (pc' := 930) D150_929 rfl sc_78 H53 (by omega) (by unfold inR; omega) (by show s_in (rgK _) _; rw [rk_look (by omega)]; show 0 ≤ 5 ∧ 5 ≤ 60; omega) ?_
        intro M56 u57 H58 p59
        have f60 := f55.wr u57 rfl
        have kc2 := (kc1.w u57 (by omega) p59).ext (lp_step (by omega))
        refine s_blx (lv' := [(1, vI (x1 + 1)), (0, vR 77)]) (st' := []) B150_930_933 rfl ?_
        refine r_goto (tgt := 905) D150_933 rfl ?_
        refine r_loc (lv' := [(0, vR 77), (1, vI (x1 + 1))]) ⟨rfl, rfl, trivial⟩ rfl rfl ?_
        have g61 : gi M56 78 469 = gi N 78 469 := (u57.gi_ne (by omega) (Or.inr (by omega))).trans ((u52.gi_ne (by omega) (Or.inr (by omega))).trans (rfl))
        have g62 : gi M56 78 471 = gi N 78 471 := (u57.gi_ne (by omega) (Or.inr (by omega))).trans ((u52.gi_ne (by omega) (Or.inr (by omega))).trans (rfl))
        exact ih.1 (x1 + 1) M56 H58 f60 (by omega) (by omega) (by omega) (kc2) (by omega) (by omega) (by omega)
    · intro x1 N HN fN i0 i1 i2 i3 i4 i5 i6 hmu
      refine s_blx (lv' := [(0, vR 77), (1, vI x1)]) (st' := [vI 1111, vI x1]) B150_1013_1017 rfl ?_
      refine r_icmp (tgt := 1139) (pc' := 1020) D150_1017 rfl rfl (by unfold inR; omega) (fun (c63 : 1111 ≤ x1) => ?_) (fun (c63 : ¬ (1111 ≤ x1)) => ?_)
      · exact r_retV D150_1139 rfl (⟨HN, fN, TBp.tb (by rw [show (1111 : Int) = x1 by omega]; exact i3), by omega, by omega, i2⟩)
      · refine s_blx (lv' := [(0, vR 77), (1, vI x1)]) (st' := [vI 1, vI x1]) B150_1020_1022 rfl ?_
        refine r_icmp (tgt := 1029) (pc' := 1025) D150_1022 rfl rfl (by unfold inR; omega) (fun (c64 : 1 ≤ x1) => ?_) (fun (c64 : ¬ (1 ≤ x1)) => ?_)
        · refine s_blx (lv' := [(0, vR 77), (1, vI x1)]) (st' := [vI 11, vI x1]) B150_1029_1032 rfl ?_
          refine r_icmp (tgt := 1041) (pc' := 1035) D150_1032 rfl rfl (by unfold inR; omega) (fun (c65 : 11 ≤ x1) => ?_) (fun (c65 : ¬ (11 ≤ x1)) => ?_)
          · refine s_blx (lv' := [(0, vR 77), (1, vI x1)]) (st' := [vI 111, vI x1]) B150_1041_1044 rfl ?_
            refine r_icmp (tgt := 1054) (pc' := 1047) D150_1044 rfl rfl (by unfold inR; omega) (fun (c66 : 111 ≤ x1) => ?_) (fun (c66 : ¬ (111 ≤ x1)) => ?_)
            · refine s_blx (lv' := [(2, vI (x1 - 111)), (0, vR 77), (1, vI x1)]) (st' := [vR 77]) B150_1054_1060 rfl ?_
              refine r_gfix (r := 81) (pc' := 1063) D150_1060 rfl gf_11_24_77 HN.1 ?_
              refine s_blx (lv' := [(2, vI (x1 - 111)), (0, vR 77), (1, vI x1)]) (st' := [vI 1, vI x1, vI x1, vR 81]) B150_1063_1066 rfl ?_
              refine r_icmp (tgt := 1073) (pc' := 1069) D150_1066 rfl rfl (by unfold inR; omega) (fun (c67 : 1 ≤ x1) => ?_) (fun (c67 : ¬ (1 ≤ x1)) => ?_)
              · refine s_blx (lv' := [(2, vI (x1 - 111)), (0, vR 77), (1, vI x1)]) (st' := [vI 11, vI x1, vI x1, vR 81]) B150_1073_1076 rfl ?_
                refine r_icmp (tgt := 1083) (pc' := 1079) D150_1076 rfl rfl (by unfold inR; omega) (fun (c68 : 11 ≤ x1) => ?_) (fun (c68 : ¬ (11 ≤ x1)) => ?_)
                · refine s_blx (lv' := [(2, vI (x1 - 111)), (0, vR 77), (1, vI x1)]) (st' := [vI 111, vI x1, vI x1, vR 81]) B150_1083_1086 rfl ?_
                  refine r_icmp (tgt := 1093) (pc' := 1089) D150_1086 rfl rfl (by unfold inR; omega) (fun (c69 : 111 ≤ x1) => ?_) (fun (c69 : ¬ (111 ≤ x1)) => ?_)
                  · refine s_blx (lv' := [(2, vI (x1 - 111)), (0, vR 77), (1, vI x1)]) (st' := [vI 3, vI x1, vR 81]) B150_1093_1094 rfl ?_
                    refine r_iast (pc' := 1095) D150_1094 rfl sc_81 HN (by omega) (by unfold inR; omega) (show 0 ≤ 3 ∧ 3 ≤ 3 by omega) ?_
                    intro M70 u71 H72 p73
                    have f74 := fN.wr u71 rfl
                    have hp75 := i2.wr u71 (by decide)
                    have ktb := i3.w81 u71 (by omega)
                    have kp81 := p73
                    refine s_blx (lv' := [(2, vI (x1 - 111)), (0, vR 77), (1, vI x1)]) (st' := [vR 77]) B150_1095_1096 rfl ?_
                    refine r_gfix (r := 81) (pc' := 1099) D150_1096 rfl gf_11_24_77 H72.1 ?_
                    refine s_blx (lv' := [(2, vI (x1 - 111)), (0, vR 77), (1, vI x1)]) (st' := [vI x1, vR 81]) B150_1099_1100 rfl ?_
                    refine r_iald (pc' := 1101) D150_1100 rfl sc_81 H72.1 (by omega) ?_
                    intro w76 e77 r78
                    have e79 : 3 = w76 := (e77.trans (p73)).symm
                    subst e79
                    have kdn : SDk x1 3 := by unfold SDk; omega
                    have kdw : DW x1 3 (x1 - 111) (3 - 1) M70 := DW.init kdn (by omega) (by omega) (by omega) (by omega)
                    refine s_blx (lv' := [(3, vI (3 - 1)), (2, vI (x1 - 111)), (0, vR 77), (1, vI x1)]) (st' := []) B150_1101_1104 rfl ?_
                    refine r_loc (lv' := [(0, vR 77), (1, vI x1), (2, vI (x1 - 111)), (3, vI (3 - 1))]) ⟨rfl, rfl, rfl, rfl, trivial⟩ rfl rfl ?_
                    have g80 : gi M70 78 469 = gi N 78 469 := (u71.gi_ne (by omega) (Or.inl (by decide))).trans (rfl)
                    have g81 : gi M70 78 471 = gi N 78 471 := (u71.gi_ne (by omega) (Or.inl (by decide))).trans (rfl)
                    have g82 : gi M70 81 x1 = 3 := p73
                    exact ih.2.2 x1 (x1 - 111) (3 - 1) 3 M70 H72 f74 (by omega) (by omega) (hp75) (ktb) (by omega) (kdw) (kdn) (by omega) (by omega) (by omega) (by omega) (by omega) (by omega) (by omega) (by omega) (by omega) (by omega) (by omega)
                  · exfalso; omega
                · exfalso; omega
              · exfalso; omega
            · refine s_blx (lv' := [(0, vR 77), (1, vI x1)]) (st' := [vI (x1 - 11)]) B150_1047_1051 rfl ?_
              refine r_goto (tgt := 1058) D150_1051 rfl ?_
              refine s_blx (lv' := [(2, vI (x1 - 11)), (0, vR 77), (1, vI x1)]) (st' := [vR 77]) B150_1058_1060 rfl ?_
              refine r_gfix (r := 81) (pc' := 1063) D150_1060 rfl gf_11_24_77 HN.1 ?_
              refine s_blx (lv' := [(2, vI (x1 - 11)), (0, vR 77), (1, vI x1)]) (st' := [vI 1, vI x1, vI x1, vR 81]) B150_1063_1066 rfl ?_
              refine r_icmp (tgt := 1073) (pc' := 1069) D150_1066 rfl rfl (by unfold inR; omega) (fun (c83 : 1 ≤ x1) => ?_) (fun (c83 : ¬ (1 ≤ x1)) => ?_)
              · refine s_blx (lv' := [(2, vI (x1 - 11)), (0, vR 77), (1, vI x1)]) (st' := [vI 11, vI x1, vI x1, vR 81]) B150_1073_1076 rfl ?_
                refine r_icmp (tgt := 1083) (pc' := 1079) D150_1076 rfl rfl (by unfold inR; omega) (fun (c84 : 11 ≤ x1) => ?_) (fun (c84 : ¬ (11 ≤ x1)) => ?_)
                · refine s_blx (lv' := [(2, vI (x1 - 11)), (0, vR 77), (1, vI x1)]) (st' := [vI 111, vI x1, vI x1, vR 81]) B150_1083_1086 rfl ?_
                  refine r_icmp (tgt := 1093) (pc' := 1089) D150_1086 rfl rfl (by unfold inR; omega) (fun (c85 : 111 ≤ x1) => ?_) (fun (c85 : ¬ (111 ≤ x1)) => ?_)
                  · exfalso; omega
                  · refine s_blx (lv' := [(2, vI (x1 - 11)), (0, vR 77), (1, vI x1)]) (st' := [vI 2, vI x1, vR 81]) B150_1089_1090 rfl ?_
                    refine r_goto (tgt := 1094) D150_1090 rfl ?_
                    refine r_iast (pc' := 1095) D150_1094 rfl sc_81 HN (by omega) (by unfold inR; omega) (show 0 ≤ 2 ∧ 2 ≤ 3 by omega) ?_
                    intro M86 u87 H88 p89
                    have f90 := fN.wr u87 rfl
                    have hp91 := i2.wr u87 (by decide)
                    have ktb := i3.w81 u87 (by omega)
                    have kp81 := p89
                    refine s_blx (lv' := [(2, vI (x1 - 11)), (0, vR 77), (1, vI x1)]) (st' := [vR 77]) B150_1095_1096 rfl ?_
                    refine r_gfix (r := 81) (pc' := 1099) D150_1096 rfl gf_11_24_77 H88.1 ?_
                    refine s_blx (lv' := [(2, vI (x1 - 11)), (0, vR 77), (1, vI x1)]) (st' := [vI x1, vR 81]) B150_1099_1100 rfl ?_
                    refine r_iald (pc' := 1101) D150_1100 rfl sc_81 H88.1 (by omega) ?_
                    intro w92 e93 r94
                    have e95 : 2 = w92 := (e93.trans (p89)).symm
                    subst e95
                    have kdn : SDk x1 2 := by unfold SDk; omega
                    have kdw : DW x1 2 (x1 - 11) (2 - 1) M86 := DW.init kdn (by omega) (by omega) (by omega) (by omega)
                    refine s_blx (lv' := [(3, vI (2 - 1)), (2, vI (x1 - 11)), (0, vR 77), (1, vI x1)]) (st' := []) B150_1101_1104 rfl ?_
                    refine r_loc (lv' := [(0, vR 77), (1, vI x1), (2, vI (x1 - 11)), (3, vI (2 - 1))]) ⟨rfl, rfl, rfl, rfl, trivial⟩ rfl rfl ?_
                    have g96 : gi M86 78 469 = gi N 78 469 := (u87.gi_ne (by omega) (Or.inl (by decide))).trans (rfl)
                    have g97 : gi M86 78 471 = gi N 78 471 := (u87.gi_ne (by omega) (Or.inl (by decide))).trans (rfl)
                    have g98 : gi M86 81 x1 = 2 := p89
                    exact ih.2.2 x1 (x1 - 11) (2 - 1) 2 M86 H88 f90 (by omega) (by omega) (hp91) (ktb) (by omega) (kdw) (kdn) (by omega) (by omega) (by omega) (by omega) (by omega) (by omega) (by omega) (by omega) (by omega) (by omega) (by omega)
                · exfalso; omega
              · exfalso; omega
          · refine s_blx (lv' := [(0, vR 77), (1, vI x1)]) (st' := [vI (x1 - 1)]) B150_1035_1038 rfl ?_
            refine r_goto (tgt := 1058) D150_1038 rfl ?_
            refine s_blx (lv' := [(2, vI (x1 - 1)), (0, vR 77), (1, vI x1)]) (st' := [vR 77]) B150_1058_1060 rfl ?_
            refine r_gfix (r := 81) (pc' := 1063) D150_1060 rfl gf_11_24_77 HN.1 ?_
            refine s_blx (lv' := [(2, vI (x1 - 1)), (0, vR 77), (1, vI x1)]) (st' := [vI 1, vI x1, vI x1, vR 81]) B150_1063_1066 rfl ?_
            refine r_icmp (tgt := 1073) (pc' := 1069) D150_1066 rfl rfl (by unfold inR; omega) (fun (c99 : 1 ≤ x1) => ?_) (fun (c99 : ¬ (1 ≤ x1)) => ?_)
            · refine s_blx (lv' := [(2, vI (x1 - 1)), (0, vR 77), (1, vI x1)]) (st' := [vI 11, vI x1, vI x1, vR 81]) B150_1073_1076 rfl ?_
              refine r_icmp (tgt := 1083) (pc' := 1079) D150_1076 rfl rfl (by unfold inR; omega) (fun (c100 : 11 ≤ x1) => ?_) (fun (c100 : ¬ (11 ≤ x1)) => ?_)
              · exfalso; omega
              · refine s_blx (lv' := [(2, vI (x1 - 1)), (0, vR 77), (1, vI x1)]) (st' := [vI 1, vI x1, vR 81]) B150_1079_1080 rfl ?_
                refine r_goto (tgt := 1094) D150_1080 rfl ?_
                refine r_iast (pc' := 1095) D150_1094 rfl sc_81 HN (by omega) (by unfold inR; omega) (show 0 ≤ 1 ∧ 1 ≤ 3 by omega) ?_
                intro M101 u102 H103 p104
                have f105 := fN.wr u102 rfl
                have hp106 := i2.wr u102 (by decide)
                have ktb := i3.w81 u102 (by omega)
                have kp81 := p104
                refine s_blx (lv' := [(2, vI (x1 - 1)), (0, vR 77), (1, vI x1)]) (st' := [vR 77]) B150_1095_1096 rfl ?_
                refine r_gfix (r := 81) (pc' := 1099) D150_1096 rfl gf_11_24_77 H103.1 ?_
                refine s_blx (lv' := [(2, vI (x1 - 1)), (0, vR 77), (1, vI x1)]) (st' := [vI x1, vR 81]) B150_1099_1100 rfl ?_
                refine r_iald (pc' := 1101) D150_1100 rfl sc_81 H103.1 (by omega) ?_
                intro w107 e108 r109
                have e110 : 1 = w107 := (e108.trans (p104)).symm
                subst e110
                have kdn : SDk x1 1 := by unfold SDk; omega
                have kdw : DW x1 1 (x1 - 1) (1 - 1) M101 := DW.init kdn (by omega) (by omega) (by omega) (by omega)
                refine s_blx (lv' := [(3, vI (1 - 1)), (2, vI (x1 - 1)), (0, vR 77), (1, vI x1)]) (st' := []) B150_1101_1104 rfl ?_
                refine r_loc (lv' := [(0, vR 77), (1, vI x1), (2, vI (x1 - 1)), (3, vI (1 - 1))]) ⟨rfl, rfl, rfl, rfl, trivial⟩ rfl rfl ?_
                have g111 : gi M101 78 469 = gi N 78 469 := (u102.gi_ne (by omega) (Or.inl (by decide))).trans (rfl)
                have g112 : gi M101 78 471 = gi N 78 471 := (u102.gi_ne (by omega) (Or.inl (by decide))).trans (rfl)
                have g113 : gi M101 81 x1 = 1 := p104
                exact ih.2.2 x1 (x1 - 1) (1 - 1) 1 M101 H103 f105 (by omega) (by omega) (hp106) (ktb) (by omega) (kdw) (kdn) (by omega) (by omega) (by omega) (by omega) (by omega) (by omega) (by omega) (by omega) (by omega) (by omega) (by omega)
            · exfalso; omega
        · refine s_blx (lv' := [(0, vR 77), (1, vI x1)]) (st' := [vI 0]) B150_1025_1026 rfl ?_
          refine r_goto (tgt := 1058) D150_1026 rfl ?_
          refine s_blx (lv' := [(2, vI 0), (0, vR 77), (1, vI x1)]) (st' := [vR 77]) B150_1058_1060 rfl ?_
          refine r_gfix (r := 81) (pc' := 1063) D150_1060 rfl gf_11_24_77 HN.1 ?_
          refine s_blx (lv' := [(2, vI 0), (0, vR 77), (1, vI x1)]) (st' := [vI 1, vI x1, vI x1, vR 81]) B150_1063_1066 rfl ?_
          refine r_icmp (tgt := 1073) (pc' := 1069) D150_1066 rfl rfl (by unfold inR; omega) (fun (c114 : 1 ≤ x1) => ?_) (fun (c114 : ¬ (1 ≤ x1)) => ?_)
          · exfalso; omega
          · refine s_blx (lv' := [(2, vI 0), (0, vR 77), (1, vI x1)]) (st' := [vI 0, vI x1, vR 81]) B150_1069_1070 rfl ?_
            refine r_goto (tgt := 1094) D150_1070 rfl ?_
            refine r_iast (pc' := 1095) D150_1094 rfl sc_81 HN (by omega) (by unfold inR; omega) (show 0 ≤ 0 ∧ 0 ≤ 3 by omega) ?_
            intro M115 u116 H117 p118
            have f119 := fN.wr u116 rfl
            have hp120 := i2.wr u116 (by decide)
            have ktb := i3.w81 u116 (by omega)
            have kp81 := p118
            refine s_blx (lv' := [(2, vI 0), (0, vR 77), (1, vI x1)]) (st' := [vR 77]) B150_1095_1096 rfl ?_
            refine r_gfix (r := 81) (pc' := 1099) D150_1096 rfl gf_11_24_77 H117.1 ?_
            refine s_blx (lv' := [(2, vI 0), (0, vR 77), (1, vI x1)]) (st' := [vI x1, vR 81]) B150_1099_1100 rfl ?_
            refine r_iald (pc' := 1101) D150_1100 rfl sc_81 H117.1 (by omega) ?_
            intro w121 e122 r123
            have e124 : 0 = w121 := (e122.trans (p118)).symm
            subst e124
            have kdn : SDk x1 0 := by unfold SDk; omega
            have kdw : DW x1 0 0 (0 - 1) M115 := DW.init kdn (by omega) (by omega) (by omega) (by omega)
            refine s_blx (lv' := [(3, vI (0 - 1)), (2, vI 0), (0, vR 77), (1, vI x1)]) (st' := []) B150_1101_1104 rfl ?_
            refine r_loc (lv' := [(0, vR 77), (1, vI x1), (2, vI 0), (3, vI (0 - 1))]) ⟨rfl, rfl, rfl, rfl, trivial⟩ rfl rfl ?_
            have g125 : gi M115 78 469 = gi N 78 469 := (u116.gi_ne (by omega) (Or.inl (by decide))).trans (rfl)
            have g126 : gi M115 78 471 = gi N 78 471 := (u116.gi_ne (by omega) (Or.inl (by decide))).trans (rfl)
            have g127 : gi M115 81 x1 = 0 := p118
            exact ih.2.2 x1 0 (0 - 1) 0 M115 H117 f119 (by omega) (by omega) (hp120) (ktb) (by omega) (kdw) (kdn) (by omega) (by omega) (by omega) (by omega) (by omega) (by omega) (by omega) (by omega) (by omega) (by omega) (by omega)
    · intro x1 x2 x3 dn N HN fN i0 i1 i2 i3 i4 i5 i6 i7 i8 i9 i10 i11 i12 i13 i14 i15 i16 hmu
      refine s_blx (lv' := [(0, vR 77), (1, vI x1), (2, vI x2), (3, vI x3)]) (st' := [vI x3]) B150_1104_1105 rfl ?_
      refine r_ifc (tgt := 1133) (pc' := 1108) D150_1105 rfl rfl (by unfold inR; omega) (fun (c128 : x3 < 0) => ?_) (fun (c128 : ¬ (x3 < 0)) => ?_)
      · refine s_blx (lv' := [(1, vI (x1 + 1)), (0, vR 77), (2, vI x2), (3, vI x3)]) (st' := []) B150_1133_1136 rfl ?_
        have ktn := i3.next (i5.fin (by omega) i6 i7)
        refine r_goto (tgt := 1013) D150_1136 rfl ?_
        refine r_loc (lv' := [(0, vR 77), (1, vI (x1 + 1))]) ⟨rfl, rfl, trivial⟩ rfl rfl ?_
        exact ih.2.1 (x1 + 1) N HN fN (by omega) (by omega) (i2) (ktn) (by omega) (by omega) (by omega) (by omega)
      · refine s_blx (lv' := [(0, vR 77), (1, vI x1), (2, vI x2), (3, vI x3)]) (st' := [vR 77]) B150_1108_1109 rfl ?_
        refine r_gfix (r := 82) (pc' := 1112) D150_1109 rfl gf_11_27_77 HN.1 ?_
        refine s_blx (lv' := [(0, vR 77), (1, vI x1), (2, vI x2), (3, vI x3)]) (st' := [vI 10, vI x2, vI ((3 * x1) + x3), vR 82]) B150_1112_1120 rfl ?_
        refine r_irem (pc' := 1121) D150_1120 rfl (by omega) ?_
        refine r_iast (pc' := 1122) D150_1121 rfl sc_82 HN (by omega) (by unfold inR; omega) (show 0 ≤ (x2 % 10) ∧ (x2 % 10) ≤ 9 by omega) ?_
        intro M129 u130 H131 p132
        have f133 := fN.wr u130 rfl
        have hp134 := i2.wr u130 (by decide)
        have ktb := i3.w82 u130 (by omega)
        have kdw := i5.step u130 p132 i6 (by omega)
        have kdw2 : DW x1 dn (x2 / 10) (x3 + (-1)) M129 := kdw
        refine s_blx (lv' := [(0, vR 77), (1, vI x1), (2, vI x2), (3, vI x3)]) (st' := [vI 10, vI x2]) B150_1122_1125 rfl ?_
        refine r_idiv (pc' := 1126) D150_1125 rfl (by omega) ?_
        refine s_blx (lv' := [(3, vI (x3 + (-1))), (2, vI (x2 / 10)), (0, vR 77), (1, vI x1)]) (st' := []) B150_1126_1130 rfl ?_
        refine r_goto (tgt := 1104) D150_1130 rfl ?_
        refine r_loc (lv' := [(0, vR 77), (1, vI x1), (2, vI (x2 / 10)), (3, vI (x3 + (-1)))]) ⟨rfl, rfl, rfl, rfl, trivial⟩ rfl rfl ?_
        have g135 : gi M129 78 469 = gi N 78 469 := (u130.gi_ne (by omega) (Or.inl (by decide))).trans (rfl)
        have g136 : gi M129 78 471 = gi N 78 471 := (u130.gi_ne (by omega) (Or.inl (by decide))).trans (rfl)
        have g137 : gi M129 81 x1 = gi N 81 x1 := (u130.gi_ne (by omega) (Or.inl (by decide))).trans (rfl)
        exact ih.2.2 x1 (x2 / 10) (x3 + (-1)) dn M129 H131 f133 (by omega) (by omega) (hp134) (ktb) (by omega) (kdw2) (i6) (by omega) (by omega) (by omega) (by omega) (by omega) (by omega) (by omega) (by omega) (by omega) (by omega) (by omega)
