noncomputable def T257 : mT := (11, yX11_relieve, cX11_relieve, 6, (some .int))
set_option maxRecDepth 10000 in
theorem TE257 : sy_m[257]? = some T257 := rfl
theorem B257_0_4 : s_dk T257.2.2.1 0 [.iload_n 1, .iconst 1, .bipush 120] 4 = true := by decide +kernel
theorem D257_4 : decode T257.2.2.1 4 = .ok (.invokestatic 123, 3) := by decide +kernel
theorem D257_7 : decode T257.2.2.1 7 = .ok (.ifCond .ne 5, 3) := by decide +kernel
theorem B257_12_13 : s_dk T257.2.2.1 12 [.aload_n 0] 13 = true := by decide +kernel
theorem gf_11_102_77 : s_gf 11 102 77 = some (52, 108) := by decide +kernel
theorem D257_13 : decode T257.2.2.1 13 = .ok (.getfield 102, 3) := by decide +kernel
theorem B257_16_18 : s_dk T257.2.2.1 16 [.iload_n 1, .iconst 0] 18 = true := by decide +kernel
theorem D257_18 : decode T257.2.2.1 18 = .ok (.iastore, 1) := by decide +kernel
theorem B257_19_23 : s_dk T257.2.2.1 19 [.iload_n 1, .iconst 1, .isub, .istore_n 2] 23 = true := by decide +kernel
theorem B257_10_11 : s_dk T257.2.2.1 10 [.iconst (-1)] 11 = true := by decide +kernel
theorem D257_11 : decode T257.2.2.1 11 = .ok (.ireturn, 1) := by decide +kernel
theorem B257_23_24 : s_dk T257.2.2.1 23 [.iload_n 2] 24 = true := by decide +kernel
theorem D257_24 : decode T257.2.2.1 24 = .ok (.ifCond .lt 129, 3) := by decide +kernel
theorem B257_27_30 : s_dk T257.2.2.1 27 [.iconst 0, .istore_n 3, .aload_n 0] 30 = true := by decide +kernel
theorem gf_11_105_77 : s_gf 11 105 77 = some (53, 109) := by decide +kernel
theorem D257_30 : decode T257.2.2.1 30 = .ok (.getfield 105, 3) := by decide +kernel
theorem B257_33_35 : s_dk T257.2.2.1 33 [.iload_n 2, .iconst 0] 35 = true := by decide +kernel
theorem D257_35 : decode T257.2.2.1 35 = .ok (.iastore, 1) := by decide +kernel
theorem B257_36_39 : s_dk T257.2.2.1 36 [.iconst 1, .istore 4] 39 = true := by decide +kernel
theorem B257_39_43 : s_dk T257.2.2.1 39 [.iload 4, .bipush 60] 43 = true := by decide +kernel
theorem D257_43 : decode T257.2.2.1 43 = .ok (.if_icmp .gt 104, 3) := by decide +kernel
theorem B257_46_51 : s_dk T257.2.2.1 46 [.iload_n 2, .iload 4, .iadd, .iload_n 1] 51 = true := by decide +kernel
theorem D257_51 : decode T257.2.2.1 51 = .ok (.if_icmp .gt 96, 3) := by decide +kernel
theorem B257_147_150 : s_dk T257.2.2.1 147 [.iinc 2 (-1)] 150 = true := by decide +kernel
theorem D257_150 : decode T257.2.2.1 150 = .ok (.goto (-127), 3) := by decide +kernel
theorem B257_54_56 : s_dk T257.2.2.1 54 [.iload_n 3, .aload_n 0] 56 = true := by decide +kernel
theorem D257_56 : decode T257.2.2.1 56 = .ok (.getfield 13, 3) := by decide +kernel
theorem B257_59_67 : s_dk T257.2.2.1 59 [.sipush 409, .iload 4, .iadd, .iconst 1, .isub] 67 = true := by decide +kernel
theorem D257_67 : decode T257.2.2.1 67 = .ok (.iaload, 1) := by decide +kernel
theorem B257_68_76 : s_dk T257.2.2.1 68 [.iadd, .istore_n 3, .iload_n 3, .iload_n 2, .iload 4, .iadd, .iload_n 1] 76 = true := by decide +kernel
theorem D257_76 : decode T257.2.2.1 76 = .ok (.if_icmp .ge 22, 3) := by decide +kernel
theorem B257_98_103 : s_dk T257.2.2.1 98 [.iconst 0, .iadd, .istore 5, .aload_n 0] 103 = true := by decide +kernel
theorem D257_103 : decode T257.2.2.1 103 = .ok (.getfield 105, 3) := by decide +kernel
theorem B257_106_107 : s_dk T257.2.2.1 106 [.iload_n 2] 107 = true := by decide +kernel
theorem D257_107 : decode T257.2.2.1 107 = .ok (.iaload, 1) := by decide +kernel
theorem D257_108 : decode T257.2.2.1 108 = .ok (.ifCond .le 17, 3) := by decide +kernel
theorem B257_125_126 : s_dk T257.2.2.1 125 [.aload_n 0] 126 = true := by decide +kernel
theorem D257_126 : decode T257.2.2.1 126 = .ok (.getfield 102, 3) := by decide +kernel
theorem B257_129_132 : s_dk T257.2.2.1 129 [.iload_n 2, .iload 5] 132 = true := by decide +kernel
theorem D257_132 : decode T257.2.2.1 132 = .ok (.iastore, 1) := by decide +kernel
theorem B257_133_134 : s_dk T257.2.2.1 133 [.aload_n 0] 134 = true := by decide +kernel
theorem D257_134 : decode T257.2.2.1 134 = .ok (.getfield 105, 3) := by decide +kernel
theorem B257_137_140 : s_dk T257.2.2.1 137 [.iload_n 2, .iload 4] 140 = true := by decide +kernel
theorem D257_140 : decode T257.2.2.1 140 = .ok (.iastore, 1) := by decide +kernel
theorem B257_141_144 : s_dk T257.2.2.1 141 [.iinc 4 1] 144 = true := by decide +kernel
theorem D257_144 : decode T257.2.2.1 144 = .ok (.goto (-105), 3) := by decide +kernel
theorem B257_111_114 : s_dk T257.2.2.1 111 [.iload 5, .aload_n 0] 114 = true := by decide +kernel
theorem D257_114 : decode T257.2.2.1 114 = .ok (.getfield 102, 3) := by decide +kernel
theorem B257_117_118 : s_dk T257.2.2.1 117 [.iload_n 2] 118 = true := by decide +kernel
theorem D257_118 : decode T257.2.2.1 118 = .ok (.iaload, 1) := by decide +kernel
theorem D257_119 : decode T257.2.2.1 119 = .ok (.if_icmp .le 6, 3) := by decide +kernel
theorem D257_122 : decode T257.2.2.1 122 = .ok (.goto 19, 3) := by decide +kernel
theorem B257_79_82 : s_dk T257.2.2.1 79 [.aload_n 0, .bipush 8] 82 = true := by decide +kernel
theorem D257_82 : decode T257.2.2.1 82 = .ok (.invokevirtual 141, 3) := by decide +kernel
theorem B257_85_86 : s_dk T257.2.2.1 85 [.aload_n 0] 86 = true := by decide +kernel
theorem D257_86 : decode T257.2.2.1 86 = .ok (.getfield 102, 3) := by decide +kernel
theorem B257_89_93 : s_dk T257.2.2.1 89 [.iload_n 2, .iload 4, .iadd] 93 = true := by decide +kernel
theorem D257_93 : decode T257.2.2.1 93 = .ok (.iaload, 1) := by decide +kernel
theorem B257_94_95 : s_dk T257.2.2.1 94 [.iadd] 95 = true := by decide +kernel
theorem D257_95 : decode T257.2.2.1 95 = .ok (.goto 4, 3) := by decide +kernel
theorem B257_99_103 : s_dk T257.2.2.1 99 [.iadd, .istore 5, .aload_n 0] 103 = true := by decide +kernel
theorem B257_153_155 : s_dk T257.2.2.1 153 [.aload_n 0, .iconst 0] 155 = true := by decide +kernel
theorem pf_11_111_77 : s_pf 11 111 77 = some (55, 1) := by decide +kernel
theorem D257_155 : decode T257.2.2.1 155 = .ok (.putfield 111, 3) := by decide +kernel
theorem B257_158_159 : s_dk T257.2.2.1 158 [.aload_n 0] 159 = true := by decide +kernel
theorem D257_159 : decode T257.2.2.1 159 = .ok (.getfield 105, 3) := by decide +kernel
theorem B257_162_163 : s_dk T257.2.2.1 162 [.iconst 0] 163 = true := by decide +kernel
theorem D257_163 : decode T257.2.2.1 163 = .ok (.iaload, 1) := by decide +kernel
theorem B257_164_165 : s_dk T257.2.2.1 164 [.istore_n 2] 165 = true := by decide +kernel
theorem B257_165_167 : s_dk T257.2.2.1 165 [.iload_n 2, .iload_n 1] 167 = true := by decide +kernel
theorem D257_167 : decode T257.2.2.1 167 = .ok (.if_icmp .ge 35, 3) := by decide +kernel
theorem B257_202_203 : s_dk T257.2.2.1 202 [.aload_n 0] 203 = true := by decide +kernel
theorem D257_203 : decode T257.2.2.1 203 = .ok (.getfield 102, 3) := by decide +kernel
theorem B257_206_207 : s_dk T257.2.2.1 206 [.iconst 0] 207 = true := by decide +kernel
theorem D257_207 : decode T257.2.2.1 207 = .ok (.iaload, 1) := by decide +kernel
theorem D257_208 : decode T257.2.2.1 208 = .ok (.ireturn, 1) := by decide +kernel
theorem B257_170_171 : s_dk T257.2.2.1 170 [.aload_n 0] 171 = true := by decide +kernel
theorem D257_171 : decode T257.2.2.1 171 = .ok (.getfield 108, 3) := by decide +kernel
theorem B257_174_175 : s_dk T257.2.2.1 174 [.aload_n 0] 175 = true := by decide +kernel
theorem D257_175 : decode T257.2.2.1 175 = .ok (.getfield 111, 3) := by decide +kernel
theorem B257_178_179 : s_dk T257.2.2.1 178 [.iload_n 2] 179 = true := by decide +kernel
theorem D257_179 : decode T257.2.2.1 179 = .ok (.iastore, 1) := by decide +kernel
theorem B257_180_182 : s_dk T257.2.2.1 180 [.aload_n 0, .dup] 182 = true := by decide +kernel
theorem D257_182 : decode T257.2.2.1 182 = .ok (.getfield 111, 3) := by decide +kernel
theorem B257_185_187 : s_dk T257.2.2.1 185 [.iconst 1, .iadd] 187 = true := by decide +kernel
theorem D257_187 : decode T257.2.2.1 187 = .ok (.putfield 111, 3) := by decide +kernel
theorem B257_190_192 : s_dk T257.2.2.1 190 [.iload_n 2, .aload_n 0] 192 = true := by decide +kernel
theorem D257_192 : decode T257.2.2.1 192 = .ok (.getfield 105, 3) := by decide +kernel
theorem B257_195_196 : s_dk T257.2.2.1 195 [.iload_n 2] 196 = true := by decide +kernel
theorem D257_196 : decode T257.2.2.1 196 = .ok (.iaload, 1) := by decide +kernel
theorem B257_197_199 : s_dk T257.2.2.1 197 [.iadd, .istore_n 2] 199 = true := by decide +kernel
theorem D257_199 : decode T257.2.2.1 199 = .ok (.goto (-34), 3) := by decide +kernel
set_option maxRecDepth 4000 in
theorem L_k257x {base : Nat} {X : Nat → Option mC} {G : Nat → Value} (E : EnvOK base X G) {d : Nat} (hd : 1 ≤ d) {M : mH} (H : HI base M) (minutes : Int) (h0 : -2147483648 ≤ minutes ∧ minutes ≤ 2147483647) : ∀ mz : Nat, (∀ (x2 : Int) (N : mH), HI base N → Fr [(77, 56), (105, 0), (106, 0), (107, 0)] M N → (∀ j : Int, x2 < j → j < minutes → 1 ≤ gi N 106 j) → (-1 ≤ x2 ∧ x2 ≤ 119) → (x2 < minutes) → ((-1) ≤ x2) → (x2 ≤ 119) → (1 ≤ minutes) → (minutes ≤ 120) → (x2 + 1) * 62 + 242 < (mz : Int) → sRn base X G d T257 23 [(0, vR 77), (1, vI minutes), (2, vI x2)] [] N (s_Q base (pI (fun v M' => HI base M' ∧ Fr [(77, 56), (105, 0), (106, 0), (107, 0)] M M')))) ∧ (∀ (x2 x3 x4 : Int) (N : mH), HI base N → Fr [(77, 56), (105, 0), (106, 0), (107, 0)] M N → (∀ j : Int, x2 < j → j < minutes → 1 ≤ gi N 106 j) → (1 < x4 → 1 ≤ gi N 106 x2) → (0 ≤ x2 ∧ x2 ≤ 119) → (x2 < minutes) → (1 ≤ x4 ∧ x4 ≤ 61) → (0 ≤ x2) → (x2 ≤ 119) → (0 ≤ x3) → (1 ≤ x4) → (x4 ≤ 61) → (1 ≤ minutes) → (minutes ≤ 120) → (x2 + 1) * 62 + 181 + (61 - x4) * 1 + 0 < (mz : Int) → sRn base X G d T257 39 [(0, vR 77), (1, vI minutes), (2, vI x2), (3, vI x3), (4, vI x4)] [] N (s_Q base (pI (fun v M' => HI base M' ∧ Fr [(77, 56), (105, 0), (106, 0), (107, 0)] M M')))) ∧ (∀ (x2 : Int) (N : mH), HI base N → Fr [(77, 56), (105, 0), (106, 0), (107, 0)] M N → (∀ j : Int, 0 ≤ j → j < minutes → 1 ≤ gi N 106 j) → (gi N 77 55 < x2 ∧ 0 ≤ gi N 77 55) → (1 ≤ x2 ∧ x2 ≤ 180) → (0 ≤ x2) → (x2 ≤ 179) → (1 ≤ minutes) → (minutes ≤ 120) → (180 - x2) * 1 + 0 < (mz : Int) → sRn base X G d T257 165 [(0, vR 77), (1, vI minutes), (2, vI x2)] [] N (s_Q base (pI (fun v M' => HI base M' ∧ Fr [(77, 56), (105, 0), (106, 0), (107, 0)] M M')))) := by
  have f0 : Fr [(77, 56), (105, 0), (106, 0), (107, 0)] M M := Fr.rf
  intro mz
  induction mz with
  | zero => exact ⟨fun x2 N _ _ z0 z1 z2 z3 z4 z5 z6 z7 => by omega, fun x2 x3 x4 N _ _ z0 z1 z2 z3 z4 z5 z6 z7 z8 z9 z10 z11 z12 => by omega, fun x2 N _ _ z0 z1 z2 z3 z4 z5 z6 z7 => by omega⟩
  | succ mz ih =>
    refine ⟨?_, ?_, ?_⟩
    · intro x2 N HN fN i0 i1 i2 i3 i4 i5 i6 hmu
      refine s_blx (lv' := [(0, vR 77), (1, vI minutes), (2, vI x2)]) (st' := [vI x2]) B257_23_24 rfl ?_
      refine r_ifc (tgt := 153) (pc' := 27) D257_24 rfl rfl (by unfold inR; omega) (fun (c13 : x2 < 0) => ?_) (fun (c13 : ¬ (x2 < 0)) => ?_)
      · refine s_blx (lv' := [(0, vR 77), (1, vI minutes), (2, vI x2)]) (st' := [vI 0, vR 77]) B257_153_155 rfl ?_
        refine r_pint (ki := 55) (pc' := 158) D257_155 rfl pf_11_111_77 rfl HN (by unfold inR; omega) (show (-1) ≤ 0 ∧ 0 ≤ 120 by omega) ?_
        intro M14 u15 H16 p17
        have f18 := fN.wr u15 rfl
        have kf : ∀ j : Int, gi M14 106 j = gi N 106 j := fun j => u15.gi_ne (by decide) (Or.inl (by decide))
        refine s_blx (lv' := [(0, vR 77), (1, vI minutes), (2, vI x2)]) (st' := [vR 77]) B257_158_159 rfl ?_
        refine r_gfix (r := 106) (pc' := 162) D257_159 rfl gf_11_105_77 H16.1 ?_
        refine s_blx (lv' := [(0, vR 77), (1, vI minutes), (2, vI x2)]) (st' := [vI 0, vR 106]) B257_162_163 rfl ?_
        refine r_iald (pc' := 164) D257_163 rfl sc_106 H16.1 (by omega) ?_
        intro w19 e20 r21
        have b_w19 := H16.2 106 (0) 0 60 rfl
        rw [← e20] at b_w19; clear r21
        have ks0 := i0 0 (by omega) (by omega)
        have ks1 := kf 0
        refine s_blx (lv' := [(2, vI w19), (0, vR 77), (1, vI minutes)]) (st' := []) B257_164_165 rfl ?_
        refine r_loc (lv' := [(0, vR 77), (1, vI minutes), (2, vI w19)]) ⟨rfl, rfl, rfl, trivial⟩ rfl rfl ?_
        have g22 : gi M14 77 55 = 0 := p17
        exact ih.2.2 w19 M14 H16 f18 (fun j h1 h2 => by rw [kf]; exact i0 j (by omega) h2) (by omega) (by omega) (by omega) (by omega) (by omega) (by omega) (by omega)
      · refine s_blx (lv' := [(3, vI 0), (0, vR 77), (1, vI minutes), (2, vI x2)]) (st' := [vR 77]) B257_27_30 rfl ?_
        refine r_gfix (r := 106) (pc' := 33) D257_30 rfl gf_11_105_77 HN.1 ?_
        refine s_blx (lv' := [(3, vI 0), (0, vR 77), (1, vI minutes), (2, vI x2)]) (st' := [vI 0, vI x2, vR 106]) B257_33_35 rfl ?_
        refine r_iast (pc' := 36) D257_35 rfl sc_106 HN (by omega) (by unfold inR; omega) (show 0 ≤ 0 ∧ 0 ≤ 60 by omega) ?_
        intro M23 u24 H25 p26
        have f27 := fN.wr u24 rfl
        have ku := u24
        refine s_blx (lv' := [(4, vI 1), (3, vI 0), (0, vR 77), (1, vI minutes), (2, vI x2)]) (st' := []) B257_36_39 rfl ?_
        refine r_loc (lv' := [(0, vR 77), (1, vI minutes), (2, vI x2), (3, vI 0), (4, vI 1)]) ⟨rfl, rfl, rfl, rfl, rfl, trivial⟩ rfl rfl ?_
        have g28 : gi M23 106 x2 = 0 := p26
        exact ih.2.1 x2 0 1 M23 H25 f27 (fun j h1 h2 => by rw [ku.gi_ne (by omega) (Or.inr (by omega))]; exact i0 j h1 h2) (by omega) (by omega) (by omega) (by omega) (by omega) (by omega) (by omega) (by omega) (by omega) (by omega) (by omega) (by omega)
    · intro x2 x3 x4 N HN fN i0 i1 i2 i3 i4 i5 i6 i7 i8 i9 i10 i11 hmu
      refine s_blx (lv' := [(0, vR 77), (1, vI minutes), (2, vI x2), (3, vI x3), (4, vI x4)]) (st' := [vI 60, vI x4]) B257_39_43 rfl ?_
      refine r_icmp (tgt := 147) (pc' := 46) D257_43 rfl rfl (by unfold inR; omega) (fun (c54 : 60 < x4) => ?_) (fun (c54 : ¬ (60 < x4)) => ?_)
      · refine s_blx (lv' := [(2, vI (x2 + (-1))), (0, vR 77), (1, vI minutes), (3, vI x3), (4, vI x4)]) (st' := []) B257_147_150 rfl ?_
        refine r_goto (tgt := 23) D257_150 rfl ?_
        refine r_loc (lv' := [(0, vR 77), (1, vI minutes), (2, vI (x2 + (-1)))]) ⟨rfl, rfl, rfl, trivial⟩ rfl rfl ?_
        exact ih.1 (x2 + (-1)) N HN fN (fun j h1 h2 => if e : j = x2 then (by rw [e]; exact i1 (by omega)) else i0 j (by omega) h2) (by omega) (by omega) (by omega) (by omega) (by omega) (by omega) (by omega)
      · refine s_blx (lv' := [(0, vR 77), (1, vI minutes), (2, vI x2), (3, vI x3), (4, vI x4)]) (st' := [vI minutes, vI (x2 + x4)]) B257_46_51 rfl ?_
        refine r_icmp (tgt := 147) (pc' := 54) D257_51 rfl rfl (by unfold inR; omega) (fun (c55 : minutes < (x2 + x4)) => ?_) (fun (c55 : ¬ (minutes < (x2 + x4))) => ?_)
        · refine s_blx (lv' := [(2, vI (x2 + (-1))), (0, vR 77), (1, vI minutes), (3, vI x3), (4, vI x4)]) (st' := []) B257_147_150 rfl ?_
          refine r_goto (tgt := 23) D257_150 rfl ?_
          refine r_loc (lv' := [(0, vR 77), (1, vI minutes), (2, vI (x2 + (-1)))]) ⟨rfl, rfl, rfl, trivial⟩ rfl rfl ?_
          exact ih.1 (x2 + (-1)) N HN fN (fun j h1 h2 => if e : j = x2 then (by rw [e]; exact i1 (by omega)) else i0 j (by omega) h2) (by omega) (by omega) (by omega) (by omega) (by omega) (by omega) (by omega)
        · refine s_blx (lv' := [(0, vR 77), (1, vI minutes), (2, vI x2), (3, vI x3), (4, vI x4)]) (st' := [vR 77, vI x3]) B257_54_56 rfl ?_
          refine r_gfix (r := 78) (pc' := 59) D257_56 rfl gf_11_13_77 HN.1 ?_
          refine s_blx (lv' := [(0, vR 77), (1, vI minutes), (2, vI x2), (3, vI x3), (4, vI x4)]) (st' := [vI ((409 + x4) - 1), vR 78, vI x3]) B257_59_67 rfl ?_
          refine r_iald (pc' := 68) D257_67 rfl sc_78 HN.1 (by omega) ?_
          intro w56 e57 r58
          have b_w56 := HN.2 78 ((409 + x4) - 1) 0 1000 (rk_tired (by omega))
          rw [← e57] at b_w56; clear r58
          refine s_blx (lv' := [(3, vI (x3 + w56)), (0, vR 77), (1, vI minutes), (2, vI x2), (4, vI x4)]) (st' := [vI minutes, vI (x2 + x4), vI (x3 + w56)]) B257_68_76 rfl ?_
          refine r_icmp (tgt := 98) (pc' := 79) D257_76 rfl rfl (by unfold inR; omega) (fun (c59 : minutes ≤ (x2 + x4)) => ?_) (fun (c59 : ¬ (minutes ≤ (x2 + x4))) => ?_)
          · refine s_blx (lv' := [(5, vI ((x3 + w56) + 0)), (3, vI (x3 + w56)), (0, vR 77), (1, vI minutes), (2, vI x2), (4, vI x4)]) (st' := [vR 77]) B257_98_103 rfl ?_
            refine r_gfix (r := 106) (pc' := 106) D257_103 rfl gf_11_105_77 HN.1 ?_
            refine s_blx (lv' := [(5, vI ((x3 + w56) + 0)), (3, vI (x3 + w56)), (0, vR 77), (1, vI minutes), (2, vI x2), (4, vI x4)]) (st' := [vI x2, vR 106]) B257_106_107 rfl ?_
            refine r_iald (pc' := 108) D257_107 rfl sc_106 HN.1 (by omega) ?_
            intro w60 e61 r62
            have b_w60 := HN.2 106 (x2) 0 60 rfl
            rw [← e61] at b_w60; clear r62
            refine r_ifc (tgt := 125) (pc' := 111) D257_108 rfl rfl (by unfold inR; omega) (fun (c63 : w60 ≤ 0) => ?_) (fun (c63 : ¬ (w60 ≤ 0)) => ?_)
            · refine s_blx (lv' := [(5, vI ((x3 + w56) + 0)), (3, vI (x3 + w56)), (0, vR 77), (1, vI minutes), (2, vI x2), (4, vI x4)]) (st' := [vR 77]) B257_125_126 rfl ?_
              refine r_gfix (r := 105) (pc' := 129) D257_126 rfl gf_11_102_77 HN.1 ?_
              refine s_blx (lv' := [(5, vI ((x3 + w56) + 0)), (3, vI (x3 + w56)), (0, vR 77), (1, vI minutes), (2, vI x2), (4, vI x4)]) (st' := [vI ((x3 + w56) + 0), vI x2, vR 105]) B257_129_132 rfl ?_
              refine r_norm ?_
              intro z64 r65 _; unfold inR at r65
              refine r_iast (pc' := 133) D257_132 rfl sc_105 HN (by omega) (by unfold inR; omega) trivial ?_
              intro M66 u67 H68 p69
              have f70 := fN.wr u67 rfl
              have ku1 := u67
              refine s_blx (lv' := [(5, vI ((x3 + w56) + 0)), (3, vI (x3 + w56)), (0, vR 77), (1, vI minutes), (2, vI x2), (4, vI x4)]) (st' := [vR 77]) B257_133_134 rfl ?_
              refine r_gfix (r := 106) (pc' := 137) D257_134 rfl gf_11_105_77 H68.1 ?_
              refine s_blx (lv' := [(5, vI ((x3 + w56) + 0)), (3, vI (x3 + w56)), (0, vR 77), (1, vI minutes), (2, vI x2), (4, vI x4)]) (st' := [vI x4, vI x2, vR 106]) B257_137_140 rfl ?_
              refine r_iast (pc' := 141) D257_140 rfl sc_106 H68 (by omega) (by unfold inR; omega) (show 0 ≤ x4 ∧ x4 ≤ 60 by omega) ?_
              intro M71 u72 H73 p74
              have f75 := f70.wr u72 rfl
              have ku2 := u72
              refine s_blx (lv' := [(4, vI (x4 + 1)), (5, vI ((x3 + w56) + 0)), (3, vI (x3 + w56)), (0, vR 77), (1, vI minutes), (2, vI x2)]) (st' := []) B257_141_144 rfl ?_
              refine r_goto (tgt := 39) D257_144 rfl ?_
              refine r_loc (lv' := [(0, vR 77), (1, vI minutes), (2, vI x2), (3, vI (x3 + w56)), (4, vI (x4 + 1))]) ⟨rfl, rfl, rfl, rfl, rfl, trivial⟩ rfl rfl ?_
              have g76 : gi M71 106 x2 = x4 := p74
              exact ih.2.1 x2 (x3 + w56) (x4 + 1) M71 H73 f75 (by first | exact i0 | exact fun j h1 h2 => by rw [ku2.gi_ne (by omega) (Or.inr (by omega)), ku1.gi_ne (by omega) (Or.inl (by decide))]; exact i0 j h1 h2) (by omega) (by omega) (by omega) (by omega) (by omega) (by omega) (by omega) (by omega) (by omega) (by omega) (by omega) (by omega)
            · refine s_blx (lv' := [(5, vI ((x3 + w56) + 0)), (3, vI (x3 + w56)), (0, vR 77), (1, vI minutes), (2, vI x2), (4, vI x4)]) (st' := [vR 77, vI ((x3 + w56) + 0)]) B257_111_114 rfl ?_
              refine r_gfix (r := 105) (pc' := 117) D257_114 rfl gf_11_102_77 HN.1 ?_
              refine s_blx (lv' := [(5, vI ((x3 + w56) + 0)), (3, vI (x3 + w56)), (0, vR 77), (1, vI minutes), (2, vI x2), (4, vI x4)]) (st' := [vI x2, vR 105, vI ((x3 + w56) + 0)]) B257_117_118 rfl ?_
              refine r_iald (pc' := 119) D257_118 rfl sc_105 HN.1 (by omega) ?_
              intro w77 e78 r79
              unfold inR at r79
              refine r_norm2 ?_
              intro z80 r81 _; unfold inR at r81
              refine r_icmp (tgt := 125) (pc' := 122) D257_119 rfl rfl (by unfold inR; omega) (fun (c82 : z80 ≤ w77) => ?_) (fun (c82 : ¬ (z80 ≤ w77)) => ?_)
              · refine s_blx (lv' := [(5, vI ((x3 + w56) + 0)), (3, vI (x3 + w56)), (0, vR 77), (1, vI minutes), (2, vI x2), (4, vI x4)]) (st' := [vR 77]) B257_125_126 rfl ?_
                refine r_gfix (r := 105) (pc' := 129) D257_126 rfl gf_11_102_77 HN.1 ?_
                refine s_blx (lv' := [(5, vI ((x3 + w56) + 0)), (3, vI (x3 + w56)), (0, vR 77), (1, vI minutes), (2, vI x2), (4, vI x4)]) (st' := [vI ((x3 + w56) + 0), vI x2, vR 105]) B257_129_132 rfl ?_
                refine r_norm ?_
                intro z83 r84 _; unfold inR at r84
                refine r_iast (pc' := 133) D257_132 rfl sc_105 HN (by omega) (by unfold inR; omega) trivial ?_
                intro M85 u86 H87 p88
                have f89 := fN.wr u86 rfl
                have ku1 := u86
                refine s_blx (lv' := [(5, vI ((x3 + w56) + 0)), (3, vI (x3 + w56)), (0, vR 77), (1, vI minutes), (2, vI x2), (4, vI x4)]) (st' := [vR 77]) B257_133_134 rfl ?_
                refine r_gfix (r := 106) (pc' := 137) D257_134 rfl gf_11_105_77 H87.1 ?_
                refine s_blx (lv' := [(5, vI ((x3 + w56) + 0)), (3, vI (x3 + w56)), (0, vR 77), (1, vI minutes), (2, vI x2), (4, vI x4)]) (st' := [vI x4, vI x2, vR 106]) B257_137_140 rfl ?_
                refine r_iast (pc' := 141) D257_140 rfl sc_106 H87 (by omega) (by unfold inR; omega) (show 0 ≤ x4 ∧ x4 ≤ 60 by omega) ?_
                intro M90 u91 H92 p93
                have f94 := f89.wr u91 rfl
                have ku2 := u91
                refine s_blx (lv' := [(4, vI (x4 + 1)), (5, vI ((x3 + w56) + 0)), (3, vI (x3 + w56)), (0, vR 77), (1, vI minutes), (2, vI x2)]) (st' := []) B257_141_144 rfl ?_
                refine r_goto (tgt := 39) D257_144 rfl ?_
                refine r_loc (lv' := [(0, vR 77), (1, vI minutes), (2, vI x2), (3, vI (x3 + w56)), (4, vI (x4 + 1))]) ⟨rfl, rfl, rfl, rfl, rfl, trivial⟩ rfl rfl ?_
                have g95 : gi M90 106 x2 = x4 := p93
                exact ih.2.1 x2 (x3 + w56) (x4 + 1) M90 H92 f94 (by first | exact i0 | exact fun j h1 h2 => by rw [ku2.gi_ne (by omega) (Or.inr (by omega)), ku1.gi_ne (by omega) (Or.inl (by decide))]; exact i0 j h1 h2) (by omega) (by omega) (by omega) (by omega) (by omega) (by omega) (by omega) (by omega) (by omega) (by omega) (by omega) (by omega)
              · refine r_goto (tgt := 141) D257_122 rfl ?_
                refine s_blx (lv' := [(4, vI (x4 + 1)), (5, vI ((x3 + w56) + 0)), (3, vI (x3 + w56)), (0, vR 77), (1, vI minutes), (2, vI x2)]) (st' := []) B257_141_144 rfl ?_
                refine r_goto (tgt := 39) D257_144 rfl ?_
                refine r_loc (lv' := [(0, vR 77), (1, vI minutes), (2, vI x2), (3, vI (x3 + w56)), (4, vI (x4 + 1))]) ⟨rfl, rfl, rfl, rfl, rfl, trivial⟩ rfl rfl ?_
                exact ih.2.1 x2 (x3 + w56) (x4 + 1) N HN fN (by first | exact i0 | exact fun j h1 h2 => by rw [ku2.gi_ne (by omega) (Or.inr (by omega)), ku1.gi_ne (by omega) (Or.inl (by decide))]; exact i0 j h1 h2) (by omega) (by omega) (by omega) (by omega) (by omega) (by omega) (by omega) (by omega) (by omega) (by omega) (by omega) (by omega)
          · refine s_blx (lv' := [(3, vI (x3 + w56)), (0, vR 77), (1, vI minutes), (2, vI x2), (4, vI x4)]) (st' := [vI 8, vR 77, vI (x3 + w56)]) B257_79_82 rfl ?_
            refine r_vIp (c := 77) (args := [vI 8]) (rest := [vI (x3 + w56)]) (pc' := 85) D257_82 rfl ck_11_virtual_141 TE153 rfl (Nat.le_of_ble_eq_true rfl) ⟨Nat.le_of_ble_eq_true rfl, Nat.le_of_ble_eq_true rfl⟩ sc_77 ⟨rfl, by decide⟩ HN.1 (dp_0 hd rfl) (k153 E (dp_n hd rfl) HN 8 (by omega)) ?_
            intro v96 q99
            have q98 := q99; clear q99
            refine s_blx (lv' := [(3, vI (x3 + w56)), (0, vR 77), (1, vI minutes), (2, vI x2), (4, vI x4)]) (st' := [vR 77, vI v96, vI (x3 + w56)]) B257_85_86 rfl ?_
            refine r_gfix (r := 105) (pc' := 89) D257_86 rfl gf_11_102_77 HN.1 ?_
            refine s_blx (lv' := [(3, vI (x3 + w56)), (0, vR 77), (1, vI minutes), (2, vI x2), (4, vI x4)]) (st' := [vI (x2 + x4), vR 105, vI v96, vI (x3 + w56)]) B257_89_93 rfl ?_
            refine r_iald (pc' := 94) D257_93 rfl sc_105 HN.1 (by omega) ?_
            intro w100 e101 r102
            unfold inR at r102
            refine s_blx (lv' := [(3, vI (x3 + w56)), (0, vR 77), (1, vI minutes), (2, vI x2), (4, vI x4)]) (st' := [vI (v96 + w100), vI (x3 + w56)]) B257_94_95 rfl ?_
            refine r_goto (tgt := 99) D257_95 rfl ?_
            refine s_blx (lv' := [(5, vI ((x3 + w56) + (v96 + w100))), (3, vI (x3 + w56)), (0, vR 77), (1, vI minutes), (2, vI x2), (4, vI x4)]) (st' := [vR 77]) B257_99_103 rfl ?_
            refine r_gfix (r := 106) (pc' := 106) D257_103 rfl gf_11_105_77 HN.1 ?_
            refine s_blx (lv' := [(5, vI ((x3 + w56) + (v96 + w100))), (3, vI (x3 + w56)), (0, vR 77), (1, vI minutes), (2, vI x2), (4, vI x4)]) (st' := [vI x2, vR 106]) B257_106_107 rfl ?_
            refine r_iald (pc' := 108) D257_107 rfl sc_106 HN.1 (by omega) ?_
            intro w103 e104 r105
            have b_w103 := HN.2 106 (x2) 0 60 rfl
            rw [← e104] at b_w103; clear r105
            refine r_ifc (tgt := 125) (pc' := 111) D257_108 rfl rfl (by unfold inR; omega) (fun (c106 : w103 ≤ 0) => ?_) (fun (c106 : ¬ (w103 ≤ 0)) => ?_)
            · refine s_blx (lv' := [(5, vI ((x3 + w56) + (v96 + w100))), (3, vI (x3 + w56)), (0, vR 77), (1, vI minutes), (2, vI x2), (4, vI x4)]) (st' := [vR 77]) B257_125_126 rfl ?_
              refine r_gfix (r := 105) (pc' := 129) D257_126 rfl gf_11_102_77 HN.1 ?_
              refine s_blx (lv' := [(5, vI ((x3 + w56) + (v96 + w100))), (3, vI (x3 + w56)), (0, vR 77), (1, vI minutes), (2, vI x2), (4, vI x4)]) (st' := [vI ((x3 + w56) + (v96 + w100)), vI x2, vR 105]) B257_129_132 rfl ?_
              refine r_norm ?_
              intro z107 r108 _; unfold inR at r108
              refine r_iast (pc' := 133) D257_132 rfl sc_105 HN (by omega) (by unfold inR; omega) trivial ?_
              intro M109 u110 H111 p112
              have f113 := fN.wr u110 rfl
              have ku1 := u110
              refine s_blx (lv' := [(5, vI ((x3 + w56) + (v96 + w100))), (3, vI (x3 + w56)), (0, vR 77), (1, vI minutes), (2, vI x2), (4, vI x4)]) (st' := [vR 77]) B257_133_134 rfl ?_
              refine r_gfix (r := 106) (pc' := 137) D257_134 rfl gf_11_105_77 H111.1 ?_
              refine s_blx (lv' := [(5, vI ((x3 + w56) + (v96 + w100))), (3, vI (x3 + w56)), (0, vR 77), (1, vI minutes), (2, vI x2), (4, vI x4)]) (st' := [vI x4, vI x2, vR 106]) B257_137_140 rfl ?_
              refine r_iast (pc' := 141) D257_140 rfl sc_106 H111 (by omega) (by unfold inR; omega) (show 0 ≤ x4 ∧ x4 ≤ 60 by omega) ?_
              intro M114 u115 H116 p117
              have f118 := f113.wr u115 rfl
              have ku2 := u115
              refine s_blx (lv' := [(4, vI (x4 + 1)), (5, vI ((x3 + w56) + (v96 + w100))), (3, vI (x3 + w56)), (0, vR 77), (1, vI minutes), (2, vI x2)]) (st' := []) B257_141_144 rfl ?_
              refine r_goto (tgt := 39) D257_144 rfl ?_
              refine r_loc (lv' := [(0, vR 77), (1, vI minutes), (2, vI x2), (3, vI (x3 + w56)), (4, vI (x4 + 1))]) ⟨rfl, rfl, rfl, rfl, rfl, trivial⟩ rfl rfl ?_
              have g119 : gi M114 106 x2 = x4 := p117
              exact ih.2.1 x2 (x3 + w56) (x4 + 1) M114 H116 f118 (by first | exact i0 | exact fun j h1 h2 => by rw [ku2.gi_ne (by omega) (Or.inr (by omega)), ku1.gi_ne (by omega) (Or.inl (by decide))]; exact i0 j h1 h2) (by omega) (by omega) (by omega) (by omega) (by omega) (by omega) (by omega) (by omega) (by omega) (by omega) (by omega) (by omega)
            · refine s_blx (lv' := [(5, vI ((x3 + w56) + (v96 + w100))), (3, vI (x3 + w56)), (0, vR 77), (1, vI minutes), (2, vI x2), (4, vI x4)]) (st' := [vR 77, vI ((x3 + w56) + (v96 + w100))]) B257_111_114 rfl ?_
              refine r_gfix (r := 105) (pc' := 117) D257_114 rfl gf_11_102_77 HN.1 ?_
              refine s_blx (lv' := [(5, vI ((x3 + w56) + (v96 + w100))), (3, vI (x3 + w56)), (0, vR 77), (1, vI minutes), (2, vI x2), (4, vI x4)]) (st' := [vI x2, vR 105, vI ((x3 + w56) + (v96 + w100))]) B257_117_118 rfl ?_
              refine r_iald (pc' := 119) D257_118 rfl sc_105 HN.1 (by omega) ?_
              intro w120 e121 r122
              unfold inR at r122
              refine r_norm2 ?_
              intro z123 r124 _; unfold inR at r124
              refine r_icmp (tgt := 125) (pc' := 122) D257_119 rfl rfl (by unfold inR; omega) (fun (c125 : z123 ≤ w120) => ?_) (fun (c125 : ¬ (z123 ≤ w120)) => ?_)
              · refine s_blx (lv' := [(5, vI ((x3 + w56) + (v96 + w100))), (3, vI (x3 + w56)), (0, vR 77), (1, vI minutes), (2, vI x2), (4, vI x4)]) (st' := [vR 77]) B257_125_126 rfl ?_
                refine r_gfix (r := 105) (pc' := 129) D257_126 rfl gf_11_102_77 HN.1 ?_
                refine s_blx (lv' := [(5, vI ((x3 + w56) + (v96 + w100))), (3, vI (x3 + w56)), (0, vR 77), (1, vI minutes), (2, vI x2), (4, vI x4)]) (st' := [vI ((x3 + w56) + (v96 + w100)), vI x2, vR 105]) B257_129_132 rfl ?_
                refine r_norm ?_
                intro z126 r127 _; unfold inR at r127
                refine r_iast (pc' := 133) D257_132 rfl sc_105 HN (by omega) (by unfold inR; omega) trivial ?_
                intro M128 u129 H130 p131
                have f132 := fN.wr u129 rfl
                have ku1 := u129
                refine s_blx (lv' := [(5, vI ((x3 + w56) + (v96 + w100))), (3, vI (x3 + w56)), (0, vR 77), (1, vI minutes), (2, vI x2), (4, vI x4)]) (st' := [vR 77]) B257_133_134 rfl ?_
                refine r_gfix (r := 106) (pc' := 137) D257_134 rfl gf_11_105_77 H130.1 ?_
                refine s_blx (lv' := [(5, vI ((x3 + w56) + (v96 + w100))), (3, vI (x3 + w56)), (0, vR 77), (1, vI minutes), (2, vI x2), (4, vI x4)]) (st' := [vI x4, vI x2, vR 106]) B257_137_140 rfl ?_
                refine r_iast (pc' := 141) D257_140 rfl sc_106 H130 (by omega) (by unfold inR; omega) (show 0 ≤ x4 ∧ x4 ≤ 60 by omega) ?_
                intro M133 u134 H135 p136
                have f137 := f132.wr u134 rfl
                have ku2 := u134
                refine s_blx (lv' := [(4, vI (x4 + 1)), (5, vI ((x3 + w56) + (v96 + w100))), (3, vI (x3 + w56)), (0, vR 77), (1, vI minutes), (2, vI x2)]) (st' := []) B257_141_144 rfl ?_
                refine r_goto (tgt := 39) D257_144 rfl ?_
                refine r_loc (lv' := [(0, vR 77), (1, vI minutes), (2, vI x2), (3, vI (x3 + w56)), (4, vI (x4 + 1))]) ⟨rfl, rfl, rfl, rfl, rfl, trivial⟩ rfl rfl ?_
                have g138 : gi M133 106 x2 = x4 := p136
                exact ih.2.1 x2 (x3 + w56) (x4 + 1) M133 H135 f137 (by first | exact i0 | exact fun j h1 h2 => by rw [ku2.gi_ne (by omega) (Or.inr (by omega)), ku1.gi_ne (by omega) (Or.inl (by decide))]; exact i0 j h1 h2) (by omega) (by omega) (by omega) (by omega) (by omega) (by omega) (by omega) (by omega) (by omega) (by omega) (by omega) (by omega)
              · refine r_goto (tgt := 141) D257_122 rfl ?_
                refine s_blx (lv' := [(4, vI (x4 + 1)), (5, vI ((x3 + w56) + (v96 + w100))), (3, vI (x3 + w56)), (0, vR 77), (1, vI minutes), (2, vI x2)]) (st' := []) B257_141_144 rfl ?_
                refine r_goto (tgt := 39) D257_144 rfl ?_
                refine r_loc (lv' := [(0, vR 77), (1, vI minutes), (2, vI x2), (3, vI (x3 + w56)), (4, vI (x4 + 1))]) ⟨rfl, rfl, rfl, rfl, rfl, trivial⟩ rfl rfl ?_
                exact ih.2.1 x2 (x3 + w56) (x4 + 1) N HN fN (by first | exact i0 | exact fun j h1 h2 => by rw [ku2.gi_ne (by omega) (Or.inr (by omega)), ku1.gi_ne (by omega) (Or.inl (by decide))]; exact i0 j h1 h2) (by omega) (by omega) (by omega) (by omega) (by omega) (by omega) (by omega) (by omega) (by omega) (by omega) (by omega) (by omega)
    · intro x2 N HN fN i0 i1 i2 i3 i4 i5 i6 hmu
      refine s_blx (lv' := [(0, vR 77), (1, vI minutes), (2, vI x2)]) (st' := [vI minutes, vI x2]) B257_165_167 rfl ?_
      refine r_icmp (tgt := 202) (pc' := 170) D257_167 rfl rfl (by unfold inR; omega) (fun (c29 : minutes ≤ x2) => ?_) (fun (c29 : ¬ (minutes ≤ x2)) => ?_)
      · refine s_blx (lv' := [(0, vR 77), (1, vI minutes), (2, vI x2)]) (st' := [vR 77]) B257_202_203 rfl ?_
        refine r_gfix (r := 105) (pc' := 206) D257_203 rfl gf_11_102_77 HN.1 ?_
        refine s_blx (lv' := [(0, vR 77), (1, vI minutes), (2, vI x2)]) (st' := [vI 0, vR 105]) B257_206_207 rfl ?_
        refine r_iald (pc' := 208) D257_207 rfl sc_105 HN.1 (by omega) ?_
        intro w30 e31 r32
        unfold inR at r32
        exact r_iretI D257_208 rfl (⟨HN, fN⟩)
      · refine s_blx (lv' := [(0, vR 77), (1, vI minutes), (2, vI x2)]) (st' := [vR 77]) B257_170_171 rfl ?_
        refine r_gfix (r := 107) (pc' := 174) D257_171 rfl gf_11_108_77 HN.1 ?_
        refine s_blx (lv' := [(0, vR 77), (1, vI minutes), (2, vI x2)]) (st' := [vR 77, vR 107]) B257_174_175 rfl ?_
        refine r_gint (ki := 55) (pc' := 178) D257_175 rfl gf_11_111_77 rfl HN.1 ?_
        intro w33 e34 r35
        have b_w33 := HN.2 77 (55) (-1) 120 rfl
        rw [← e34] at b_w33; clear r35
        refine s_blx (lv' := [(0, vR 77), (1, vI minutes), (2, vI x2)]) (st' := [vI x2, vI w33, vR 107]) B257_178_179 rfl ?_
        refine r_iast (pc' := 180) D257_179 rfl sc_107 HN (by omega) (by unfold inR; omega) trivial ?_
        intro M36 u37 H38 p39
        have f40 := fN.wr u37 rfl
        have ku9 := u37
        refine s_blx (lv' := [(0, vR 77), (1, vI minutes), (2, vI x2)]) (st' := [vR 77, vR 77]) B257_180_182 rfl ?_
        refine r_gint (ki := 55) (pc' := 185) D257_182 rfl gf_11_111_77 rfl H38.1 ?_
        intro w41 e42 r43
        have e44 : w33 = w41 := (e42.trans ((u37.gi_ne (by omega) (Or.inl (by decide))).trans (e34.symm))).symm
        subst e44
        refine s_blx (lv' := [(0, vR 77), (1, vI minutes), (2, vI x2)]) (st' := [vI (w33 + 1), vR 77]) B257_185_187 rfl ?_
        refine r_pint (ki := 55) (pc' := 190) D257_187 rfl pf_11_111_77 rfl H38 (by unfold inR; omega) (show (-1) ≤ (w33 + 1) ∧ (w33 + 1) ≤ 120 by omega) ?_
        intro M45 u46 H47 p48
        have f49 := f40.wr u46 rfl
        have kg2 : ∀ j : Int, gi M45 106 j = gi N 106 j := fun j => (u46.gi_ne (by decide) (Or.inl (by decide))).trans (ku9.gi_ne (by omega) (Or.inl (by decide)))
        refine s_blx (lv' := [(0, vR 77), (1, vI minutes), (2, vI x2)]) (st' := [vR 77, vI x2]) B257_190_192 rfl ?_
        refine r_gfix (r := 106) (pc' := 195) D257_192 rfl gf_11_105_77 H47.1 ?_
        refine s_blx (lv' := [(0, vR 77), (1, vI minutes), (2, vI x2)]) (st' := [vI x2, vR 106, vI x2]) B257_195_196 rfl ?_
        refine r_iald (pc' := 197) D257_196 rfl sc_106 H47.1 (by omega) ?_
        intro w50 e51 r52
        have b_w50 := H47.2 106 (x2) 0 60 rfl
        rw [← e51] at b_w50; clear r52
        have ks2 := i0 x2 (by omega) (by omega)
        have ks3 := kg2 x2
        refine s_blx (lv' := [(2, vI (x2 + w50)), (0, vR 77), (1, vI minutes)]) (st' := []) B257_197_199 rfl ?_
        refine r_goto (tgt := 165) D257_199 rfl ?_
        refine r_loc (lv' := [(0, vR 77), (1, vI minutes), (2, vI (x2 + w50))]) ⟨rfl, rfl, rfl, trivial⟩ rfl rfl ?_
        have g53 : gi M45 77 55 = w33 + 1 := p48
        exact ih.2.2 (x2 + w50) M45 H47 f49 (fun j h1 h2 => by rw [kg2]; exact i0 j h1 h2) (by omega) (by omega) (by omega) (by omega) (by omega) (by omega) (by omega)
set_option maxRecDepth 4000 in
theorem k257x {base : Nat} {X : Nat → Option mC} {G : Nat → Value} (E : EnvOK base X G) {d : Nat} (hd : 1 ≤ d) {M : mH} (H : HI base M) (minutes : Int) (h0 : -2147483648 ≤ minutes ∧ minutes ≤ 2147483647) : sOk base X G d T257 [vR 77, vI minutes] M (pI (fun v M' => HI base M' ∧ Fr [(77, 56), (105, 0), (106, 0), (107, 0)] M M')) := by
  have f0 : Fr [(77, 56), (105, 0), (106, 0), (107, 0)] M M := Fr.rf
  refine sOk.of (show sRn base X G d T257 0 [(0, vR 77), (1, vI minutes)] [] M _ from ?_)
  refine s_blx (lv' := [(0, vR 77), (1, vI minutes)]) (st' := [vI 120, vI 1, vI minutes]) B257_0_4 rfl ?_
  refine r_sIp (args := [vI minutes, vI 1, vI 120]) (rest := []) (pc' := 7) D257_4 rfl ck_11_static_123 TE147 rfl (Nat.le_of_ble_eq_true rfl) ⟨Nat.le_of_ble_eq_true rfl, Nat.le_of_ble_eq_true rfl⟩ (by decide) (dp_0 hd rfl) (k147 E (dp_n hd rfl) H minutes 1 120 (by omega) (by omega) (by omega)) ?_
  intro v1 q6
  obtain ⟨q3, q4, q5⟩ := q6
  refine r_ifc (tgt := 12) (pc' := 10) D257_7 rfl rfl (by unfold inR; omega) (fun (c7 : v1 ≠ 0) => ?_) (fun (c7 : ¬ (v1 ≠ 0)) => ?_)
  · refine s_blx (lv' := [(0, vR 77), (1, vI minutes)]) (st' := [vR 77]) B257_12_13 rfl ?_
    refine r_gfix (r := 105) (pc' := 16) D257_13 rfl gf_11_102_77 H.1 ?_
    refine s_blx (lv' := [(0, vR 77), (1, vI minutes)]) (st' := [vI 0, vI minutes, vR 105]) B257_16_18 rfl ?_
    refine r_iast (pc' := 19) D257_18 rfl sc_105 H (by omega) (by unfold inR; omega) trivial ?_
    intro M8 u9 H10 p11
    have f12 := f0.wr u9 rfl
    refine s_blx (lv' := [(2, vI (minutes - 1)), (0, vR 77), (1, vI minutes)]) (st' := []) B257_19_23 rfl ?_
    refine r_loc (lv' := [(0, vR 77), (1, vI minutes), (2, vI (minutes - 1))]) ⟨rfl, rfl, rfl, trivial⟩ rfl rfl ?_
    exact (L_k257x E hd H minutes h0 ((((minutes - 1) + 1) * 62 + 242 : Int) + 1).toNat).1 (minutes - 1) M8 H10 f12 (fun j h1 h2 => by omega) (by omega) (by omega) (by omega) (by omega) (by omega) (by omega) (by omega)
  · refine s_blx (lv' := [(0, vR 77), (1, vI minutes)]) (st' := [vI (-1)]) B257_10_11 rfl ?_
    exact r_iretI D257_11 rfl (⟨H, f0⟩)
