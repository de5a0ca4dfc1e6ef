/-! The reference: slots in order, the tables of digits. -/
noncomputable def sl (o i : Int) : Int := ([0, 1, 2, 0, 2, 1, 1, 0, 2, 1, 2, 0, 2, 0, 1, 2, 1, 0] : List Int).getD (3 * o + i).toNat 0
theorem sl_perm {o s : Int} (ho : 0 ≤ o ∧ o ≤ 5) (hs : 0 ≤ s ∧ s ≤ 2) : sl o 0 = s ∨ sl o 1 = s ∨ sl o 2 = s := by
  have key : ∀ a : Nat, a < 6 → ∀ b : Nat, b < 3 → (sl (a : Int) 0 = (b : Int) ∨ sl (a : Int) 1 = (b : Int) ∨ sl (a : Int) 2 = (b : Int)) := by decide
  have := key o.toNat (by omega) s.toNat (by omega)
  rw [show ((o.toNat : Nat) : Int) = o by omega, show ((s.toNat : Nat) : Int) = s by omega] at this
  exact this
theorem sl_inj {o i j : Int} (ho : 0 ≤ o ∧ o ≤ 5) (hi : 0 ≤ i ∧ i ≤ 2) (hj : 0 ≤ j ∧ j ≤ 2) (h : sl o i = sl o j) : i = j := by
  have key : ∀ a : Nat, a < 6 → ∀ b : Nat, b < 3 → ∀ c : Nat, c < 3 → sl (a : Int) (b : Int) = sl (a : Int) (c : Int) → b = c := by decide
  have := key o.toNat (by omega) i.toNat (by omega) j.toNat (by omega)
  rw [show ((o.toNat : Nat) : Int) = o by omega, show ((i.toNat : Nat) : Int) = i by omega, show ((j.toNat : Nat) : Int) = j by omega] at this
  have := this h
  omega
theorem sl_abc {o i v : Int} (ho : 0 ≤ o ∧ o ≤ 5) (hi : 0 ≤ i ∧ i ≤ 2) (hA : i = 0 → v = o / 2) (hB : i = 1 → o % 2 = 0 → (o / 2 = 0 → v = 1) ∧ (o / 2 ≠ 0 → v = 0)) (hC : i = 1 → o % 2 ≠ 0 → (o / 2 = 2 → v = 1) ∧ (o / 2 ≠ 2 → v = 2)) (hD : i = 2 → o % 2 = 0 → (o / 2 = 2 → v = 1) ∧ (o / 2 ≠ 2 → v = 2)) (hE : i = 2 → o % 2 ≠ 0 → (o / 2 = 0 → v = 1) ∧ (o / 2 ≠ 0 → v = 0)) : v = sl o i := by
  have h1 : o = 0 ∨ o = 1 ∨ o = 2 ∨ o = 3 ∨ o = 4 ∨ o = 5 := by omega
  have h2 : i = 0 ∨ i = 1 ∨ i = 2 := by omega
  rcases h1 with rfl | rfl | rfl | rfl | rfl | rfl <;> rcases h2 with rfl | rfl | rfl <;> first | exact (hA rfl).trans (by decide) | exact ((hB rfl (by decide)).1 (by decide)).trans (by decide) | exact ((hB rfl (by decide)).2 (by decide)).trans (by decide) | exact ((hC rfl (by decide)).1 (by decide)).trans (by decide) | exact ((hC rfl (by decide)).2 (by decide)).trans (by decide) | exact ((hD rfl (by decide)).1 (by decide)).trans (by decide) | exact ((hD rfl (by decide)).2 (by decide)).trans (by decide) | exact ((hE rfl (by decide)).1 (by decide)).trans (by decide) | exact ((hE rfl (by decide)).2 (by decide)).trans (by decide)
/-- the tables of what is done and of its digits -/
noncomputable def TB (M : mH) : Prop := gi M 81 0 = 0 ∧ (∀ s : Int, 1 ≤ s → s ≤ 10 → gi M 81 s = 1 ∧ gi M 82 (3 * s) = s - 1) ∧ (∀ s : Int, 11 ≤ s → s ≤ 110 → gi M 81 s = 2 ∧ gi M 82 (3 * s) = (s - 11) / 10 ∧ gi M 82 (3 * s + 1) = (s - 11) % 10) ∧ (∀ s : Int, 111 ≤ s → s ≤ 1110 → gi M 81 s = 3 ∧ gi M 82 (3 * s) = (s - 111) / 100 ∧ gi M 82 (3 * s + 1) = (s - 111) / 10 % 10 ∧ gi M 82 (3 * s + 2) = (s - 111) % 10)
theorem TB.of {M M' : mH} (h : TB M) (e1 : ∀ i : Int, gi M' 81 i = gi M 81 i) (e2 : ∀ i : Int, gi M' 82 i = gi M 82 i) : TB M' := by
  unfold TB at h ⊢
  simp only [e1, e2]
  exact h
theorem TB.fr {L : List (Nat × Nat)} {M M' : mH} (h : TB M) (f : Fr L M M') (hc : s_al L (fun c => c != 81 && c != 82) = true) : TB M' :=
  h.of (fun _ => f.g (s_al_ok hc (by simp))) (fun _ => f.g (s_al_ok hc (by simp)))
/-- what the tables say of one number -/
theorem TB.at {M : mH} (h : TB M) {s : Int} (hs : 0 ≤ s ∧ s ≤ 1110) : (s = 0 ∧ gi M 81 s = 0) ∨ (1 ≤ s ∧ s ≤ 10 ∧ gi M 81 s = 1 ∧ gi M 82 (3 * s) = s - 1) ∨ (11 ≤ s ∧ s ≤ 110 ∧ gi M 81 s = 2 ∧ gi M 82 (3 * s) = (s - 11) / 10 ∧ gi M 82 (3 * s + 1) = (s - 11) % 10) ∨ (111 ≤ s ∧ s ≤ 1110 ∧ gi M 81 s = 3 ∧ gi M 82 (3 * s) = (s - 111) / 100 ∧ gi M 82 (3 * s + 1) = (s - 111) / 10 % 10 ∧ gi M 82 (3 * s + 2) = (s - 111) % 10) := by
  obtain ⟨h0, h1, h2, h3⟩ := h
  by_cases a : s = 0
  · subst a; exact Or.inl ⟨rfl, h0⟩
  · by_cases b : s ≤ 10
    · exact Or.inr (Or.inl ⟨by omega, b, h1 s (by omega) b⟩)
    · by_cases c : s ≤ 110
      · exact Or.inr (Or.inr (Or.inl ⟨by omega, c, h2 s (by omega) c⟩))
      · exact Or.inr (Or.inr (Or.inr ⟨by omega, hs.2, h3 s (by omega) hs.2⟩))
noncomputable def T185 : mT := (11, yX11_indexOf, cX11_indexOf, 3, (some .int))
set_option maxRecDepth 10000 in
theorem TE185 : sy_m[185]? = some T185 := rfl
theorem B185_0_2 : s_dk T185.2.2.1 0 [.iconst 0, .istore_n 2] 2 = true := by decide +kernel
theorem B185_2_4 : s_dk T185.2.2.1 2 [.aload_n 0, .iload_n 2] 4 = true := by decide +kernel
theorem D185_4 : decode T185.2.2.1 4 = .ok (.invokevirtual 206, 3) := by decide +kernel
theorem B185_7_8 : s_dk T185.2.2.1 7 [.iload_n 1] 8 = true := by decide +kernel
theorem D185_8 : decode T185.2.2.1 8 = .ok (.if_icmp .eq 9, 3) := by decide +kernel
theorem B185_17_18 : s_dk T185.2.2.1 17 [.iload_n 2] 18 = true := by decide +kernel
theorem D185_18 : decode T185.2.2.1 18 = .ok (.ireturn, 1) := by decide +kernel
theorem B185_11_14 : s_dk T185.2.2.1 11 [.iinc 2 1] 14 = true := by decide +kernel
theorem D185_14 : decode T185.2.2.1 14 = .ok (.goto (-12), 3) := by decide +kernel
noncomputable def T186 : mT := (11, yX11_canMend, cX11_canMend, 4, (some .boolean))
set_option maxRecDepth 10000 in
theorem TE186 : sy_m[186]? = some T186 := rfl
theorem B186_0_2 : s_dk T186.2.2.1 0 [.aload_n 0, .iload_n 2] 2 = true := by decide +kernel
theorem D186_2 : decode T186.2.2.1 2 = .ok (.invokevirtual 209, 3) := by decide +kernel
theorem ck_11_virtual_209 : m_call 11 (.invokevirtual 209) = some (0, 185, 1) := by decide +kernel
theorem B186_5_8 : s_dk T186.2.2.1 5 [.istore_n 3, .iload_n 3, .aload_n 0] 8 = true := by decide +kernel
theorem D186_8 : decode T186.2.2.1 8 = .ok (.getfield 24, 3) := by decide +kernel
theorem B186_11_12 : s_dk T186.2.2.1 11 [.iload_n 1] 12 = true := by decide +kernel
theorem D186_12 : decode T186.2.2.1 12 = .ok (.iaload, 1) := by decide +kernel
theorem D186_13 : decode T186.2.2.1 13 = .ok (.if_icmp .ge 51, 3) := by decide +kernel
theorem B186_64_65 : s_dk T186.2.2.1 64 [.iconst 0] 65 = true := by decide +kernel
theorem D186_65 : decode T186.2.2.1 65 = .ok (.ireturn, 1) := by decide +kernel
theorem B186_16_17 : s_dk T186.2.2.1 16 [.aload_n 0] 17 = true := by decide +kernel
theorem D186_17 : decode T186.2.2.1 17 = .ok (.getfield 27, 3) := by decide +kernel
theorem B186_20_25 : s_dk T186.2.2.1 20 [.iconst 3, .iload_n 1, .imul, .iload_n 3, .iadd] 25 = true := by decide +kernel
theorem D186_25 : decode T186.2.2.1 25 = .ok (.iaload, 1) := by decide +kernel
theorem B186_26_28 : s_dk T186.2.2.1 26 [.bipush 8] 28 = true := by decide +kernel
theorem D186_28 : decode T186.2.2.1 28 = .ok (.if_icmp .ge 36, 3) := by decide +kernel
theorem B186_31_32 : s_dk T186.2.2.1 31 [.aload_n 0] 32 = true := by decide +kernel
theorem D186_32 : decode T186.2.2.1 32 = .ok (.getfield 33, 3) := by decide +kernel
theorem B186_35_36 : s_dk T186.2.2.1 35 [.iload_n 2] 36 = true := by decide +kernel
theorem D186_36 : decode T186.2.2.1 36 = .ok (.iaload, 1) := by decide +kernel
theorem B186_37_38 : s_dk T186.2.2.1 37 [.iconst (-1)] 38 = true := by decide +kernel
theorem D186_38 : decode T186.2.2.1 38 = .ok (.if_icmp .eq 26, 3) := by decide +kernel
theorem B186_41_42 : s_dk T186.2.2.1 41 [.aload_n 0] 42 = true := by decide +kernel
theorem D186_42 : decode T186.2.2.1 42 = .ok (.getfield 33, 3) := by decide +kernel
theorem B186_45_46 : s_dk T186.2.2.1 45 [.iload_n 2] 46 = true := by decide +kernel
theorem D186_46 : decode T186.2.2.1 46 = .ok (.iaload, 1) := by decide +kernel
theorem B186_47_48 : s_dk T186.2.2.1 47 [.aload_n 0] 48 = true := by decide +kernel
theorem D186_48 : decode T186.2.2.1 48 = .ok (.getfield 27, 3) := by decide +kernel
theorem B186_51_56 : s_dk T186.2.2.1 51 [.iconst 3, .iload_n 1, .imul, .iload_n 3, .iadd] 56 = true := by decide +kernel
theorem D186_56 : decode T186.2.2.1 56 = .ok (.iaload, 1) := by decide +kernel
theorem D186_57 : decode T186.2.2.1 57 = .ok (.if_icmp .eq 7, 3) := by decide +kernel
theorem B186_60_61 : s_dk T186.2.2.1 60 [.iconst 1] 61 = true := by decide +kernel
theorem D186_61 : decode T186.2.2.1 61 = .ok (.goto 4, 3) := by decide +kernel
noncomputable def T243 : mT := (11, yX11_firstMend, cX11_firstMend, 3, (some .int))
set_option maxRecDepth 10000 in
theorem TE243 : sy_m[243]? = some T243 := rfl
theorem B243_0_2 : s_dk T243.2.2.1 0 [.iconst 0, .istore_n 2] 2 = true := by decide +kernel
theorem B243_2_4 : s_dk T243.2.2.1 2 [.iload_n 2, .iconst 3] 4 = true := by decide +kernel
theorem D243_4 : decode T243.2.2.1 4 = .ok (.if_icmp .ge 20, 3) := by decide +kernel
theorem B243_7_10 : s_dk T243.2.2.1 7 [.aload_n 0, .iload_n 1, .iload_n 2] 10 = true := by decide +kernel
theorem D243_10 : decode T243.2.2.1 10 = .ok (.invokevirtual 221, 3) := by decide +kernel
theorem ck_11_virtual_221 : m_call 11 (.invokevirtual 221) = some (0, 186, 2) := by decide +kernel
theorem D243_13 : decode T243.2.2.1 13 = .ok (.ifCond .eq 5, 3) := by decide +kernel
theorem B243_18_21 : s_dk T243.2.2.1 18 [.iinc 2 1] 21 = true := by decide +kernel
theorem D243_21 : decode T243.2.2.1 21 = .ok (.goto (-19), 3) := by decide +kernel
theorem B243_16_17 : s_dk T243.2.2.1 16 [.iload_n 2] 17 = true := by decide +kernel
theorem D243_17 : decode T243.2.2.1 17 = .ok (.ireturn, 1) := by decide +kernel
theorem B243_24_25 : s_dk T243.2.2.1 24 [.iconst (-1)] 25 = true := by decide +kernel
theorem D243_25 : decode T243.2.2.1 25 = .ok (.ireturn, 1) := by decide +kernel
set_option maxRecDepth 4000 in
theorem k182x {base : Nat} {X : Nat → Option mC} {G : Nat → Value} (E : EnvOK base X G) {d : Nat} (hd : 0 ≤ d) {M : mH} (H : HI base M) (i : Int) (h0 : 0 ≤ i ∧ i ≤ 2) : sOk base X G d T182 [vR 77, vI i] M (pI (fun v M' => M' = M ∧ (0 ≤ v ∧ v ≤ 2) ∧ v = sl (gi M 78 473) i)) := by
  refine sOk.of (show sRn base X G d T182 0 [(0, vR 77), (1, vI i)] [] M _ from ?_)
  refine s_blx (lv' := [(0, vR 77), (1, vI i)]) (st' := [vR 77]) B182_0_1 rfl ?_
  refine r_gfix (r := 78) (pc' := 4) D182_1 rfl gf_11_13_77 H.1 ?_
  refine s_blx (lv' := [(0, vR 77), (1, vI i)]) (st' := [vI 473, vR 78]) B182_4_7 rfl ?_
  refine r_iald (pc' := 8) D182_7 rfl sc_78 H.1 (by omega) ?_
  intro w1 e2 r3
  have b_w1 := H.2 78 (473) 0 5 (rk_order (by omega))
  rw [← e2] at b_w1; clear r3
  refine s_blx (lv' := [(0, vR 77), (1, vI i)]) (st' := [vI 2, vI w1]) B182_8_9 rfl ?_
  refine r_idiv (pc' := 10) D182_9 rfl (by omega) ?_
  refine s_blx (lv' := [(2, vI (w1 / 2)), (0, vR 77), (1, vI i)]) (st' := [vI (w1 / 2)]) B182_10_12 rfl ?_
  refine r_ifc (tgt := 19) (pc' := 15) D182_12 rfl rfl (by unfold inR; omega) (fun (c4 : (w1 / 2) ≠ 0) => ?_) (fun (c4 : ¬ ((w1 / 2) ≠ 0)) => ?_)
  · refine s_blx (lv' := [(3, vI 0), (2, vI (w1 / 2)), (0, vR 77), (1, vI i)]) (st' := [vI 2, vI (w1 / 2)]) B182_19_23 rfl ?_
    refine r_icmp (tgt := 30) (pc' := 26) D182_23 rfl rfl (by unfold inR; omega) (fun (c5 : (w1 / 2) ≠ 2) => ?_) (fun (c5 : ¬ ((w1 / 2) ≠ 2)) => ?_)
    · refine s_blx (lv' := [(4, vI 2), (3, vI 0), (2, vI (w1 / 2)), (0, vR 77), (1, vI i)]) (st' := [vR 77]) B182_30_34 rfl ?_
      refine r_gfix (r := 78) (pc' := 37) D182_34 rfl gf_11_13_77 H.1 ?_
      refine s_blx (lv' := [(4, vI 2), (3, vI 0), (2, vI (w1 / 2)), (0, vR 77), (1, vI i)]) (st' := [vI 473, vR 78]) B182_37_40 rfl ?_
      refine r_iald (pc' := 41) D182_40 rfl sc_78 H.1 (by omega) ?_
      intro w6 e7 r8
      have e9 : w1 = w6 := (e7.trans (e2.symm)).symm
      subst e9
      refine s_blx (lv' := [(4, vI 2), (3, vI 0), (2, vI (w1 / 2)), (0, vR 77), (1, vI i)]) (st' := [vI 2, vI w1]) B182_41_42 rfl ?_
      refine r_irem (pc' := 43) D182_42 rfl (by omega) ?_
      refine r_ifc (tgt := 50) (pc' := 46) D182_43 rfl rfl (by unfold inR; omega) (fun (c10 : (w1 % 2) ≠ 0) => ?_) (fun (c10 : ¬ ((w1 % 2) ≠ 0)) => ?_)
      · refine s_blx (lv' := [(5, vI 0), (4, vI 2), (3, vI 0), (2, vI (w1 / 2)), (0, vR 77), (1, vI i)]) (st' := [vI i]) B182_50_54 rfl ?_
        refine r_ifc (tgt := 61) (pc' := 57) D182_54 rfl rfl (by unfold inR; omega) (fun (c11 : i ≠ 0) => ?_) (fun (c11 : ¬ (i ≠ 0)) => ?_)
        · refine s_blx (lv' := [(5, vI 0), (4, vI 2), (3, vI 0), (2, vI (w1 / 2)), (0, vR 77), (1, vI i)]) (st' := [vI 1, vI i]) B182_61_63 rfl ?_
          refine r_icmp (tgt := 70) (pc' := 66) D182_63 rfl rfl (by unfold inR; omega) (fun (c12 : i ≠ 1) => ?_) (fun (c12 : ¬ (i ≠ 1)) => ?_)
          · refine s_blx (lv' := [(5, vI 0), (4, vI 2), (3, vI 0), (2, vI (w1 / 2)), (0, vR 77), (1, vI i)]) (st' := [vI 0, vI 0]) B182_70_73 rfl ?_
            refine r_icmp (tgt := 80) (pc' := 76) D182_73 rfl rfl (by unfold inR; omega) (fun (c13 : 0 ≠ 0) => ?_) (fun (c13 : ¬ (0 ≠ 0)) => ?_)
            · exfalso; omega
            · refine s_blx (lv' := [(5, vI 0), (4, vI 2), (3, vI 0), (2, vI (w1 / 2)), (0, vR 77), (1, vI i)]) (st' := [vI 0]) B182_76_77 rfl ?_
              refine r_goto (tgt := 82) D182_77 rfl ?_
              exact r_iretI D182_82 rfl (⟨rfl, by omega, sl_abc (by have q := H.2 78 473 0 5 (rk_order (by omega)); omega) (by omega) (by subst_vars; omega) (by subst_vars; omega) (by subst_vars; omega) (by subst_vars; omega) (by subst_vars; omega)⟩)
          · refine s_blx (lv' := [(5, vI 0), (4, vI 2), (3, vI 0), (2, vI (w1 / 2)), (0, vR 77), (1, vI i)]) (st' := [vI 1]) B182_66_67 rfl ?_
            refine r_goto (tgt := 71) D182_67 rfl ?_
            refine s_blx (lv' := [(5, vI 0), (4, vI 2), (3, vI 0), (2, vI (w1 / 2)), (0, vR 77), (1, vI i)]) (st' := [vI 0, vI 1]) B182_71_73 rfl ?_
            refine r_icmp (tgt := 80) (pc' := 76) D182_73 rfl rfl (by unfold inR; omega) (fun (c14 : 1 ≠ 0) => ?_) (fun (c14 : ¬ (1 ≠ 0)) => ?_)
            · refine s_blx (lv' := [(5, vI 0), (4, vI 2), (3, vI 0), (2, vI (w1 / 2)), (0, vR 77), (1, vI i)]) (st' := [vI 2]) B182_80_82 rfl ?_
              exact r_iretI D182_82 rfl (⟨rfl, by omega, sl_abc (by have q := H.2 78 473 0 5 (rk_order (by omega)); omega) (by omega) (by subst_vars; omega) (by subst_vars; omega) (by subst_vars; omega) (by subst_vars; omega) (by subst_vars; omega)⟩)
            · exfalso; omega
        · refine s_blx (lv' := [(5, vI 0), (4, vI 2), (3, vI 0), (2, vI (w1 / 2)), (0, vR 77), (1, vI i)]) (st' := [vI (w1 / 2)]) B182_57_58 rfl ?_
          refine r_goto (tgt := 82) D182_58 rfl ?_
          exact r_iretI D182_82 rfl (⟨rfl, by omega, sl_abc (by have q := H.2 78 473 0 5 (rk_order (by omega)); omega) (by omega) (by subst_vars; omega) (by subst_vars; omega) (by subst_vars; omega) (by subst_vars; omega) (by subst_vars; omega)⟩)
      · refine s_blx (lv' := [(4, vI 2), (3, vI 0), (2, vI (w1 / 2)), (0, vR 77), (1, vI i)]) (st' := [vI 1]) B182_46_47 rfl ?_
        refine r_goto (tgt := 51) D182_47 rfl ?_
        refine s_blx (lv' := [(5, vI 1), (4, vI 2), (3, vI 0), (2, vI (w1 / 2)), (0, vR 77), (1, vI i)]) (st' := [vI i]) B182_51_54 rfl ?_
        refine r_ifc (tgt := 61) (pc' := 57) D182_54 rfl rfl (by unfold inR; omega) (fun (c15 : i ≠ 0) => ?_) (fun (c15 : ¬ (i ≠ 0)) => ?_)
        · refine s_blx (lv' := [(5, vI 1), (4, vI 2), (3, vI 0), (2, vI (w1 / 2)), (0, vR 77), (1, vI i)]) (st' := [vI 1, vI i]) B182_61_63 rfl ?_
          refine r_icmp (tgt := 70) (pc' := 66) D182_63 rfl rfl (by unfold inR; omega) (fun (c16 : i ≠ 1) => ?_) (fun (c16 : ¬ (i ≠ 1)) => ?_)
          · refine s_blx (lv' := [(5, vI 1), (4, vI 2), (3, vI 0), (2, vI (w1 / 2)), (0, vR 77), (1, vI i)]) (st' := [vI 1, vI 0]) B182_70_73 rfl ?_
            refine r_icmp (tgt := 80) (pc' := 76) D182_73 rfl rfl (by unfold inR; omega) (fun (c17 : 0 ≠ 1) => ?_) (fun (c17 : ¬ (0 ≠ 1)) => ?_)
            · refine s_blx (lv' := [(5, vI 1), (4, vI 2), (3, vI 0), (2, vI (w1 / 2)), (0, vR 77), (1, vI i)]) (st' := [vI 2]) B182_80_82 rfl ?_
              exact r_iretI D182_82 rfl (⟨rfl, by omega, sl_abc (by have q := H.2 78 473 0 5 (rk_order (by omega)); omega) (by omega) (by subst_vars; omega) (by subst_vars; omega) (by subst_vars; omega) (by subst_vars; omega) (by subst_vars; omega)⟩)
            · exfalso; omega
          · refine s_blx (lv' := [(5, vI 1), (4, vI 2), (3, vI 0), (2, vI (w1 / 2)), (0, vR 77), (1, vI i)]) (st' := [vI 1]) B182_66_67 rfl ?_
            refine r_goto (tgt := 71) D182_67 rfl ?_
            refine s_blx (lv' := [(5, vI 1), (4, vI 2), (3, vI 0), (2, vI (w1 / 2)), (0, vR 77), (1, vI i)]) (st' := [vI 1, vI 1]) B182_71_73 rfl ?_
            refine r_icmp (tgt := 80) (pc' := 76) D182_73 rfl rfl (by unfold inR; omega) (fun (c18 : 1 ≠ 1) => ?_) (fun (c18 : ¬ (1 ≠ 1)) => ?_)
            · exfalso; omega
            · refine s_blx (lv' := [(5, vI 1), (4, vI 2), (3, vI 0), (2, vI (w1 / 2)), (0, vR 77), (1, vI i)]) (st' := [vI 0]) B182_76_77 rfl ?_
              refine r_goto (tgt := 82) D182_77 rfl ?_
              exact r_iretI D182_82 rfl (⟨rfl, by omega, sl_abc (by have q := H.2 78 473 0 5 (rk_order (by omega)); omega) (by omega) (by subst_vars; omega) (by subst_vars; omega) (by subst_vars; omega) (by subst_vars; omega) (by subst_vars; omega)⟩)
        · refine s_blx (lv' := [(5, vI 1), (4, vI 2), (3, vI 0), (2, vI (w1 / 2)), (0, vR 77), (1, vI i)]) (st' := [vI (w1 / 2)]) B182_57_58 rfl ?_
          refine r_goto (tgt := 82) D182_58 rfl ?_
          exact r_iretI D182_82 rfl (⟨rfl, by omega, sl_abc (by have q := H.2 78 473 0 5 (rk_order (by omega)); omega) (by omega) (by subst_vars; omega) (by subst_vars; omega) (by subst_vars; omega) (by subst_vars; omega) (by subst_vars; omega)⟩)
    · refine s_blx (lv' := [(3, vI 0), (2, vI (w1 / 2)), (0, vR 77), (1, vI i)]) (st' := [vI 1]) B182_26_27 rfl ?_
      refine r_goto (tgt := 31) D182_27 rfl ?_
      refine s_blx (lv' := [(4, vI 1), (3, vI 0), (2, vI (w1 / 2)), (0, vR 77), (1, vI i)]) (st' := [vR 77]) B182_31_34 rfl ?_
      refine r_gfix (r := 78) (pc' := 37) D182_34 rfl gf_11_13_77 H.1 ?_
      refine s_blx (lv' := [(4, vI 1), (3, vI 0), (2, vI (w1 / 2)), (0, vR 77), (1, vI i)]) (st' := [vI 473, vR 78]) B182_37_40 rfl ?_
      refine r_iald (pc' := 41) D182_40 rfl sc_78 H.1 (by omega) ?_
      intro w19 e20 r21
      have e22 : w1 = w19 := (e20.trans (e2.symm)).symm
      subst e22
      refine s_blx (lv' := [(4, vI 1), (3, vI 0), (2, vI (w1 / 2)), (0, vR 77), (1, vI i)]) (st' := [vI 2, vI w1]) B182_41_42 rfl ?_
      refine r_irem (pc' := 43) D182_42 rfl (by omega) ?_
      refine r_ifc (tgt := 50) (pc' := 46) D182_43 rfl rfl (by unfold inR; omega) (fun (c23 : (w1 % 2) ≠ 0) => ?_) (fun (c23 : ¬ ((w1 % 2) ≠ 0)) => ?_)
      · refine s_blx (lv' := [(5, vI 0), (4, vI 1), (3, vI 0), (2, vI (w1 / 2)), (0, vR 77), (1, vI i)]) (st' := [vI i]) B182_50_54 rfl ?_
        refine r_ifc (tgt := 61) (pc' := 57) D182_54 rfl rfl (by unfold inR; omega) (fun (c24 : i ≠ 0) => ?_) (fun (c24 : ¬ (i ≠ 0)) => ?_)
        · refine s_blx (lv' := [(5, vI 0), (4, vI 1), (3, vI 0), (2, vI (w1 / 2)), (0, vR 77), (1, vI i)]) (st' := [vI 1, vI i]) B182_61_63 rfl ?_
          refine r_icmp (tgt := 70) (pc' := 66) D182_63 rfl rfl (by unfold inR; omega) (fun (c25 : i ≠ 1) => ?_) (fun (c25 : ¬ (i ≠ 1)) => ?_)
          · refine s_blx (lv' := [(5, vI 0), (4, vI 1), (3, vI 0), (2, vI (w1 / 2)), (0, vR 77), (1, vI i)]) (st' := [vI 0, vI 0]) B182_70_73 rfl ?_
            refine r_icmp (tgt := 80) (pc' := 76) D182_73 rfl rfl (by unfold inR; omega) (fun (c26 : 0 ≠ 0) => ?_) (fun (c26 : ¬ (0 ≠ 0)) => ?_)
            · exfalso; omega
            · refine s_blx (lv' := [(5, vI 0), (4, vI 1), (3, vI 0), (2, vI (w1 / 2)), (0, vR 77), (1, vI i)]) (st' := [vI 0]) B182_76_77 rfl ?_
              refine r_goto (tgt := 82) D182_77 rfl ?_
              exact r_iretI D182_82 rfl (⟨rfl, by omega, sl_abc (by have q := H.2 78 473 0 5 (rk_order (by omega)); omega) (by omega) (by subst_vars; omega) (by subst_vars; omega) (by subst_vars; omega) (by subst_vars; omega) (by subst_vars; omega)⟩)
          · refine s_blx (lv' := [(5, vI 0), (4, vI 1), (3, vI 0), (2, vI (w1 / 2)), (0, vR 77), (1, vI i)]) (st' := [vI 1]) B182_66_67 rfl ?_
            refine r_goto (tgt := 71) D182_67 rfl ?_
            refine s_blx (lv' := [(5, vI 0), (4, vI 1), (3, vI 0), (2, vI (w1 / 2)), (0, vR 77), (1, vI i)]) (st' := [vI 0, vI 1]) B182_71_73 rfl ?_
            refine r_icmp (tgt := 80) (pc' := 76) D182_73 rfl rfl (by unfold inR; omega) (fun (c27 : 1 ≠ 0) => ?_) (fun (c27 : ¬ (1 ≠ 0)) => ?_)
            · refine s_blx (lv' := [(5, vI 0), (4, vI 1), (3, vI 0), (2, vI (w1 / 2)), (0, vR 77), (1, vI i)]) (st' := [vI 1]) B182_80_82 rfl ?_
              exact r_iretI D182_82 rfl (⟨rfl, by omega, sl_abc (by have q := H.2 78 473 0 5 (rk_order (by omega)); omega) (by omega) (by subst_vars; omega) (by subst_vars; omega) (by subst_vars; omega) (by subst_vars; omega) (by subst_vars; omega)⟩)
            · exfalso; omega
        · refine s_blx (lv' := [(5, vI 0), (4, vI 1), (3, vI 0), (2, vI (w1 / 2)), (0, vR 77), (1, vI i)]) (st' := [vI (w1 / 2)]) B182_57_58 rfl ?_
          refine r_goto (tgt := 82) D182_58 rfl ?_
          exact r_iretI D182_82 rfl (⟨rfl, by omega, sl_abc (by have q := H.2 78 473 0 5 (rk_order (by omega)); omega) (by omega) (by subst_vars; omega) (by subst_vars; omega) (by subst_vars; omega) (by subst_vars; omega) (by subst_vars; omega)⟩)
      · refine s_blx (lv' := [(4, vI 1), (3, vI 0), (2, vI (w1 / 2)), (0, vR 77), (1, vI i)]) (st' := [vI 1]) B182_46_47 rfl ?_
        refine r_goto (tgt := 51) D182_47 rfl ?_
        refine s_blx (lv' := [(5, vI 1), (4, vI 1), (3, vI 0), (2, vI (w1 / 2)), (0, vR 77), (1, vI i)]) (st' := [vI i]) B182_51_54 rfl ?_
        refine r_ifc (tgt := 61) (pc' := 57) D182_54 rfl rfl (by unfold inR; omega) (fun (c28 : i ≠ 0) => ?_) (fun (c28 : ¬ (i ≠ 0)) => ?_)
        · refine s_blx (lv' := [(5, vI 1), (4, vI 1), (3, vI 0), (2, vI (w1 / 2)), (0, vR 77), (1, vI i)]) (st' := [vI 1, vI i]) B182_61_63 rfl ?_
          refine r_icmp (tgt := 70) (pc' := 66) D182_63 rfl rfl (by unfold inR; omega) (fun (c29 : i ≠ 1) => ?_) (fun (c29 : ¬ (i ≠ 1)) => ?_)
          · refine s_blx (lv' := [(5, vI 1), (4, vI 1), (3, vI 0), (2, vI (w1 / 2)), (0, vR 77), (1, vI i)]) (st' := [vI 1, vI 0]) B182_70_73 rfl ?_
            refine r_icmp (tgt := 80) (pc' := 76) D182_73 rfl rfl (by unfold inR; omega) (fun (c30 : 0 ≠ 1) => ?_) (fun (c30 : ¬ (0 ≠ 1)) => ?_)
            · refine s_blx (lv' := [(5, vI 1), (4, vI 1), (3, vI 0), (2, vI (w1 / 2)), (0, vR 77), (1, vI i)]) (st' := [vI 1]) B182_80_82 rfl ?_
              exact r_iretI D182_82 rfl (⟨rfl, by omega, sl_abc (by have q := H.2 78 473 0 5 (rk_order (by omega)); omega) (by omega) (by subst_vars; omega) (by subst_vars; omega) (by subst_vars; omega) (by subst_vars; omega) (by subst_vars; omega)⟩)
            · exfalso; omega
          · refine s_blx (lv' := [(5, vI 1), (4, vI 1), (3, vI 0), (2, vI (w1 / 2)), (0, vR 77), (1, vI i)]) (st' := [vI 1]) B182_66_67 rfl ?_
            refine r_goto (tgt := 71) D182_67 rfl ?_
            refine s_blx (lv' := [(5, vI 1), (4, vI 1), (3, vI 0), (2, vI (w1 / 2)), (0, vR 77), (1, vI i)]) (st' := [vI 1, vI 1]) B182_71_73 rfl ?_
            refine r_icmp (tgt := 80) (pc' := 76) D182_73 rfl rfl (by unfold inR; omega) (fun (c31 : 1 ≠ 1) => ?_) (fun (c31 : ¬ (1 ≠ 1)) => ?_)
            · exfalso; omega
            · refine s_blx (lv' := [(5, vI 1), (4, vI 1), (3, vI 0), (2, vI (w1 / 2)), (0, vR 77), (1, vI i)]) (st' := [vI 0]) B182_76_77 rfl ?_
              refine r_goto (tgt := 82) D182_77 rfl ?_
              exact r_iretI D182_82 rfl (⟨rfl, by omega, sl_abc (by have q := H.2 78 473 0 5 (rk_order (by omega)); omega) (by omega) (by subst_vars; omega) (by subst_vars; omega) (by subst_vars; omega) (by subst_vars; omega) (by subst_vars; omega)⟩)
        · refine s_blx (lv' := [(5, vI 1), (4, vI 1), (3, vI 0), (2, vI (w1 / 2)), (0, vR 77), (1, vI i)]) (st' := [vI (w1 / 2)]) B182_57_58 rfl ?_
          refine r_goto (tgt := 82) D182_58 rfl ?_
          exact r_iretI D182_82 rfl (⟨rfl, by omega, sl_abc (by have q := H.2 78 473 0 5 (rk_order (by omega)); omega) (by omega) (by subst_vars; omega) (by subst_vars; omega) (by subst_vars; omega) (by subst_vars; omega) (by subst_vars; omega)⟩)
  · refine s_blx (lv' := [(2, vI (w1 / 2)), (0, vR 77), (1, vI i)]) (st' := [vI 1]) B182_15_16 rfl ?_
    refine r_goto (tgt := 20) D182_16 rfl ?_
    refine s_blx (lv' := [(3, vI 1), (2, vI (w1 / 2)), (0, vR 77), (1, vI i)]) (st' := [vI 2, vI (w1 / 2)]) B182_20_23 rfl ?_
    refine r_icmp (tgt := 30) (pc' := 26) D182_23 rfl rfl (by unfold inR; omega) (fun (c32 : (w1 / 2) ≠ 2) => ?_) (fun (c32 : ¬ ((w1 / 2) ≠ 2)) => ?_)
    · refine s_blx (lv' := [(4, vI 2), (3, vI 1), (2, vI (w1 / 2)), (0, vR 77), (1, vI i)]) (st' := [vR 77]) B182_30_34 rfl ?_
      refine r_gfix (r := 78) (pc' := 37) D182_34 rfl gf_11_13_77 H.1 ?_
      refine s_blx (lv' := [(4, vI 2), (3, vI 1), (2, vI (w1 / 2)), (0, vR 77), (1, vI i)]) (st' := [vI 473, vR 78]) B182_37_40 rfl ?_
      refine r_iald (pc' := 41) D182_40 rfl sc_78 H.1 (by omega) ?_
      intro w33 e34 r35
      have e36 : w1 = w33 := (e34.trans (e2.symm)).symm
      subst e36
      refine s_blx (lv' := [(4, vI 2), (3, vI 1), (2, vI (w1 / 2)), (0, vR 77), (1, vI i)]) (st' := [vI 2, vI w1]) B182_41_42 rfl ?_
      refine r_irem (pc' := 43) D182_42 rfl (by omega) ?_
      refine r_ifc (tgt := 50) (pc' := 46) D182_43 rfl rfl (by unfold inR; omega) (fun (c37 : (w1 % 2) ≠ 0) => ?_) (fun (c37 : ¬ ((w1 % 2) ≠ 0)) => ?_)
      · refine s_blx (lv' := [(5, vI 0), (4, vI 2), (3, vI 1), (2, vI (w1 / 2)), (0, vR 77), (1, vI i)]) (st' := [vI i]) B182_50_54 rfl ?_
        refine r_ifc (tgt := 61) (pc' := 57) D182_54 rfl rfl (by unfold inR; omega) (fun (c38 : i ≠ 0) => ?_) (fun (c38 : ¬ (i ≠ 0)) => ?_)
        · refine s_blx (lv' := [(5, vI 0), (4, vI 2), (3, vI 1), (2, vI (w1 / 2)), (0, vR 77), (1, vI i)]) (st' := [vI 1, vI i]) B182_61_63 rfl ?_
          refine r_icmp (tgt := 70) (pc' := 66) D182_63 rfl rfl (by unfold inR; omega) (fun (c39 : i ≠ 1) => ?_) (fun (c39 : ¬ (i ≠ 1)) => ?_)
          · refine s_blx (lv' := [(5, vI 0), (4, vI 2), (3, vI 1), (2, vI (w1 / 2)), (0, vR 77), (1, vI i)]) (st' := [vI 0, vI 0]) B182_70_73 rfl ?_
            refine r_icmp (tgt := 80) (pc' := 76) D182_73 rfl rfl (by unfold inR; omega) (fun (c40 : 0 ≠ 0) => ?_) (fun (c40 : ¬ (0 ≠ 0)) => ?_)
            · exfalso; omega
            · refine s_blx (lv' := [(5, vI 0), (4, vI 2), (3, vI 1), (2, vI (w1 / 2)), (0, vR 77), (1, vI i)]) (st' := [vI 1]) B182_76_77 rfl ?_
              refine r_goto (tgt := 82) D182_77 rfl ?_
              exact r_iretI D182_82 rfl (⟨rfl, by omega, sl_abc (by have q := H.2 78 473 0 5 (rk_order (by omega)); omega) (by omega) (by subst_vars; omega) (by subst_vars; omega) (by subst_vars; omega) (by subst_vars; omega) (by subst_vars; omega)⟩)
          · refine s_blx (lv' := [(5, vI 0), (4, vI 2), (3, vI 1), (2, vI (w1 / 2)), (0, vR 77), (1, vI i)]) (st' := [vI 1]) B182_66_67 rfl ?_
            refine r_goto (tgt := 71) D182_67 rfl ?_
            refine s_blx (lv' := [(5, vI 0), (4, vI 2), (3, vI 1), (2, vI (w1 / 2)), (0, vR 77), (1, vI i)]) (st' := [vI 0, vI 1]) B182_71_73 rfl ?_
            refine r_icmp (tgt := 80) (pc' := 76) D182_73 rfl rfl (by unfold inR; omega) (fun (c41 : 1 ≠ 0) => ?_) (fun (c41 : ¬ (1 ≠ 0)) => ?_)
            · refine s_blx (lv' := [(5, vI 0), (4, vI 2), (3, vI 1), (2, vI (w1 / 2)), (0, vR 77), (1, vI i)]) (st' := [vI 2]) B182_80_82 rfl ?_
              exact r_iretI D182_82 rfl (⟨rfl, by omega, sl_abc (by have q := H.2 78 473 0 5 (rk_order (by omega)); omega) (by omega) (by subst_vars; omega) (by subst_vars; omega) (by subst_vars; omega) (by subst_vars; omega) (by subst_vars; omega)⟩)
            · exfalso; omega
        · refine s_blx (lv' := [(5, vI 0), (4, vI 2), (3, vI 1), (2, vI (w1 / 2)), (0, vR 77), (1, vI i)]) (st' := [vI (w1 / 2)]) B182_57_58 rfl ?_
          refine r_goto (tgt := 82) D182_58 rfl ?_
          exact r_iretI D182_82 rfl (⟨rfl, by omega, sl_abc (by have q := H.2 78 473 0 5 (rk_order (by omega)); omega) (by omega) (by subst_vars; omega) (by subst_vars; omega) (by subst_vars; omega) (by subst_vars; omega) (by subst_vars; omega)⟩)
      · refine s_blx (lv' := [(4, vI 2), (3, vI 1), (2, vI (w1 / 2)), (0, vR 77), (1, vI i)]) (st' := [vI 1]) B182_46_47 rfl ?_
        refine r_goto (tgt := 51) D182_47 rfl ?_
        refine s_blx (lv' := [(5, vI 1), (4, vI 2), (3, vI 1), (2, vI (w1 / 2)), (0, vR 77), (1, vI i)]) (st' := [vI i]) B182_51_54 rfl ?_
        refine r_ifc (tgt := 61) (pc' := 57) D182_54 rfl rfl (by unfold inR; omega) (fun (c42 : i ≠ 0) => ?_) (fun (c42 : ¬ (i ≠ 0)) => ?_)
        · refine s_blx (lv' := [(5, vI 1), (4, vI 2), (3, vI 1), (2, vI (w1 / 2)), (0, vR 77), (1, vI i)]) (st' := [vI 1, vI i]) B182_61_63 rfl ?_
          refine r_icmp (tgt := 70) (pc' := 66) D182_63 rfl rfl (by unfold inR; omega) (fun (c43 : i ≠ 1) => ?_) (fun (c43 : ¬ (i ≠ 1)) => ?_)
          · refine s_blx (lv' := [(5, vI 1), (4, vI 2), (3, vI 1), (2, vI (w1 / 2)), (0, vR 77), (1, vI i)]) (st' := [vI 1, vI 0]) B182_70_73 rfl ?_
            refine r_icmp (tgt := 80) (pc' := 76) D182_73 rfl rfl (by unfold inR; omega) (fun (c44 : 0 ≠ 1) => ?_) (fun (c44 : ¬ (0 ≠ 1)) => ?_)
            · refine s_blx (lv' := [(5, vI 1), (4, vI 2), (3, vI 1), (2, vI (w1 / 2)), (0, vR 77), (1, vI i)]) (st' := [vI 2]) B182_80_82 rfl ?_
              exact r_iretI D182_82 rfl (⟨rfl, by omega, sl_abc (by have q := H.2 78 473 0 5 (rk_order (by omega)); omega) (by omega) (by subst_vars; omega) (by subst_vars; omega) (by subst_vars; omega) (by subst_vars; omega) (by subst_vars; omega)⟩)
            · exfalso; omega
          · refine s_blx (lv' := [(5, vI 1), (4, vI 2), (3, vI 1), (2, vI (w1 / 2)), (0, vR 77), (1, vI i)]) (st' := [vI 1]) B182_66_67 rfl ?_
            refine r_goto (tgt := 71) D182_67 rfl ?_
            refine s_blx (lv' := [(5, vI 1), (4, vI 2), (3, vI 1), (2, vI (w1 / 2)), (0, vR 77), (1, vI i)]) (st' := [vI 1, vI 1]) B182_71_73 rfl ?_
            refine r_icmp (tgt := 80) (pc' := 76) D182_73 rfl rfl (by unfold inR; omega) (fun (c45 : 1 ≠ 1) => ?_) (fun (c45 : ¬ (1 ≠ 1)) => ?_)
            · exfalso; omega
            · refine s_blx (lv' := [(5, vI 1), (4, vI 2), (3, vI 1), (2, vI (w1 / 2)), (0, vR 77), (1, vI i)]) (st' := [vI 1]) B182_76_77 rfl ?_
              refine r_goto (tgt := 82) D182_77 rfl ?_
              exact r_iretI D182_82 rfl (⟨rfl, by omega, sl_abc (by have q := H.2 78 473 0 5 (rk_order (by omega)); omega) (by omega) (by subst_vars; omega) (by subst_vars; omega) (by subst_vars; omega) (by subst_vars; omega) (by subst_vars; omega)⟩)
        · refine s_blx (lv' := [(5, vI 1), (4, vI 2), (3, vI 1), (2, vI (w1 / 2)), (0, vR 77), (1, vI i)]) (st' := [vI (w1 / 2)]) B182_57_58 rfl ?_
          refine r_goto (tgt := 82) D182_58 rfl ?_
          exact r_iretI D182_82 rfl (⟨rfl, by omega, sl_abc (by have q := H.2 78 473 0 5 (rk_order (by omega)); omega) (by omega) (by subst_vars; omega) (by subst_vars; omega) (by subst_vars; omega) (by subst_vars; omega) (by subst_vars; omega)⟩)
    · refine s_blx (lv' := [(3, vI 1), (2, vI (w1 / 2)), (0, vR 77), (1, vI i)]) (st' := [vI 1]) B182_26_27 rfl ?_
      refine r_goto (tgt := 31) D182_27 rfl ?_
      refine s_blx (lv' := [(4, vI 1), (3, vI 1), (2, vI (w1 / 2)), (0, vR 77), (1, vI i)]) (st' := [vR 77]) B182_31_34 rfl ?_
      refine r_gfix (r := 78) (pc' := 37) D182_34 rfl gf_11_13_77 H.1 ?_
      refine s_blx (lv' := [(4, vI 1), (3, vI 1), (2, vI (w1 / 2)), (0, vR 77), (1, vI i)]) (st' := [vI 473, vR 78]) B182_37_40 rfl ?_
      refine r_iald (pc' := 41) D182_40 rfl sc_78 H.1 (by omega) ?_
      intro w46 e47 r48
      have e49 : w1 = w46 := (e47.trans (e2.symm)).symm
      subst e49
      refine s_blx (lv' := [(4, vI 1), (3, vI 1), (2, vI (w1 / 2)), (0, vR 77), (1, vI i)]) (st' := [vI 2, vI w1]) B182_41_42 rfl ?_
      refine r_irem (pc' := 43) D182_42 rfl (by omega) ?_
      refine r_ifc (tgt := 50) (pc' := 46) D182_43 rfl rfl (by unfold inR; omega) (fun (c50 : (w1 % 2) ≠ 0) => ?_) (fun (c50 : ¬ ((w1 % 2) ≠ 0)) => ?_)
      · refine s_blx (lv' := [(5, vI 0), (4, vI 1), (3, vI 1), (2, vI (w1 / 2)), (0, vR 77), (1, vI i)]) (st' := [vI i]) B182_50_54 rfl ?_
        refine r_ifc (tgt := 61) (pc' := 57) D182_54 rfl rfl (by unfold inR; omega) (fun (c51 : i ≠ 0) => ?_) (fun (c51 : ¬ (i ≠ 0)) => ?_)
        · refine s_blx (lv' := [(5, vI 0), (4, vI 1), (3, vI 1), (2, vI (w1 / 2)), (0, vR 77), (1, vI i)]) (st' := [vI 1, vI i]) B182_61_63 rfl ?_
          refine r_icmp (tgt := 70) (pc' := 66) D182_63 rfl rfl (by unfold inR; omega) (fun (c52 : i ≠ 1) => ?_) (fun (c52 : ¬ (i ≠ 1)) => ?_)
          · refine s_blx (lv' := [(5, vI 0), (4, vI 1), (3, vI 1), (2, vI (w1 / 2)), (0, vR 77), (1, vI i)]) (st' := [vI 0, vI 0]) B182_70_73 rfl ?_
            refine r_icmp (tgt := 80) (pc' := 76) D182_73 rfl rfl (by unfold inR; omega) (fun (c53 : 0 ≠ 0) => ?_) (fun (c53 : ¬ (0 ≠ 0)) => ?_)
            · exfalso; omega
            · refine s_blx (lv' := [(5, vI 0), (4, vI 1), (3, vI 1), (2, vI (w1 / 2)), (0, vR 77), (1, vI i)]) (st' := [vI 1]) B182_76_77 rfl ?_
              refine r_goto (tgt := 82) D182_77 rfl ?_
              exact r_iretI D182_82 rfl (⟨rfl, by omega, sl_abc (by have q := H.2 78 473 0 5 (rk_order (by omega)); omega) (by omega) (by subst_vars; omega) (by subst_vars; omega) (by subst_vars; omega) (by subst_vars; omega) (by subst_vars; omega)⟩)
          · refine s_blx (lv' := [(5, vI 0), (4, vI 1), (3, vI 1), (2, vI (w1 / 2)), (0, vR 77), (1, vI i)]) (st' := [vI 1]) B182_66_67 rfl ?_
            refine r_goto (tgt := 71) D182_67 rfl ?_
            refine s_blx (lv' := [(5, vI 0), (4, vI 1), (3, vI 1), (2, vI (w1 / 2)), (0, vR 77), (1, vI i)]) (st' := [vI 0, vI 1]) B182_71_73 rfl ?_
            refine r_icmp (tgt := 80) (pc' := 76) D182_73 rfl rfl (by unfold inR; omega) (fun (c54 : 1 ≠ 0) => ?_) (fun (c54 : ¬ (1 ≠ 0)) => ?_)
            · refine s_blx (lv' := [(5, vI 0), (4, vI 1), (3, vI 1), (2, vI (w1 / 2)), (0, vR 77), (1, vI i)]) (st' := [vI 1]) B182_80_82 rfl ?_
              exact r_iretI D182_82 rfl (⟨rfl, by omega, sl_abc (by have q := H.2 78 473 0 5 (rk_order (by omega)); omega) (by omega) (by subst_vars; omega) (by subst_vars; omega) (by subst_vars; omega) (by subst_vars; omega) (by subst_vars; omega)⟩)
            · exfalso; omega
        · refine s_blx (lv' := [(5, vI 0), (4, vI 1), (3, vI 1), (2, vI (w1 / 2)), (0, vR 77), (1, vI i)]) (st' := [vI (w1 / 2)]) B182_57_58 rfl ?_
          refine r_goto (tgt := 82) D182_58 rfl ?_
          exact r_iretI D182_82 rfl (⟨rfl, by omega, sl_abc (by have q := H.2 78 473 0 5 (rk_order (by omega)); omega) (by omega) (by subst_vars; omega) (by subst_vars; omega) (by subst_vars; omega) (by subst_vars; omega) (by subst_vars; omega)⟩)
      · refine s_blx (lv' := [(4, vI 1), (3, vI 1), (2, vI (w1 / 2)), (0, vR 77), (1, vI i)]) (st' := [vI 1]) B182_46_47 rfl ?_
        refine r_goto (tgt := 51) D182_47 rfl ?_
        refine s_blx (lv' := [(5, vI 1), (4, vI 1), (3, vI 1), (2, vI (w1 / 2)), (0, vR 77), (1, vI i)]) (st' := [vI i]) B182_51_54 rfl ?_
        refine r_ifc (tgt := 61) (pc' := 57) D182_54 rfl rfl (by unfold inR; omega) (fun (c55 : i ≠ 0) => ?_) (fun (c55 : ¬ (i ≠ 0)) => ?_)
        · refine s_blx (lv' := [(5, vI 1), (4, vI 1), (3, vI 1), (2, vI (w1 / 2)), (0, vR 77), (1, vI i)]) (st' := [vI 1, vI i]) B182_61_63 rfl ?_
          refine r_icmp (tgt := 70) (pc' := 66) D182_63 rfl rfl (by unfold inR; omega) (fun (c56 : i ≠ 1) => ?_) (fun (c56 : ¬ (i ≠ 1)) => ?_)
          · refine s_blx (lv' := [(5, vI 1), (4, vI 1), (3, vI 1), (2, vI (w1 / 2)), (0, vR 77), (1, vI i)]) (st' := [vI 1, vI 0]) B182_70_73 rfl ?_
            refine r_icmp (tgt := 80) (pc' := 76) D182_73 rfl rfl (by unfold inR; omega) (fun (c57 : 0 ≠ 1) => ?_) (fun (c57 : ¬ (0 ≠ 1)) => ?_)
            · refine s_blx (lv' := [(5, vI 1), (4, vI 1), (3, vI 1), (2, vI (w1 / 2)), (0, vR 77), (1, vI i)]) (st' := [vI 1]) B182_80_82 rfl ?_
              exact r_iretI D182_82 rfl (⟨rfl, by omega, sl_abc (by have q := H.2 78 473 0 5 (rk_order (by omega)); omega) (by omega) (by subst_vars; omega) (by subst_vars; omega) (by subst_vars; omega) (by subst_vars; omega) (by subst_vars; omega)⟩)
            · exfalso; omega
          · refine s_blx (lv' := [(5, vI 1), (4, vI 1), (3, vI 1), (2, vI (w1 / 2)), (0, vR 77), (1, vI i)]) (st' := [vI 1]) B182_66_67 rfl ?_
            refine r_goto (tgt := 71) D182_67 rfl ?_
            refine s_blx (lv' := [(5, vI 1), (4, vI 1), (3, vI 1), (2, vI (w1 / 2)), (0, vR 77), (1, vI i)]) (st' := [vI 1, vI 1]) B182_71_73 rfl ?_
            refine r_icmp (tgt := 80) (pc' := 76) D182_73 rfl rfl (by unfold inR; omega) (fun (c58 : 1 ≠ 1) => ?_) (fun (c58 : ¬ (1 ≠ 1)) => ?_)
            · exfalso; omega
            · refine s_blx (lv' := [(5, vI 1), (4, vI 1), (3, vI 1), (2, vI (w1 / 2)), (0, vR 77), (1, vI i)]) (st' := [vI 1]) B182_76_77 rfl ?_
              refine r_goto (tgt := 82) D182_77 rfl ?_
              exact r_iretI D182_82 rfl (⟨rfl, by omega, sl_abc (by have q := H.2 78 473 0 5 (rk_order (by omega)); omega) (by omega) (by subst_vars; omega) (by subst_vars; omega) (by subst_vars; omega) (by subst_vars; omega) (by subst_vars; omega)⟩)
        · refine s_blx (lv' := [(5, vI 1), (4, vI 1), (3, vI 1), (2, vI (w1 / 2)), (0, vR 77), (1, vI i)]) (st' := [vI (w1 / 2)]) B182_57_58 rfl ?_
          refine r_goto (tgt := 82) D182_58 rfl ?_
          exact r_iretI D182_82 rfl (⟨rfl, by omega, sl_abc (by have q := H.2 78 473 0 5 (rk_order (by omega)); omega) (by omega) (by subst_vars; omega) (by subst_vars; omega) (by subst_vars; omega) (by subst_vars; omega) (by subst_vars; omega)⟩)
set_option maxRecDepth 4000 in
theorem L_k185x {base : Nat} {X : Nat → Option mC} {G : Nat → Value} (E : EnvOK base X G) {d : Nat} (hd : 1 ≤ d) {M : mH} (H : HI base M) (slot : Int) (h0 : 0 ≤ slot ∧ slot ≤ 2) : ∀ mz : Nat, (∀ (x2 : Int), (0 ≤ x2 ∧ x2 ≤ 2) → (1 ≤ x2 → sl (gi M 78 473) 0 ≠ slot) → (2 ≤ x2 → sl (gi M 78 473) 1 ≠ slot) → (0 ≤ x2) → (x2 ≤ 3) → (2 - x2) * 1 + 0 < (mz : Int) → sRn base X G d T185 2 [(0, vR 77), (1, vI slot), (2, vI x2)] [] M (s_Q base (pI (fun v M' => M' = M ∧ (0 ≤ v ∧ v ≤ 2) ∧ sl (gi M 78 473) v = slot)))) := by
  intro mz
  induction mz with
  | zero => exact fun x2 z0 z1 z2 z3 z4 z5 => by omega
  | succ mz ih =>
    intro x2 i0 i1 i2 i3 i4 hmu
    refine s_blx (lv' := [(0, vR 77), (1, vI slot), (2, vI x2)]) (st' := [vI x2, vR 77]) B185_2_4 rfl ?_
    refine r_vIp (c := 77) (args := [vI x2]) (rest := []) (pc' := 7) D185_4 rfl ck_11_virtual_206 TE182 rfl (Nat.le_of_ble_eq_true rfl) ⟨Nat.le_of_ble_eq_true rfl, Nat.le_of_ble_eq_true rfl⟩ sc_77 ⟨rfl, by decide⟩ H.1 (dp_0 hd rfl) (k182x E (dp_n hd rfl) H x2 (by omega)) ?_
    intro v1 q5
    obtain ⟨q3, q4⟩ := q5
    have ko := H.2 78 473 0 5 (rk_order (by omega))
    have kp := sl_perm (o := gi M 78 473) (s := slot) ko (by omega)
    have k0 : x2 = 0 → v1 = sl (gi M 78 473) 0 := fun h => by rw [q4, h]
    have k1 : x2 = 1 → v1 = sl (gi M 78 473) 1 := fun h => by rw [q4, h]
    have k2 : x2 = 2 → v1 = sl (gi M 78 473) 2 := fun h => by rw [q4, h]
    have kq := q4; clear q4
    refine s_blx (lv' := [(0, vR 77), (1, vI slot), (2, vI x2)]) (st' := [vI slot, vI v1]) B185_7_8 rfl ?_
    refine r_icmp (tgt := 17) (pc' := 11) D185_8 rfl rfl (by unfold inR; omega) (fun (c6 : v1 = slot) => ?_) (fun (c6 : ¬ (v1 = slot)) => ?_)
    · refine s_blx (lv' := [(0, vR 77), (1, vI slot), (2, vI x2)]) (st' := [vI x2]) B185_17_18 rfl ?_
      exact r_iretI D185_18 rfl (⟨rfl, by omega, by rw [← kq]; omega⟩)
    · refine s_blx (lv' := [(2, vI (x2 + 1)), (0, vR 77), (1, vI slot)]) (st' := []) B185_11_14 rfl ?_
      refine r_goto (tgt := 2) D185_14 rfl ?_
      refine r_loc (lv' := [(0, vR 77), (1, vI slot), (2, vI (x2 + 1))]) ⟨rfl, rfl, rfl, trivial⟩ rfl rfl ?_
      exact ih (x2 + 1) (by omega) (by omega) (by omega) (by omega) (by omega) (by omega)
set_option maxRecDepth 4000 in
theorem k185x {base : Nat} {X : Nat → Option mC} {G : Nat → Value} (E : EnvOK base X G) {d : Nat} (hd : 1 ≤ d) {M : mH} (H : HI base M) (slot : Int) (h0 : 0 ≤ slot ∧ slot ≤ 2) : sOk base X G d T185 [vR 77, vI slot] M (pI (fun v M' => M' = M ∧ (0 ≤ v ∧ v ≤ 2) ∧ sl (gi M 78 473) v = slot)) := by
  refine sOk.of (show sRn base X G d T185 0 [(0, vR 77), (1, vI slot)] [] M _ from ?_)
  refine s_blx (lv' := [(2, vI 0), (0, vR 77), (1, vI slot)]) (st' := []) B185_0_2 rfl ?_
  refine r_loc (lv' := [(0, vR 77), (1, vI slot), (2, vI 0)]) ⟨rfl, rfl, rfl, trivial⟩ rfl rfl ?_
  exact (L_k185x E hd H slot h0 (((2 - 0) * 1 + 0 : Int) + 1).toNat) 0 (by omega) (by omega) (by omega) (by omega) (by omega) (by omega)
set_option maxRecDepth 4000 in
theorem k184x {base : Nat} {X : Nat → Option mC} {G : Nat → Value} (E : EnvOK base X G) {d : Nat} (hd : 0 ≤ d) {M : mH} (H : HI base M) (k : Int) (said : Int) (d_ : Int) (h0 : 0 ≤ k ∧ k ≤ 2) (h1 : 0 ≤ said ∧ said ≤ 110) (h2 : 0 ≤ d_ ∧ d_ ≤ 9) : sOk base X G d T184 [vI k, vI said, vI d_] M (pI (fun v M' => M' = M ∧ (-200 ≤ v ∧ v ≤ 1300) ∧ (k = 0 → v = 1 + d_) ∧ (k = 1 → v = 11 + 10 * (said - 1) + d_) ∧ (k = 2 → v = 111 + 10 * (said - 11) + d_))) := by
  refine sOk.of (show sRn base X G d T184 0 [(0, vI k), (1, vI said), (2, vI d_)] [] M _ from ?_)
  refine s_blx (lv' := [(0, vI k), (1, vI said), (2, vI d_)]) (st' := [vI k]) B184_0_1 rfl ?_
  refine r_ifc (tgt := 10) (pc' := 4) D184_1 rfl rfl (by unfold inR; omega) (fun (c1 : k ≠ 0) => ?_) (fun (c1 : ¬ (k ≠ 0)) => ?_)
  · refine s_blx (lv' := [(0, vI k), (1, vI said), (2, vI d_)]) (st' := [vI 1, vI k]) B184_10_12 rfl ?_
    refine r_icmp (tgt := 29) (pc' := 15) D184_12 rfl rfl (by unfold inR; omega) (fun (c2 : k ≠ 1) => ?_) (fun (c2 : ¬ (k ≠ 1)) => ?_)
    · refine s_blx (lv' := [(0, vI k), (1, vI said), (2, vI d_)]) (st' := [vI ((111 + (10 * (said - 11))) + d_)]) B184_29_41 rfl ?_
      exact r_iretI D184_41 rfl (⟨rfl, by omega, by omega, by omega, by omega⟩)
    · refine s_blx (lv' := [(0, vI k), (1, vI said), (2, vI d_)]) (st' := [vI ((11 + (10 * (said - 1))) + d_)]) B184_15_26 rfl ?_
      refine r_goto (tgt := 41) D184_26 rfl ?_
      exact r_iretI D184_41 rfl (⟨rfl, by omega, by omega, by omega, by omega⟩)
  · refine s_blx (lv' := [(0, vI k), (1, vI said), (2, vI d_)]) (st' := [vI (1 + d_)]) B184_4_7 rfl ?_
    refine r_goto (tgt := 41) D184_7 rfl ?_
    exact r_iretI D184_41 rfl (⟨rfl, by omega, by omega, by omega, by omega⟩)
set_option maxRecDepth 4000 in
theorem k187x {base : Nat} {X : Nat → Option mC} {G : Nat → Value} (E : EnvOK base X G) {d : Nat} (hd : 0 ≤ d) {M : mH} (H : HI base M) (k : Int) (said : Int) (by_ : Int) (i : Int) (h0 : 0 ≤ k ∧ k ≤ 3) (h1 : 0 ≤ said ∧ said ≤ 1110) (h2 : -9 ≤ by_ ∧ by_ ≤ 9) (h3 : 0 ≤ i ∧ i ≤ 2) : sOk base X G d T187 [vI k, vI said, vI by_, vI i] M (pI (fun v M' => M' = M ∧ (-1000 ≤ v ∧ v ≤ 2100) ∧ (k - 1 - i = 0 → v = said + by_) ∧ (k - 1 - i = 1 → v = said + 10 * by_) ∧ (k - 1 - i ≠ 0 → k - 1 - i ≠ 1 → v = said + 100 * by_))) := by
  refine sOk.of (show sRn base X G d T187 0 [(0, vI k), (1, vI said), (2, vI by_), (3, vI i)] [] M _ from ?_)
  refine s_blx (lv' := [(0, vI k), (1, vI said), (2, vI by_), (3, vI i)]) (st' := [vI ((k - 1) - i)]) B187_0_5 rfl ?_
  refine r_ifc (tgt := 12) (pc' := 8) D187_5 rfl rfl (by unfold inR; omega) (fun (c1 : ((k - 1) - i) ≠ 0) => ?_) (fun (c1 : ¬ (((k - 1) - i) ≠ 0)) => ?_)
  · refine s_blx (lv' := [(0, vI k), (1, vI said), (2, vI by_), (3, vI i)]) (st' := [vI 1, vI ((k - 1) - i)]) B187_12_18 rfl ?_
    refine r_icmp (tgt := 26) (pc' := 21) D187_18 rfl rfl (by unfold inR; omega) (fun (c2 : ((k - 1) - i) ≠ 1) => ?_) (fun (c2 : ¬ (((k - 1) - i) ≠ 1)) => ?_)
    · refine s_blx (lv' := [(4, vI 100), (0, vI k), (1, vI said), (2, vI by_), (3, vI i)]) (st' := [vI (said + (by_ * 100))]) B187_26_36 rfl ?_
      exact r_iretI D187_36 rfl (⟨rfl, by omega, by omega, by omega, by omega⟩)
    · refine s_blx (lv' := [(0, vI k), (1, vI said), (2, vI by_), (3, vI i)]) (st' := [vI 10]) B187_21_23 rfl ?_
      refine r_goto (tgt := 28) D187_23 rfl ?_
      refine s_blx (lv' := [(4, vI 10), (0, vI k), (1, vI said), (2, vI by_), (3, vI i)]) (st' := [vI (said + (by_ * 10))]) B187_28_36 rfl ?_
      exact r_iretI D187_36 rfl (⟨rfl, by omega, by omega, by omega, by omega⟩)
  · refine s_blx (lv' := [(0, vI k), (1, vI said), (2, vI by_), (3, vI i)]) (st' := [vI 1]) B187_8_9 rfl ?_
    refine r_goto (tgt := 28) D187_9 rfl ?_
    refine s_blx (lv' := [(4, vI 1), (0, vI k), (1, vI said), (2, vI by_), (3, vI i)]) (st' := [vI (said + (by_ * 1))]) B187_28_36 rfl ?_
    exact r_iretI D187_36 rfl (⟨rfl, by omega, by omega, by omega, by omega⟩)
set_option maxRecDepth 4000 in
theorem k186x {base : Nat} {X : Nat → Option mC} {G : Nat → Value} (E : EnvOK base X G) {d : Nat} (hd : 2 ≤ d) {M : mH} (H : HI base M) (said : Int) (slot : Int) (h0 : 0 ≤ said ∧ said ≤ 1110) (h1 : 0 ≤ slot ∧ slot ≤ 2) : sOk base X G d T186 [vR 77, vI said, vI slot] M (pI (fun v M' => M' = M ∧ (v = 0 ∨ v = 1) ∧ (v = 1 → 0 ≤ gi M 84 slot) ∧ (∀ i : Int, 0 ≤ i → i ≤ 2 → sl (gi M 78 473) i = slot → v = 1 → i < gi M 81 said ∧ gi M 82 (3 * said + i) < 8 ∧ gi M 84 slot ≠ gi M 82 (3 * said + i)))) := by
  refine sOk.of (show sRn base X G d T186 0 [(0, vR 77), (1, vI said), (2, vI slot)] [] M _ from ?_)
  refine s_blx (lv' := [(0, vR 77), (1, vI said), (2, vI slot)]) (st' := [vI slot, vR 77]) B186_0_2 rfl ?_
  refine r_vIp (c := 77) (args := [vI slot]) (rest := []) (pc' := 5) D186_2 rfl ck_11_virtual_209 TE185 rfl (Nat.le_of_ble_eq_true rfl) ⟨Nat.le_of_ble_eq_true rfl, Nat.le_of_ble_eq_true rfl⟩ sc_77 ⟨rfl, by decide⟩ H.1 (dp_0 hd rfl) (k185x E (dp_n hd rfl) H slot (by omega)) ?_
  intro v1 q5
  obtain ⟨q3, q4⟩ := q5
  have ko := H.2 78 473 0 5 (rk_order (by omega))
  have ki := q4; clear q4
  have ku : ∀ i : Int, 0 ≤ i → i ≤ 2 → sl (gi M 78 473) i = slot → i = v1 := fun i h1 h2 h3 => sl_inj (o := gi M 78 473) ko (by omega) (by omega) (by rw [h3, ki])
  refine s_blx (lv' := [(3, vI v1), (0, vR 77), (1, vI said), (2, vI slot)]) (st' := [vR 77, vI v1]) B186_5_8 rfl ?_
  refine r_gfix (r := 81) (pc' := 11) D186_8 rfl gf_11_24_77 H.1 ?_
  refine s_blx (lv' := [(3, vI v1), (0, vR 77), (1, vI said), (2, vI slot)]) (st' := [vI said, vR 81, vI v1]) B186_11_12 rfl ?_
  refine r_iald (pc' := 13) D186_12 rfl sc_81 H.1 (by omega) ?_
  intro w6 e7 r8
  have b_w6 := H.2 81 (said) 0 3 rfl
  rw [← e7] at b_w6; clear r8
  refine r_icmp (tgt := 64) (pc' := 16) D186_13 rfl rfl (by unfold inR; omega) (fun (c9 : w6 ≤ v1) => ?_) (fun (c9 : ¬ (w6 ≤ v1)) => ?_)
  · refine s_blx (lv' := [(3, vI v1), (0, vR 77), (1, vI said), (2, vI slot)]) (st' := [vI 0]) B186_64_65 rfl ?_
    exact r_zretI D186_65 rfl (by omega) (⟨rfl, by omega, by omega, fun i h1 h2 h3 h4 => by have e := ku i h1 h2 h3; subst e; subst_vars; omega⟩)
  · refine s_blx (lv' := [(3, vI v1), (0, vR 77), (1, vI said), (2, vI slot)]) (st' := [vR 77]) B186_16_17 rfl ?_
    refine r_gfix (r := 82) (pc' := 20) D186_17 rfl gf_11_27_77 H.1 ?_
    refine s_blx (lv' := [(3, vI v1), (0, vR 77), (1, vI said), (2, vI slot)]) (st' := [vI ((3 * said) + v1), vR 82]) B186_20_25 rfl ?_
    refine r_iald (pc' := 26) D186_25 rfl sc_82 H.1 (by omega) ?_
    intro w10 e11 r12
    have b_w10 := H.2 82 ((3 * said) + v1) 0 9 rfl
    rw [← e11] at b_w10; clear r12
    refine s_blx (lv' := [(3, vI v1), (0, vR 77), (1, vI said), (2, vI slot)]) (st' := [vI 8, vI w10]) B186_26_28 rfl ?_
    refine r_icmp (tgt := 64) (pc' := 31) D186_28 rfl rfl (by unfold inR; omega) (fun (c13 : 8 ≤ w10) => ?_) (fun (c13 : ¬ (8 ≤ w10)) => ?_)
    · refine s_blx (lv' := [(3, vI v1), (0, vR 77), (1, vI said), (2, vI slot)]) (st' := [vI 0]) B186_64_65 rfl ?_
      exact r_zretI D186_65 rfl (by omega) (⟨rfl, by omega, by omega, fun i h1 h2 h3 h4 => by have e := ku i h1 h2 h3; subst e; subst_vars; omega⟩)
    · refine s_blx (lv' := [(3, vI v1), (0, vR 77), (1, vI said), (2, vI slot)]) (st' := [vR 77]) B186_31_32 rfl ?_
      refine r_gfix (r := 84) (pc' := 35) D186_32 rfl gf_11_33_77 H.1 ?_
      refine s_blx (lv' := [(3, vI v1), (0, vR 77), (1, vI said), (2, vI slot)]) (st' := [vI slot, vR 84]) B186_35_36 rfl ?_
      refine r_iald (pc' := 37) D186_36 rfl sc_84 H.1 (by omega) ?_
      intro w14 e15 r16
      have b_w14 := H.2 84 (slot) (-1) 7 rfl
      rw [← e15] at b_w14; clear r16
      refine s_blx (lv' := [(3, vI v1), (0, vR 77), (1, vI said), (2, vI slot)]) (st' := [vI (-1), vI w14]) B186_37_38 rfl ?_
      refine r_icmp (tgt := 64) (pc' := 41) D186_38 rfl rfl (by unfold inR; omega) (fun (c17 : w14 = (-1)) => ?_) (fun (c17 : ¬ (w14 = (-1))) => ?_)
      · refine s_blx (lv' := [(3, vI v1), (0, vR 77), (1, vI said), (2, vI slot)]) (st' := [vI 0]) B186_64_65 rfl ?_
        exact r_zretI D186_65 rfl (by omega) (⟨rfl, by omega, by omega, fun i h1 h2 h3 h4 => by have e := ku i h1 h2 h3; subst e; subst_vars; omega⟩)
      · refine s_blx (lv' := [(3, vI v1), (0, vR 77), (1, vI said), (2, vI slot)]) (st' := [vR 77]) B186_41_42 rfl ?_
        refine r_gfix (r := 84) (pc' := 45) D186_42 rfl gf_11_33_77 H.1 ?_
        refine s_blx (lv' := [(3, vI v1), (0, vR 77), (1, vI said), (2, vI slot)]) (st' := [vI slot, vR 84]) B186_45_46 rfl ?_
        refine r_iald (pc' := 47) D186_46 rfl sc_84 H.1 (by omega) ?_
        intro w18 e19 r20
        have e21 : w14 = w18 := (e19.trans (e15.symm)).symm
        subst e21
        refine s_blx (lv' := [(3, vI v1), (0, vR 77), (1, vI said), (2, vI slot)]) (st' := [vR 77, vI w14]) B186_47_48 rfl ?_
        refine r_gfix (r := 82) (pc' := 51) D186_48 rfl gf_11_27_77 H.1 ?_
        refine s_blx (lv' := [(3, vI v1), (0, vR 77), (1, vI said), (2, vI slot)]) (st' := [vI ((3 * said) + v1), vR 82, vI w14]) B186_51_56 rfl ?_
        refine r_iald (pc' := 57) D186_56 rfl sc_82 H.1 (by omega) ?_
        intro w22 e23 r24
        have e25 : w10 = w22 := (e23.trans (e11.symm)).symm
        subst e25
        refine r_icmp (tgt := 64) (pc' := 60) D186_57 rfl rfl (by unfold inR; omega) (fun (c26 : w14 = w10) => ?_) (fun (c26 : ¬ (w14 = w10)) => ?_)
        · refine s_blx (lv' := [(3, vI v1), (0, vR 77), (1, vI said), (2, vI slot)]) (st' := [vI 0]) B186_64_65 rfl ?_
          exact r_zretI D186_65 rfl (by omega) (⟨rfl, by omega, by omega, fun i h1 h2 h3 h4 => by have e := ku i h1 h2 h3; subst e; subst_vars; omega⟩)
        · refine s_blx (lv' := [(3, vI v1), (0, vR 77), (1, vI said), (2, vI slot)]) (st' := [vI 1]) B186_60_61 rfl ?_
          refine r_goto (tgt := 65) D186_61 rfl ?_
          exact r_zretI D186_65 rfl (by omega) (⟨rfl, by omega, by omega, fun i h1 h2 h3 h4 => by have e := ku i h1 h2 h3; subst e; subst_vars; omega⟩)
set_option maxRecDepth 4000 in
theorem L_k243x {base : Nat} {X : Nat → Option mC} {G : Nat → Value} (E : EnvOK base X G) {d : Nat} (hd : 3 ≤ d) {M : mH} (H : HI base M) (said : Int) (h0 : 0 ≤ said ∧ said ≤ 1110) : ∀ mz : Nat, (∀ (x2 : Int), (0 ≤ x2) → (x2 ≤ 3) → (3 - x2) * 1 + 0 < (mz : Int) → sRn base X G d T243 2 [(0, vR 77), (1, vI said), (2, vI x2)] [] M (s_Q base (pI (fun v M' => M' = M ∧ (-1 ≤ v ∧ v ≤ 2))))) := by
  intro mz
  induction mz with
  | zero => exact fun x2 z0 z1 z2 => by omega
  | succ mz ih =>
    intro x2 i0 i1 hmu
    refine s_blx (lv' := [(0, vR 77), (1, vI said), (2, vI x2)]) (st' := [vI 3, vI x2]) B243_2_4 rfl ?_
    refine r_icmp (tgt := 24) (pc' := 7) D243_4 rfl rfl (by unfold inR; omega) (fun (c1 : 3 ≤ x2) => ?_) (fun (c1 : ¬ (3 ≤ x2)) => ?_)
    · refine s_blx (lv' := [(0, vR 77), (1, vI said), (2, vI x2)]) (st' := [vI (-1)]) B243_24_25 rfl ?_
      exact r_iretI D243_25 rfl (⟨rfl, by omega⟩)
    · refine s_blx (lv' := [(0, vR 77), (1, vI said), (2, vI x2)]) (st' := [vI x2, vI said, vR 77]) B243_7_10 rfl ?_
      refine r_vIp (c := 77) (args := [vI said, vI x2]) (rest := []) (pc' := 13) D243_10 rfl ck_11_virtual_221 TE186 rfl (Nat.le_of_ble_eq_true rfl) ⟨Nat.le_of_ble_eq_true rfl, Nat.le_of_ble_eq_true rfl⟩ sc_77 ⟨rfl, by decide⟩ H.1 (dp_0 hd rfl) (k186x E (dp_n hd rfl) H said x2 (by omega) (by omega)) ?_
      intro v2 q7
      obtain ⟨q4, q5, q6⟩ := q7
      refine r_ifc (tgt := 18) (pc' := 16) D243_13 rfl rfl (by unfold inR; omega) (fun (c8 : v2 = 0) => ?_) (fun (c8 : ¬ (v2 = 0)) => ?_)
      · refine s_blx (lv' := [(2, vI (x2 + 1)), (0, vR 77), (1, vI said)]) (st' := []) B243_18_21 rfl ?_
        refine r_goto (tgt := 2) D243_21 rfl ?_
        refine r_loc (lv' := [(0, vR 77), (1, vI said), (2, vI (x2 + 1))]) ⟨rfl, rfl, rfl, trivial⟩ rfl rfl ?_
        exact ih (x2 + 1) (by omega) (by omega) (by omega)
      · refine s_blx (lv' := [(0, vR 77), (1, vI said), (2, vI x2)]) (st' := [vI x2]) B243_16_17 rfl ?_
        exact r_iretI D243_17 rfl (⟨rfl, by omega⟩)
set_option maxRecDepth 4000 in
theorem k243x {base : Nat} {X : Nat → Option mC} {G : Nat → Value} (E : EnvOK base X G) {d : Nat} (hd : 3 ≤ d) {M : mH} (H : HI base M) (said : Int) (h0 : 0 ≤ said ∧ said ≤ 1110) : sOk base X G d T243 [vR 77, vI said] M (pI (fun v M' => M' = M ∧ (-1 ≤ v ∧ v ≤ 2))) := by
  refine sOk.of (show sRn base X G d T243 0 [(0, vR 77), (1, vI said)] [] M _ from ?_)
  refine s_blx (lv' := [(2, vI 0), (0, vR 77), (1, vI said)]) (st' := []) B243_0_2 rfl ?_
  refine r_loc (lv' := [(0, vR 77), (1, vI said), (2, vI 0)]) ⟨rfl, rfl, rfl, trivial⟩ rfl rfl ?_
  exact (L_k243x E hd H said h0 (((3 - 0) * 1 + 0 : Int) + 1).toNat) 0 (by omega) (by omega) (by omega)
