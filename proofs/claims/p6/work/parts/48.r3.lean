/-! The reference: slots in order, the tables of digits. -/
noncomputable def sl (o i : Int) : Int := ([0, 1, 2, 0, 2, 1, 1, 0, 2, 1, 2, 0, 2, 0, 1, 2, 1, 0] : List Int).getD (3 * o + i).toNat 0
theorem sl_perm {o s : Int} (ho : 0 ≤ o ∧ o ≤ 5) (hs : 0 ≤ s ∧ s ≤ 2) : sl o 0 = s ∨ sl o 1 = s ∨ sl o 2 = s := by
  have key : ∀ a : Nat, a < 6 → ∀ b : Nat, b < 3 → (sl (a : Int) 0 = (b : Int) ∨ sl (a : Int) 1 = (b : Int) ∨ sl (a : Int) 2 = (b : Int)) := by decide
  have := key o.toNat (by omega) s.toNat (by omega)
  rw [show ((o.toNat : Nat) : Int) = o by omega, show ((s.toNat : Nat) : Int) = s by omega] at this
  exact this
theorem sl_inj {o i j : Int} (ho : 0 ≤ o ∧ o ≤ 5) (hi : 0 ≤ i ∧ i ≤ 2) (hj : 0 ≤ j ∧ j ≤ 2) (h : sl o i = sl o j) : i = j := by
  have key : ∀ a : Nat, a < 6 → ∀ b : Nat, b < 3 → ∀ c : Nat, c < 3 → sl (a : Int) (b : Int) = sl (a : Int) (c : Int) → b = c := by decide
  have := key o.toNat (by omega) i.toNat (by omega) j.toNat (by omega)
  rw [show ((o.toNat : Nat) : Int) = o by omega, show ((i.toNat : Nat) : Int) = i by omega, show ((j.toNat : Nat) : Int) = j by omega] at this
  have := this h
  omega
theorem sl_abc {o i v : Int} (ho : 0 ≤ o ∧ o ≤ 5) (hi : 0 ≤ i ∧ i ≤ 2) (hA : i = 0 → v = o / 2) (hB : i = 1 → o % 2 = 0 → (o / 2 = 0 → v = 1) ∧ (o / 2 ≠ 0 → v = 0)) (hC : i = 1 → o % 2 ≠ 0 → (o / 2 = 2 → v = 1) ∧ (o / 2 ≠ 2 → v = 2)) (hD : i = 2 → o % 2 = 0 → (o / 2 = 2 → v = 1) ∧ (o / 2 ≠ 2 → v = 2)) (hE : i = 2 → o % 2 ≠ 0 → (o / 2 = 0 → v = 1) ∧ (o / 2 ≠ 0 → v = 0)) : v = sl o i := by
  have h1 : o = 0 ∨ o = 1 ∨ o = 2 ∨ o = 3 ∨ o = 4 ∨ o = 5 := by omega
  have h2 : i = 0 ∨ i = 1 ∨ i = 2 := by omega
  rcases h1 with rfl | rfl | rfl | rfl | rfl | rfl <;> rcases h2 with rfl | rfl | rfl <;> first | exact (hA rfl).trans (by decide) | exact ((hB rfl (by decide)).1 (by decide)).trans (by decide) | exact ((hB rfl (by decide)).2 (by decide)).trans (by decide) | exact ((hC rfl (by decide)).1 (by decide)).trans (by decide) | exact ((hC rfl (by decide)).2 (by decide)).trans (by decide) | exact ((hD rfl (by decide)).1 (by decide)).trans (by decide) | exact ((hD rfl (by decide)).2 (by decide)).trans (by decide) | exact ((hE rfl (by decide)).1 (by decide)).trans (by decide) | exact ((hE rfl (by decide)).2 (by decide)).trans (by decide)
/-- the tables of what is done and of its digits -/
noncomputable def TB (M : mH) : Prop := gi M 81 0 = 0 ∧ (∀ s : Int, 1 ≤ s → s ≤ 10 → gi M 81 s = 1 ∧ gi M 82 (3 * s) = s - 1) ∧ (∀ s : Int, 11 ≤ s → s ≤ 110 → gi M 81 s = 2 ∧ gi M 82 (3 * s) = (s - 11) / 10 ∧ gi M 82 (3 * s + 1) = (s - 11) % 10) ∧ (∀ s : Int, 111 ≤ s → s ≤ 1110 → gi M 81 s = 3 ∧ gi M 82 (3 * s) = (s - 111) / 100 ∧ gi M 82 (3 * s + 1) = (s - 111) / 10 % 10 ∧ gi M 82 (3 * s + 2) = (s - 111) % 10)
theorem TB.of {M M' : mH} (h : TB M) (e1 : ∀ i : Int, gi M' 81 i = gi M 81 i) (e2 : ∀ i : Int, gi M' 82 i = gi M 82 i) : TB M' := by
  unfold TB at h ⊢
  simp only [e1, e2]
  exact h
theorem TB.fr {L : List (Nat × Nat)} {M M' : mH} (h : TB M) (f : Fr L M M') (hc : s_al L (fun c => c != 81 && c != 82) = true) : TB M' :=
  h.of (fun _ => f.g (s_al_ok hc (by simp))) (fun _ => f.g (s_al_ok hc (by simp)))
/-- what the tables say of one number -/
theorem TB.at {M : mH} (h : TB M) {s : Int} (hs : 0 ≤ s ∧ s ≤ 1110) : (s = 0 ∧ gi M 81 s = 0) ∨ (1 ≤ s ∧ s ≤ 10 ∧ gi M 81 s = 1 ∧ gi M 82 (3 * s) = s - 1) ∨ (11 ≤ s ∧ s ≤ 110 ∧ gi M 81 s = 2 ∧ gi M 82 (3 * s) = (s - 11) / 10 ∧ gi M 82 (3 * s + 1) = (s - 11) % 10) ∨ (111 ≤ s ∧ s ≤ 1110 ∧ gi M 81 s = 3 ∧ gi M 82 (3 * s) = (s - 111) / 100 ∧ gi M 82 (3 * s + 1) = (s - 111) / 10 % 10 ∧ gi M 82 (3 * s + 2) = (s - 111) % 10) := by
  obtain ⟨h0, h1, h2, h3⟩ := h
  by_cases a : s = 0
  · subst a; exact Or.inl ⟨rfl, h0⟩
  · by_cases b : s ≤ 10
    · exact Or.inr (Or.inl ⟨by omega, b, h1 s (by omega) b⟩)
    · by_cases c : s ≤ 110
      · exact Or.inr (Or.inr (Or.inl ⟨by omega, c, h2 s (by omega) c⟩))
      · exact Or.inr (Or.inr (Or.inr ⟨by omega, hs.2, h3 s (by omega) hs.2⟩))
noncomputable def T185 : mT := (11, yX11_indexOf, cX11_indexOf, 3, (some .int))
set_option maxRecDepth 10000 in
theorem TE185 : sy_m[185]? = some T185 := rfl
theorem B185_0_2 : s_dk T185.2.2.1 0 [.iconst 0, .istore_n 2] 2 = true := by decide +kernel
theorem B185_2_4 : s_dk T185.2.2.1 2 [.aload_n 0, .iload_n 2] 4 = true := by decide +kernel
theorem D185_4 : decode T185.2.2.1 4 = .ok (.invokevirtual 206, 3) := by decide +kernel
theorem B185_7_8 : s_dk T185.2.2.1 7 [.iload_n 1] 8 = true := by decide +kernel
theorem D185_8 : decode T185.2.2.1 8 = .ok (.if_icmp .eq 9, 3) := by decide +kernel
theorem B185_17_18 : s_dk T185.2.2.1 17 [.iload_n 2] 18 = true := by decide +kernel
theorem D185_18 : decode T185.2.2.1 18 = .ok (.ireturn, 1) := by decide +kernel
theorem B185_11_14 : s_dk T185.2.2.1 11 [.iinc 2 1] 14 = true := by decide +kernel
theorem D185_14 : decode T185.2.2.1 14 = .ok (.goto (-12), 3) := by decide +kernel
noncomputable def T186 : mT := (11, yX11_canMend, cX11_canMend, 4, (some .boolean))
set_option maxRecDepth 10000 in
theorem TE186 : sy_m[186]? = some T186 := rfl
theorem B186_0_2 : s_dk T186.2.2.1 0 [.aload_n 0, .iload_n 2] 2 = true := by decide +kernel
theorem D186_2 : decode T186.2.2.1 2 = .ok (.invokevirtual 209, 3) := by decide +kernel
theorem ck_11_virtual_209 : m_call 11 (.invokevirtual 209) = some (0, 185, 1) := by decide +kernel
theorem B186_5_8 : s_dk T186.2.2.1 5 [.istore_n 3, .iload_n 3, .aload_n 0] 8 = true := by decide +kernel
theorem D186_8 : decode T186.2.2.1 8 = .ok (.getfield 24, 3) := by decide +kernel
theorem B186_11_12 : s_dk T186.2.2.1 11 [.iload_n 1] 12 = true := by decide +kernel
theorem D186_12 : decode T186.2.2.1 12 = .ok (.iaload, 1) := by decide +kernel
theorem D186_13 : decode T186.2.2.1 13 = .ok (.if_icmp .ge 51, 3) := by decide +kernel
theorem B186_64_65 : s_dk T186.2.2.1 64 [.iconst 0] 65 = true := by decide +kernel
theorem D186_65 : decode T186.2.2.1 65 = .ok (.ireturn, 1) := by decide +kernel
theorem B186_16_17 : s_dk T186.2.2.1 16 [.aload_n 0] 17 = true := by decide +kernel
theorem D186_17 : decode T186.2.2.1 17 = .ok (.getfield 27, 3) := by decide +kernel
theorem B186_20_25 : s_dk T186.2.2.1 20 [.iconst 3, .iload_n 1, .imul, .iload_n 3, .iadd] 25 = true := by decide +kernel
theorem D186_25 : decode T186.2.2.1 25 = .ok (.iaload, 1) := by decide +kernel
theorem B186_26_28 : s_dk T186.2.2.1 26 [.bipush 8] 28 = true := by decide +kernel
theorem D186_28 : decode T186.2.2.1 28 = .ok (.if_icmp .ge 36, 3) := by decide +kernel
theorem B186_31_32 : s_dk T186.2.2.1 31 [.aload_n 0] 32 = true := by decide +kernel
theorem D186_32 : decode T186.2.2.1 32 = .ok (.getfield 33, 3) := by decide +kernel
theorem B186_35_36 : s_dk T186.2.2.1 35 [.iload_n 2] 36 = true := by decide +kernel
theorem D186_36 : decode T186.2.2.1 36 = .ok (.iaload, 1) := by decide +kernel
theorem B186_37_38 : s_dk T186.2.2.1 37 [.iconst (-1)] 38 = true := by decide +kernel
theorem D186_38 : decode T186.2.2.1 38 = .ok (.if_icmp .eq 26, 3) := by decide +kernel
theorem B186_41_42 : s_dk T186.2.2.1 41 [.aload_n 0] 42 = true := by decide +kernel
theorem D186_42 : decode T186.2.2.1 42 = .ok (.getfield 33, 3) := by decide +kernel
theorem B186_45_46 : s_dk T186.2.2.1 45 [.iload_n 2] 46 = true := by decide +kernel
theorem D186_46 : decode T186.2.2.1 46 = .ok (.iaload, 1) := by decide +kernel
theorem B186_47_48 : s_dk T186.2.2.1 47 [.aload_n 0] 48 = true := by decide +kernel
theorem D186_48 : decode T186.2.2.1 48 = .ok (.getfield 27, 3) := by decide +kernel
theorem B186_51_56 : s_dk T186.2.2.1 51 [.iconst 3, .iload_n 1, .imul, .iload_n 3, .iadd] 56 = true := by decide +kernel
theorem D186_56 : decode T186.2.2.1 56 = .ok (.iaload, 1) := by decide +kernel
theorem D186_57 : decode T186.2.2.1 57 = .ok (.if_icmp .eq 7, 3) := by decide +kernel
theorem B186_60_61 : s_dk T186.2.2.1 60 [.iconst 1] 61 = true := by decide +kernel
theorem D186_61 : decode T186.2.2.1 61 = .ok (.goto 4, 3) := by decide +kernel
noncomputable def T243 : mT := (11, yX11_firstMend, cX11_firstMend, 3, (some .int))
set_option maxRecDepth 10000 in
theorem TE243 : sy_m[243]? = some T243 := rfl
theorem B243_0_2 : s_dk T243.2.2.1 0 [.iconst 0, .istore_n 2] 2 = true := by decide +kernel
theorem B243_2_4 : s_dk T243.2.2.1 2 [.iload_n 2, .iconst 3] 4 = true := by decide +kernel
theorem D243_4 : decode T243.2.2.1 4 = .ok (.if_icmp .ge 20, 3) := by decide +kernel
theorem B243_7_10 : s_dk T243.2.2.1 7 [.aload_n 0, .iload_n 1, .iload_n 2] 10 = true := by decide +kernel
theorem D243_10 : decode T243.2.2.1 10 = .ok (.invokevirtual 221, 3) := by decide +kernel
theorem ck_11_virtual_221 : m_call 11 (.invokevirtual 221) = some (0, 186, 2) := by decide +kernel
theorem D243_13 : decode T243.2.2.1 13 = .ok (.ifCond .eq 5, 3) := by decide +kernel
theorem B243_18_21 : s_dk T243.2.2.1 18 [.iinc 2 1] 21 = true := by decide +kernel
theorem D243_21 : decode T243.2.2.1 21 = .ok (.goto (-19), 3) := by decide +kernel
theorem B243_16_17 : s_dk T243.2.2.1 16 [.iload_n 2] 17 = true := by decide +kernel
theorem D243_17 : decode T243.2.2.1 17 = .ok (.ireturn, 1) := by decide +kernel
theorem B243_24_25 : s_dk T243.2.2.1 24 [.iconst (-1)] 25 = true := by decide +kernel
theorem D243_25 : decode T243.2.2.1 25 = .ok (.ireturn, 1) := by decide +kernel
set_option maxRecDepth 4000 in
theorem k184x {base : Nat} {X : Nat → Option mC} {G : Nat → Value} (E : EnvOK base X G) {d : Nat} (hd : 0 ≤ d) {M : mH} (H : HI base M) (k : Int) (said : Int) (d_ : Int) (h0 : 0 ≤ k ∧ k ≤ 2) (h1 : 0 ≤ said ∧ said ≤ 110) (h2 : 0 ≤ d_ ∧ d_ ≤ 9) : sOk base X G d T184 [vI k, vI said, vI d_] M (pI (fun v M' => M' = M ∧ (-200 ≤ v ∧ v ≤ 1300) ∧ (k = 0 → v = 1 + d_) ∧ (k = 1 → v = 11 + 10 * (said - 1) + d_) ∧ (k = 2 → v = 111 + 10 * (said - 11) + d_))) := by
  refine sOk.of (show sRn base X G d T184 0 [(0, vI k), (1, vI said), (2, vI d_)] [] M _ from ?_)
  refine s_blx (lv' := [(0, vI k), (1, vI said), (2, vI d_)]) (st' := [vI k]) B184_0_1 rfl ?_
  refine r_ifc (tgt := 10) (pc' := 4) D184_1 rfl rfl (by unfold inR; omega) (fun (c1 : k ≠ 0) => ?_) (fun (c1 : ¬ (k ≠ 0)) => ?_)
  · refine s_blx (lv' := [(0, vI k), (1, vI said), (2, vI d_)]) (st' := [vI 1, vI k]) B184_10_12 rfl ?_
    refine r_icmp (tgt := 29) (pc' := 15) D184_12 rfl rfl (by unfold inR; omega) (fun (c2 : k ≠ 1) => ?_) (fun (c2 : ¬ (k ≠ 1)) => ?_)
    · refine s_blx (lv' := [(0, vI k), (1, vI said), (2, vI d_)]) (st' := [vI ((111 + (10 * (said - 11))) + d_)]) B184_29_41 rfl ?_
      exact r_iretI D184_41 rfl (⟨rfl, by omega, by omega, by omega, by omega⟩)
    · refine s_blx (lv' := [(0, vI k), (1, vI said), (2, vI d_)]) (st' := [vI ((11 + (10 * (said - 1))) + d_)]) B184_15_26 rfl ?_
      refine r_goto (tgt := 41) D184_26 rfl ?_
      exact r_iretI D184_41 rfl (⟨rfl, by omega, by omega, by omega, by omega⟩)
  · refine s_blx (lv' := [(0, vI k), (1, vI said), (2, vI d_)]) (st' := [vI (1 + d_)]) B184_4_7 rfl ?_
    refine r_goto (tgt := 41) D184_7 rfl ?_
    exact r_iretI D184_41 rfl (⟨rfl, by omega, by omega, by omega, by omega⟩)
set_option maxRecDepth 4000 in
theorem k187x {base : Nat} {X : Nat → Option mC} {G : Nat → Value} (E : EnvOK base X G) {d : Nat} (hd : 0 ≤ d) {M : mH} (H : HI base M) (k : Int) (said : Int) (by_ : Int) (i : Int) (h0 : 0 ≤ k ∧ k ≤ 3) (h1 : 0 ≤ said ∧ said ≤ 1110) (h2 : -9 ≤ by_ ∧ by_ ≤ 9) (h3 : 0 ≤ i ∧ i ≤ 2) : sOk base X G d T187 [vI k, vI said, vI by_, vI i] M (pI (fun v M' => M' = M ∧ (-1000 ≤ v ∧ v ≤ 2100) ∧ (k - 1 - i = 0 → v = said + by_) ∧ (k - 1 - i = 1 → v = said + 10 * by_) ∧ (k - 1 - i ≠ 0 → k - 1 - i ≠ 1 → v = said + 100 * by_))) := by
  refine sOk.of (show sRn base X G d T187 0 [(0, vI k), (1, vI said), (2, vI by_), (3, vI i)] [] M _ from ?_)
  refine s_blx (lv' := [(0, vI k), (1, vI said), (2, vI by_), (3, vI i)]) (st' := [vI ((k - 1) - i)]) B187_0_5 rfl ?_
  refine r_ifc (tgt := 12) (pc' := 8) D187_5 rfl rfl (by unfold inR; omega) (fun (c1 : ((k - 1) - i) ≠ 0) => ?_) (fun (c1 : ¬ (((k - 1) - i) ≠ 0)) => ?_)
  · refine s_blx (lv' := [(0, vI k), (1, vI said), (2, vI by_), (3, vI i)]) (st' := [vI 1, vI ((k - 1) - i)]) B187_12_18 rfl ?_
    refine r_icmp (tgt := 26) (pc' := 21) D187_18 rfl rfl (by unfold inR; omega) (fun (c2 : ((k - 1) - i) ≠ 1) => ?_) (fun (c2 : ¬ (((k - 1) - i) ≠ 1)) => ?_)
    · refine s_blx (lv' := [(4, vI 100), (0, vI k), (1, vI said), (2, vI by_), (3, vI i)]) (st' := [vI (said + (by_ * 100))]) B187_26_36 rfl ?_
      exact r_iretI D187_36 rfl (⟨rfl, by omega, by omega, by omega, by omega⟩)
    · refine s_blx (lv' := [(0, vI k), (1, vI said), (2, vI by_), (3, vI i)]) (st' := [vI 10]) B187_21_23 rfl ?_
      refine r_goto (tgt := 28) D187_23 rfl ?_
      refine s_blx (lv' := [(4, vI 10), (0, vI k), (1, vI said), (2, vI by_), (3, vI i)]) (st' := [vI (said + (by_ * 10))]) B187_28_36 rfl ?_
      exact r_iretI D187_36 rfl (⟨rfl, by omega, by omega, by omega, by omega⟩)
  · refine s_blx (lv' := [(0, vI k), (1, vI said), (2, vI by_), (3, vI i)]) (st' := [vI 1]) B187_8_9 rfl ?_
    refine r_goto (tgt := 28) D187_9 rfl ?_
    refine s_blx (lv' := [(4, vI 1), (0, vI k), (1, vI said), (2, vI by_), (3, vI i)]) (st' := [vI (said + (by_ * 1))]) B187_28_36 rfl ?_
    exact r_iretI D187_36 rfl (⟨rfl, by omega, by omega, by omega, by omega⟩)